/** Promises 1 to 11: a new object, and the calls that change the town. */
public final class TownTest {
    private static final Check CHECK = new Check();

    public static void main(String[] args) {
        promise1NewObject();
        promise2AddQuarter();
        promise3AddPerson();
        promise4AddOrder();
        promise4AddOrderExceptions();
        promise5TurnExempt();
        promise6TurnOrder();
        promise7SetShift();
        promise8GivePass();
        promise9TakePass();
        promise10GoOutAndFines();
        promise10GoOutWithStamps();
        promise10GoOutUnbarred();
        promise10GoOutExceptions();
        promise11PassMovesTime();
        promise11PassCountsBeginnings();
        promise11PassFollowsDusk();
        promise11PassExceptions();
        CHECK.finish();
    }

    private static void promise1NewObject() {
        CurfewDesk desk = new CurfewDesk();
        CHECK.is("1: quarters", 0, desk.quarters());
        CHECK.is("1: orders", 0, desk.orders());
        CHECK.is("1: people", 0, desk.people());
        CHECK.is("1: day", 0, desk.day());
        CHECK.is("1: half hour", 0, desk.halfHour());
        CHECK.is("1: shift", 0, desk.shift());
        CHECK.is("1: all owe", 0, desk.allOwe());
        CHECK.is("1: orders on", 0, desk.ordersOn());
        for (int colour = 0; colour < 4; colour++) {
            CHECK.is("1: stamps used", 0, desk.stampsUsed(colour));
        }
    }

    private static void promise2AddQuarter() {
        CurfewDesk desk = new CurfewDesk();
        CurfewDesk other = new CurfewDesk();
        for (int i = 0; i < 6; i++) {
            CHECK.is("2: number", i, desk.addQuarter());
            CHECK.is("2: quarters", i + 1, desk.quarters());
        }
        CHECK.full("2: a seventh", desk, desk::addQuarter);
        CHECK.full("2: an eighth", desk, desk::addQuarter);
        CHECK.is("2: quarters then", 6, desk.quarters());
        CHECK.is("2: another town", 0, other.addQuarter());
    }

    private static void promise3AddPerson() {
        CurfewDesk desk = new CurfewDesk();
        CHECK.noSuch("3: trade -1", desk, () -> desk.addPerson(-1));
        CHECK.noSuch("3: trade 8", desk, () -> desk.addPerson(8));
        for (int i = 0; i < 20; i++) {
            CHECK.is("3: number", i, desk.addPerson(i % 8));
            CHECK.is("3: trade", i % 8, desk.tradeOf(i));
            CHECK.is("3: people", i + 1, desk.people());
            CHECK.is("3: owes", 0, desk.owes(i));
            CHECK.is("3: fined", 0, desk.timesFined(i));
            CHECK.is("3: stamps", 0, desk.stampsOf(i, i % 4));
        }
        CHECK.full("3: a person too many", desk, () -> desk.addPerson(0));
        CHECK.noSuch("3: no trade, and too many", desk, () -> desk.addPerson(8));
        for (int trade : Towns.NEVER) {
            CHECK.noSuch("3: trade " + trade, desk, () -> desk.addPerson(trade));
        }
        CHECK.is("3: people then", 20, desk.people());
    }

    private static void promise4AddOrder() {
        CurfewDesk desk = Towns.of(3, 0);
        CHECK.is("4: number", 0, desk.addOrder(2, 3, 1, 3));
        CHECK.is("4: quarter", 2, desk.quarterOf(0));
        CHECK.is("4: colour", 3, desk.colourOf(0));
        CHECK.is("4: in force", true, desk.isInForce(0));
        for (int trade = 0; trade < 8; trade++) {
            CHECK.is("4: exempts " + trade, false, desk.isExempt(0, trade));
        }
        CHECK.is("4: a second", 1, desk.addOrder(0, 4, 4, 0));
        CHECK.is("4: a third", 2, desk.addOrder(1, 0, 0, 2));
        CHECK.is("4: orders", 3, desk.orders());
        for (int i = 0; i < 48; i++) {
            CHECK.is("4: 3 ahead, 1 behind, at " + i, i < 15 || i >= 31, desk.isOn(0));
            CHECK.is("4: 4 ahead, 4 behind, at " + i, i < 18 || i >= 30, desk.isOn(1));
            CHECK.is("4: at dusk and dawn, at " + i, i < 14 || i >= 34, desk.isOn(2));
            desk.pass(1);
        }
    }

    private static void promise4AddOrderExceptions() {
        CurfewDesk desk = Towns.of(2, 0);
        CHECK.noSuch("4: quarter 2 of 2", desk, () -> desk.addOrder(2, 0, 0, 0));
        CHECK.noSuch("4: colour 4", desk, () -> desk.addOrder(0, 0, 0, 4));
        for (int n : Towns.NEVER) {
            CHECK.noSuch("4: quarter " + n, desk, () -> desk.addOrder(n, 0, 0, 0));
            CHECK.noSuch("4: colour " + n, desk, () -> desk.addOrder(0, 0, 0, n));
            CHECK.badArgument("4: ahead " + n, desk, () -> desk.addOrder(0, n, 0, 0));
            CHECK.badArgument("4: behind " + n, desk, () -> desk.addOrder(0, 0, n, 0));
        }
        CHECK.badArgument("4: ahead 5", desk, () -> desk.addOrder(0, 5, 0, 0));
        CHECK.badArgument("4: behind 5", desk, () -> desk.addOrder(0, 0, 5, 0));
        CHECK.noSuch("4: quarter and ahead", desk, () -> desk.addOrder(2, 5, 0, 0));
        CHECK.noSuch("4: colour and behind", desk, () -> desk.addOrder(0, 0, -1, 4));
        for (int i = 0; i < 10; i++) {
            CHECK.is("4: number", i, desk.addOrder(1, i % 5, 4 - i % 5, i % 4));
        }
        CHECK.full("4: an order too many", desk, () -> desk.addOrder(0, 0, 0, 0));
        CHECK.badArgument("4: ahead, and too many", desk, () -> desk.addOrder(0, 5, 0, 0));
        CHECK.badArgument("4: behind, and too many", desk, () -> desk.addOrder(0, 0, 5, 0));
        CHECK.noSuch("4: quarter, and too many", desk, () -> desk.addOrder(2, 0, 0, 0));
        CHECK.noSuch("4: colour, and all", desk, () -> desk.addOrder(0, 9, 9, 4));
        CHECK.is("4: orders then", 10, desk.orders());
    }

    private static void promise5TurnExempt() {
        CurfewDesk desk = Towns.of(1, 0);
        desk.addOrder(0, 0, 0, 0);
        desk.addOrder(0, 0, 0, 0);
        for (int trade = 0; trade < 8; trade++) {
            CHECK.is("5: exempt", true, desk.turnExempt(0, trade));
            for (int t = 0; t < 8; t++) {
                CHECK.is("5: exempt " + t + " of " + trade, t <= trade, desk.isExempt(0, t));
            }
            CHECK.is("5: the other order", false, desk.isExempt(1, trade));
        }
        CHECK.is("5: not any more", false, desk.turnExempt(0, 3));
        CHECK.is("5: not exempt", false, desk.isExempt(0, 3));
        CHECK.is("5: still exempt", true, desk.isExempt(0, 4));
        CHECK.is("5: exempt again", true, desk.turnExempt(0, 3));
        CHECK.noSuch("5: order 2 of 2", desk, () -> desk.turnExempt(2, 0));
        CHECK.noSuch("5: trade 8", desk, () -> desk.turnExempt(0, 8));
        for (int n : Towns.NEVER) {
            CHECK.noSuch("5: order " + n, desk, () -> desk.turnExempt(n, 0));
            CHECK.noSuch("5: trade " + n, desk, () -> desk.turnExempt(0, n));
        }
    }

    private static void promise6TurnOrder() {
        CurfewDesk desk = Towns.of(1, 0);
        CHECK.noSuch("6: no orders", desk, () -> desk.turnOrder(0));
        desk.addOrder(0, 0, 0, 0);
        desk.addOrder(0, 0, 0, 0);
        CHECK.is("6: lifted", false, desk.turnOrder(1));
        CHECK.is("6: is lifted", false, desk.isInForce(1));
        CHECK.is("6: is not on", false, desk.isOn(1));
        CHECK.is("6: the other is in force", true, desk.isInForce(0));
        CHECK.is("6: in force", true, desk.turnOrder(1));
        CHECK.is("6: is in force", true, desk.isInForce(1));
        CHECK.is("6: is on", true, desk.isOn(1));
        CHECK.noSuch("6: order 2 of 2", desk, () -> desk.turnOrder(2));
        for (int n : Towns.NEVER) {
            CHECK.noSuch("6: order " + n, desk, () -> desk.turnOrder(n));
        }
    }

    private static void promise7SetShift() {
        CurfewDesk desk = Towns.of(1, 0);
        desk.addOrder(0, 0, 0, 0);
        int before = 0;
        for (int shift = -4; shift <= 4; shift++) {
            CHECK.is("7: the one before", before, desk.setShift(shift));
            CHECK.is("7: shift", shift, desk.shift());
            CHECK.is("7: dusk", 34 + shift, desk.duskIn(0));
            CHECK.is("7: dusk of another day", 38 + shift, desk.duskIn(20));
            CHECK.is("7: dawn", 14, desk.dawnIn(0));
            before = shift;
        }
        CHECK.badArgument("7: 5", desk, () -> desk.setShift(5));
        CHECK.badArgument("7: -5", desk, () -> desk.setShift(-5));
        CHECK.badArgument("7: most", desk, () -> desk.setShift(Integer.MAX_VALUE));
        CHECK.badArgument("7: least", desk, () -> desk.setShift(Integer.MIN_VALUE));
        CHECK.is("7: shift then", 4, desk.setShift(-4));
        Towns.until(desk, 0, 29);
        CHECK.is("7: ahead of the shifted dusk", false, desk.isOn(0));
        desk.pass(1);
        CHECK.is("7: at the shifted dusk", true, desk.isOn(0));
    }

    private static void promise8GivePass() {
        CurfewDesk desk = Towns.of(1, 0, 0);
        CHECK.is("8: one", 1, desk.givePass(1, 2, 1));
        CHECK.is("8: seven more", 8, desk.givePass(1, 2, 7));
        CHECK.is("8: one more", 9, desk.givePass(1, 2, 1));
        CHECK.is("8: one lost", 9, desk.givePass(1, 2, 1));
        CHECK.is("8: another colour", 9, desk.givePass(1, 3, 9));
        CHECK.is("8: some of them lost", 9, desk.givePass(1, 3, 9));
        CHECK.is("8: left", 9, desk.stampsOf(1, 2));
        CHECK.is("8: not that colour", 0, desk.stampsOf(1, 1));
        CHECK.is("8: not that person", 0, desk.stampsOf(0, 2));
        CHECK.is("8: none is used", 0, desk.stampsUsed(2));
        CHECK.noSuch("8: person 2 of 2", desk, () -> desk.givePass(2, 0, 1));
        CHECK.noSuch("8: colour 4", desk, () -> desk.givePass(0, 4, 1));
        CHECK.badArgument("8: stamps 0", desk, () -> desk.givePass(0, 0, 0));
        CHECK.badArgument("8: stamps 10", desk, () -> desk.givePass(0, 0, 10));
        for (int n : Towns.NEVER) {
            CHECK.noSuch("8: person " + n, desk, () -> desk.givePass(n, 0, 1));
            CHECK.noSuch("8: colour " + n, desk, () -> desk.givePass(0, n, 1));
            CHECK.badArgument("8: stamps " + n, desk, () -> desk.givePass(0, 0, n));
            CHECK.noSuch("8: person and stamps " + n, desk, () -> desk.givePass(2, 0, n));
            CHECK.noSuch("8: colour and stamps " + n, desk, () -> desk.givePass(0, 4, n));
        }
    }

    private static void promise9TakePass() {
        CurfewDesk desk = Towns.of(1, 0, 0);
        desk.givePass(0, 1, 5);
        desk.givePass(0, 2, 6);
        desk.givePass(1, 1, 7);
        CHECK.is("9: taken", 5, desk.takePass(0, 1));
        CHECK.is("9: none left", 0, desk.stampsOf(0, 1));
        CHECK.is("9: none to take", 0, desk.takePass(0, 1));
        CHECK.is("9: not that colour", 6, desk.stampsOf(0, 2));
        CHECK.is("9: not that person", 7, desk.stampsOf(1, 1));
        CHECK.is("9: not used", 0, desk.stampsUsed(1));
        CHECK.noSuch("9: person 2 of 2", desk, () -> desk.takePass(2, 0));
        CHECK.noSuch("9: colour 4", desk, () -> desk.takePass(0, 4));
        for (int n : Towns.NEVER) {
            CHECK.noSuch("9: person " + n, desk, () -> desk.takePass(n, 0));
            CHECK.noSuch("9: colour " + n, desk, () -> desk.takePass(0, n));
        }
    }

    private static void promise10GoOutAndFines() {
        CurfewDesk desk = Towns.of(1, 0, 0);
        desk.addOrder(0, 0, 0, 0);
        desk.addOrder(0, 0, 0, 1);
        for (int times = 1; times <= 12; times++) {
            CHECK.is("10: once for two orders, more each time", 10 * times, desk.goOut(0, 0));
            CHECK.is("10: times", times, desk.timesFined(0));
            CHECK.is("10: owes", 5 * times * (times + 1), desk.owes(0));
        }
        CHECK.is("10: another person", 10, desk.goOut(1, 0));
        CHECK.is("10: owes one", 10, desk.owes(1));
        CHECK.is("10: the first as before", 780, desk.owes(0));
        CHECK.is("10: no stamps to use", 0, desk.stampsUsed(0) + desk.stampsUsed(1));
    }

    private static void promise10GoOutWithStamps() {
        CurfewDesk desk = Towns.of(1, 0, 0);
        desk.addOrder(0, 0, 0, 2);
        desk.addOrder(0, 0, 0, 1);
        desk.addOrder(0, 0, 0, 2);
        desk.givePass(0, 2, 3);
        desk.givePass(0, 1, 2);
        desk.givePass(0, 0, 1);
        desk.givePass(1, 2, 9);
        CHECK.is("10: stamps enough", 0, desk.goOut(0, 0));
        CHECK.is("10: two used", 1, desk.stampsOf(0, 2));
        CHECK.is("10: one used", 1, desk.stampsOf(0, 1));
        CHECK.is("10: none of another colour", 1, desk.stampsOf(0, 0));
        CHECK.is("10: one stamp for two orders", 10, desk.goOut(0, 0));
        CHECK.is("10: it is used all the same", 0, desk.stampsOf(0, 2));
        CHECK.is("10: and that of the other", 0, desk.stampsOf(0, 1));
        CHECK.is("10: no stamps", 20, desk.goOut(0, 0));
        CHECK.is("10: used of 2", 3, desk.stampsUsed(2));
        CHECK.is("10: used of 1", 2, desk.stampsUsed(1));
        CHECK.is("10: used of 0", 0, desk.stampsUsed(0));
        CHECK.is("10: of another person none", 9, desk.stampsOf(1, 2));
        CHECK.is("10: the first lacks, the others use", 10, desk.goOut(1, 0));
        CHECK.is("10: two of 2", 7, desk.stampsOf(1, 2));
    }

    private static void promise10GoOutUnbarred() {
        CurfewDesk desk = Towns.of(2, 5, 6);
        desk.givePass(0, 0, 4);
        CHECK.is("10: no orders", 0, desk.goOut(0, 0));
        desk.addOrder(0, 0, 0, 0);
        CHECK.is("10: another quarter", 0, desk.goOut(0, 1));
        desk.turnExempt(0, 5);
        CHECK.is("10: exempt", 0, desk.goOut(0, 0));
        CHECK.is("10: not exempt", 10, desk.goOut(1, 0));
        desk.turnExempt(0, 5);
        desk.turnOrder(0);
        CHECK.is("10: lifted", 0, desk.goOut(0, 0));
        desk.turnOrder(0);
        desk.pass(14);
        CHECK.is("10: not on", 0, desk.goOut(0, 0));
        CHECK.is("10: no stamp used", 0, desk.stampsUsed(0));
        CHECK.is("10: all left", 4, desk.stampsOf(0, 0));
        desk.pass(20);
        CHECK.is("10: on", 0, desk.goOut(0, 0));
        CHECK.is("10: a stamp used", 3, desk.stampsOf(0, 0));
    }

    private static void promise10GoOutExceptions() {
        CurfewDesk desk = Towns.of(2, 0, 0);
        desk.addOrder(0, 0, 0, 0);
        CHECK.noSuch("10: person 2 of 2", desk, () -> desk.goOut(2, 0));
        CHECK.noSuch("10: quarter 2 of 2", desk, () -> desk.goOut(0, 2));
        for (int n : Towns.NEVER) {
            CHECK.noSuch("10: person " + n, desk, () -> desk.goOut(n, 0));
            CHECK.noSuch("10: quarter " + n, desk, () -> desk.goOut(0, n));
        }
        CHECK.is("10: the first fine still", 10, desk.goOut(0, 0));
    }

    private static void promise11PassMovesTime() {
        CurfewDesk desk = new CurfewDesk();
        CHECK.is("11: nothing begins", 0, desk.pass(200));
        CHECK.is("11: day", 4, desk.day());
        CHECK.is("11: half hour", 8, desk.halfHour());
        desk.pass(39);
        CHECK.is("11: the last half hour", 47, desk.halfHour());
        CHECK.is("11: of the same day", 4, desk.day());
        desk.pass(1);
        CHECK.is("11: the first half hour", 0, desk.halfHour());
        CHECK.is("11: of the next day", 5, desk.day());
    }

    private static void promise11PassCountsBeginnings() {
        CurfewDesk desk = Towns.of(1, 0);
        desk.addOrder(0, 0, 0, 0);
        desk.addOrder(0, 2, 0, 0);
        desk.addOrder(0, 0, 0, 0);
        desk.turnOrder(2);
        CHECK.is("11: those on at first don't begin", 0, desk.pass(31));
        CHECK.is("11: one begins behind it", 1, desk.pass(1));
        CHECK.is("11: it is on", true, desk.isOn(1));
        CHECK.is("11: none", 0, desk.pass(1));
        CHECK.is("11: the other", 1, desk.pass(1));
        CHECK.is("11: none at midnight", 0, desk.pass(14));
        CHECK.is("11: none by day", 0, desk.pass(31));
        CHECK.is("11: day 1, half hour 31", 31, desk.halfHour());
        CHECK.is("11: both", 2, desk.pass(48));
        CHECK.is("11: both, at the dusks of days 2 to 6", 10, desk.pass(200));
    }

    private static void promise11PassFollowsDusk() {
        CurfewDesk desk = Towns.of(1, 0);
        desk.addOrder(0, 0, 0, 0);
        Towns.until(desk, 3, 33);
        CHECK.is("11: dusk of day 3", 1, desk.pass(1));
        Towns.until(desk, 4, 33);
        CHECK.is("11: not yet on day 4", 0, desk.pass(1));
        CHECK.is("11: dusk of day 4", 1, desk.pass(1));
        desk.setShift(4);
        CHECK.is("11: a later dusk lifts it", false, desk.isOn(0));
        CHECK.is("11: not yet", 0, desk.pass(3));
        CHECK.is("11: the later dusk", 1, desk.pass(1));
        CHECK.is("11: on", true, desk.isOn(0));
        desk.turnOrder(0);
        Towns.until(desk, 5, 20);
        desk.turnOrder(0);
        CHECK.is("11: in force again", 1, desk.pass(28));
    }

    private static void promise11PassExceptions() {
        CurfewDesk desk = Towns.of(1, 0);
        desk.addOrder(0, 0, 0, 0);
        CHECK.badArgument("11: 0", desk, () -> desk.pass(0));
        CHECK.badArgument("11: 201", desk, () -> desk.pass(201));
        CHECK.badArgument("11: -1", desk, () -> desk.pass(-1));
        CHECK.badArgument("11: most", desk, () -> desk.pass(Integer.MAX_VALUE));
        CHECK.badArgument("11: least", desk, () -> desk.pass(Integer.MIN_VALUE));
        CHECK.is("11: still at first", 0, desk.halfHour());
    }
}
