/** The edges of stamps and fines: 0 and 9 stamps, just enough of them, the first fine and many. */
public final class StampEdgesTest {
    private static final Check CHECK = new Check();

    public static void main(String[] args) {
        promise8MoreThanNineAreLost();
        promise8LostOnesAreLost();
        promise9NoneAndNine();
        promises8And9TheLastPersonAndColour();
        promise3ANewPersonNextToAnOldOne();
        promise10TheLastStamp();
        promise10NineStamps();
        promise10OnceForAllOrders();
        promise10AStampIsUsedBehindAFine();
        promise10AsManyAsTheOrders();
        promises10And24And25ManyFines();
        promise10NoFine();
        promise35ManyStamps();
        promises27And28JustEnough();
        promises27And28NineAndTen();
        promise28AtLeastNoneOfEachColour();
        promises26To28ByTheTime();
        CHECK.finish();
    }

    /** "Gives a person stamps on a pass of some colour; more than 9 are lost." */
    private static void promise8MoreThanNineAreLost() {
        int[][] given = {{1, 8, 9}, {1, 9, 9}, {8, 1, 9}, {8, 2, 9}, {9, 1, 9}, {9, 9, 9},
            {7, 1, 8}, {1, 1, 2}, {4, 5, 9}, {5, 5, 9}};
        for (int[] g : given) {
            CurfewDesk desk = Towns.withoutOrders();
            CHECK.is("8: all of the first", g[0], desk.givePass(0, 1, g[0]));
            CHECK.is("8: " + g[0] + " and " + g[1], g[2], desk.givePass(0, 1, g[1]));
            CHECK.is("23: " + g[0] + " and " + g[1], g[2], desk.stampsOf(0, 1));
            CHECK.is("9: " + g[0] + " and " + g[1], g[2], desk.takePass(0, 1));
        }
    }

    private static void promise8LostOnesAreLost() {
        CurfewDesk desk = Towns.withOrder(0, 0, 0);
        desk.givePass(0, 0, 9);
        desk.givePass(0, 0, 9);
        CHECK.is("35: lost ones are not used", 0, desk.stampsUsed(0));
        desk.goOut(0, 0);
        CHECK.is("23: lost ones do not come back", 8, desk.stampsOf(0, 0));
        CHECK.is("8: one of two is lost", 9, desk.givePass(0, 0, 2));
    }

    /** "0 to 9 (0, at first)". */
    private static void promise9NoneAndNine() {
        CurfewDesk desk = Towns.withoutOrders();
        CHECK.is("9: none at first", 0, desk.takePass(0, 0));
        CHECK.is("23: none then", 0, desk.stampsOf(0, 0));
        desk.givePass(0, 0, 9);
        CHECK.is("9: nine", 9, desk.takePass(0, 0));
        CHECK.is("23: all are taken", 0, desk.stampsOf(0, 0));
        CHECK.is("9: none again", 0, desk.takePass(0, 0));
        CHECK.is("8: one is one", 1, desk.givePass(0, 0, 1));
        CHECK.is("9: one", 1, desk.takePass(0, 0));
    }

    private static void promises8And9TheLastPersonAndColour() {
        CurfewDesk desk = Towns.of(1);
        for (int person = 0; person < 20; person++) {
            desk.addPerson(0);
        }
        int[][] corners = {{0, 0, 1}, {0, 3, 2}, {19, 0, 3}, {19, 3, 4}};
        for (int[] c : corners) {
            CHECK.is("8: a corner", c[2], desk.givePass(c[0], c[1], c[2]));
        }
        int all = 0;
        for (int person = 0; person < 20; person++) {
            for (int colour = 0; colour < 4; colour++) {
                all += desk.stampsOf(person, colour);
            }
        }
        CHECK.is("23: none but in the corners", 10, all);
        for (int[] c : corners) {
            CHECK.is("9: a corner", c[2], desk.takePass(c[0], c[1]));
        }
    }

    /** "so many stamps left on passes, 0 to 9 (0, at first)", "owes so many coins (0, at first)". */
    private static void promise3ANewPersonNextToAnOldOne() {
        CurfewDesk desk = Towns.withOrder(0, 0, 0);
        desk.goOut(0, 0);
        for (int colour = 0; colour < 4; colour++) {
            desk.givePass(0, colour, 9);
        }
        CHECK.is("3: a second person", 1, desk.addPerson(7));
        CHECK.is("22: trade", 7, desk.tradeOf(1));
        CHECK.is("24: owes nothing", 0, desk.owes(1));
        CHECK.is("25: never fined", 0, desk.timesFined(1));
        for (int colour = 0; colour < 4; colour++) {
            CHECK.is("23: no stamps", 0, desk.stampsOf(1, colour));
        }
        CHECK.is("10: the first fine", 10, desk.goOut(1, 0));
        CHECK.is("23: the old one's stamps", 9, desk.stampsOf(0, 0));
    }

    /** "for each a stamp of its colour is used, if one is left". */
    private static void promise10TheLastStamp() {
        CurfewDesk desk = Towns.withOrder(0, 0, 0);
        desk.givePass(0, 0, 1);
        CHECK.is("10: the last stamp", 0, desk.goOut(0, 0));
        CHECK.is("23: it is used", 0, desk.stampsOf(0, 0));
        CHECK.is("35: it is used", 1, desk.stampsUsed(0));
        CHECK.is("10: none is left", 10, desk.goOut(0, 0));
        CHECK.is("23: not less than none", 0, desk.stampsOf(0, 0));
        CHECK.is("35: none was used", 1, desk.stampsUsed(0));
    }

    private static void promise10NineStamps() {
        CurfewDesk desk = Towns.withOrder(0, 0, 0);
        desk.givePass(0, 0, 9);
        for (int left = 8; left >= 0; left--) {
            CHECK.is("10: a stamp for it", 0, desk.goOut(0, 0));
            CHECK.is("23: left", left, desk.stampsOf(0, 0));
        }
        CHECK.is("10: the tenth time", 10, desk.goOut(0, 0));
    }

    /** "if for some of them none was left, the person is fined once". */
    private static void promise10OnceForAllOrders() {
        CurfewDesk desk = ofOneColour(10);
        CHECK.is("10: ten orders, no stamp", 10, desk.goOut(0, 0));
        CHECK.is("25: once", 1, desk.timesFined(0));
        CHECK.is("24: once", 10, desk.owes(0));
        CHECK.is("35: none was used", 0, desk.stampsUsed(2));
    }

    private static void promise10AStampIsUsedBehindAFine() {
        CurfewDesk desk = Towns.of(1, 0);
        for (int colour = 0; colour < 4; colour++) {
            desk.addOrder(0, 0, 0, colour);
        }
        desk.givePass(0, 0, 1);
        desk.givePass(0, 3, 1);
        CHECK.is("10: the middle two lack one", 10, desk.goOut(0, 0));
        CHECK.is("23: the first is used", 0, desk.stampsOf(0, 0));
        CHECK.is("23: the last is used", 0, desk.stampsOf(0, 3));
        CHECK.is("25: once for two", 1, desk.timesFined(0));
    }

    private static void promise10AsManyAsTheOrders() {
        for (int stamps = 1; stamps <= 9; stamps++) {
            CurfewDesk enough = ofOneColour(stamps);
            enough.givePass(0, 2, stamps);
            CHECK.is("10: as many as orders, " + stamps, 0, enough.goOut(0, 0));
            CHECK.is("23: none is left", 0, enough.stampsOf(0, 2));
            CHECK.is("35: all are used", stamps, enough.stampsUsed(2));
            CurfewDesk lacking = ofOneColour(stamps + 1);
            lacking.givePass(0, 2, stamps);
            CHECK.is("10: one less than orders, " + stamps, 10, lacking.goOut(0, 0));
            CHECK.is("23: none is left then either", 0, lacking.stampsOf(0, 2));
            CHECK.is("35: all are used all the same", stamps, lacking.stampsUsed(2));
        }
    }

    /** "10 coins for each time of being fined so far, this one as well, more". */
    private static void promises10And24And25ManyFines() {
        CurfewDesk desk = Towns.withOrder(0, 0, 0, 0);
        CHECK.is("25: never at first", 0, desk.timesFined(0));
        CHECK.is("24: nothing at first", 0, desk.owes(0));
        for (int times = 1; times <= 500; times++) {
            CHECK.is("10: the fine of time " + times, 10 * times, desk.goOut(0, 0));
        }
        CHECK.is("25: 500 times", 500, desk.timesFined(0));
        CHECK.is("24: 500 times", 1252500, desk.owes(0));
        CHECK.is("34: all", 1252500, desk.allOwe());
        CHECK.is("39: of two", 626250.0, desk.meanDebt());
        CHECK.is("24: the other nothing", 0, desk.owes(1));
    }

    /** "0 for none": where no order bars, and where stamps are left. */
    private static void promise10NoFine() {
        CurfewDesk desk = Towns.withOrder(0, 0, 0);
        desk.addQuarter();
        CHECK.is("10: fined once before", 10, desk.goOut(0, 0));
        CHECK.is("10: a quarter without orders", 0, desk.goOut(0, 1));
        desk.givePass(0, 0, 1);
        CHECK.is("10: a stamp", 0, desk.goOut(0, 0));
        Towns.until(desk, 0, 14);
        CHECK.is("10: by day", 0, desk.goOut(0, 0));
        CHECK.is("25: still once", 1, desk.timesFined(0));
        Towns.until(desk, 0, 34);
        CHECK.is("10: the second fine", 20, desk.goOut(0, 0));
    }

    private static void promise35ManyStamps() {
        CurfewDesk desk = ofOneColour(9);
        CHECK.is("35: none at first", 0, desk.stampsUsed(2));
        for (int i = 0; i < 200; i++) {
            desk.givePass(0, 2, 9);
            desk.goOut(0, 0);
        }
        CHECK.is("35: 200 times nine", 1800, desk.stampsUsed(2));
        CHECK.is("35: of the first colour none", 0, desk.stampsUsed(0));
        CHECK.is("35: of the last colour none", 0, desk.stampsUsed(3));
        CHECK.is("34: no fine", 0, desk.allOwe());
    }

    private static void promises27And28JustEnough() {
        for (int orders = 1; orders <= 9; orders++) {
            CurfewDesk desk = ofOneColour(orders);
            CHECK.is("28: no stamp of " + orders, orders, desk.stampsMissing(0, 0));
            CHECK.is("27: no stamp of " + orders, false, desk.mayGo(0, 0));
            for (int stamps = 1; stamps < orders; stamps++) {
                desk.givePass(0, 2, 1);
            }
            CHECK.is("28: one less than " + orders, 1, desk.stampsMissing(0, 0));
            CHECK.is("27: one less than " + orders, false, desk.mayGo(0, 0));
            desk.givePass(0, 2, 1);
            CHECK.is("28: just " + orders, 0, desk.stampsMissing(0, 0));
            CHECK.is("27: just " + orders, true, desk.mayGo(0, 0));
            CHECK.is("26: they bar all the same", orders, desk.ordersAgainst(0, 0));
        }
    }

    private static void promises27And28NineAndTen() {
        CurfewDesk desk = ofOneColour(10);
        desk.givePass(0, 2, 9);
        CHECK.is("28: nine of ten", 1, desk.stampsMissing(0, 0));
        CHECK.is("27: nine of ten", false, desk.mayGo(0, 0));
        desk.turnOrder(9);
        CHECK.is("28: nine of nine", 0, desk.stampsMissing(0, 0));
        CHECK.is("27: nine of nine", true, desk.mayGo(0, 0));
        CHECK.is("26: nine", 9, desk.ordersAgainst(0, 0));
    }

    /** "less the stamps of it that are left, at least 0; all added". */
    private static void promise28AtLeastNoneOfEachColour() {
        CurfewDesk desk = Towns.of(1, 0);
        for (int colour = 0; colour < 4; colour++) {
            desk.addOrder(0, 0, 0, colour);
        }
        desk.addOrder(0, 0, 0, 3);
        desk.givePass(0, 0, 9);
        CHECK.is("28: eight too many of one colour", 4, desk.stampsMissing(0, 0));
        desk.givePass(0, 1, 9);
        CHECK.is("28: of two colours", 3, desk.stampsMissing(0, 0));
        desk.givePass(0, 2, 2);
        CHECK.is("28: of three colours", 2, desk.stampsMissing(0, 0));
        CHECK.is("27: of three colours", false, desk.mayGo(0, 0));
        desk.givePass(0, 3, 3);
        CHECK.is("28: of all", 0, desk.stampsMissing(0, 0));
        CHECK.is("27: of all", true, desk.mayGo(0, 0));
    }

    private static void promises26To28ByTheTime() {
        CurfewDesk desk = Towns.withOrder(0, 0, 0);
        Towns.until(desk, 0, 13);
        isBarred("the last half hour ahead of dawn", desk, true);
        desk.pass(1);
        isBarred("dawn", desk, false);
        Towns.until(desk, 0, 33);
        isBarred("the last half hour ahead of dusk", desk, false);
        desk.pass(1);
        isBarred("dusk", desk, true);
        Towns.until(desk, 0, 47);
        isBarred("the last half hour of the day", desk, true);
        desk.pass(1);
        isBarred("the first half hour of the next day", desk, true);
    }

    private static void isBarred(String when, CurfewDesk desk, boolean barred) {
        CHECK.is("26: " + when, barred ? 1 : 0, desk.ordersAgainst(0, 0));
        CHECK.is("27: " + when, !barred, desk.mayGo(0, 0));
        CHECK.is("28: " + when, barred ? 1 : 0, desk.stampsMissing(0, 0));
        CHECK.is("21: " + when, barred ? 1 : 0, desk.barredBy(0));
    }

    /** A quarter with so many orders, all of colour 2, and a person. */
    private static CurfewDesk ofOneColour(int orders) {
        CurfewDesk desk = Towns.of(1, 0);
        for (int i = 0; i < orders; i++) {
            desk.addOrder(0, 0, 0, 2);
        }
        return desk;
    }
}
