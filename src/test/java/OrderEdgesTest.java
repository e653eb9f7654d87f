/** The edges of the hours of orders: when they begin and end, and what pass counts of them. */
public final class OrderEdgesTest {
    private static final Check CHECK = new Check();

    public static void main(String[] args) {
        promise19TheFirstHalfHourAtDusk();
        promise19TheLastHalfHourAheadOfDawn();
        promise19TheEarliestAndTheLatest();
        promise19OverMidnight();
        promise19OnTheDaysOnWhichTheTideTurns();
        promise19AShiftCountsAtOnce();
        promise11TheFirstAndTheLastOfTheHalfHours();
        promise11OnAheadOfThem();
        promise11OnAtBothEnds();
        promise11ManyDays();
        promise11AllOrdersAndNone();
        promise11NotByAProclamation();
        promise11TheDuskOfEachDay();
        promise18LiftedUntilItIsTurned();
        promise4ANewOrderNextToAnOldOne();
        promise5ExemptUntilItIsTurned();
        promises20And21TheFirstAndTheLastTrade();
        promise21NobodyAndAll();
        promise32NoneAndAll();
        CHECK.finish();
    }

    /** "the half hour is that of the dusk of this day, less those ahead, or later". */
    private static void promise19TheFirstHalfHourAtDusk() {
        for (int ahead = 0; ahead <= 4; ahead++) {
            for (int shift = -4; shift <= 4; shift++) {
                CurfewDesk desk = Towns.withOrder(ahead, 0);
                desk.setShift(shift);
                Towns.until(desk, 0, 34 + shift - ahead - 1);
                turnsTo("19: ahead " + ahead + ", shift " + shift, desk, true);
            }
        }
    }

    /** "is earlier than that of the dawn of this day and those behind, added". */
    private static void promise19TheLastHalfHourAheadOfDawn() {
        for (int behind = 0; behind <= 4; behind++) {
            for (int shift = -4; shift <= 4; shift += 4) {
                CurfewDesk desk = Towns.withOrder(0, behind);
                desk.setShift(shift);
                Towns.until(desk, 0, 14 + behind - 1);
                turnsTo("19: behind " + behind + ", shift " + shift, desk, false);
            }
        }
    }

    private static void promise19TheEarliestAndTheLatest() {
        CurfewDesk longest = Towns.withOrder(4, 4);
        longest.setShift(-4);
        Towns.until(longest, 0, 17);
        turnsTo("19: the latest end", longest, false);
        Towns.until(longest, 0, 25);
        turnsTo("19: the earliest begin", longest, true);
        CurfewDesk shortest = Towns.withOrder(0, 0);
        shortest.setShift(4);
        Towns.until(shortest, 19, 9);
        turnsTo("19: the earliest end", shortest, false);
        Towns.until(shortest, 19, 41);
        turnsTo("19: the latest begin", shortest, true);
    }

    private static void promise19OverMidnight() {
        CurfewDesk desk = Towns.withOrder(0, 0);
        CHECK.is("19: the first half hour of all", true, desk.isOn(0));
        Towns.until(desk, 0, 47);
        CHECK.is("19: the last half hour of day 0", true, desk.isOn(0));
        CHECK.is("11: none begins at midnight", 0, desk.pass(1));
        CHECK.is("19: the first half hour of day 1", true, desk.isOn(0));
    }

    /** "of this day": each day's own dusk and dawn, on both sides of a midnight. */
    private static void promise19OnTheDaysOnWhichTheTideTurns() {
        int[][] days = {{3, 0}, {4, 1}, {15, 3}, {16, 4}, {19, 4}, {20, 4}, {23, 4}, {24, 3},
            {35, 1}, {36, 0}, {39, 0}, {40, 0}, {44, 1}};
        CurfewDesk desk = Towns.withOrder(1, 2);
        for (int[] day : days) {
            Towns.until(desk, day[0], 14 - day[1] + 2 - 1);
            turnsTo("19: dawn of day " + day[0], desk, false);
            Towns.until(desk, day[0], 34 + day[1] - 1 - 1);
            turnsTo("19: dusk of day " + day[0], desk, true);
        }
    }

    private static void promise19AShiftCountsAtOnce() {
        CurfewDesk desk = Towns.withOrder(0, 0);
        Towns.until(desk, 0, 34);
        CHECK.is("19: at dusk", true, desk.isOn(0));
        desk.setShift(1);
        CHECK.is("19: dusk is one later", false, desk.isOn(0));
        desk.setShift(-4);
        CHECK.is("19: dusk was earlier", true, desk.isOn(0));
        Towns.until(desk, 1, 13);
        desk.setShift(4);
        CHECK.is("19: at dawn no shift counts", true, desk.isOn(0));
    }

    /** "were on behind one of them, and not ahead of it": the first, the last, none of them. */
    private static void promise11TheFirstAndTheLastOfTheHalfHours() {
        CHECK.is("11: behind the only one", 1, passedFrom(33, 1));
        CHECK.is("11: behind the first of many", 1, passedFrom(33, 14));
        CHECK.is("11: behind the last of many", 1, passedFrom(20, 14));
        CHECK.is("11: one too few", 0, passedFrom(20, 13));
        CHECK.is("11: on ahead of the first", 0, passedFrom(34, 1));
    }

    private static void promise11OnAheadOfThem() {
        CHECK.is("11: on at first, and all the time", 0, passedFrom(0, 13));
        CHECK.is("11: on at first, and then off", 0, passedFrom(0, 14));
        CHECK.is("11: on at first, off, not yet on", 0, passedFrom(0, 33));
        CHECK.is("11: on at first, off, on again", 1, passedFrom(0, 34));
        CHECK.is("11: from dusk to the next dusk, less one", 0, passedFrom(34, 47));
        CHECK.is("11: from dusk to the next dusk", 1, passedFrom(34, 48));
        CHECK.is("11: over midnight", 0, passedFrom(47, 1));
    }

    private static void promise11OnAtBothEnds() {
        CurfewDesk desk = Towns.withOrder(0, 0);
        Towns.until(desk, 0, 40);
        CHECK.is("11: on at both ends, off between", 1, desk.pass(48));
        CHECK.is("11: off at the end too", 0, desk.pass(30));
    }

    private static void promise11ManyDays() {
        CHECK.is("11: the dusks of days 0 to 3", 4, passedFrom(0, 200));
        CHECK.is("11: the dusks of days 0 to 4", 5, passedFrom(33, 200));
        CHECK.is("11: the dusks of days 1 to 4", 4, passedFrom(34, 200));
        CHECK.is("11: that of day 4 is one later, and the last", 5, passedFrom(27, 200));
        CHECK.is("11: and beyond the last", 4, passedFrom(26, 200));
    }

    /** How many begin in these half hours of day 0, if an order is on from dusk to dawn. */
    private static int passedFrom(int halfHour, int halfHours) {
        CurfewDesk desk = Towns.withOrder(0, 0);
        Towns.until(desk, 0, halfHour);
        return desk.pass(halfHours);
    }

    private static void promise11AllOrdersAndNone() {
        CHECK.is("11: no orders", 0, Towns.withoutOrders().pass(200));
        CurfewDesk desk = Towns.of(1);
        for (int i = 0; i < 10; i++) {
            desk.addOrder(0, i % 5, 0, 0);
        }
        Towns.until(desk, 0, 29);
        for (int i = 0; i < 5; i++) {
            CHECK.is("11: two of ten, at " + (30 + i), 2, desk.pass(1));
        }
        CHECK.is("11: all ten", 10, desk.pass(48));
        for (int order = 0; order < 10; order++) {
            desk.turnOrder(order);
        }
        CHECK.is("11: lifted ones never begin", 0, desk.pass(200));
    }

    /** What a shift or a turn puts on was on ahead of the half hours. */
    private static void promise11NotByAProclamation() {
        CurfewDesk desk = Towns.withOrder(0, 0);
        desk.turnOrder(0);
        Towns.until(desk, 0, 36);
        desk.turnOrder(0);
        CHECK.is("11: put in force at night", 0, desk.pass(1));
        Towns.until(desk, 1, 33);
        desk.setShift(-1);
        CHECK.is("11: on by an earlier dusk", 0, desk.pass(1));
        desk.setShift(1);
        CHECK.is("11: off by a later dusk, and on again", 1, desk.pass(1));
    }

    private static void promise11TheDuskOfEachDay() {
        CurfewDesk desk = Towns.withOrder(0, 0);
        Towns.until(desk, 3, 34);
        CHECK.is("11: day 4 is dark one later", 0, desk.pass(48));
        CHECK.is("11: by one", 1, desk.pass(1));
        Towns.until(desk, 23, 38);
        CHECK.is("11: day 24 is dark one earlier", 1, desk.pass(47));
    }

    private static void promise18LiftedUntilItIsTurned() {
        CurfewDesk desk = Towns.withOrder(0, 0, 0);
        desk.turnOrder(0);
        desk.setShift(-4);
        desk.turnExempt(0, 0);
        desk.turnExempt(0, 0);
        desk.goOut(0, 0);
        desk.addOrder(0, 0, 0, 0);
        CHECK.is("11: only the other begins", 1, desk.pass(48));
        CHECK.is("18: still lifted", false, desk.isInForce(0));
        CHECK.is("6: in force again", true, desk.turnOrder(0));
        CHECK.is("11: both begin", 2, desk.pass(48));
        CHECK.is("18: still in force", true, desk.isInForce(0));
    }

    /** "exempts some trades (none, at first), and is in force (at first)". */
    private static void promise4ANewOrderNextToAnOldOne() {
        CurfewDesk desk = Towns.withOrder(4, 4, 0);
        for (int trade = 0; trade < 8; trade++) {
            desk.turnExempt(0, trade);
        }
        desk.turnOrder(0);
        CHECK.is("4: a second order", 1, desk.addOrder(0, 0, 0, 3));
        CHECK.is("18: in force", true, desk.isInForce(1));
        CHECK.is("21: it bars", 1, desk.barredBy(1));
        CHECK.is("37: its own hours", 28, desk.halfHoursOn(1));
        CHECK.is("37: those of the old one", 36, desk.halfHoursOn(0));
        for (int trade = 0; trade < 8; trade++) {
            CHECK.is("20: exempts none", false, desk.isExempt(1, trade));
            CHECK.is("20: the old one all", true, desk.isExempt(0, trade));
        }
    }

    private static void promise5ExemptUntilItIsTurned() {
        CurfewDesk desk = Towns.withOrder(0, 0, 7);
        desk.turnExempt(0, 7);
        desk.turnOrder(0);
        CHECK.is("20: of a lifted order", true, desk.isExempt(0, 7));
        desk.turnOrder(0);
        CHECK.is("20: of one in force again", true, desk.isExempt(0, 7));
        desk.setShift(4);
        desk.pass(200);
        desk.goOut(0, 0);
        CHECK.is("20: days later", true, desk.isExempt(0, 7));
        CHECK.is("20: not another trade", false, desk.isExempt(0, 6));
    }

    private static void promises20And21TheFirstAndTheLastTrade() {
        CurfewDesk desk = Towns.withOrder(0, 0, 0, 7);
        CHECK.is("5: the first trade", true, desk.turnExempt(0, 0));
        CHECK.is("20: it", true, desk.isExempt(0, 0));
        CHECK.is("20: not the last", false, desk.isExempt(0, 7));
        CHECK.is("26: the first person", 0, desk.ordersAgainst(0, 0));
        CHECK.is("26: not the last", 1, desk.ordersAgainst(1, 0));
        CHECK.is("5: the last trade", true, desk.turnExempt(0, 7));
        CHECK.is("21: both are exempt", 0, desk.barredBy(0));
        CHECK.is("5: the first trade not any more", false, desk.turnExempt(0, 0));
        CHECK.is("20: still the last", true, desk.isExempt(0, 7));
        CHECK.is("21: the first person", 1, desk.barredBy(0));
        CHECK.is("5: nor the last", false, desk.turnExempt(0, 7));
        CHECK.is("21: both are barred", 2, desk.barredBy(0));
    }

    private static void promise21NobodyAndAll() {
        CHECK.is("21: no person yet", 0, Towns.withoutPeople().barredBy(0));
        CurfewDesk desk = Towns.of(1);
        desk.addOrder(0, 0, 0, 0);
        for (int i = 0; i < 20; i++) {
            desk.addPerson(i % 8);
        }
        CHECK.is("21: twenty people", 20, desk.barredBy(0));
        for (int trade = 0; trade < 7; trade++) {
            desk.turnExempt(0, trade);
        }
        CHECK.is("21: those of the last trade", 2, desk.barredBy(0));
        desk.turnExempt(0, 7);
        CHECK.is("21: all are exempt", 0, desk.barredBy(0));
        CHECK.is("19: it is on all the same", true, desk.isOn(0));
    }

    private static void promise32NoneAndAll() {
        CHECK.is("32: no order yet", 0, Towns.withoutOrders().ordersOn());
        CurfewDesk desk = Towns.of(6);
        for (int i = 0; i < 10; i++) {
            desk.addOrder(i % 6, 0, i % 5, 0);
        }
        CHECK.is("32: ten orders", 10, desk.ordersOn());
        Towns.until(desk, 0, 17);
        CHECK.is("32: those that end last", 2, desk.ordersOn());
        desk.pass(1);
        CHECK.is("32: none", 0, desk.ordersOn());
        Towns.until(desk, 0, 33);
        CHECK.is("32: one ahead of dusk", 0, desk.ordersOn());
        desk.pass(1);
        CHECK.is("32: at dusk", 10, desk.ordersOn());
    }

    /** Order 0 is or is not on from the next half hour, and was otherwise. */
    private static void turnsTo(String what, CurfewDesk desk, boolean on) {
        CHECK.is(what + ", one ahead", !on, desk.isOn(0));
        CHECK.is(what + ", begins", on ? 1 : 0, desk.pass(1));
        CHECK.is(what + ", then", on, desk.isOn(0));
    }
}
