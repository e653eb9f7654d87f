/** The edges of time: half hours of a day, days, the days on which the tide turns, dusk and dawn. */
public final class TimeEdgesTest {
    private static final Check CHECK = new Check();

    public static void main(String[] args) {
        promise11TheLeastAndTheMostHalfHours();
        promises12And13TheLastHalfHourOfADay();
        promises12And13TheLastTimeOfAll();
        promises14And15TheLeastAndTheMostDays();
        promises14And15TheDaysOnWhichTheTideTurns();
        promises14And15TheTideTurnsAtMidnight();
        promises14And15TheLeastAndTheGreatestShift();
        promises14And15TheShiftIsFromNowOn();
        CHECK.finish();
    }

    /** "1 to 200". */
    private static void promise11TheLeastAndTheMostHalfHours() {
        CurfewDesk desk = new CurfewDesk();
        desk.pass(1);
        isAt("11: 1", desk, 0, 1);
        desk.pass(200);
        isAt("11: 200 more", desk, 4, 9);
    }

    /** "Time is told in half hours, 0 to 47 of each day; days from 0." */
    private static void promises12And13TheLastHalfHourOfADay() {
        CurfewDesk desk = new CurfewDesk();
        isAt("12: the first", desk, 0, 0);
        desk.pass(47);
        isAt("12: the last of day 0", desk, 0, 47);
        desk.pass(1);
        isAt("12: the first of day 1", desk, 1, 0);
        desk.pass(48);
        isAt("12: the first of day 2", desk, 2, 0);
        desk.pass(47);
        isAt("12: the last of day 2", desk, 2, 47);
        desk.pass(48);
        isAt("12: the last of day 3", desk, 3, 47);
        desk.pass(49);
        isAt("12: the first of day 5", desk, 5, 0);
        desk.pass(191);
        isAt("12: the last of day 8", desk, 8, 47);
    }

    /** "An object is used for at most 512 calls": 504 of them let go by all that they can. */
    private static void promises12And13TheLastTimeOfAll() {
        CurfewDesk desk = Towns.withOrder(0, 0);
        for (int i = 1; i <= 504; i++) {
            desk.pass(200);
        }
        CHECK.is("12: 504 times 200", 2100, desk.day());
        CHECK.is("13: 504 times 200", 0, desk.halfHour());
        CHECK.is("14: 99 days on, the day 2199, 39 behind 2160", 34, desk.duskIn(99));
        CHECK.is("15: today, 20 behind 2080", 10, desk.dawnIn(0));
        CHECK.is("11: the dusks of days 2100 to 2103", 4, desk.pass(200));
        CHECK.is("13: the 512th call", 8, desk.halfHour());
    }

    /** "0 to 99". */
    private static void promises14And15TheLeastAndTheMostDays() {
        CurfewDesk desk = new CurfewDesk();
        isTide("14: today", desk, 0, 0);
        isTide("14: day 99, 19 behind 80", desk, 99, 4);
        Towns.until(desk, 1, 47);
        isTide("14: today, on day 1", desk, 0, 0);
        isTide("14: day 100, 20 behind 80", desk, 99, 4);
        Towns.until(desk, 4, 0);
        isTide("14: today, on day 4", desk, 0, 1);
        isTide("14: day 103, 23 behind 80", desk, 99, 4);
        Towns.until(desk, 5, 0);
        isTide("14: day 104, 24 behind 80", desk, 99, 3);
    }

    /** "it is r / 4, if r is less than 20, otherwise (39 - r) / 4". */
    private static void promises14And15TheDaysOnWhichTheTideTurns() {
        int[][] turns = {{3, 0, 1}, {7, 1, 2}, {11, 2, 3}, {15, 3, 4}, {19, 4, 4}, {23, 4, 3},
            {27, 3, 2}, {31, 2, 1}, {35, 1, 0}, {39, 0, 0}, {43, 0, 1}, {59, 4, 4}, {63, 4, 3},
            {79, 0, 0}, {83, 0, 1}};
        CurfewDesk asked = new CurfewDesk();
        CurfewDesk lived = new CurfewDesk();
        for (int[] turn : turns) {
            isTide("14: ahead of the turn, asked on day 0", asked, turn[0], turn[1]);
            isTide("14: behind it, asked on day 0", asked, turn[0] + 1, turn[2]);
            Towns.until(lived, turn[0], 47);
            isTide("14: ahead of the turn, on day " + turn[0], lived, 0, turn[1]);
            isTide("14: behind it, asked on day " + turn[0], lived, 1, turn[2]);
        }
    }

    private static void promises14And15TheTideTurnsAtMidnight() {
        CurfewDesk desk = new CurfewDesk();
        Towns.until(desk, 3, 0);
        isTide("14: the first half hour of day 3", desk, 0, 0);
        Towns.until(desk, 3, 47);
        isTide("14: the last half hour of day 3", desk, 0, 0);
        desk.pass(1);
        isTide("14: the first half hour of day 4", desk, 0, 1);
        Towns.until(desk, 39, 47);
        isTide("14: the last half hour of day 39", desk, 0, 0);
        desk.pass(1);
        isTide("14: the first half hour of day 40", desk, 0, 0);
    }

    /** "the shift, -4 to 4 (0, at first), added; dawn at 14, less the tide". */
    private static void promises14And15TheLeastAndTheGreatestShift() {
        CurfewDesk desk = new CurfewDesk();
        CHECK.is("7: 0 at first", 0, desk.setShift(-4));
        CHECK.is("14: the earliest dusk", 30, desk.duskIn(0));
        CHECK.is("14: on the day of the greatest tide", 34, desk.duskIn(19));
        CHECK.is("15: dawn is not shifted", 14, desk.dawnIn(0));
        CHECK.is("7: the least before", -4, desk.setShift(4));
        CHECK.is("14: on the day of the least tide", 38, desk.duskIn(0));
        CHECK.is("14: the latest dusk", 42, desk.duskIn(19));
        CHECK.is("15: the earliest dawn is not shifted", 10, desk.dawnIn(19));
        CHECK.is("7: the greatest before", 4, desk.setShift(4));
        CHECK.is("7: the same again", 4, desk.setShift(0));
        CHECK.is("14: none", 34, desk.duskIn(0));
    }

    /** "the shift of dusk from now on". */
    private static void promises14And15TheShiftIsFromNowOn() {
        CurfewDesk desk = new CurfewDesk();
        desk.setShift(3);
        desk.pass(100);
        desk.setShift(-1);
        CHECK.is("14: of today", 33, desk.duskIn(0));
        CHECK.is("14: of the last day that one can ask", 33, desk.duskIn(37));
        desk.pass(48);
        CHECK.is("14: it stays", 33, desk.duskIn(0));
        CHECK.is("33: it stays", -1, desk.shift());
    }

    private static void isAt(String what, CurfewDesk desk, int day, int halfHour) {
        CHECK.is(what + ", day", day, desk.day());
        CHECK.is(what + ", half hour", halfHour, desk.halfHour());
    }

    /** The shift is 0. */
    private static void isTide(String what, CurfewDesk desk, int days, int tide) {
        CHECK.is(what + ", dusk in " + days, 34 + tide, desk.duskIn(days));
        CHECK.is(what + ", dawn in " + days, 14 - tide, desk.dawnIn(days));
    }
}
