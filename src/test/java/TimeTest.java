/** Promises 12 to 15: time. */
public final class TimeTest {
    private static final Check CHECK = new Check();

    /** The tide of each day of its cycle, written out by the document's words. */
    private static final int[] TIDES = {
        0, 0, 0, 0, 1, 1, 1, 1, 2, 2, 2, 2, 3, 3, 3, 3, 4, 4, 4, 4,
        4, 4, 4, 4, 3, 3, 3, 3, 2, 2, 2, 2, 1, 1, 1, 1, 0, 0, 0, 0};

    public static void main(String[] args) {
        promises12And13DayAndHalfHour();
        promises14And15FromTheFirstDay();
        promises14And15FromLaterDays();
        promises14And15Exceptions();
        CHECK.finish();
    }

    private static void promises12And13DayAndHalfHour() {
        CurfewDesk desk = new CurfewDesk();
        for (int i = 0; i < 100; i++) {
            CHECK.is("12: day at " + i, i / 48, desk.day());
            CHECK.is("13: half hour at " + i, i % 48, desk.halfHour());
            desk.pass(1);
        }
        for (int i = 1; i <= 40; i++) {
            desk.pass(200);
            CHECK.is("12: day", (100 + 200 * i) / 48, desk.day());
            CHECK.is("13: half hour", (100 + 200 * i) % 48, desk.halfHour());
        }
    }

    private static void promises14And15FromTheFirstDay() {
        CurfewDesk desk = new CurfewDesk();
        desk.setShift(-3);
        for (int days = 0; days <= 99; days++) {
            int tide = TIDES[days % 40];
            CHECK.is("14: dusk in " + days, 34 + tide - 3, desk.duskIn(days));
            CHECK.is("15: dawn in " + days, 14 - tide, desk.dawnIn(days));
        }
        desk.setShift(4);
        CHECK.is("14: the latest dusk", 42, desk.duskIn(19));
        CHECK.is("15: the earliest dawn", 10, desk.dawnIn(19));
        CHECK.is("14: nothing goes by", 0, desk.day());
    }

    private static void promises14And15FromLaterDays() {
        CurfewDesk desk = new CurfewDesk();
        for (int day = 0; day <= 100; day += 7) {
            Towns.until(desk, day, 47);
            CHECK.is("14: dusk today", 34 + TIDES[day % 40], desk.duskIn(0));
            CHECK.is("15: dawn today", 14 - TIDES[day % 40], desk.dawnIn(0));
            CHECK.is("14: dusk tomorrow", 34 + TIDES[(day + 1) % 40], desk.duskIn(1));
            CHECK.is("15: dawn tomorrow", 14 - TIDES[(day + 1) % 40], desk.dawnIn(1));
            CHECK.is("14: dusk in 99", 34 + TIDES[(day + 99) % 40], desk.duskIn(99));
            CHECK.is("15: dawn in 99", 14 - TIDES[(day + 99) % 40], desk.dawnIn(99));
        }
    }

    private static void promises14And15Exceptions() {
        CurfewDesk desk = new CurfewDesk();
        int[] wrong = {-1, 100, Integer.MIN_VALUE, Integer.MAX_VALUE};
        for (int days : wrong) {
            CHECK.badArgument("14: dusk in " + days, desk, () -> desk.duskIn(days));
            CHECK.badArgument("15: dawn in " + days, desk, () -> desk.dawnIn(days));
        }
    }
}
