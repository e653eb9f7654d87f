/** Makes towns for the tests, and brings them to a time. */
final class Towns {
    /** Numbers that are no number of anything, whatever the town. */
    static final int[] NEVER = {-1, Integer.MIN_VALUE, Integer.MAX_VALUE, 64};

    private Towns() {
    }

    /** A town of some quarters, and a person of each of these trades. */
    static CurfewDesk of(int quarters, int... trades) {
        CurfewDesk desk = new CurfewDesk();
        for (int i = 0; i < quarters; i++) {
            desk.addQuarter();
        }
        for (int trade : trades) {
            desk.addPerson(trade);
        }
        return desk;
    }

    /** Lets time go by until this half hour of this day. */
    static void until(CurfewDesk desk, int day, int halfHour) {
        int left = day * 48 + halfHour - desk.day() * 48 - desk.halfHour();
        while (left > 0) {
            int step = Math.min(left, 200);
            desk.pass(step);
            left -= step;
        }
    }
}
