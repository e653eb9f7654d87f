/** Makes towns for the tests, and brings them to a time. */
final class Towns {
    /** Numbers that are no number of anything, whatever the town. */
    static final int[] NEVER = {-1, Integer.MIN_VALUE, Integer.MAX_VALUE, 64};

    private Towns() {
    }

    /** A town of some quarters, and a person of each of these trades. */
    static CurfewDesk of(int quarters, int... trades) {
        CurfewDesk desk = new CurfewDesk();
        for (int i = 0; i < quarters; i++) {
            desk.addQuarter();
        }
        for (int trade : trades) {
            desk.addPerson(trade);
        }
        return desk;
    }

    /**
     * A town of so many quarters, people and orders, by night, in which each number is another
     * than in a new one: a refused call that set anything back would be seen.
     */
    static CurfewDesk mixed(int quarters, int people, int orders) {
        CurfewDesk desk = of(quarters);
        for (int i = 0; i < people; i++) {
            desk.addPerson(i % 8);
            desk.givePass(i, i % 4, 1 + i % 9);
        }
        for (int i = 0; i < orders; i++) {
            desk.addOrder(i % quarters, i % 5, (i + 2) % 5, (i + 1) % 4);
            desk.turnExempt(i, (3 * i + 1) % 8);
        }
        desk.setShift(2);
        desk.pass(48 + 40);
        desk.goOut(0, 0);
        desk.goOut(people - 1, quarters - 1);
        desk.turnOrder(orders / 2);
        return desk;
    }

    /** A town with an order in its only quarter, and a person of each of these trades. */
    static CurfewDesk withOrder(int ahead, int behind, int... trades) {
        CurfewDesk desk = of(1, trades);
        desk.addOrder(0, ahead, behind, 0);
        return desk;
    }

    static CurfewDesk full() {
        return mixed(6, 20, 10);
    }

    /** One person and one order more, and it is full. */
    static CurfewDesk nearlyFull() {
        return mixed(6, 19, 9);
    }

    static CurfewDesk single() {
        return mixed(1, 1, 1);
    }

    static CurfewDesk withoutQuarters() {
        return of(0, 0);
    }

    static CurfewDesk withoutPeople() {
        return withOrder(0, 0);
    }

    static CurfewDesk withoutOrders() {
        return of(1, 0);
    }

    /** Lets time go by until this half hour of this day. */
    static void until(CurfewDesk desk, int day, int halfHour) {
        int left = day * 48 + halfHour - desk.day() * 48 - desk.halfHour();
        while (left > 0) {
            int step = Math.min(left, 200);
            desk.pass(step);
            left -= step;
        }
    }
}
