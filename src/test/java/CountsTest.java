/** Promises 29 to 35: what there is in the town. */
public final class CountsTest {
    private static final Check CHECK = new Check();

    public static void main(String[] args) {
        promises29To31Numbers();
        promise32OrdersOn();
        promise33Shift();
        promise34AllOwe();
        promise35StampsUsed();
        CHECK.finish();
    }

    private static void promises29To31Numbers() {
        CurfewDesk desk = new CurfewDesk();
        for (int i = 1; i <= 6; i++) {
            desk.addQuarter();
            CHECK.is("29: quarters", i, desk.quarters());
        }
        for (int i = 1; i <= 10; i++) {
            desk.addOrder(0, 0, 0, 0);
            CHECK.is("30: orders", i, desk.orders());
        }
        for (int i = 1; i <= 20; i++) {
            desk.addPerson(0);
            CHECK.is("31: people", i, desk.people());
        }
        desk.turnOrder(0);
        CHECK.is("30: the lifted too", 10, desk.orders());
        CHECK.is("29: quarters still", 6, desk.quarters());
        CHECK.is("31: people still", 20, desk.people());
    }

    private static void promise32OrdersOn() {
        CurfewDesk desk = Towns.of(2, 0);
        CHECK.is("32: no orders", 0, desk.ordersOn());
        desk.addOrder(0, 0, 0, 0);
        desk.addOrder(1, 0, 1, 0);
        desk.addOrder(1, 0, 2, 0);
        CHECK.is("32: all", 3, desk.ordersOn());
        desk.turnExempt(0, 0);
        CHECK.is("32: one that bars nobody too", 3, desk.ordersOn());
        desk.turnOrder(1);
        CHECK.is("32: but for the lifted", 2, desk.ordersOn());
        desk.pass(14);
        CHECK.is("32: behind dawn", 1, desk.ordersOn());
        desk.pass(2);
        CHECK.is("32: by day", 0, desk.ordersOn());
    }

    private static void promise33Shift() {
        CurfewDesk desk = new CurfewDesk();
        CHECK.is("33: at first", 0, desk.shift());
        desk.setShift(-4);
        CHECK.is("33: least", -4, desk.shift());
        desk.setShift(4);
        CHECK.is("33: most", 4, desk.shift());
        desk.pass(200);
        CHECK.is("33: it stays", 4, desk.shift());
    }

    private static void promise34AllOwe() {
        CurfewDesk desk = Towns.of(1, 0, 0, 1);
        desk.addOrder(0, 0, 0, 0);
        desk.turnExempt(0, 1);
        CHECK.is("34: nothing", 0, desk.allOwe());
        desk.goOut(0, 0);
        CHECK.is("34: one fine", 10, desk.allOwe());
        desk.goOut(1, 0);
        CHECK.is("34: of two people", 20, desk.allOwe());
        desk.goOut(2, 0);
        CHECK.is("34: not of the exempt", 20, desk.allOwe());
        desk.goOut(0, 0);
        CHECK.is("34: a second fine", 40, desk.allOwe());
    }

    private static void promise35StampsUsed() {
        CurfewDesk desk = Towns.of(1, 0, 0);
        int[] colours = {3, 3, 1};
        for (int colour : colours) {
            desk.addOrder(0, 0, 0, colour);
        }
        desk.givePass(0, 3, 9);
        desk.givePass(1, 3, 1);
        desk.givePass(1, 1, 9);
        desk.goOut(0, 0);
        desk.goOut(1, 0);
        CHECK.is("35: of 3", 3, desk.stampsUsed(3));
        CHECK.is("35: of 1", 1, desk.stampsUsed(1));
        CHECK.is("35: of 0", 0, desk.stampsUsed(0));
        CHECK.is("35: of 2", 0, desk.stampsUsed(2));
        desk.takePass(0, 3);
        CHECK.is("35: what is taken is not used", 3, desk.stampsUsed(3));
        for (int i = 0; i < 12; i++) {
            desk.givePass(1, 1, 1);
            desk.goOut(1, 0);
        }
        CHECK.is("35: more than a pass holds", 13, desk.stampsUsed(1));
        CHECK.noSuch("35: colour 4", desk, () -> desk.stampsUsed(4));
        for (int n : Towns.NEVER) {
            CHECK.noSuch("35: colour " + n, desk, () -> desk.stampsUsed(n));
        }
    }
}
