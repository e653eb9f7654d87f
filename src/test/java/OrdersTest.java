/** Promises 16 to 21: what can be asked of orders. */
public final class OrdersTest {
    private static final Check CHECK = new Check();

    public static void main(String[] args) {
        promises16To18AsTheyWereMade();
        promise19IsOnByForce();
        promise19IsOnByTide();
        promise20IsExempt();
        promise21BarredBy();
        promises16To21Exceptions();
        CHECK.finish();
    }

    private static void promises16To18AsTheyWereMade() {
        CurfewDesk desk = Towns.of(6);
        for (int i = 0; i < 10; i++) {
            desk.addOrder(5 - i % 6, 0, 0, 3 - i % 4);
        }
        desk.turnOrder(4);
        for (int i = 0; i < 10; i++) {
            CHECK.is("16: quarter of " + i, 5 - i % 6, desk.quarterOf(i));
            CHECK.is("17: colour of " + i, 3 - i % 4, desk.colourOf(i));
            CHECK.is("18: in force " + i, i != 4, desk.isInForce(i));
        }
        desk.pass(20);
        CHECK.is("18: in force by day too", true, desk.isInForce(0));
    }

    private static void promise19IsOnByForce() {
        CurfewDesk desk = Towns.of(1);
        desk.addOrder(0, 0, 0, 0);
        CHECK.is("19: by night", true, desk.isOn(0));
        desk.turnOrder(0);
        CHECK.is("19: lifted", false, desk.isOn(0));
        desk.turnOrder(0);
        CHECK.is("19: put in force", true, desk.isOn(0));
        desk.turnExempt(0, 0);
        CHECK.is("19: exempting changes nothing", true, desk.isOn(0));
    }

    private static void promise19IsOnByTide() {
        CurfewDesk desk = Towns.of(1);
        desk.addOrder(0, 1, 3, 0);
        desk.setShift(2);
        // On day 17 the tide is 4: dusk at 40, dawn at 10.
        Towns.until(desk, 17, 0);
        for (int i = 0; i < 48; i++) {
            CHECK.is("19: on day 17 at " + i, i < 13 || i >= 39, desk.isOn(0));
            desk.pass(1);
        }
        // On day 24 the tide is 3 again: dusk at 39, dawn at 11.
        Towns.until(desk, 24, 0);
        for (int i = 0; i < 48; i++) {
            CHECK.is("19: on day 24 at " + i, i < 14 || i >= 38, desk.isOn(0));
            desk.pass(1);
        }
    }

    private static void promise20IsExempt() {
        CurfewDesk desk = Towns.of(1);
        desk.addOrder(0, 0, 0, 0);
        desk.addOrder(0, 0, 0, 0);
        desk.turnExempt(1, 0);
        desk.turnExempt(1, 7);
        for (int trade = 0; trade < 8; trade++) {
            CHECK.is("20: of order 0", false, desk.isExempt(0, trade));
            CHECK.is("20: of order 1", trade == 0 || trade == 7, desk.isExempt(1, trade));
        }
        desk.turnExempt(1, 7);
        CHECK.is("20: not any more", false, desk.isExempt(1, 7));
        desk.turnOrder(1);
        CHECK.is("20: of a lifted order too", true, desk.isExempt(1, 0));
    }

    private static void promise21BarredBy() {
        CurfewDesk desk = Towns.of(2);
        desk.addOrder(1, 0, 0, 0);
        CHECK.is("21: without people", 0, desk.barredBy(0));
        int[] trades = {3, 3, 4, 5};
        for (int trade : trades) {
            desk.addPerson(trade);
        }
        CHECK.is("21: all", 4, desk.barredBy(0));
        desk.turnExempt(0, 3);
        CHECK.is("21: but for the exempt", 2, desk.barredBy(0));
        desk.turnExempt(0, 7);
        CHECK.is("21: nobody of that trade", 2, desk.barredBy(0));
        desk.givePass(2, 0, 9);
        CHECK.is("21: a pass is no exemption", 2, desk.barredBy(0));
        desk.turnOrder(0);
        CHECK.is("21: lifted", 0, desk.barredBy(0));
        desk.turnOrder(0);
        desk.pass(14);
        CHECK.is("21: not on", 0, desk.barredBy(0));
    }

    private static void promises16To21Exceptions() {
        CurfewDesk desk = Towns.of(1);
        refusesOrder(desk, 0);
        desk.addOrder(0, 0, 0, 0);
        refusesOrder(desk, 1);
        for (int n : Towns.NEVER) {
            refusesOrder(desk, n);
            CHECK.noSuch("20: trade " + n, desk, () -> desk.isExempt(0, n));
        }
        CHECK.noSuch("20: trade 8", desk, () -> desk.isExempt(0, 8));
    }

    private static void refusesOrder(CurfewDesk desk, int order) {
        CHECK.noSuch("16: order " + order, desk, () -> desk.quarterOf(order));
        CHECK.noSuch("17: order " + order, desk, () -> desk.colourOf(order));
        CHECK.noSuch("18: order " + order, desk, () -> desk.isInForce(order));
        CHECK.noSuch("19: order " + order, desk, () -> desk.isOn(order));
        CHECK.noSuch("20: order " + order, desk, () -> desk.isExempt(order, 0));
        CHECK.noSuch("21: order " + order, desk, () -> desk.barredBy(order));
    }
}
