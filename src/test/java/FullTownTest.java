/** Each call in a town that is full, at its last numbers: where rows end. */
public final class FullTownTest {
    private static final Check CHECK = new Check();

    public static void main(String[] args) {
        CurfewDesk desk = fullTown();
        asksAll(desk);
        changesAll(desk);
        CHECK.finish();
    }

    private static CurfewDesk fullTown() {
        CurfewDesk desk = Towns.of(6);
        for (int i = 0; i < 20; i++) {
            desk.addPerson(7);
        }
        for (int i = 0; i < 10; i++) {
            desk.addOrder(5, 4, 4, 3);
        }
        return desk;
    }

    private static void asksAll(CurfewDesk desk) {
        CHECK.is("16: the last order", 5, desk.quarterOf(9));
        CHECK.is("17: the last order", 3, desk.colourOf(9));
        CHECK.is("18: the last order", true, desk.isInForce(9));
        CHECK.is("19: the last order", true, desk.isOn(9));
        CHECK.is("20: the last of both", false, desk.isExempt(9, 7));
        CHECK.is("21: all people", 20, desk.barredBy(9));
        CHECK.is("22: the last person", 7, desk.tradeOf(19));
        CHECK.is("23: the last of both", 0, desk.stampsOf(19, 3));
        CHECK.is("26: all orders", 10, desk.ordersAgainst(19, 5));
        CHECK.is("27: not there", false, desk.mayGo(19, 5));
        CHECK.is("27: elsewhere", true, desk.mayGo(19, 4));
        CHECK.is("28: a stamp for each order", 10, desk.stampsMissing(19, 5));
        CHECK.is("32: all orders", 10, desk.ordersOn());
        CHECK.is("36: the last of both", 18, desk.halfHoursUntilFree(19, 5));
        CHECK.is("36: elsewhere", 0, desk.halfHoursUntilFree(19, 4));
        CHECK.is("37: the last order", 36, desk.halfHoursOn(9));
        CHECK.is("38: nine would be left", -1, desk.bestLift());
        CHECK.noSuch("19: order 10", desk, () -> desk.isOn(10));
        CHECK.noSuch("22: person 20", desk, () -> desk.tradeOf(20));
        CHECK.noSuch("26: quarter 6", desk, () -> desk.ordersAgainst(19, 6));
    }

    private static void changesAll(CurfewDesk desk) {
        CHECK.is("8: the last of both", 9, desk.givePass(19, 3, 9));
        CHECK.is("28: nine of ten", 1, desk.stampsMissing(19, 5));
        CHECK.is("38: the last person gets free", 0, desk.bestLift());
        CHECK.is("10: nine stamps and a fine", 10, desk.goOut(19, 5));
        CHECK.is("35: nine of the last colour", 9, desk.stampsUsed(3));
        CHECK.is("9: none left", 0, desk.takePass(19, 3));
        CHECK.is("24: the last person", 10, desk.owes(19));
        CHECK.is("25: the last person", 1, desk.timesFined(19));
        CHECK.is("34: of all", 10, desk.allOwe());
        CHECK.is("39: of twenty", 0.5, desk.meanDebt());
        CHECK.is("5: the last of both", true, desk.turnExempt(9, 7));
        CHECK.is("21: nobody is left", 0, desk.barredBy(9));
        CHECK.is("6: the last order", false, desk.turnOrder(9));
        CHECK.is("11: nine begin on each of four days", 36, desk.pass(200));
    }
}
