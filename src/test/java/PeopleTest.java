/** Promises 22 to 28: what can be asked of people. */
public final class PeopleTest {
    private static final Check CHECK = new Check();

    public static void main(String[] args) {
        promises22And23TradesAndStamps();
        promises24And25Debts();
        promise26OrdersAgainst();
        promises27And28WithoutOrders();
        promises27And28ByColours();
        promises27And28TellWhatGoOutDoes();
        promises22To28Exceptions();
        CHECK.finish();
    }

    private static void promises22And23TradesAndStamps() {
        CurfewDesk desk = new CurfewDesk();
        for (int i = 0; i < 20; i++) {
            desk.addPerson(7 - i % 8);
            for (int colour = 0; colour < 4; colour++) {
                desk.givePass(i, colour, 1 + (i + 2 * colour) % 9);
            }
        }
        for (int i = 0; i < 20; i++) {
            CHECK.is("22: trade of " + i, 7 - i % 8, desk.tradeOf(i));
            for (int colour = 0; colour < 4; colour++) {
                CHECK.is("23: stamps", 1 + (i + 2 * colour) % 9, desk.stampsOf(i, colour));
            }
        }
    }

    private static void promises24And25Debts() {
        CurfewDesk desk = Towns.of(1, 0, 0, 0);
        desk.addOrder(0, 0, 0, 0);
        desk.goOut(2, 0);
        desk.goOut(2, 0);
        desk.goOut(0, 0);
        desk.givePass(1, 0, 1);
        desk.goOut(1, 0);
        CHECK.is("24: one fine", 10, desk.owes(0));
        CHECK.is("24: no fine", 0, desk.owes(1));
        CHECK.is("24: two fines", 30, desk.owes(2));
        CHECK.is("25: once", 1, desk.timesFined(0));
        CHECK.is("25: never", 0, desk.timesFined(1));
        CHECK.is("25: twice", 2, desk.timesFined(2));
    }

    private static void promise26OrdersAgainst() {
        CurfewDesk desk = Towns.of(2, 1, 2);
        CHECK.is("26: no orders", 0, desk.ordersAgainst(0, 0));
        desk.addOrder(0, 0, 0, 0);
        desk.addOrder(0, 0, 2, 0);
        desk.addOrder(1, 0, 4, 0);
        CHECK.is("26: of quarter 0", 2, desk.ordersAgainst(0, 0));
        CHECK.is("26: of quarter 1", 1, desk.ordersAgainst(0, 1));
        desk.turnExempt(0, 1);
        CHECK.is("26: exempt from one", 1, desk.ordersAgainst(0, 0));
        CHECK.is("26: not that one", 2, desk.ordersAgainst(1, 0));
        desk.givePass(1, 0, 9);
        CHECK.is("26: stamps don't count", 2, desk.ordersAgainst(1, 0));
        desk.pass(15);
        CHECK.is("26: one is not on", 1, desk.ordersAgainst(1, 0));
        desk.turnOrder(1);
        CHECK.is("26: the other is lifted", 0, desk.ordersAgainst(1, 0));
        CHECK.is("26: the last", 1, desk.ordersAgainst(1, 1));
    }

    private static void promises27And28WithoutOrders() {
        CurfewDesk desk = Towns.of(2, 0);
        CHECK.is("27: no orders", true, desk.mayGo(0, 0));
        CHECK.is("28: no orders", 0, desk.stampsMissing(0, 0));
        desk.addOrder(0, 0, 0, 0);
        CHECK.is("27: barred", false, desk.mayGo(0, 0));
        CHECK.is("28: barred", 1, desk.stampsMissing(0, 0));
        CHECK.is("27: another quarter", true, desk.mayGo(0, 1));
        CHECK.is("28: another quarter", 0, desk.stampsMissing(0, 1));
        desk.turnExempt(0, 0);
        CHECK.is("27: exempt", true, desk.mayGo(0, 0));
        CHECK.is("28: exempt", 0, desk.stampsMissing(0, 0));
        desk.turnExempt(0, 0);
        desk.pass(14);
        CHECK.is("27: not on", true, desk.mayGo(0, 0));
        CHECK.is("28: not on", 0, desk.stampsMissing(0, 0));
    }

    private static void promises27And28ByColours() {
        CurfewDesk desk = Towns.of(1, 0, 0);
        int[] colours = {0, 0, 0, 1, 2, 2};
        for (int colour : colours) {
            desk.addOrder(0, 0, 0, colour);
        }
        CHECK.is("28: all six", 6, desk.stampsMissing(0, 0));
        desk.givePass(0, 3, 9);
        CHECK.is("28: none of another colour", 6, desk.stampsMissing(0, 0));
        desk.givePass(0, 1, 9);
        CHECK.is("28: many of one colour don't help others", 5, desk.stampsMissing(0, 0));
        desk.givePass(0, 0, 2);
        CHECK.is("28: two of three", 3, desk.stampsMissing(0, 0));
        CHECK.is("27: some are missing", false, desk.mayGo(0, 0));
        desk.givePass(0, 2, 2);
        CHECK.is("28: one", 1, desk.stampsMissing(0, 0));
        CHECK.is("27: one is missing", false, desk.mayGo(0, 0));
        desk.givePass(0, 0, 1);
        CHECK.is("28: none", 0, desk.stampsMissing(0, 0));
        CHECK.is("27: none is missing", true, desk.mayGo(0, 0));
        CHECK.is("28: of another person all", 6, desk.stampsMissing(1, 0));
        CHECK.is("27: another person", false, desk.mayGo(1, 0));
        CHECK.is("28: asking uses none", 3, desk.stampsOf(0, 0));
    }

    private static void promises27And28TellWhatGoOutDoes() {
        CurfewDesk desk = Towns.of(1, 0);
        desk.addOrder(0, 0, 0, 0);
        desk.addOrder(0, 0, 0, 1);
        desk.givePass(0, 0, 2);
        desk.givePass(0, 1, 1);
        CHECK.is("27: may go", true, desk.mayGo(0, 0));
        CHECK.is("27: and is not fined", 0, desk.goOut(0, 0));
        CHECK.is("27: may not go", false, desk.mayGo(0, 0));
        CHECK.is("28: lacks one", 1, desk.stampsMissing(0, 0));
        CHECK.is("27: and is fined", 10, desk.goOut(0, 0));
        CHECK.is("28: lacks two", 2, desk.stampsMissing(0, 0));
    }

    private static void promises22To28Exceptions() {
        CurfewDesk desk = new CurfewDesk();
        desk.addPerson(0);
        CHECK.noSuch("26: no quarters", desk, () -> desk.ordersAgainst(0, 0));
        CHECK.noSuch("27: no quarters", desk, () -> desk.mayGo(0, 0));
        CHECK.noSuch("28: no quarters", desk, () -> desk.stampsMissing(0, 0));
        desk.addQuarter();
        refusesPerson(desk, 1);
        refusesQuarter(desk, 1);
        CHECK.noSuch("23: colour 4", desk, () -> desk.stampsOf(0, 4));
        for (int n : Towns.NEVER) {
            refusesPerson(desk, n);
            refusesQuarter(desk, n);
            CHECK.noSuch("23: colour " + n, desk, () -> desk.stampsOf(0, n));
        }
    }

    private static void refusesPerson(CurfewDesk desk, int person) {
        CHECK.noSuch("22: person " + person, desk, () -> desk.tradeOf(person));
        CHECK.noSuch("23: person " + person, desk, () -> desk.stampsOf(person, 0));
        CHECK.noSuch("24: person " + person, desk, () -> desk.owes(person));
        CHECK.noSuch("25: person " + person, desk, () -> desk.timesFined(person));
        CHECK.noSuch("26: person " + person, desk, () -> desk.ordersAgainst(person, 0));
        CHECK.noSuch("27: person " + person, desk, () -> desk.mayGo(person, 0));
        CHECK.noSuch("28: person " + person, desk, () -> desk.stampsMissing(person, 0));
    }

    private static void refusesQuarter(CurfewDesk desk, int quarter) {
        CHECK.noSuch("26: quarter " + quarter, desk, () -> desk.ordersAgainst(0, quarter));
        CHECK.noSuch("27: quarter " + quarter, desk, () -> desk.mayGo(0, quarter));
        CHECK.noSuch("28: quarter " + quarter, desk, () -> desk.stampsMissing(0, quarter));
    }
}
