import java.util.function.Consumer;

/** A town without quarters, orders and people: what it answers, and that it refuses the rest. */
public final class EmptyTownTest {
    private static final Check CHECK = new Check();
    private static final Refusal REFUSAL = new Refusal(CHECK);

    public static void main(String[] args) {
        promise1WhatThereIs();
        promise1TwoTownsShareNothing();
        promise11TimeGoesByAllTheSame();
        promises2To4TheFirstOfEach();
        refusesEachOrder();
        refusesEachPerson();
        promise4RefusesAnOrderWithoutAQuarter();
        CHECK.finish();
    }

    private static void promise1WhatThereIs() {
        isEmpty(new CurfewDesk());
    }

    private static void isEmpty(CurfewDesk desk) {
        CHECK.is("1: day", 0, desk.day());
        CHECK.is("1: half hour", 0, desk.halfHour());
        CHECK.is("14: dusk", 34, desk.duskIn(0));
        CHECK.is("15: dawn", 14, desk.dawnIn(0));
        CHECK.is("29: quarters", 0, desk.quarters());
        CHECK.is("30: orders", 0, desk.orders());
        CHECK.is("31: people", 0, desk.people());
        CHECK.is("32: orders on", 0, desk.ordersOn());
        CHECK.is("33: shift", 0, desk.shift());
        CHECK.is("34: all owe", 0, desk.allOwe());
        for (int colour = 0; colour < 4; colour++) {
            CHECK.is("35: stamps used", 0, desk.stampsUsed(colour));
        }
        CHECK.is("38: best lift", -1, desk.bestLift());
        CHECK.is("39: mean debt", 0.0, desk.meanDebt());
    }

    private static void promise1TwoTownsShareNothing() {
        CurfewDesk other = Towns.full();
        other.goOut(0, 0);
        other.goOut(1, 0);
        other.setShift(2);
        other.pass(77);
        isEmpty(new CurfewDesk());
    }

    private static void promise11TimeGoesByAllTheSame() {
        CurfewDesk desk = new CurfewDesk();
        CHECK.is("11: no order begins", 0, desk.pass(200));
        CHECK.is("12: day", 4, desk.day());
        CHECK.is("13: half hour", 8, desk.halfHour());
    }

    private static void promises2To4TheFirstOfEach() {
        CHECK.is("3: a person without a quarter", 0, new CurfewDesk().addPerson(7));
        CurfewDesk desk = new CurfewDesk();
        CHECK.is("2: the first quarter", 0, desk.addQuarter());
        CHECK.is("4: the first order, without people", 0, desk.addOrder(0, 4, 4, 3));
        CHECK.is("3: the first person", 0, desk.addPerson(0));
        CHECK.is("21: whom it bars", 1, desk.barredBy(0));
    }

    private static void refusesEachOrder() {
        refuses("5: turnExempt", desk -> desk.turnExempt(0, 0));
        refuses("6: turnOrder", desk -> desk.turnOrder(0));
        refuses("16: quarterOf", desk -> desk.quarterOf(0));
        refuses("17: colourOf", desk -> desk.colourOf(0));
        refuses("18: isInForce", desk -> desk.isInForce(0));
        refuses("19: isOn", desk -> desk.isOn(0));
        refuses("20: isExempt", desk -> desk.isExempt(0, 0));
        refuses("21: barredBy", desk -> desk.barredBy(0));
        refuses("37: halfHoursOn", desk -> desk.halfHoursOn(0));
    }

    private static void refusesEachPerson() {
        refuses("8: givePass", desk -> desk.givePass(0, 0, 1));
        refuses("8: givePass, no stamps", desk -> desk.givePass(0, 0, 0));
        refuses("9: takePass", desk -> desk.takePass(0, 0));
        refuses("10: goOut", desk -> desk.goOut(0, 0));
        refuses("22: tradeOf", desk -> desk.tradeOf(0));
        refuses("23: stampsOf", desk -> desk.stampsOf(0, 0));
        refuses("24: owes", desk -> desk.owes(0));
        refuses("25: timesFined", desk -> desk.timesFined(0));
        refuses("26: ordersAgainst", desk -> desk.ordersAgainst(0, 0));
        refuses("27: mayGo", desk -> desk.mayGo(0, 0));
        refuses("28: stampsMissing", desk -> desk.stampsMissing(0, 0));
        refuses("36: halfHoursUntilFree", desk -> desk.halfHoursUntilFree(0, 0));
    }

    private static void promise4RefusesAnOrderWithoutAQuarter() {
        refuses("4: addOrder", desk -> desk.addOrder(0, 0, 0, 0));
        refuses("4: addOrder, ahead 5", desk -> desk.addOrder(0, 5, 0, 0));
        refuses("4: addOrder, behind 5", desk -> desk.addOrder(0, 0, 5, 0));
    }

    private static void refuses(String what, Consumer<CurfewDesk> call) {
        REFUSAL.is(what, IndexOutOfBoundsException.class, CurfewDesk::new, call);
    }
}
