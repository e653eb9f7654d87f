import java.util.function.Consumer;
import java.util.function.Supplier;

/**
 * Each argument of each call: the least and the greatest number that the call takes, and the first
 * ones beyond, which it refuses and which change nothing. Quarters, orders and people are numbered
 * in a full town, in a town of one each, and in a town without any.
 */
public final class ArgumentEdgesTest {
    private static final Check CHECK = new Check();
    private static final Refusal REFUSAL = new Refusal(CHECK);

    /** A call with one argument left open; the others are such that it takes them. */
    private interface Call {
        void with(CurfewDesk desk, int argument);
    }

    public static void main(String[] args) {
        promises3And4WhatIsAdded();
        tradesColoursAndRanges();
        numbersOfOrders(Towns::full, 10);
        numbersOfOrders(Towns::single, 1);
        numbersOfOrders(Towns::withoutOrders, 0);
        numbersOfPeople(Towns::full, 20);
        numbersOfPeople(Towns::single, 1);
        numbersOfPeople(Towns::withoutPeople, 0);
        numbersOfQuarters(Towns::full, 6);
        numbersOfQuarters(Towns::single, 1);
        numbersOfQuarters(Towns::withoutQuarters, 0);
        CHECK.finish();
    }

    private static void promises3And4WhatIsAdded() {
        Supplier<CurfewDesk> town = Towns::nearlyFull;
        numbers("3: addPerson, trade", town, 8, (desk, n) -> desk.addPerson(n));
        range("4: addOrder, ahead", town, 0, 4, (desk, n) -> desk.addOrder(0, n, 0, 0));
        range("4: addOrder, behind", town, 0, 4, (desk, n) -> desk.addOrder(0, 0, n, 0));
        numbers("4: addOrder, colour", town, 4, (desk, n) -> desk.addOrder(0, 0, 0, n));
        Call inQuarter = (desk, n) -> desk.addOrder(n, 0, 0, 0);
        numbers("4: addOrder, quarter", town, 6, inQuarter);
        numbers("4: addOrder, quarter", Towns::single, 1, inQuarter);
        numbers("4: addOrder, quarter", Towns::withoutQuarters, 0, inQuarter);
    }

    private static void tradesColoursAndRanges() {
        Supplier<CurfewDesk> town = Towns::full;
        numbers("5: turnExempt, trade", town, 8, (desk, n) -> desk.turnExempt(0, n));
        range("7: setShift", town, -4, 4, (desk, n) -> desk.setShift(n));
        numbers("8: givePass, colour", town, 4, (desk, n) -> desk.givePass(0, n, 1));
        range("8: givePass, stamps", town, 1, 9, (desk, n) -> desk.givePass(0, 0, n));
        numbers("9: takePass, colour", town, 4, (desk, n) -> desk.takePass(0, n));
        range("11: pass", town, 1, 200, (desk, n) -> desk.pass(n));
        range("14: duskIn", town, 0, 99, (desk, n) -> desk.duskIn(n));
        range("15: dawnIn", town, 0, 99, (desk, n) -> desk.dawnIn(n));
        numbers("20: isExempt, trade", town, 8, (desk, n) -> desk.isExempt(0, n));
        numbers("23: stampsOf, colour", town, 4, (desk, n) -> desk.stampsOf(0, n));
        numbers("35: stampsUsed", town, 4, (desk, n) -> desk.stampsUsed(n));
    }

    private static void numbersOfOrders(Supplier<CurfewDesk> town, int orders) {
        numbers("5: turnExempt, order", town, orders, (desk, n) -> desk.turnExempt(n, 0));
        numbers("6: turnOrder", town, orders, (desk, n) -> desk.turnOrder(n));
        numbers("16: quarterOf", town, orders, (desk, n) -> desk.quarterOf(n));
        numbers("17: colourOf", town, orders, (desk, n) -> desk.colourOf(n));
        numbers("18: isInForce", town, orders, (desk, n) -> desk.isInForce(n));
        numbers("19: isOn", town, orders, (desk, n) -> desk.isOn(n));
        numbers("20: isExempt, order", town, orders, (desk, n) -> desk.isExempt(n, 0));
        numbers("21: barredBy", town, orders, (desk, n) -> desk.barredBy(n));
        numbers("37: halfHoursOn", town, orders, (desk, n) -> desk.halfHoursOn(n));
    }

    private static void numbersOfPeople(Supplier<CurfewDesk> town, int people) {
        numbers("8: givePass, person", town, people, (desk, n) -> desk.givePass(n, 0, 1));
        numbers("9: takePass, person", town, people, (desk, n) -> desk.takePass(n, 0));
        numbers("10: goOut, person", town, people, (desk, n) -> desk.goOut(n, 0));
        numbers("22: tradeOf", town, people, (desk, n) -> desk.tradeOf(n));
        numbers("23: stampsOf, person", town, people, (desk, n) -> desk.stampsOf(n, 0));
        numbers("24: owes", town, people, (desk, n) -> desk.owes(n));
        numbers("25: timesFined", town, people, (desk, n) -> desk.timesFined(n));
        numbers("26: ordersAgainst, person", town, people, (desk, n) -> desk.ordersAgainst(n, 0));
        numbers("27: mayGo, person", town, people, (desk, n) -> desk.mayGo(n, 0));
        numbers("28: stampsMissing, person", town, people, (desk, n) -> desk.stampsMissing(n, 0));
        numbers("36: halfHoursUntilFree, person", town, people,
                (desk, n) -> desk.halfHoursUntilFree(n, 0));
    }

    private static void numbersOfQuarters(Supplier<CurfewDesk> town, int quarters) {
        numbers("10: goOut, quarter", town, quarters, (desk, n) -> desk.goOut(0, n));
        numbers("26: ordersAgainst, quarter", town, quarters,
                (desk, n) -> desk.ordersAgainst(0, n));
        numbers("27: mayGo, quarter", town, quarters, (desk, n) -> desk.mayGo(0, n));
        numbers("28: stampsMissing, quarter", town, quarters,
                (desk, n) -> desk.stampsMissing(0, n));
        numbers("36: halfHoursUntilFree, quarter", town, quarters,
                (desk, n) -> desk.halfHoursUntilFree(0, n));
    }

    /** An argument that numbers one of so many things, from 0. */
    private static void numbers(String what, Supplier<CurfewDesk> town, int count, Call call) {
        edges(what, IndexOutOfBoundsException.class, town, 0, count - 1, call);
    }

    private static void range(String what, Supplier<CurfewDesk> town, int least, int most,
            Call call) {
        edges(what, IllegalArgumentException.class, town, least, most, call);
    }

    private static void edges(String what, Class<?> due, Supplier<CurfewDesk> town, int least,
            int most, Call call) {
        if (least <= most) {
            takes(what, town.get(), least, call);
            takes(what, town.get(), most, call);
        }
        int[] beyond = {least - 1, most + 1, Integer.MIN_VALUE, Integer.MAX_VALUE};
        for (int n : beyond) {
            Consumer<CurfewDesk> refused = desk -> call.with(desk, n);
            REFUSAL.is(what + " " + n + " of " + least + " to " + most, due, town, refused);
        }
    }

    private static void takes(String what, CurfewDesk desk, int argument, Call call) {
        try {
            call.with(desk, argument);
        } catch (RuntimeException e) {
            CHECK.fail(what + " " + argument + " is taken, thrown was " + e.getClass());
        }
    }
}
