import java.math.BigInteger;

/** The edges of what would be: none, one, the longest, the last of 48, ties, the wrap-around. */
public final class WouldBeEdgesTest {
    private static final Check CHECK = new Check();

    public static void main(String[] args) {
        promise36NoneNow();
        promise36AtTheEdgesOfANight();
        promise36TheLongest();
        promise36OrdersThatOverlap();
        promise36OverMidnightWithTheTide();
        promise37AnyTimeOfADay();
        promise37TheLeastAndTheMost();
        promise37ThisOneAsWellAndNotTheNext();
        promise37Lifted();
        promise38NoneMoreThanNow();
        promise38OfSeveralTheSmallest();
        promise38OneAndNoneToSpare();
        promise38AtTheEdgesOfANight();
        promise39WithoutAny();
        promise39NotWhole();
        promise40OfAnEmptyTown();
        promise40WrapsAround();
        promise40OneMoreOfEach();
        promise40OnTheDayAheadOfATurn();
        CHECK.finish();
    }

    /** "0 if none does now". */
    private static void promise36NoneNow() {
        CHECK.is("36: no orders", 0, Towns.withoutOrders().halfHoursUntilFree(0, 0));
        CurfewDesk desk = Towns.withOrder(0, 0, 0);
        desk.turnExempt(0, 0);
        CHECK.is("36: exempt", 0, desk.halfHoursUntilFree(0, 0));
        desk.turnExempt(0, 0);
        desk.turnOrder(0);
        CHECK.is("36: lifted", 0, desk.halfHoursUntilFree(0, 0));
    }

    private static void promise36AtTheEdgesOfANight() {
        CurfewDesk desk = Towns.withOrder(0, 0, 0);
        desk.givePass(0, 0, 9);
        int[][] due = {{0, 14}, {13, 1}, {14, 0}, {33, 0}, {34, 28}, {47, 15}};
        for (int[] d : due) {
            Towns.until(desk, 0, d[0]);
            CHECK.is("36: at " + d[0], d[1], desk.halfHoursUntilFree(0, 0));
        }
    }

    private static void promise36TheLongest() {
        CurfewDesk desk = Towns.withOrder(4, 4, 0);
        desk.setShift(-4);
        Towns.until(desk, 0, 25);
        CHECK.is("36: one ahead of it", 0, desk.halfHoursUntilFree(0, 0));
        desk.pass(1);
        CHECK.is("36: the longest", 40, desk.halfHoursUntilFree(0, 0));
        desk.pass(39);
        CHECK.is("36: its last half hour", 1, desk.halfHoursUntilFree(0, 0));
        desk.pass(1);
        CHECK.is("36: behind it", 0, desk.halfHoursUntilFree(0, 0));
    }

    /** "for the first time": of several orders, when none is on, not when one ends. */
    private static void promise36OrdersThatOverlap() {
        CurfewDesk desk = Towns.withOrder(4, 0, 0);
        desk.addOrder(0, 0, 4, 1);
        desk.addQuarter();
        desk.addOrder(1, 0, 1, 1);
        CHECK.is("36: the later end", 18, desk.halfHoursUntilFree(0, 0));
        CHECK.is("36: another quarter's", 15, desk.halfHoursUntilFree(0, 1));
        Towns.until(desk, 0, 17);
        CHECK.is("36: only one of them", 1, desk.halfHoursUntilFree(0, 0));
        Towns.until(desk, 0, 30);
        CHECK.is("36: the earlier begin, the later end", 36, desk.halfHoursUntilFree(0, 0));
    }

    private static void promise36OverMidnightWithTheTide() {
        CurfewDesk desk = Towns.withOrder(0, 0, 0);
        Towns.until(desk, 3, 47);
        CHECK.is("36: the dawn of day 4 is one earlier", 14, desk.halfHoursUntilFree(0, 0));
        desk.pass(1);
        CHECK.is("36: on day 4", 13, desk.halfHoursUntilFree(0, 0));
        Towns.until(desk, 23, 47);
        CHECK.is("36: the dawn of day 24 is one later", 12, desk.halfHoursUntilFree(0, 0));
        Towns.until(desk, 39, 47);
        CHECK.is("36: the dawn of day 40 is as before", 15, desk.halfHoursUntilFree(0, 0));
    }

    /** "of the 48 that begin now": one of each half hour of a day, while the tide stands. */
    private static void promise37AnyTimeOfADay() {
        CurfewDesk desk = Towns.withOrder(1, 2);
        for (int i = 0; i < 3 * 48; i++) {
            CHECK.is("37: at " + i, 31, desk.halfHoursOn(0));
            desk.pass(1);
        }
    }

    private static void promise37TheLeastAndTheMost() {
        CurfewDesk least = Towns.withOrder(0, 0);
        least.setShift(4);
        Towns.until(least, 19, 0);
        CHECK.is("37: the least", 16, least.halfHoursOn(0));
        CurfewDesk most = Towns.withOrder(4, 4);
        most.setShift(-4);
        CHECK.is("37: the most", 40, most.halfHoursOn(0));
    }

    /** "this one as well": and so not the one that is a day from now. */
    private static void promise37ThisOneAsWellAndNotTheNext() {
        CurfewDesk desk = Towns.withOrder(0, 0);
        Towns.until(desk, 3, 13);
        CHECK.is("37: at 13 on day 3, which is dark, on day 4 not", 28, desk.halfHoursOn(0));
        desk.pass(1);
        CHECK.is("37: without it", 27, desk.halfHoursOn(0));
        Towns.until(desk, 3, 34);
        CHECK.is("37: at 34 on day 3, which is dark, on day 4 not", 27, desk.halfHoursOn(0));
        desk.pass(1);
        CHECK.is("37: without it too", 26, desk.halfHoursOn(0));
        Towns.until(desk, 23, 37);
        CHECK.is("37: at 37 on day 23, which is light, on day 24 not", 21, desk.halfHoursOn(0));
        desk.pass(1);
        CHECK.is("37: with that of day 24", 22, desk.halfHoursOn(0));
    }

    /** "if it is in force all the time". */
    private static void promise37Lifted() {
        CurfewDesk desk = Towns.withOrder(0, 0);
        desk.turnOrder(0);
        CHECK.is("37: lifted", 28, desk.halfHoursOn(0));
        CHECK.is("32: it stays lifted", 0, desk.ordersOn());
        CHECK.is("18: it stays lifted", false, desk.isInForce(0));
    }

    /** "-1 if by none there would be more than now". */
    private static void promise38NoneMoreThanNow() {
        CHECK.is("38: an empty town", -1, new CurfewDesk().bestLift());
        CHECK.is("38: no quarters", -1, Towns.withoutQuarters().bestLift());
        CHECK.is("38: no people", -1, Towns.withoutPeople().bestLift());
        CHECK.is("38: no orders", -1, Towns.withoutOrders().bestLift());
        CurfewDesk desk = Towns.withOrder(0, 0, 0);
        CHECK.is("38: one more", 0, desk.bestLift());
        desk.turnOrder(0);
        CHECK.is("38: lifted already", -1, desk.bestLift());
        desk.turnOrder(0);
        desk.turnExempt(0, 0);
        CHECK.is("38: exempt already", -1, desk.bestLift());
        desk.turnExempt(0, 0);
        desk.givePass(0, 0, 1);
        CHECK.is("38: a stamp already", -1, desk.bestLift());
    }

    private static void promise38OfSeveralTheSmallest() {
        CurfewDesk desk = Towns.of(5, 0, 1);
        for (int i = 0; i < 5; i++) {
            desk.addOrder(i, 0, 0, 0);
        }
        CHECK.is("38: all alike", 0, desk.bestLift());
        desk.turnOrder(0);
        CHECK.is("38: all alike but one", 1, desk.bestLift());
        desk.turnExempt(1, 0);
        desk.turnExempt(4, 0);
        CHECK.is("38: two alike, better than the one ahead", 2, desk.bestLift());
        desk.turnExempt(2, 0);
        CHECK.is("38: the only one of two people", 3, desk.bestLift());
        desk.turnExempt(3, 0);
        CHECK.is("38: all alike, of one person", 1, desk.bestLift());
        desk.turnExempt(1, 1);
        desk.turnExempt(2, 1);
        desk.turnExempt(3, 1);
        CHECK.is("38: the last", 4, desk.bestLift());
    }

    private static void promise38OneAndNoneToSpare() {
        CurfewDesk desk = Towns.of(1, 0);
        for (int i = 0; i < 3; i++) {
            desk.addOrder(0, 0, 0, 1);
        }
        desk.addOrder(0, 0, 0, 2);
        desk.givePass(0, 2, 1);
        desk.givePass(0, 1, 1);
        CHECK.is("38: two are missing", -1, desk.bestLift());
        desk.givePass(0, 1, 1);
        CHECK.is("38: one is missing", 0, desk.bestLift());
        desk.takePass(0, 2);
        CHECK.is("38: one of each of two colours", -1, desk.bestLift());
        desk.givePass(0, 1, 1);
        CHECK.is("38: one of the last colour", 3, desk.bestLift());
        desk.givePass(0, 2, 1);
        CHECK.is("38: none is missing", -1, desk.bestLift());
    }

    private static void promise38AtTheEdgesOfANight() {
        CurfewDesk desk = Towns.withOrder(0, 0, 0);
        Towns.until(desk, 0, 13);
        CHECK.is("38: the last half hour ahead of dawn", 0, desk.bestLift());
        desk.pass(1);
        CHECK.is("38: dawn", -1, desk.bestLift());
        Towns.until(desk, 0, 33);
        CHECK.is("38: the last half hour ahead of dusk", -1, desk.bestLift());
        desk.pass(1);
        CHECK.is("38: dusk", 0, desk.bestLift());
    }

    /** "0 without any". */
    private static void promise39WithoutAny() {
        CHECK.is("39: an empty town", 0.0, new CurfewDesk().meanDebt());
        CHECK.is("39: orders, no people", 0.0, Towns.withoutPeople().meanDebt());
        CHECK.is("39: one person without debts", 0.0, Towns.of(0, 0).meanDebt());
        CHECK.is("39: two people without debts", 0.0, Towns.of(0, 0, 0).meanDebt());
    }

    private static void promise39NotWhole() {
        CurfewDesk desk = Towns.withOrder(0, 0, 0);
        desk.goOut(0, 0);
        for (int people = 1; people <= 20; people++) {
            CHECK.is("39: 10 by " + people, 10.0 / people, desk.meanDebt());
            if (people < 20) {
                desk.addPerson(0);
            }
        }
        desk.goOut(19, 0);
        desk.goOut(19, 0);
        CHECK.is("39: 40 by 20", 2.0, desk.meanDebt());
    }

    private static void promise40OfAnEmptyTown() {
        CurfewDesk desk = new CurfewDesk();
        CHECK.is("40: an empty town", wrapped(0, 0, 34, 14, 0, 0, 0, 0, 0, 0, 0, 0, 0),
                desk.digest());
        desk.setShift(-4);
        CHECK.is("40: a number below 0", wrapped(0, 0, 30, 14, 0, 0, 0, 0, -4, 0, 0, 0, 0),
                desk.digest());
        desk.pass(47);
        CHECK.is("40: the last half hour", wrapped(0, 47, 30, 14, 0, 0, 0, 0, -4, 0, 0, 0, 0),
                desk.digest());
        desk.pass(1);
        CHECK.is("40: the next day", wrapped(1, 0, 30, 14, 0, 0, 0, 0, -4, 0, 0, 0, 0),
                desk.digest());
    }

    /** "d becomes d * 31 + x, which wraps around as a 64-bit integer". */
    private static void promise40WrapsAround() {
        int[] town = {0, 0, 34, 14, 1, 1, 1, 1, 0, 0, 0, 0, 0};
        int[] order = {0, 0, 1, 1, 1, 0, 0, 0, 0, 0, 0, 0, 0};
        int[] person = {0, 0, 0, 0, 0, 0, 0, 1};
        CurfewDesk desk = Towns.withOrder(0, 0, 0);
        CHECK.is("40: many times over", wrapped(joined(town, order, person)), desk.digest());
        desk.turnExempt(0, 7);
        order[4 + 8] = 1;
        CHECK.is("40: an exempt trade counts 1", wrapped(joined(town, order, person)),
                desk.digest());
        desk.turnOrder(0);
        town[7] = 0;
        order[2] = 0;
        order[3] = 0;
        order[4] = 0;
        person[7] = 0;
        CHECK.is("40: lifted, not on, bars nobody", wrapped(joined(town, order, person)),
                desk.digest());
    }

    /** "for each": none of them, and one more. */
    private static void promise40OneMoreOfEach() {
        CurfewDesk desk = Towns.of(1);
        int[] town = {0, 0, 34, 14, 1, 0, 0, 0, 0, 0, 0, 0, 0};
        CHECK.is("40: a quarter", wrapped(town), desk.digest());
        desk.addPerson(7);
        town[6] = 1;
        int[] first = {7, 0, 0, 0, 0, 0, 0, 0};
        CHECK.is("40: a person", wrapped(joined(town, first)), desk.digest());
        desk.addPerson(1);
        town[6] = 2;
        int[] second = {1, 0, 0, 0, 0, 0, 0, 0};
        CHECK.is("40: a second", wrapped(joined(town, first, second)), desk.digest());
        desk.givePass(1, 3, 9);
        second[3 + 3] = 9;
        CHECK.is("40: nine stamps", wrapped(joined(town, first, second)), desk.digest());
    }

    /** "duskIn(0), dawnIn(0)": those of today. */
    private static void promise40OnTheDayAheadOfATurn() {
        CurfewDesk desk = new CurfewDesk();
        Towns.until(desk, 3, 47);
        CHECK.is("40: day 3", wrapped(3, 47, 34, 14, 0, 0, 0, 0, 0, 0, 0, 0, 0), desk.digest());
        desk.pass(1);
        CHECK.is("40: day 4", wrapped(4, 0, 35, 13, 0, 0, 0, 0, 0, 0, 0, 0, 0), desk.digest());
    }

    private static int[] joined(int[]... parts) {
        int length = 0;
        for (int[] part : parts) {
            length += part.length;
        }
        int[] all = new int[length];
        int at = 0;
        for (int[] part : parts) {
            for (int x : part) {
                all[at++] = x;
            }
        }
        return all;
    }

    /** The number as it would be without an end, of which the last 64 bits are left. */
    private static long wrapped(int... numbers) {
        BigInteger d = BigInteger.valueOf(1879);
        for (int x : numbers) {
            d = d.multiply(BigInteger.valueOf(31)).add(BigInteger.valueOf(x));
        }
        CHECK.is("40: more than 64 bits", true, d.bitLength() > 64);
        return d.longValue();
    }
}
