/** Promises 36 to 40: what would be. */
public final class WouldBeTest {
    private static final Check CHECK = new Check();

    public static void main(String[] args) {
        promise36UntilFree();
        promise36UntilFreeOverDays();
        promise36Exceptions();
        promise37HalfHoursOn();
        promise37HalfHoursOnOverDays();
        promise37Exceptions();
        promise38BestLift();
        promise38BestLiftByStamps();
        promise38BestLiftByPairs();
        promise38NoLiftHelps();
        promise39MeanDebt();
        promise40DigestOfANewTown();
        promise40DigestByItsWords();
        CHECK.finish();
    }

    private static void promise36UntilFree() {
        CurfewDesk desk = Towns.of(2, 0, 1);
        CHECK.is("36: no orders", 0, desk.halfHoursUntilFree(0, 0));
        desk.addOrder(0, 0, 0, 0);
        desk.addOrder(0, 0, 3, 1);
        desk.givePass(0, 0, 9);
        desk.givePass(0, 1, 9);
        long before = desk.digest();
        CHECK.is("36: the longer one, stamps don't count", 17, desk.halfHoursUntilFree(0, 0));
        CHECK.is("36: another quarter", 0, desk.halfHoursUntilFree(0, 1));
        CHECK.is("36: nothing is changed", before, desk.digest());
        desk.turnExempt(1, 1);
        CHECK.is("36: exempt from the longer", 14, desk.halfHoursUntilFree(1, 0));
        desk.turnExempt(0, 1);
        CHECK.is("36: exempt", 0, desk.halfHoursUntilFree(1, 0));
        desk.turnOrder(1);
        CHECK.is("36: the longer is lifted", 14, desk.halfHoursUntilFree(0, 0));
        desk.pass(13);
        CHECK.is("36: the last one", 1, desk.halfHoursUntilFree(0, 0));
        desk.pass(1);
        CHECK.is("36: free", 0, desk.halfHoursUntilFree(0, 0));
    }

    private static void promise36UntilFreeOverDays() {
        CurfewDesk desk = Towns.of(1, 0);
        desk.addOrder(0, 4, 4, 0);
        desk.setShift(-4);
        Towns.until(desk, 0, 26);
        CHECK.is("36: the longest night", 40, desk.halfHoursUntilFree(0, 0));
        Towns.until(desk, 3, 40);
        CHECK.is("36: till the dawn of day 4", 25, desk.halfHoursUntilFree(0, 0));
        Towns.until(desk, 39, 40);
        CHECK.is("36: till the dawn of day 40", 26, desk.halfHoursUntilFree(0, 0));
    }

    private static void promise36Exceptions() {
        CurfewDesk desk = Towns.of(1, 0);
        desk.addOrder(0, 0, 0, 0);
        CHECK.noSuch("36: person 1 of 1", desk, () -> desk.halfHoursUntilFree(1, 0));
        CHECK.noSuch("36: quarter 1 of 1", desk, () -> desk.halfHoursUntilFree(0, 1));
        for (int n : Towns.NEVER) {
            CHECK.noSuch("36: person " + n, desk, () -> desk.halfHoursUntilFree(n, 0));
            CHECK.noSuch("36: quarter " + n, desk, () -> desk.halfHoursUntilFree(0, n));
        }
    }

    private static void promise37HalfHoursOn() {
        CurfewDesk desk = Towns.of(1, 0);
        desk.addOrder(0, 0, 0, 0);
        desk.addOrder(0, 3, 2, 0);
        long before = desk.digest();
        CHECK.is("37: from dusk to dawn", 28, desk.halfHoursOn(0));
        CHECK.is("37: longer", 33, desk.halfHoursOn(1));
        CHECK.is("37: nothing is changed", before, desk.digest());
        desk.setShift(4);
        CHECK.is("37: a later dusk", 24, desk.halfHoursOn(0));
        desk.turnOrder(0);
        CHECK.is("37: lifted, as if it were in force", 24, desk.halfHoursOn(0));
        CHECK.is("37: it stays lifted", false, desk.isInForce(0));
        desk.turnExempt(1, 0);
        CHECK.is("37: exempting changes nothing", 29, desk.halfHoursOn(1));
    }

    private static void promise37HalfHoursOnOverDays() {
        CurfewDesk desk = Towns.of(1, 0);
        desk.addOrder(0, 0, 0, 0);
        Towns.until(desk, 3, 0);
        CHECK.is("37: day 3", 28, desk.halfHoursOn(0));
        desk.pass(14);
        CHECK.is("37: the dusk of day 3, the dawn of day 4", 27, desk.halfHoursOn(0));
        desk.pass(20);
        CHECK.is("37: at the dusk of day 3", 27, desk.halfHoursOn(0));
        desk.pass(1);
        CHECK.is("37: up to the same half hour of day 4", 26, desk.halfHoursOn(0));
        Towns.until(desk, 4, 0);
        CHECK.is("37: day 4", 26, desk.halfHoursOn(0));
    }

    private static void promise37Exceptions() {
        CurfewDesk desk = Towns.of(1, 0);
        CHECK.noSuch("37: no orders", desk, () -> desk.halfHoursOn(0));
        desk.addOrder(0, 0, 0, 0);
        CHECK.noSuch("37: order 1 of 1", desk, () -> desk.halfHoursOn(1));
        for (int n : Towns.NEVER) {
            CHECK.noSuch("37: order " + n, desk, () -> desk.halfHoursOn(n));
        }
    }

    private static void promise38BestLift() {
        CurfewDesk desk = Towns.of(3, 0, 0, 1);
        CHECK.is("38: no orders", -1, desk.bestLift());
        desk.addOrder(0, 0, 0, 0);
        desk.addOrder(1, 0, 0, 0);
        CHECK.is("38: of several the smallest", 0, desk.bestLift());
        desk.turnExempt(0, 1);
        long before = desk.digest();
        CHECK.is("38: the one that bars more", 1, desk.bestLift());
        CHECK.is("38: nothing is changed", before, desk.digest());
        desk.turnOrder(1);
        CHECK.is("38: of those that are not lifted", 0, desk.bestLift());
        desk.turnOrder(1);
        desk.pass(14);
        CHECK.is("38: by day", -1, desk.bestLift());
    }

    private static void promise38BestLiftByStamps() {
        CurfewDesk desk = Towns.of(2, 0, 0, 0);
        desk.addOrder(0, 0, 0, 0);
        desk.addOrder(1, 0, 0, 1);
        desk.givePass(0, 0, 1);
        CHECK.is("38: those with stamps may go anyway", 1, desk.bestLift());
        desk.addOrder(0, 0, 0, 0);
        desk.givePass(1, 0, 1);
        desk.givePass(2, 0, 1);
        CHECK.is("38: each lacks one for two orders", 0, desk.bestLift());
        desk.takePass(0, 0);
        CHECK.is("38: one lacks two, the others one", 1, desk.bestLift());
        desk.turnOrder(1);
        CHECK.is("38: two others", 0, desk.bestLift());
    }

    private static void promise38BestLiftByPairs() {
        CurfewDesk desk = Towns.of(3, 0, 1, 2, 3);
        desk.addOrder(2, 0, 0, 3);
        desk.addOrder(1, 0, 0, 3);
        desk.addOrder(1, 0, 0, 2);
        desk.turnExempt(0, 0);
        desk.turnExempt(0, 1);
        CHECK.is("38: two of one, none of two orders in one", 0, desk.bestLift());
        for (int person = 0; person < 3; person++) {
            desk.givePass(person, 3, 1);
        }
        CHECK.is("38: three lack one colour", 2, desk.bestLift());
        desk.turnExempt(2, 0);
        desk.turnExempt(2, 1);
        CHECK.is("38: one and one", 0, desk.bestLift());
    }

    private static void promise38NoLiftHelps() {
        CurfewDesk desk = Towns.of(1);
        desk.addOrder(0, 0, 0, 0);
        CHECK.is("38: no people", -1, desk.bestLift());
        desk.addPerson(0);
        CHECK.is("38: a person", 0, desk.bestLift());
        desk.addOrder(0, 0, 0, 1);
        CHECK.is("38: two orders bar the only pair", -1, desk.bestLift());
        desk.givePass(0, 0, 1);
        CHECK.is("38: the one without a stamp", 1, desk.bestLift());
        desk.givePass(0, 1, 1);
        CHECK.is("38: stamps for both", -1, desk.bestLift());
    }

    private static void promise39MeanDebt() {
        CurfewDesk desk = Towns.of(1);
        desk.addOrder(0, 0, 0, 0);
        CHECK.is("39: no people", 0.0, desk.meanDebt());
        desk.addPerson(0);
        CHECK.is("39: no debts", 0.0, desk.meanDebt());
        desk.addPerson(0);
        desk.addPerson(0);
        desk.goOut(1, 0);
        CHECK.is("39: not a whole number", 10.0 / 3.0, desk.meanDebt());
        desk.goOut(1, 0);
        desk.goOut(2, 0);
        CHECK.is("39: of two people", 40.0 / 3.0, desk.meanDebt());
        desk.addPerson(0);
        CHECK.is("39: of four", 10.0, desk.meanDebt());
    }

    private static void promise40DigestOfANewTown() {
        CurfewDesk desk = new CurfewDesk();
        int[] numbers = {0, 0, 34, 14, 0, 0, 0, 0, 0, 0, 0, 0, 0};
        long d = 1879;
        for (int x : numbers) {
            d = d * 31 + x;
        }
        CHECK.is("40: a new town", d, desk.digest());
        CHECK.is("40: again", d, desk.digest());
    }

    private static void promise40DigestByItsWords() {
        CurfewDesk desk = Towns.of(3, 7, 0, 4);
        desk.addOrder(2, 1, 0, 3);
        desk.addOrder(0, 0, 3, 1);
        desk.addOrder(1, 2, 2, 2);
        desk.turnExempt(0, 0);
        desk.turnExempt(1, 4);
        desk.turnOrder(2);
        desk.givePass(0, 3, 1);
        desk.givePass(1, 1, 5);
        for (int person = 0; person < 3; person++) {
            for (int quarter = 0; quarter < 3; quarter++) {
                desk.goOut(person, quarter);
            }
        }
        desk.setShift(-2);
        CHECK.is("40: by night", byItsWords(desk), desk.digest());
        Towns.until(desk, 9, 32);
        CHECK.is("40: on day 9", byItsWords(desk), desk.digest());
        desk.goOut(2, 2);
        CHECK.is("40: with a fine more", byItsWords(desk), desk.digest());
    }

    private static long byItsWords(CurfewDesk desk) {
        long d = 1879;
        int[] town = {desk.day(), desk.halfHour(), desk.duskIn(0), desk.dawnIn(0),
            desk.quarters(), desk.orders(), desk.people(), desk.ordersOn(), desk.shift(),
            desk.stampsUsed(0), desk.stampsUsed(1), desk.stampsUsed(2), desk.stampsUsed(3)};
        for (int x : town) {
            d = d * 31 + x;
        }
        for (int i = 0; i < desk.orders(); i++) {
            d = d * 31 + desk.quarterOf(i);
            d = d * 31 + desk.colourOf(i);
            d = d * 31 + (desk.isInForce(i) ? 1 : 0);
            d = d * 31 + (desk.isOn(i) ? 1 : 0);
            d = d * 31 + desk.barredBy(i);
            for (int trade = 0; trade < 8; trade++) {
                d = d * 31 + (desk.isExempt(i, trade) ? 1 : 0);
            }
        }
        for (int i = 0; i < desk.people(); i++) {
            d = d * 31 + desk.tradeOf(i);
            d = d * 31 + desk.owes(i);
            d = d * 31 + desk.timesFined(i);
            for (int colour = 0; colour < 4; colour++) {
                d = d * 31 + desk.stampsOf(i, colour);
            }
            for (int quarter = 0; quarter < desk.quarters(); quarter++) {
                d = d * 31 + desk.ordersAgainst(i, quarter);
            }
        }
        return d;
    }
}
