import java.util.List;
import java.util.function.Consumer;

/**
 * "(nothing is changed)": a town that was asked all that can be asked goes on as one that was not,
 * by night, by day, and where some may go and others not.
 */
public final class AskingTest {
    private static final Check CHECK = new Check();

    public static void main(String[] args) {
        ofTime();
        ofOrders();
        ofPeople();
        ofTheTown();
        ofWhatWouldBe();
        CHECK.finish();
    }

    private static void ofTime() {
        changesNothing("12: day", desk -> desk.day());
        changesNothing("13: halfHour", desk -> desk.halfHour());
        changesNothing("14: duskIn", desk -> desk.duskIn(99));
        changesNothing("15: dawnIn", desk -> desk.dawnIn(99));
    }

    private static void ofOrders() {
        for (int i = 0; i < 10; i += 3) {
            int order = i;
            changesNothing("16: quarterOf", desk -> desk.quarterOf(order));
            changesNothing("17: colourOf", desk -> desk.colourOf(order));
            changesNothing("18: isInForce", desk -> desk.isInForce(order));
            changesNothing("19: isOn", desk -> desk.isOn(order));
            changesNothing("20: isExempt", desk -> desk.isExempt(order, 1));
            changesNothing("21: barredBy", desk -> desk.barredBy(order));
            changesNothing("37: halfHoursOn", desk -> desk.halfHoursOn(order));
        }
        changesNothing("37: halfHoursOn of the lifted order", desk -> desk.halfHoursOn(5));
    }

    private static void ofPeople() {
        changesNothing("22: tradeOf", desk -> desk.tradeOf(19));
        changesNothing("23: stampsOf", desk -> desk.stampsOf(19, 3));
        changesNothing("24: owes", desk -> desk.owes(19));
        changesNothing("25: timesFined", desk -> desk.timesFined(19));
        changesNothing("26: ordersAgainst", desk -> everywhere(desk, 0));
        changesNothing("27: mayGo", desk -> everywhere(desk, 1));
        changesNothing("28: stampsMissing", desk -> everywhere(desk, 2));
        changesNothing("36: halfHoursUntilFree", desk -> everywhere(desk, 3));
    }

    /** Some people, to whom some quarters are free, some by stamps, and others not. */
    private static void everywhere(CurfewDesk desk, int call) {
        for (int person = 0; person < 3; person++) {
            for (int quarter = 0; quarter < 6; quarter++) {
                switch (call) {
                    case 0: desk.ordersAgainst(person, quarter); break;
                    case 1: desk.mayGo(person, quarter); break;
                    case 2: desk.stampsMissing(person, quarter); break;
                    default: desk.halfHoursUntilFree(person, quarter);
                }
            }
        }
    }

    private static void ofTheTown() {
        changesNothing("29: quarters", desk -> desk.quarters());
        changesNothing("30: orders", desk -> desk.orders());
        changesNothing("31: people", desk -> desk.people());
        changesNothing("32: ordersOn", desk -> desk.ordersOn());
        changesNothing("33: shift", desk -> desk.shift());
        changesNothing("34: allOwe", desk -> desk.allOwe());
        changesNothing("35: stampsUsed", desk -> desk.stampsUsed(0));
    }

    private static void ofWhatWouldBe() {
        changesNothing("38: bestLift", desk -> desk.bestLift());
        changesNothing("39: meanDebt", desk -> desk.meanDebt());
        changesNothing("40: digest", desk -> desk.digest());
    }

    private static void changesNothing(String what, Consumer<CurfewDesk> call) {
        for (int waited : new int[] {1, 30}) {
            CHECK.is(what + " changes nothing", true,
                    tracedBehind(waited, desk -> { }).equals(tracedBehind(waited, call)));
        }
    }

    private static List<Long> tracedBehind(int waited, Consumer<CurfewDesk> call) {
        CurfewDesk desk = Towns.full();
        desk.pass(waited);
        call.accept(desk);
        return Trace.of(desk);
    }
}
