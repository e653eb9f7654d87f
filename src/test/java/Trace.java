import java.util.ArrayList;
import java.util.List;

/**
 * What a town answers to a long run of calls that brings all that it holds to light: what is there
 * is asked, what is still to come is added, everybody goes out everywhere, and a day goes by.
 * With what a test does ahead of it, an object stays under 512 calls.
 */
final class Trace {
    private final CurfewDesk desk;
    private final List<Long> answers = new ArrayList<>();

    private Trace(CurfewDesk desk) {
        this.desk = desk;
    }

    static List<Long> of(CurfewDesk desk) {
        Trace trace = new Trace(desk);
        trace.asksWhatIsThere();
        trace.fillsTheTown();
        trace.letsAllGoOut();
        trace.letsADayGoBy();
        return trace.answers;
    }

    private void note(long answer) {
        answers.add(answer);
    }

    private void asksWhatIsThere() {
        note(desk.digest());
        note(desk.duskIn(99));
        note(desk.dawnIn(99));
        note(desk.bestLift());
        notesHoursOfOrders();
    }

    // The digest does not tell how far ahead and behind an order reaches.
    private void notesHoursOfOrders() {
        int orders = desk.orders();
        for (int order = 0; order < orders; order++) {
            note(desk.halfHoursOn(order));
        }
    }

    // Shows what a refused call may have left in a row that nothing owned yet.
    private void fillsTheTown() {
        for (int i = desk.quarters(); i < 6; i++) {
            note(desk.addQuarter());
        }
        for (int i = desk.people(); i < 20; i++) {
            note(desk.addPerson(i % 8));
        }
        for (int i = desk.orders(); i < 10; i++) {
            note(desk.addOrder(i % 6, i % 5, 4 - i % 5, i % 4));
        }
        note(desk.digest());
        notesHoursOfOrders();
    }

    private void letsAllGoOut() {
        for (int person = 0; person < 20; person++) {
            for (int quarter = 0; quarter < 6; quarter++) {
                note(desk.goOut(person, quarter));
            }
        }
        note(desk.allOwe());
        note(Double.doubleToLongBits(desk.meanDebt()));
    }

    private void letsADayGoBy() {
        for (int i = 0; i < 48; i++) {
            note(desk.pass(1));
            note(desk.digest());
        }
        note(desk.pass(200));
        note(desk.digest());
        note(desk.setShift(0));
    }
}
