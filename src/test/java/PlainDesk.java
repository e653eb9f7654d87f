import java.util.ArrayList;
import java.util.List;
import java.util.Set;
import java.util.TreeSet;

/** The document told once more, by lists and half hour by half hour, to compare answers with. */
final class PlainDesk {
    private static final class Order {
        int quarter;
        int ahead;
        int behind;
        int colour;
        boolean inForce = true;
        final Set<Integer> exempt = new TreeSet<>();
    }

    private static final class Person {
        int trade;
        int fined;
        int owes;
        final int[] stamps = new int[4];
    }

    private final List<Order> orders = new ArrayList<>();
    private final List<Person> people = new ArrayList<>();
    private final int[] used = new int[4];
    private int quarters;
    private int day;
    private int halfHour;
    private int shift;

    /** What the call of this name answers; a boolean counts 1 or 0. */
    long call(String name, int[] a) {
        switch (name) {
            case "addQuarter": return addQuarter();
            case "addPerson": return addPerson(a[0]);
            case "addOrder": return addOrder(a[0], a[1], a[2], a[3]);
            case "turnExempt": return turnExempt(order(a[0]), trade(a[1]));
            case "turnOrder": return turnOrder(order(a[0]));
            case "setShift": return setShift(a[0]);
            case "givePass": return givePass(person(a[0]), colour(a[1]), a[2]);
            case "takePass": return takePass(person(a[0]), colour(a[1]));
            case "goOut": return goOut(person(a[0]), quarter(a[1]));
            case "pass": return pass(a[0]);
            case "day": return day;
            case "halfHour": return halfHour;
            case "duskIn": return dusk(day + among(a[0], 0, 99));
            case "dawnIn": return dawn(day + among(a[0], 0, 99));
            case "quarterOf": return order(a[0]).quarter;
            case "colourOf": return order(a[0]).colour;
            case "isInForce": return one(order(a[0]).inForce);
            case "isOn": return one(isOn(order(a[0])));
            case "isExempt": return one(order(a[0]).exempt.contains(trade(a[1])));
            case "barredBy": return barredBy(order(a[0]));
            default: return ask(name, a);
        }
    }

    private long ask(String name, int[] a) {
        switch (name) {
            case "tradeOf": return person(a[0]).trade;
            case "stampsOf": return person(a[0]).stamps[colour(a[1])];
            case "owes": return person(a[0]).owes;
            case "timesFined": return person(a[0]).fined;
            case "ordersAgainst": return against(person(a[0]), quarter(a[1])).size();
            case "mayGo": return one(mayGo(person(a[0]), quarter(a[1])));
            case "stampsMissing": return missing(person(a[0]), quarter(a[1]));
            case "quarters": return quarters;
            case "orders": return orders.size();
            case "people": return people.size();
            case "ordersOn": return orders.stream().filter(this::isOn).count();
            case "shift": return shift;
            case "allOwe": return people.stream().mapToInt(p -> p.owes).sum();
            case "stampsUsed": return used[colour(a[0])];
            case "halfHoursUntilFree": return untilFree(person(a[0]), quarter(a[1]));
            case "halfHoursOn": return halfHoursOn(order(a[0]));
            case "bestLift": return bestLift();
            case "meanDebt": return Double.doubleToLongBits(meanDebt());
            case "digest": return digest();
            default: throw new AssertionError(name);
        }
    }

    private static int one(boolean so) {
        return so ? 1 : 0;
    }

    private static int index(int n, int size) {
        if (n < 0 || n >= size) {
            throw new IndexOutOfBoundsException();
        }
        return n;
    }

    private static int among(int n, int least, int most) {
        if (n < least || n > most) {
            throw new IllegalArgumentException();
        }
        return n;
    }

    private Order order(int n) {
        return orders.get(index(n, orders.size()));
    }

    private Person person(int n) {
        return people.get(index(n, people.size()));
    }

    private int quarter(int n) {
        return index(n, quarters);
    }

    private static int colour(int n) {
        return index(n, 4);
    }

    private static int trade(int n) {
        return index(n, 8);
    }

    private static void room(int size, int most) {
        if (size == most) {
            throw new IllegalStateException();
        }
    }

    private int addQuarter() {
        room(quarters, 6);
        return quarters++;
    }

    private int addPerson(int trade) {
        trade(trade);
        room(people.size(), 20);
        Person person = new Person();
        person.trade = trade;
        people.add(person);
        return people.size() - 1;
    }

    private int addOrder(int quarter, int ahead, int behind, int colour) {
        quarter(quarter);
        colour(colour);
        among(ahead, 0, 4);
        among(behind, 0, 4);
        room(orders.size(), 10);
        Order order = new Order();
        order.quarter = quarter;
        order.ahead = ahead;
        order.behind = behind;
        order.colour = colour;
        orders.add(order);
        return orders.size() - 1;
    }

    private int turnExempt(Order order, int trade) {
        if (!order.exempt.remove(trade)) {
            order.exempt.add(trade);
        }
        return one(order.exempt.contains(trade));
    }

    private int turnOrder(Order order) {
        order.inForce = !order.inForce;
        return one(order.inForce);
    }

    private int setShift(int next) {
        int before = shift;
        shift = among(next, -4, 4);
        return before;
    }

    private int givePass(Person person, int colour, int stamps) {
        among(stamps, 1, 9);
        for (int i = 0; i < stamps; i++) {
            if (person.stamps[colour] < 9) {
                person.stamps[colour]++;
            }
        }
        return person.stamps[colour];
    }

    private int takePass(Person person, int colour) {
        int left = person.stamps[colour];
        person.stamps[colour] = 0;
        return left;
    }

    private int goOut(Person person, int quarter) {
        boolean fined = false;
        for (Order order : against(person, quarter)) {
            if (person.stamps[order.colour] > 0) {
                person.stamps[order.colour]--;
                used[order.colour]++;
            } else {
                fined = true;
            }
        }
        if (!fined) {
            return 0;
        }
        person.fined++;
        person.owes += 10 * person.fined;
        return 10 * person.fined;
    }

    private int pass(int halfHours) {
        among(halfHours, 1, 200);
        int began = 0;
        for (int i = 0; i < halfHours; i++) {
            List<Order> ahead = new ArrayList<>();
            for (Order order : orders) {
                if (isOn(order)) {
                    ahead.add(order);
                }
            }
            step();
            for (Order order : orders) {
                began += one(isOn(order) && !ahead.contains(order));
            }
        }
        return began;
    }

    private void step() {
        halfHour++;
        if (halfHour == 48) {
            halfHour = 0;
            day++;
        }
    }

    private static int tide(int ofDay) {
        int r = ofDay % 40;
        return (r < 20 ? r : 39 - r) / 4;
    }

    private int dusk(int ofDay) {
        return 34 + tide(ofDay) + shift;
    }

    private int dawn(int ofDay) {
        return 14 - tide(ofDay);
    }

    private boolean isOn(Order order) {
        boolean byNight = halfHour >= dusk(day) - order.ahead
                || halfHour < dawn(day) + order.behind;
        return order.inForce && byNight;
    }

    private boolean bars(Order order, Person person) {
        return isOn(order) && !order.exempt.contains(person.trade);
    }

    private List<Order> against(Person person, int quarter) {
        List<Order> against = new ArrayList<>();
        for (Order order : orders) {
            if (order.quarter == quarter && bars(order, person)) {
                against.add(order);
            }
        }
        return against;
    }

    private int barredBy(Order order) {
        return (int) people.stream().filter(p -> bars(order, p)).count();
    }

    /** By trying: whether going out would raise a fine. */
    private boolean mayGo(Person person, int quarter) {
        int[] left = person.stamps.clone();
        for (Order order : against(person, quarter)) {
            left[order.colour]--;
            if (left[order.colour] < 0) {
                return false;
            }
        }
        return true;
    }

    private int missing(Person person, int quarter) {
        int[] needed = new int[4];
        for (Order order : against(person, quarter)) {
            needed[order.colour]++;
        }
        int sum = 0;
        for (int colour = 0; colour < 4; colour++) {
            sum += Math.max(0, needed[colour] - person.stamps[colour]);
        }
        return sum;
    }

    private int untilFree(Person person, int quarter) {
        int wasDay = day;
        int wasHalfHour = halfHour;
        int free = -1;
        for (int i = 0; i <= 48 && free < 0; i++) {
            if (against(person, quarter).isEmpty()) {
                free = i;
            }
            step();
        }
        day = wasDay;
        halfHour = wasHalfHour;
        return free;
    }

    private int halfHoursOn(Order order) {
        int wasDay = day;
        int wasHalfHour = halfHour;
        boolean wasInForce = order.inForce;
        order.inForce = true;
        int on = 0;
        for (int i = 0; i < 48; i++) {
            on += one(isOn(order));
            step();
        }
        order.inForce = wasInForce;
        day = wasDay;
        halfHour = wasHalfHour;
        return on;
    }

    private int pairs() {
        int pairs = 0;
        for (Person person : people) {
            for (int quarter = 0; quarter < quarters; quarter++) {
                pairs += one(mayGo(person, quarter));
            }
        }
        return pairs;
    }

    private int bestLift() {
        int best = -1;
        int most = pairs();
        for (int i = 0; i < orders.size(); i++) {
            boolean wasInForce = orders.get(i).inForce;
            orders.get(i).inForce = false;
            int pairs = pairs();
            orders.get(i).inForce = wasInForce;
            if (pairs > most) {
                most = pairs;
                best = i;
            }
        }
        return best;
    }

    private double meanDebt() {
        return people.stream().mapToInt(p -> p.owes).average().orElse(0);
    }

    private long digest() {
        List<Integer> numbers = new ArrayList<>(List.of(day, halfHour, dusk(day), dawn(day),
                quarters, orders.size(), people.size(),
                (int) orders.stream().filter(this::isOn).count(), shift));
        for (int stamps : used) {
            numbers.add(stamps);
        }
        for (Order order : orders) {
            numbers.addAll(List.of(order.quarter, order.colour, one(order.inForce),
                    one(isOn(order)), barredBy(order)));
            for (int trade = 0; trade < 8; trade++) {
                numbers.add(one(order.exempt.contains(trade)));
            }
        }
        for (Person person : people) {
            numbers.addAll(List.of(person.trade, person.owes, person.fined));
            for (int stamps : person.stamps) {
                numbers.add(stamps);
            }
            for (int quarter = 0; quarter < quarters; quarter++) {
                numbers.add(against(person, quarter).size());
            }
        }
        long d = 1879;
        for (int x : numbers) {
            d = d * 31 + x;
        }
        return d;
    }
}
