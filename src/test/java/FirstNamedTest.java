import java.util.function.Consumer;

/**
 * "If several exceptions apply, the one that is named first is thrown", at each call that names
 * several, in each way in which they meet; and the call that is one too many.
 */
public final class FirstNamedTest {
    private static final Check CHECK = new Check();
    private static final Refusal REFUSAL = new Refusal(CHECK);

    public static void main(String[] args) {
        promise2SixQuarters();
        promise3TwentyPeople();
        promise3TradeAheadOfTwentyPeople();
        promise4TenOrders();
        promise4QuarterOrColourAheadOfAheadOrBehind();
        promise4QuarterOrColourAheadOfTenOrders();
        promise4AheadOrBehindAheadOfTenOrders();
        promise8PersonOrColourAheadOfStamps();
        bothArgumentsBeyond();
        CHECK.finish();
    }

    /** "Throws IllegalStateException if there are 6". */
    private static void promise2SixQuarters() {
        REFUSAL.is("2: a seventh quarter", IllegalStateException.class, Towns::full,
                desk -> desk.addQuarter());
        REFUSAL.is("2: a seventh quarter, without people and orders", IllegalStateException.class,
                () -> Towns.of(6), desk -> desk.addQuarter());
        CHECK.is("2: a sixth is not too many", 5, Towns.of(5).addQuarter());
    }

    /** "Throws IllegalStateException if there are 20". */
    private static void promise3TwentyPeople() {
        fullTownRefuses("3: one more, trade 0", IllegalStateException.class,
                desk -> desk.addPerson(0));
        fullTownRefuses("3: one more, trade 7", IllegalStateException.class,
                desk -> desk.addPerson(7));
        CHECK.is("3: the twentieth is not too many", 19, Towns.nearlyFull().addPerson(0));
    }

    private static void promise3TradeAheadOfTwentyPeople() {
        fullTownRefuses("3: one more, trade -1", IndexOutOfBoundsException.class,
                desk -> desk.addPerson(-1));
        fullTownRefuses("3: one more, trade 8", IndexOutOfBoundsException.class,
                desk -> desk.addPerson(8));
    }

    /** "Throws IllegalStateException if there are 10". */
    private static void promise4TenOrders() {
        fullTownRefuses("4: one more, of the least", IllegalStateException.class,
                desk -> desk.addOrder(0, 0, 0, 0));
        fullTownRefuses("4: one more, of the greatest", IllegalStateException.class,
                desk -> desk.addOrder(5, 4, 4, 3));
        CHECK.is("4: the tenth is not too many", 9, Towns.nearlyFull().addOrder(5, 4, 4, 3));
    }

    private static void promise4QuarterOrColourAheadOfAheadOrBehind() {
        for (int beyond : new int[] {-1, 5}) {
            firstIsIndex("4: quarter -1, ahead", desk -> desk.addOrder(-1, beyond, 0, 0));
            firstIsIndex("4: quarter 6, ahead", desk -> desk.addOrder(6, beyond, 0, 0));
            firstIsIndex("4: quarter -1, behind", desk -> desk.addOrder(-1, 0, beyond, 0));
            firstIsIndex("4: quarter 6, behind", desk -> desk.addOrder(6, 0, beyond, 0));
            firstIsIndex("4: colour -1, ahead", desk -> desk.addOrder(0, beyond, 0, -1));
            firstIsIndex("4: colour 4, ahead", desk -> desk.addOrder(0, beyond, 0, 4));
            firstIsIndex("4: colour -1, behind", desk -> desk.addOrder(0, 0, beyond, -1));
            firstIsIndex("4: colour 4, behind", desk -> desk.addOrder(0, 0, beyond, 4));
            firstIsIndex("4: all four", desk -> desk.addOrder(6, beyond, beyond, 4));
        }
        REFUSAL.is("4: no quarter yet, ahead", IndexOutOfBoundsException.class,
                Towns::withoutQuarters, desk -> desk.addOrder(0, 5, 0, 0));
    }

    /** In a town that could take the order, and in one that could not. */
    private static void firstIsIndex(String what, Consumer<CurfewDesk> call) {
        REFUSAL.is(what, IndexOutOfBoundsException.class, Towns::nearlyFull, call);
        fullTownRefuses(what + ", and ten orders", IndexOutOfBoundsException.class, call);
    }

    private static void promise4QuarterOrColourAheadOfTenOrders() {
        Class<?> first = IndexOutOfBoundsException.class;
        fullTownRefuses("4: one more, quarter -1", first, desk -> desk.addOrder(-1, 0, 0, 0));
        fullTownRefuses("4: one more, quarter 6", first, desk -> desk.addOrder(6, 0, 0, 0));
        fullTownRefuses("4: one more, colour -1", first, desk -> desk.addOrder(0, 0, 0, -1));
        fullTownRefuses("4: one more, colour 4", first, desk -> desk.addOrder(0, 0, 0, 4));
    }

    private static void promise4AheadOrBehindAheadOfTenOrders() {
        Class<?> first = IllegalArgumentException.class;
        fullTownRefuses("4: one more, ahead -1", first, desk -> desk.addOrder(0, -1, 0, 0));
        fullTownRefuses("4: one more, ahead 5", first, desk -> desk.addOrder(0, 5, 0, 0));
        fullTownRefuses("4: one more, behind -1", first, desk -> desk.addOrder(0, 0, -1, 0));
        fullTownRefuses("4: one more, behind 5", first, desk -> desk.addOrder(0, 0, 5, 0));
    }

    private static void promise8PersonOrColourAheadOfStamps() {
        Class<?> first = IndexOutOfBoundsException.class;
        for (int stamps : new int[] {0, 10}) {
            fullTownRefuses("8: person -1, stamps", first, desk -> desk.givePass(-1, 0, stamps));
            fullTownRefuses("8: person 20, stamps", first, desk -> desk.givePass(20, 0, stamps));
            fullTownRefuses("8: colour -1, stamps", first, desk -> desk.givePass(0, -1, stamps));
            fullTownRefuses("8: colour 4, stamps", first, desk -> desk.givePass(0, 4, stamps));
            REFUSAL.is("8: no person yet, stamps", first, Towns::withoutPeople,
                    desk -> desk.givePass(0, 0, stamps));
        }
    }

    /** Where several arguments are wrong in a way that the document names together. */
    private static void bothArgumentsBeyond() {
        Class<?> index = IndexOutOfBoundsException.class;
        fullTownRefuses("4: quarter, colour", index, desk -> desk.addOrder(6, 0, 0, 4));
        fullTownRefuses("4: ahead, behind", IllegalArgumentException.class,
                desk -> desk.addOrder(0, 5, -1, 0));
        fullTownRefuses("5: order, trade", index, desk -> desk.turnExempt(10, 8));
        fullTownRefuses("8: person, colour, stamps", index, desk -> desk.givePass(20, 4, 10));
        fullTownRefuses("9: person, colour", index, desk -> desk.takePass(-1, 4));
        fullTownRefuses("10: person, quarter", index, desk -> desk.goOut(20, -1));
        fullTownRefuses("20: order, trade", index, desk -> desk.isExempt(-1, -1));
        fullTownRefuses("23: person, colour", index, desk -> desk.stampsOf(20, -1));
        fullTownRefuses("26: person, quarter", index, desk -> desk.ordersAgainst(20, 6));
        fullTownRefuses("27: person, quarter", index, desk -> desk.mayGo(20, 6));
        fullTownRefuses("28: person, quarter", index, desk -> desk.stampsMissing(20, 6));
        fullTownRefuses("36: person, quarter", index, desk -> desk.halfHoursUntilFree(-1, -1));
    }

    private static void fullTownRefuses(String what, Class<?> due, Consumer<CurfewDesk> call) {
        REFUSAL.is(what, due, Towns::full, call);
    }
}
