import java.util.NoSuchElementException;
import java.util.Set;
import java.util.TreeSet;

/** What the tests of edges share. Each question is asked of a works that is made anew for it. */
abstract class Edges {
    interface Works {
        Lastroom made();
    }

    interface Call {
        Object of(Lastroom x);
    }

    interface NumberCall {
        Object of(Lastroom x, int number);
    }

    static final Class<IllegalArgumentException> BAD = IllegalArgumentException.class;
    static final Class<IndexOutOfBoundsException> NO_SUCH = IndexOutOfBoundsException.class;
    static final Class<IllegalStateException> STATE = IllegalStateException.class;
    static final Class<UnsupportedOperationException> UNFIT = UnsupportedOperationException.class;
    static final Class<NoSuchElementException> NONE = NoSuchElementException.class;
    static final Class<ArithmeticException> ARITHMETIC = ArithmeticException.class;
    static final int TERMS = Document.TERMS;
    static final Works EMPTY = () -> new Lastroom();

    /** Pairs of exceptions of a promise: those that were asked together, or can't apply at once. */
    static final Set<String> ORDERS = new TreeSet<>();

    static Document document;

    private static Works lastWorks;
    private static String lastUntouched;

    /** The words must stand in the document, and at least one question be asked of them. */
    static void says(int section, String words, Runnable questions) {
        int asked = Check.asked();
        int wrong = Check.wrong();
        questions.run();
        document.quote(section, words);
        if (Check.asked() == asked) {
            Check.fails("nothing is asked of: " + words);
        }
        if (Check.wrong() != wrong) {
            System.out.println("so this does not hold, section " + section + ": " + words);
        }
    }

    static void is(Object due, Works works, Call call) {
        Check.is(due, () -> call.of(works.made()));
    }

    /** The call throws, and leaves the works as one that was not called. */
    static void refused(Class<? extends RuntimeException> due, Works works, Call call) {
        Check.fails(due, () -> call.of(works.made()));
        String untouched = untouched(works);
        Check.is(untouched, () -> Probe.tell(works, call));
    }

    private static String untouched(Works works) {
        if (works != lastWorks) {
            lastWorks = works;
            lastUntouched = Probe.tell(works, null);
        }
        return lastUntouched;
    }

    /** The call throws nothing. */
    static void taken(Works works, Call call) {
        Check.is(true, () -> call.of(works.made()) != null);
    }

    /** The least and the greatest number are taken, and those beyond them refused. */
    static void range(Class<? extends RuntimeException> due, Works works, int least, int greatest, NumberCall call) {
        taken(works, x -> call.of(x, least));
        taken(works, x -> call.of(x, greatest));
        for (int number : new int[] {least - 1, greatest + 1, Integer.MIN_VALUE, Integer.MAX_VALUE}) {
            refused(due, works, x -> call.of(x, number));
        }
    }

    /** There are so many things from 0 on, and no other ones. */
    static void numbered(Works works, int count, NumberCall call) {
        if (count > 0) {
            taken(works, x -> call.of(x, 0));
            taken(works, x -> call.of(x, count - 1));
        }
        for (int number : new int[] {-1, count, count + 1, 64, 256, Integer.MIN_VALUE, Integer.MAX_VALUE}) {
            refused(NO_SUCH, works, x -> call.of(x, number));
        }
    }

    /** Both exceptions apply, and the first one is thrown. */
    static void order(int promise, Class<? extends RuntimeException> first, Class<? extends RuntimeException> second, Works works, Call call) {
        refused(first, works, call);
        ORDERS.add(promise + " " + first.getSimpleName() + " " + second.getSimpleName());
    }

    /** Both exceptions can't apply to one call, as the reason tells. */
    static void neverBoth(int promise, Class<? extends RuntimeException> first, Class<? extends RuntimeException> second, String reason) {
        ORDERS.add(promise + " " + first.getSimpleName() + " " + second.getSimpleName());
    }
}
