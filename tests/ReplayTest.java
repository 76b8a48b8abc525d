import java.lang.reflect.InvocationTargetException;
import java.lang.reflect.Method;
import java.util.ArrayList;
import java.util.Arrays;
import java.util.List;

/**
 * Long runs of calls, most of them apt and some wild. Each answer and each exception is the one of Plain, which says the
 * document once more; a call throws nothing that the document doesn't list for it; and a method that throws changes
 * nothing: the same run without the calls that threw gives the same answers.
 */
public final class ReplayTest {
    private static final int RUNS = 1500;
    private static final int CALLS = 512;

    /** Few things of each kind, so that many pairs get far. */
    private static final int NARROW = 0;
    /** One style with many pieces and seams. */
    private static final int DEEP = 1;
    /** As many things as there can be, and all sizes. */
    private static final int WIDE = 2;

    /** Calls with what their numbers are, each ahead of it how often it comes. */
    private static final String[] KINDS = {
        "1 length system any", "2 convert system any system", "1 model girthOfModel gradeOfModel", "1 girth model size",
        "2 setLasts model size pairs", "1 freeLasts model size", "1 missingLasts model size", "1 misfit foot foot model size",
        "1 bestModel foot foot", "1 bestSize foot foot model", "1 style model construction material material",
        "1 piece style width width grade quality bool", "1 seam style skill minutes after", "1 pieceCells style piece size bool",
        "1 shortest style", "1 bonds style", "1 hide material columns rows", "4 fault hide column row quality",
        "1 cellOf hide column row", "20 cut ticket one piece hide column row bool operator", "2 firstPlace ticket piece hide",
        "1 waste hide", "1 cutBy operator", "2 setSkill operator skill bool", "2 setAbsent operator seldom", "1 ticket style size",
        "4 pass wait", "20 sew ticket one seam operator", "2 room ticket", "4 bottleneck", "1 setStand material stand",
        "8 lastOn ticket", "2 open wait", "12 sole ticket lot bool", "8 takeOff ticket", "8 pack ticket least least",
        "1 test ticket what", "2 comeBack ticket", "1 cause", "1 causeOf", "1 hideOf ticket one piece", "1 sewerOf ticket one seam",
        "1 checksum", "1 packedShare", "1 meanWaste", "1 isSound",
    };

    /** How each run begins, so that pairs get far. */
    private static final String[][] SETUP = {
        {
            "2 model girthOfModel gradeOfModel", "16 setLasts model size pairs", "4 style model construction material material",
            "2 piece style width width grade quality bool", "2 seam style skill minutes after", "4 hide material columns rows",
            "3 fault hide column row quality", "24 setSkill operator skill bool", "5 ticket style size", "3 open wait",
        },
        {
            "1 model girthOfModel gradeOfModel", "8 setLasts model size pairs", "3 style model construction material material",
            "7 piece style width width grade quality bool", "9 seam style skill minutes after", "6 hide material columns rows",
            "5 fault hide column row quality", "40 setSkill operator skill bool", "3 ticket style size", "2 open wait",
        },
        {
            "6 model girthOfModel gradeOfModel", "20 setLasts model size pairs", "12 style model construction material material",
            "12 piece style width width grade quality bool", "12 seam style skill minutes after", "7 hide material columns rows",
            "9 fault hide column row quality", "24 setSkill operator skill bool", "17 ticket style size", "21 open wait",
        },
    };

    private static long seed = 1;
    private static int returned = 0;
    private static int breadth = NARROW;
    private static Plain plain;

    public static void main(String[] args) throws IllegalAccessException {
        for (int run = 0; run < RUNS; run++) {
            replay(run);
        }
        Check.is(true, () -> returned > RUNS / 2);
        System.out.println(returned + " pairs came back");
        Check.end();
    }

    private static void replay(int run) throws IllegalAccessException {
        breadth = run % 4 == 3 ? WIDE : run % 4 == 2 ? DEEP : NARROW;
        plain = new Plain();
        Lastroom whole = new Lastroom();
        List<Object[]> apt = new ArrayList<>();
        int calls = 0;
        for (String words : spread(SETUP[breadth])) {
            ask(whole, words.split(" "), apt);
            calls++;
        }
        for (String[] kinds = spread(KINDS); calls < CALLS; calls++) {
            String words = next(2) == 0 ? onward(whole) : kinds[next(kinds.length)];
            ask(whole, words.split(" "), apt);
        }
        Lastroom other = new Lastroom();
        for (Object[] call : apt) {
            Method method = (Method) call[0];
            Object again = answer(other, method, (Object[]) call[1]);
            if (!call[2].equals(again)) {
                Check.fails("run " + run + ": " + method.getName() + Arrays.toString((Object[]) call[1])
                        + " answered " + call[2] + ", and " + again + " without the calls that threw");
                return;
            }
        }
    }

    /** The call that may bring a pair into the next room. */
    private static String onward(Lastroom whole) throws IllegalAccessException {
        int ticket = next(breadth == DEEP ? 3 : 6);
        Object room = answer(whole, named("room"), new Object[] {ticket});
        switch (room instanceof Character ? (Character) room : ' ') {
            case 'c':
                return "cut =" + ticket + " one piece hide column row bool operator";
            case 's':
                return next(6) == 0 ? "pass wait" : "sew =" + ticket + " one seam operator";
            case 'l':
                return "lastOn =" + ticket;
            case 'o':
                return next(4) == 0 ? "pass wait" : next(4) == 0 ? "open wait" : "sole =" + ticket + " lot bool";
            case 'b':
                return next(4) == 0 ? "pass wait" : "takeOff =" + ticket;
            case 'd':
                return "pack =" + ticket + " least least";
            case 'p':
                return next(6) == 0 ? "comeBack =" + ticket : "cause";
            default:
                return "causeOf";
        }
    }

    private static String[] spread(String[] weighted) {
        List<String> all = new ArrayList<>();
        for (String words : weighted) {
            int space = words.indexOf(' ');
            for (int time = Integer.parseInt(words.substring(0, space)); time > 0; time--) {
                all.add(words.substring(space + 1));
            }
        }
        return all.toArray(new String[0]);
    }

    private static void ask(Lastroom whole, String[] words, List<Object[]> apt) throws IllegalAccessException {
        Method method = named(words[0]);
        Object[] given = given(words, method.getParameterTypes());
        if (words[0].equals("cut") && next(4) != 0) {
            place(whole, given);
        }
        Object answer = answer(whole, method, given);
        agree(method, given, answer);
        if (answer instanceof Throwable) {
            listed(method, given, (Throwable) answer);
            return;
        }
        returned += words[0].equals("comeBack") ? 1 : 0;
        sound(method, answer);
        apt.add(new Object[] {method, given, answer});
    }

    private static void agree(Method method, Object[] given, Object answer) throws IllegalAccessException {
        Object due = answer(plain, plainly(method), given);
        boolean isAlike = due instanceof Throwable ? due.getClass() == answer.getClass() : due.equals(answer);
        if (!isAlike) {
            Check.fails(method.getName() + Arrays.toString(given) + " answered " + answer + ", due is " + due);
        }
    }

    private static Method plainly(Method method) {
        try {
            return Plain.class.getMethod(method.getName(), method.getParameterTypes());
        } catch (NoSuchMethodException e) {
            throw new IllegalStateException(e);
        }
    }

    /** Moves a cut to where the piece lies in the hide, if it does. */
    private static void place(Lastroom whole, Object[] given) throws IllegalAccessException {
        Object place = answer(whole, named("firstPlace"), new Object[] {given[0], given[2], given[3]});
        if (place instanceof Integer) {
            given[4] = (Integer) place % 100;
            given[5] = (Integer) place / 100;
            given[6] = false;
        }
    }

    private static void listed(Method method, Object[] given, Throwable thrown) {
        if (!Arrays.asList(method.getExceptionTypes()).contains(thrown.getClass())) {
            Check.fails(method.getName() + Arrays.toString(given) + " threw " + thrown);
        }
        // Those of the machine itself bear a text of the machine, with a number or a name in it.
        String text = thrown.getMessage();
        if (text == null || text.contains("Index") || text.contains("by zero") || text.contains("\"")) {
            Check.fails(method.getName() + Arrays.toString(given) + " threw of itself: " + thrown);
        }
    }

    private static void sound(Method method, Object answer) {
        if (method.getName().equals("isSound") && !answer.equals(true)) {
            Check.fails("isSound answered false");
        }
    }

    private static Object answer(Object x, Method method, Object[] given) throws IllegalAccessException {
        try {
            return method.invoke(x, given);
        } catch (InvocationTargetException e) {
            return e.getCause();
        }
    }

    private static Method named(String name) {
        for (Method method : Lastroom.class.getMethods()) {
            if (method.getName().equals(name)) {
                return method;
            }
        }
        throw new IllegalStateException(name);
    }

    private static Object[] given(String[] words, Class<?>[] types) {
        Object[] given = new Object[types.length];
        for (int place = 0; place < types.length; place++) {
            int number = next(60) == 0 ? wild() : apt(words[place + 1]);
            if (types[place] == boolean.class) {
                given[place] = words[place + 1].equals("seldom") ? next(6) == 0 : next(4) != 0;
            } else if (types[place] == char.class) {
                given[place] = (char) number;
            } else {
                given[place] = number;
            }
        }
        return given;
    }

    private static int wild() {
        int[] some = {-1, -2, 5, 6, 8, 9, 16, 20, 51, 241, 1000, 65536, Integer.MAX_VALUE, Integer.MIN_VALUE};
        return some[next(some.length)];
    }

    private static int apt(String word) {
        if (word.startsWith("=")) {
            return Integer.parseInt(word.substring(1));
        }
        Integer broad = breadth == DEEP ? deep(word) : breadth == WIDE ? wide(word) : null;
        return broad == null ? narrow(word) : broad;
    }

    private static Integer deep(String word) {
        switch (word) {
            case "model":
            case "style":
                return next(9) / 8;
            case "piece":
                return next(6);
            case "seam":
                return next(9);
            case "hide":
                return next(6);
            case "columns":
            case "rows":
                return 8 + next(3);
            case "after":
                return next(3) == 0 ? 0 : next(1 << next(6));
            case "ticket":
                return next(3);
            default:
                return null;
        }
    }

    private static Integer wide(String word) {
        switch (word) {
            case "size":
                return next(2) == 0 ? 15 + next(36) : 39 + next(2);
            case "foot":
                return 990 + next(3530);
            case "model":
                return next(next(2) == 0 ? 2 : 6);
            case "material":
                return next(5);
            case "width":
                return 1 + next(4);
            case "style":
            case "hide":
                return next(7);
            case "piece":
            case "seam":
                return next(3);
            case "columns":
                return 1 + next(12);
            case "rows":
                return 1 + next(10);
            case "ticket":
                return next(next(2) == 0 ? 6 : 16);
            case "stand":
            case "wait":
                return 1 + next(next(6) == 0 ? 240 : 40);
            case "lot":
                return next(2) == 0 ? -1 : next(20);
            default:
                return null;
        }
    }

    private static int narrow(String word) {
        switch (word) {
            case "system":
                return "fuam".charAt(next(4));
            case "any":
                return next(3) == 0 ? 148 + next(185) : next(18) + next(2) * 35;
            case "size":
                return 38 + next(5);
            case "girthOfModel":
                return 1500 + next(2001);
            case "gradeOfModel":
                return 10 + next(90);
            case "foot":
                return 1000 + next(2501);
            case "construction":
                return "wscm".charAt(next(4));
            case "what":
                return "bfw".charAt(next(3));
            case "material":
                return next(5) == 0 ? next(5) : 1;
            case "pairs":
                return next(10);
            case "width":
                return 1 + next(2);
            case "lot":
                return next(2) == 0 ? -1 : next(12);
            case "model":
            case "one":
                return next(2);
            case "style":
            case "piece":
            case "seam":
                return next(9) / 4 % 2;
            case "hide":
                return next(3);
            case "columns":
            case "rows":
                return 6 + next(5);
            case "ticket":
                return next(8) == 0 ? next(16) : next(6);
            case "grade":
                return 1 + next(20);
            case "minutes":
            case "stand":
                return 1 + next(20);
            case "wait":
                return 1 + next(80);
            case "after":
                return next(2) == 0 ? 0 : next(4);
            case "least":
                return next(3) == 0 ? next(101) : next(11);
            case "quality":
                return next(4);
            case "column":
            case "row":
            case "operator":
                return next(8);
            default:
                return next(4);
        }
    }

    private static int next(int bound) {
        seed = seed * 6364136223846793005L + 1442695040888963407L;
        return (int) ((seed >>> 33) % bound);
    }
}
