/** Tells all that can be asked of a works, and what it does behind that, so that two works can be told apart. */
final class Probe {
    interface Call {
        Object answer();
    }

    private static final int PARTS = 7;
    private static final int MOST_CALLS = 310;
    private static final int[] SIZES = {15, 16, 38, 39, 40, 41, 49, 50};

    private final Lastroom x;
    private final StringBuilder told = new StringBuilder();
    private int calls = 0;

    private Probe(Lastroom x) {
        this.x = x;
    }

    /** Each part asks a works of its own, as an object is used for 512 calls alone. The call ahead may be null. */
    static String tell(Edges.Works works, Edges.Call ahead) {
        StringBuilder whole = new StringBuilder();
        for (int part = 0; part < PARTS; part++) {
            Lastroom x = works.made();
            Probe probe = new Probe(x);
            if (ahead != null) {
                answer(() -> ahead.of(x));
            }
            probe.tellPart(part);
            if (probe.calls > MOST_CALLS) {
                Check.fails("the part " + part + " makes " + probe.calls + " calls");
            }
            whole.append(part).append(':').append(probe.told).append('\n');
        }
        return whole.toString();
    }

    private static Object answer(Call call) {
        try {
            return call.answer();
        } catch (RuntimeException e) {
            return e.getClass().getSimpleName();
        }
    }

    private Object ask(Call call) {
        calls++;
        Object answer = answer(call);
        told.append(answer).append(' ');
        return answer;
    }

    private void tellPart(int part) {
        switch (part) {
            case 0:
                tellFigures();
                tellStyles();
                break;
            case 1:
                tellCells();
                break;
            case 2:
                tellPairs(5);
                break;
            case 3:
                tellWhatIsSet();
                break;
            case 4:
                trySewing();
                break;
            case 5:
                tryLasting();
                break;
            default:
                tellMinutes();
        }
    }

    void tellFigures() {
        ask(() -> x.checksum());
        ask(() -> x.packedShare());
        ask(() -> x.meanWaste());
        ask(() -> x.isSound());
        ask(() -> x.bottleneck());
        ask(() -> x.cause());
        ask(() -> x.causeOf());
        ask(() -> x.bestModel(2600, 2300));
        for (int model = 0; model < 5; model++) {
            int number = model;
            ask(() -> x.girth(number, 41));
            ask(() -> x.bestSize(2600, 2300, number));
            for (int size : SIZES) {
                ask(() -> x.freeLasts(number, size));
                ask(() -> x.missingLasts(number, size));
            }
        }
    }

    void tellStyles() {
        for (int style = 0; style < 6; style++) {
            int number = style;
            ask(() -> x.shortest(number));
            ask(() -> x.bonds(number));
            for (int piece = 0; piece < 6; piece++) {
                int part = piece;
                ask(() -> x.pieceCells(number, part, 41, false));
                ask(() -> x.pieceCells(number, part, 41, true));
            }
        }
        for (int ticket = 0; ticket < 16; ticket++) {
            int number = ticket;
            ask(() -> x.room(number));
        }
    }

    void tellCells() {
        for (int hide = 0; hide < 6; hide++) {
            int number = hide;
            if (!(ask(() -> x.waste(number)) instanceof Integer) || hide >= 2) {
                continue;
            }
            for (int cell = 0; cell < 120; cell++) {
                int place = cell;
                ask(() -> x.cellOf(number, place % 12, place / 12));
            }
        }
    }

    void tellPairs(int tickets) {
        for (int operator = 0; operator < 8; operator++) {
            int number = operator;
            ask(() -> x.cutBy(number));
        }
        for (int ticket = 0; ticket < tickets; ticket++) {
            int number = ticket;
            if (!(ask(() -> x.room(number)) instanceof Character)) {
                break;
            }
            for (char what : new char[] {'b', 'f', 'w'}) {
                ask(() -> x.test(number, what));
            }
            for (int place = 0; place < 18; place++) {
                int part = place;
                ask(() -> x.firstPlace(number, part % 6, part / 6));
            }
            for (int place = 0; place < 16; place++) {
                int part = place;
                ask(() -> x.sewerOf(number, part % 2, part / 2));
                ask(() -> x.hideOf(number, part % 2, part / 2));
            }
        }
    }

    private void tellWhatIsSet() {
        for (int operator = 0; operator < 8; operator++) {
            int number = operator;
            ask(() -> x.setAbsent(number, false));
            for (int skill = 0; skill < 4; skill++) {
                int which = skill;
                ask(() -> x.setSkill(number, which, true));
            }
        }
        for (int material = 0; material < 5; material++) {
            int number = material;
            ask(() -> x.setStand(number, 1));
        }
        for (int model = 0; model < 5; model++) {
            int number = model;
            for (int size : SIZES) {
                ask(() -> x.setLasts(number, size, 9));
            }
        }
        ask(() -> x.pass(1));
        ask(() -> x.open(1));
        ask(() -> x.hide(0, 1, 1));
        for (int style = 0; style < 6; style++) {
            int number = style;
            ask(() -> x.piece(number, 1, 1, 1, 0, false));
            ask(() -> x.seam(number, 0, 1, 0));
            ask(() -> x.seam(number, 0, 1, 2));
        }
        ask(() -> x.style(0, 'w', 0, 0));
        ask(() -> x.style(4, 'w', 0, 0));
        ask(() -> x.model(2000, 20));
        ask(() -> x.ticket(0, 40));
    }

    private void trySewing() {
        for (int place = 0; place < 32; place++) {
            int number = place;
            ask(() -> x.setSkill(number / 4, number % 4, true));
        }
        for (int operator = 0; operator < 8; operator++) {
            int number = operator;
            ask(() -> x.cut(0, 0, 0, 0, number, 0, false, number));
        }
        for (int place = 0; place < 256; place++) {
            int number = place;
            ask(() -> x.sew(number / 64, number / 32 % 2, number / 8 % 4, number % 8));
        }
        ask(() -> x.checksum());
    }

    private void tryLasting() {
        ask(() -> x.pass(200));
        for (int step = 0; step < 6; step++) {
            for (int ticket = 0; ticket < 16; ticket++) {
                int number = ticket;
                int act = step;
                ask(() -> onward(number, act));
            }
            ask(() -> x.pass(240));
        }
        ask(() -> x.cause());
        ask(() -> x.causeOf());
        for (int ticket = 0; ticket < 16; ticket++) {
            int number = ticket;
            ask(() -> x.test(number, 'b'));
            ask(() -> x.test(number, 'f'));
        }
        ask(() -> x.checksum());
    }

    private Object onward(int ticket, int act) {
        switch (act) {
            case 0:
                return x.sole(ticket, -1, false);
            case 1:
                return x.sole(ticket, 0, true);
            case 2:
                return x.takeOff(ticket);
            case 3:
                return x.pack(ticket, 0, 0);
            case 4:
                return x.comeBack(ticket);
            default:
                return x.lastOn(ticket);
        }
    }

    /** What is done in which of the next minutes. */
    private void tellMinutes() {
        for (int minute = 0; minute < 40; minute++) {
            ask(() -> x.room(0));
            ask(() -> x.room(1));
            ask(() -> x.sole(0, -1, true));
            ask(() -> x.sole(1, 0, true));
            ask(() -> x.takeOff(0));
            ask(() -> x.takeOff(1));
            ask(() -> x.pass(1));
        }
    }

    /** Asks some of what is told to change nothing: all of it would be too many calls for one object. */
    static void askSome(Lastroom x, int some) {
        Probe probe = new Probe(x);
        switch (some) {
            case 0:
                probe.tellFigures();
                break;
            case 1:
                probe.tellStyles();
                break;
            default:
                probe.tellPairs(2);
        }
    }
}
