import java.util.ArrayList;
import java.util.HashMap;
import java.util.HashSet;
import java.util.List;
import java.util.Map;
import java.util.NoSuchElementException;
import java.util.Set;
import java.util.TreeSet;

/**
 * The document once more, said as plainly as can be: it keeps a list of what was done and reads each answer from that anew.
 * It shares nothing with Lastroom, so that a long run of calls can be asked of both.
 */
final class Plain {
    private record Model(int girth, int grade) { }

    private record Style(int model, char construction, int upper, int sole, List<Piece> pieces, List<Seam> seams) { }

    private record Piece(int width, int height, int grade, int quality, boolean isAlong) { }

    private record Seam(int skill, int minutes, int after) { }

    private record Hide(int material, int columns, int rows) { }

    private record Ticket(int style, int size) { }

    private record Cell(int hide, int column, int row) { }

    private record Cut(int ticket, int foot, int piece, int hide, int operator, int quality) { }

    private record Sewn(int ticket, int foot, int seam, int operator, int end) { }

    private record Soled(int minute, int stood, int lot, int hadBeenOpen, boolean isBonded) { }

    private record Lot(int minute, int minutes) { }

    private record Cause(int packed, int kind, int number) { }

    private static final String KINDS = "hksgz";

    private final List<Model> models = new ArrayList<>();
    private final List<Style> styles = new ArrayList<>();
    private final List<Hide> hides = new ArrayList<>();
    private final List<Ticket> tickets = new ArrayList<>();
    private final List<Lot> lots = new ArrayList<>();
    private final List<Cut> cuts = new ArrayList<>();
    private final List<Sewn> seams = new ArrayList<>();
    private final Map<String, Integer> pairsOfLasts = new HashMap<>();
    private final Map<Cell, Integer> faults = new HashMap<>();
    private final Map<Cell, Integer> cells = new HashMap<>();
    private final Map<Integer, Integer> stands = new HashMap<>();
    private final Map<Integer, Integer> lasted = new HashMap<>();
    private final Map<Integer, Soled> soled = new HashMap<>();
    private final Set<Integer> off = new HashSet<>();
    private final Set<Integer> packed = new HashSet<>();
    private final Set<Integer> returned = new HashSet<>();
    private final Set<String> skills = new HashSet<>();
    private final Set<Integer> absent = new HashSet<>();
    private int now = 0;

    // Sizes, lasts and feet

    public int length(char system, int size) {
        if (!sizes(system).contains(size)) {
            throw new IllegalArgumentException();
        }
        return tenths(system, size);
    }

    public int convert(char system, int size, char to) {
        int wanted = length(system, size);
        List<Integer> others = sizes(to);
        if (others.isEmpty()) {
            throw new IllegalArgumentException();
        }
        int nearest = others.stream().mapToInt(other -> Math.abs(tenths(to, other) - wanted)).min().getAsInt();
        return others.stream().filter(other -> Math.abs(tenths(to, other) - wanted) == nearest).findFirst().get();
    }

    public int model(int girth, int grade) {
        range(girth, 1500, 3500);
        range(grade, 10, 99);
        state(models.size() < 5);
        models.add(new Model(girth, grade));
        return models.size() - 1;
    }

    public int girth(int model, int size) {
        Model shape = number(models, model);
        range(size, 15, 50);
        int girth = shape.girth;
        for (int above = 41; above <= size; above++) {
            girth += shape.grade;
        }
        for (int below = 39; below >= size; below--) {
            girth -= shape.grade;
        }
        return girth;
    }

    public int setLasts(int model, int size, int pairs) {
        int before = freeLasts(model, size) + standing(model, size);
        range(pairs, 0, 9);
        supported(pairs >= standing(model, size));
        pairsOfLasts.put(model + " " + size, pairs);
        return before;
    }

    public int freeLasts(int model, int size) {
        number(models, model);
        range(size, 15, 50);
        return pairsOfLasts.getOrDefault(model + " " + size, 0) - standing(model, size);
    }

    public int missingLasts(int model, int size) {
        int missing = -freeLasts(model, size);
        for (int ticket : ticketsOn(model, size)) {
            missing += room(ticket) == 'l' ? 1 : 0;
        }
        return Math.max(missing, 0);
    }

    public int misfit(int length, int girth, int model, int size) {
        foot(length, girth);
        range(size, 15, 50);
        number(models, model);
        return Math.abs(length - (length('f', size) - 100)) + Math.abs(girth - girth(model, size)) * 2;
    }

    public int bestModel(int length, int girth) {
        foot(length, girth);
        int best = -1;
        for (int model = models.size() - 1; model >= 0; model--) {
            if (best == -1 || leastMisfit(length, girth, model) <= leastMisfit(length, girth, best)) {
                best = model;
            }
        }
        there(best != -1);
        return best;
    }

    public int bestSize(int length, int girth, int model) {
        foot(length, girth);
        number(models, model);
        int least = leastMisfit(length, girth, model);
        int size = 15;
        while (misfit(length, girth, model, size) != least) {
            size++;
        }
        return size;
    }

    // Styles

    public int style(int model, char construction, int upper, int sole) {
        number(models, model);
        argument("wscm".indexOf(construction) >= 0);
        range(upper, 0, 4);
        range(sole, 0, 4);
        supported((construction + "").matches(new String[] {"[ws]", "[wsc]", "[sc]", "[cm]", "[cm]"}[sole]));
        state(styles.size() < 6);
        styles.add(new Style(model, construction, upper, sole, new ArrayList<>(), new ArrayList<>()));
        return styles.size() - 1;
    }

    public int piece(int style, int width, int height, int grade, int quality, boolean isAlong) {
        Style design = number(styles, style);
        range(width, 1, 4);
        range(height, 1, 4);
        range(grade, 1, 20);
        range(quality, 0, 3);
        state(design.pieces.size() < 6 && tickets.stream().noneMatch(ticket -> ticket.style == style));
        design.pieces.add(new Piece(width, height, grade, quality, isAlong));
        return design.pieces.size() - 1;
    }

    public int seam(int style, int skill, int minutes, int after) {
        Style design = number(styles, style);
        range(skill, 0, 3);
        range(minutes, 1, 60);
        for (int bit = 0; bit < 32; bit++) {
            argument((after & 1 << bit) == 0 || bit < design.seams.size());
        }
        state(design.seams.size() < 8 && tickets.stream().noneMatch(ticket -> ticket.style == style));
        design.seams.add(new Seam(skill, minutes, after));
        return design.seams.size() - 1;
    }

    public int pieceCells(int style, int piece, int size, boolean isHeight) {
        Piece part = number(number(styles, style).pieces, piece);
        range(size, 15, 50);
        int cells = isHeight ? part.height : part.width;
        for (int above = 40 + part.grade; above <= size; above += part.grade) {
            cells++;
        }
        for (int below = 40 - part.grade; below >= size; below -= part.grade) {
            cells--;
        }
        return Math.max(cells, 1);
    }

    public int shortest(int style) {
        Style design = number(styles, style);
        int greatest = 0;
        for (int last = 0; last < design.seams.size(); last++) {
            greatest = Math.max(greatest, chainTo(design, last));
        }
        return greatest;
    }

    public boolean bonds(int style) {
        Style design = number(styles, style);
        int together = design.upper + design.sole;
        return design.construction == 'w' || design.construction == 's' || !(together == 0 || together == 3 || together == 6);
    }

    // Hides and cutting

    public int hide(int material, int columns, int rows) {
        range(material, 0, 4);
        range(columns, 1, 12);
        range(rows, 1, 10);
        state(hides.size() < 6);
        hides.add(new Hide(material, columns, rows));
        return hides.size() - 1;
    }

    public int fault(int hide, int column, int row, int quality) {
        int before = cellOf(hide, column, row);
        range(quality, 0, 3);
        state(before < 10);
        faults.put(new Cell(hide, column, row), quality);
        return before;
    }

    public int cellOf(int hide, int column, int row) {
        number(hides, hide);
        Cell cell = new Cell(hide, column, row);
        argument(isThere(cell));
        return cells.containsKey(cell) ? 10 + cells.get(cell) : faults.getOrDefault(cell, 3);
    }

    public int cut(int ticket, int foot, int piece, int hide, int column, int row, boolean isTurned, int operator) {
        Style design = styleOf(ticket);
        number(List.of(0, 1), foot);
        Piece part = number(design.pieces, piece);
        Hide skin = number(hides, hide);
        operator(operator);
        state(cutOf(ticket, foot, piece) == null);
        state(!absent.contains(operator) && !isBusy(operator));
        supported(!isTurned || !part.isAlong);
        supported(skin.material == design.upper);
        Set<Cell> taken = cellsFor(ticket, piece, hide, column, row, isTurned);
        int least = 3;
        for (Cell cell : taken) {
            supported(isThere(cell) && !cells.containsKey(cell) && faults.getOrDefault(cell, 3) >= part.quality);
            least = Math.min(least, faults.getOrDefault(cell, 3));
        }
        Cut mate = cutOf(ticket, 1 - foot, piece);
        supported(mate == null || mate.hide == hide && mate.quality == least);
        for (Cell cell : taken) {
            cells.put(cell, ticket);
        }
        cuts.add(new Cut(ticket, foot, piece, hide, operator, least));
        return taken.size();
    }

    public int firstPlace(int ticket, int piece, int hide) {
        Style design = styleOf(ticket);
        Piece part = number(design.pieces, piece);
        Hide skin = number(hides, hide);
        there(skin.material == design.upper);
        for (int row = 0; row < 10; row++) {
            for (int column = 0; column < 12; column++) {
                if (cellsFor(ticket, piece, hide, column, row, false).stream().allMatch(cell -> isThere(cell)
                        && !cells.containsKey(cell) && faults.getOrDefault(cell, 3) >= part.quality)) {
                    return 100 * row + column;
                }
            }
        }
        throw new NoSuchElementException();
    }

    public int waste(int hide) {
        Hide skin = number(hides, hide);
        int all = skin.columns * skin.rows;
        int cut = (int) cells.keySet().stream().filter(cell -> cell.hide == hide).count();
        return (all - cut) * 100 / all;
    }

    public int cutBy(int operator) {
        operator(operator);
        return (int) cuts.stream().filter(cut -> cut.operator == operator).count();
    }

    // Rooms

    public boolean setSkill(int operator, int skill, boolean has) {
        operator(operator);
        range(skill, 0, 3);
        String words = operator + " " + skill;
        boolean before = skills.contains(words);
        if (has) {
            skills.add(words);
        } else {
            skills.remove(words);
        }
        return before;
    }

    public boolean setAbsent(int operator, boolean isAbsent) {
        operator(operator);
        return isAbsent ? !absent.add(operator) : absent.remove(operator);
    }

    public int ticket(int style, int size) {
        number(styles, style);
        range(size, 15, 50);
        state(tickets.size() < 16);
        tickets.add(new Ticket(style, size));
        return tickets.size() - 1;
    }

    public int pass(int minutes) {
        range(minutes, 1, 240);
        now += minutes;
        return now;
    }

    public int sew(int ticket, int foot, int seam, int operator) {
        Style design = styleOf(ticket);
        number(List.of(0, 1), foot);
        Seam line = number(design.seams, seam);
        operator(operator);
        state(room(ticket) == 's');
        state(sewnOf(ticket, foot, seam) == null);
        state(seams.stream().noneMatch(sewn -> sewn.ticket == ticket && sewn.foot == foot && sewn.end > now));
        state(!absent.contains(operator) && !isBusy(operator));
        supported(skills.contains(operator + " " + line.skill));
        for (int earlier = 0; earlier < seam; earlier++) {
            supported((line.after & 1 << earlier) == 0 || sewnOf(ticket, foot, earlier) != null);
        }
        seams.add(new Sewn(ticket, foot, seam, operator, now + line.minutes));
        return now + line.minutes;
    }

    public char room(int ticket) {
        Style design = styleOf(ticket);
        if (lasted.containsKey(ticket)) {
            return returned.contains(ticket) ? 'r' : packed.contains(ticket) ? 'p' : off.contains(ticket) ? 'd'
                    : soled.containsKey(ticket) ? 'b' : 'o';
        }
        for (int foot = 0; foot < 2; foot++) {
            for (int piece = 0; piece < design.pieces.size(); piece++) {
                if (cutOf(ticket, foot, piece) == null) {
                    return 'c';
                }
            }
        }
        for (int foot = 0; foot < 2; foot++) {
            for (int seam = 0; seam < design.seams.size(); seam++) {
                Sewn sewn = sewnOf(ticket, foot, seam);
                if (sewn == null || sewn.end > now) {
                    return 's';
                }
            }
        }
        return 'l';
    }

    public int bottleneck() {
        int best = -1;
        for (int skill = 3; skill >= 0; skill--) {
            if (minutesOf(skill) > 0 && (best == -1 || load(skill) >= load(best))) {
                best = skill;
            }
        }
        there(best != -1);
        return best;
    }

    public int setStand(int material, int minutes) {
        range(material, 0, 4);
        range(minutes, 1, 240);
        int before = stands.getOrDefault(material, 30);
        stands.put(material, minutes);
        return before;
    }

    public int lastOn(int ticket) {
        state(room(ticket) == 'l');
        int model = styleOf(ticket).model;
        int size = tickets.get(ticket).size;
        supported(freeLasts(model, size) > 0);
        lasted.put(ticket, now);
        return freeLasts(model, size);
    }

    public int open(int minutes) {
        range(minutes, 1, 240);
        state(lots.size() < 20);
        lots.add(new Lot(now, minutes));
        return lots.size() - 1;
    }

    public boolean sole(int ticket, int lot, boolean isPrimed) {
        Style design = styleOf(ticket);
        Lot glue = lot == -1 ? null : number(lots, lot);
        state(room(ticket) == 'o');
        int stood = now - lasted.get(ticket);
        state(stood >= stands.getOrDefault(design.upper, 30));
        state(glue == null || now - glue.minute <= glue.minutes);
        supported((glue != null) == (design.construction == 'c' || design.construction == 'm'));
        boolean isBonded = isPrimed || bonds(tickets.get(ticket).style);
        soled.put(ticket, new Soled(now, stood, lot, glue == null ? 0 : now - glue.minute, isBonded));
        return isBonded;
    }

    public int takeOff(int ticket) {
        state(room(ticket) == 'b');
        Style design = styleOf(ticket);
        state(now >= soled.get(ticket).minute + 10 * design.sole);
        off.add(ticket);
        return freeLasts(design.model, tickets.get(ticket).size);
    }

    public boolean pack(int ticket, int bond, int flex) {
        styleOf(ticket);
        range(bond, 0, 100);
        range(flex, 0, 100);
        state(room(ticket) == 'd');
        return test(ticket, 'b') >= bond && test(ticket, 'f') >= flex && packed.add(ticket);
    }

    // Tests and returns

    public int test(int ticket, char what) {
        Style design = styleOf(ticket);
        argument(what == 'b' || what == 'f' || what == 'w');
        state(off.contains(ticket));
        Soled how = soled.get(ticket);
        if (what == 'w') {
            return test(ticket, 'b') * test(ticket, 'f') / 100;
        }
        if (what == 'f') {
            int least = cuts.stream().filter(cut -> cut.ticket == ticket).mapToInt(Cut::quality).min().orElse(3);
            return 20 * least + Math.min(how.stood, 40);
        }
        if (design.construction == 'w' || design.construction == 's') {
            return design.construction == 'w' ? 100 : 80;
        }
        return how.isBonded ? Math.max(90 - how.hadBeenOpen, 10) : 0;
    }

    public int comeBack(int ticket) {
        state(room(ticket) == 'p');
        returned.add(ticket);
        return returned.size();
    }

    public char cause() {
        return KINDS.charAt(worst().kind);
    }

    public int causeOf() {
        return worst().number;
    }

    public int hideOf(int ticket, int foot, int piece) {
        number(styleOf(ticket).pieces, piece);
        number(List.of(0, 1), foot);
        Cut cut = cutOf(ticket, foot, piece);
        there(cut != null);
        return cut.hide;
    }

    public int sewerOf(int ticket, int foot, int seam) {
        number(styleOf(ticket).seams, seam);
        number(List.of(0, 1), foot);
        Sewn sewn = sewnOf(ticket, foot, seam);
        there(sewn != null);
        return sewn.operator;
    }

    // Figures

    public long checksum() {
        long sum = 0;
        for (int number = 0; number < tickets.size(); number++) {
            int ticket = number;
            long cut = cuts.stream().filter(one -> one.ticket == ticket).count();
            long sewn = seams.stream().filter(one -> one.ticket == ticket).count();
            sum = sum * 31 + (long) room(ticket) + cut * 7 + sewn * 7;
        }
        return sum;
    }

    public float packedShare() {
        count(tickets.size());
        return (float) packed.size() / (float) tickets.size();
    }

    public double meanWaste() {
        count(hides.size());
        int sum = 0;
        for (int hide = 0; hide < hides.size(); hide++) {
            sum += waste(hide);
        }
        return (double) sum / (double) hides.size();
    }

    public boolean isSound() {
        return true;
    }

    // What the terms say

    private static List<Integer> sizes(char system) {
        int lowest = system == 'f' ? 15 : system == 'u' ? 0 : system == 'a' ? 1 : system == 'm' ? 150 : 1;
        int highest = system == 'f' ? 50 : system == 'u' ? 15 : system == 'a' ? 16 : system == 'm' ? 330 : 0;
        List<Integer> sizes = new ArrayList<>();
        for (int size = lowest; size <= highest; size++) {
            sizes.add(size);
        }
        return sizes;
    }

    private static int tenths(char system, int size) {
        return system == 'f' ? size * 200 / 3 : system == 'u' ? (25 + size) * 254 / 3 : system == 'a' ? (24 + size) * 254 / 3
                : size * 10;
    }

    private int leastMisfit(int length, int girth, int model) {
        return sizes('f').stream().mapToInt(size -> misfit(length, girth, model, size)).min().getAsInt();
    }

    private List<Integer> ticketsOn(int model, int size) {
        List<Integer> found = new ArrayList<>();
        for (int ticket = 0; ticket < tickets.size(); ticket++) {
            if (styleOf(ticket).model == model && tickets.get(ticket).size == size) {
                found.add(ticket);
            }
        }
        return found;
    }

    private int standing(int model, int size) {
        return (int) ticketsOn(model, size).stream().filter(one -> room(one) == 'o' || room(one) == 'b').count();
    }

    private static int chainTo(Style design, int last) {
        int longest = 0;
        for (int ahead = 0; ahead < last; ahead++) {
            if ((design.seams.get(last).after & 1 << ahead) != 0) {
                longest = Math.max(longest, chainTo(design, ahead));
            }
        }
        return longest + design.seams.get(last).minutes;
    }

    private boolean isThere(Cell cell) {
        Hide skin = hides.get(cell.hide);
        return cell.column >= 0 && cell.column < skin.columns && cell.row >= 0 && cell.row < skin.rows;
    }

    private Set<Cell> cellsFor(int ticket, int piece, int hide, int column, int row, boolean isTurned) {
        int across = pieceCells(tickets.get(ticket).style, piece, tickets.get(ticket).size, isTurned);
        int down = pieceCells(tickets.get(ticket).style, piece, tickets.get(ticket).size, !isTurned);
        Set<Cell> cells = new HashSet<>();
        for (int x = 0; x < across; x++) {
            for (int y = 0; y < down; y++) {
                cells.add(new Cell(hide, column + x, row + y));
            }
        }
        return cells;
    }

    private Cut cutOf(int ticket, int foot, int piece) {
        return cuts.stream().filter(cut -> cut.ticket == ticket && cut.foot == foot && cut.piece == piece).findAny().orElse(null);
    }

    private Sewn sewnOf(int ticket, int foot, int seam) {
        return seams.stream().filter(one -> one.ticket == ticket && one.foot == foot && one.seam == seam).findAny().orElse(null);
    }

    private boolean isBusy(int operator) {
        return seams.stream().anyMatch(sewn -> sewn.operator == operator && sewn.end > now);
    }

    private int minutesOf(int skill) {
        int minutes = 0;
        for (int ticket = 0; ticket < tickets.size(); ticket++) {
            if (room(ticket) == 'c' || room(ticket) == 's') {
                List<Seam> lines = styleOf(ticket).seams;
                for (int seam = 0; seam < lines.size(); seam++) {
                    for (int foot = 0; foot < 2; foot++) {
                        boolean isDue = lines.get(seam).skill == skill && sewnOf(ticket, foot, seam) == null;
                        minutes += isDue ? lines.get(seam).minutes : 0;
                    }
                }
            }
        }
        return minutes;
    }

    private double load(int skill) {
        int hands = 0;
        for (int operator = 0; operator < 8; operator++) {
            hands += skills.contains(operator + " " + skill) && !absent.contains(operator) ? 1 : 0;
        }
        return hands == 0 ? Double.POSITIVE_INFINITY : minutesOf(skill) / hands;
    }

    private Set<Integer> placesOf(int ticket, int kind) {
        Set<Integer> places = new TreeSet<>();
        for (Cut cut : cuts) {
            if (cut.ticket == ticket && kind < 2) {
                places.add(kind == 0 ? cut.hide : cut.operator);
            }
        }
        for (Sewn sewn : seams) {
            if (sewn.ticket == ticket && kind == 2) {
                places.add(sewn.operator);
            }
        }
        if (kind == 3 && soled.get(ticket).lot != -1) {
            places.add(soled.get(ticket).lot);
        }
        if (kind == 4) {
            places.add(tickets.get(ticket).size);
        }
        return places;
    }

    private Cause worst() {
        there(!returned.isEmpty());
        Cause worst = null;
        for (int kind = 0; kind < KINDS.length(); kind++) {
            for (int number = 0; number <= 50; number++) {
                int packed = 0;
                boolean isCommon = true;
                for (int ticket : this.packed) {
                    boolean has = placesOf(ticket, kind).contains(number);
                    isCommon &= has || !returned.contains(ticket);
                    packed += has && !returned.contains(ticket) ? 1 : 0;
                }
                if (isCommon && (worst == null || packed < worst.packed)) {
                    worst = new Cause(packed, kind, number);
                }
            }
        }
        there(worst != null);
        return worst;
    }

    // What the calls demand

    private Style styleOf(int ticket) {
        return styles.get(number(tickets, ticket).style);
    }

    private static <T> T number(List<T> all, int number) {
        if (number < 0 || number >= all.size()) {
            throw new IndexOutOfBoundsException();
        }
        return all.get(number);
    }

    private static void operator(int operator) {
        if (operator < 0 || operator > 7) {
            throw new IndexOutOfBoundsException();
        }
    }

    private static void foot(int length, int girth) {
        range(length, 1000, 3500);
        range(girth, 1000, 4500);
    }

    private static void range(int number, int lowest, int highest) {
        argument(number >= lowest && number <= highest);
    }

    private static void argument(boolean isApt) {
        if (!isApt) {
            throw new IllegalArgumentException();
        }
    }

    private static void state(boolean isApt) {
        if (!isApt) {
            throw new IllegalStateException();
        }
    }

    private static void supported(boolean isApt) {
        if (!isApt) {
            throw new UnsupportedOperationException();
        }
    }

    private static void there(boolean isThere) {
        if (!isThere) {
            throw new NoSuchElementException();
        }
    }

    private static void count(int count) {
        if (count == 0) {
            throw new ArithmeticException();
        }
    }
}
