import java.util.NoSuchElementException;

public final class Lastroom {
    private static final int NONE = -1;
    private static final int MOST_MODELS = 5;
    private static final int MOST_STYLES = 6;
    private static final int MOST_PIECES = 6;
    private static final int MOST_SEAMS = 8;
    private static final int ALL_SEAMS = -1;
    private static final int MOST_HIDES = 6;
    private static final int MOST_COLUMNS = 12;
    private static final int MOST_ROWS = 10;
    private static final int MOST_TICKETS = 16;
    private static final int MOST_LOTS = 20;
    private static final int MOST_PAIRS = 9;
    private static final int OPERATORS = 8;
    private static final int SKILLS = 4;
    private static final int MATERIALS = 5;
    private static final int BEST_QUALITY = 3;
    private static final int LOWEST_SIZE = 15;
    private static final int MIDDLE_SIZE = 40;
    private static final int HIGHEST_SIZE = 50;
    private static final int LONGEST_WAIT = 240;
    private static final int FIRST_STAND = 30;
    // A cell of this or more tells the ticket for which it was cut, a lesser one its quality.
    private static final int CUT = 10;
    // The number of a cause is below this, so that its kind can be told in the same number.
    private static final int CAUSE_NUMBERS = 64;

    private static final char CUTTING = 'c';
    private static final char SEWING = 's';
    private static final char READY = 'l';
    private static final char ON_LASTS = 'o';
    private static final char SOLED = 'b';
    private static final char DONE = 'd';
    private static final char PACKED = 'p';
    private static final char RETURNED = 'r';

    // In the order in which the first one is preferred.
    private static final char[] CAUSES = {'h', 'k', 's', 'g', 'z'};

    private final Model[] models = new Model[MOST_MODELS];
    private final Style[] styles = new Style[MOST_STYLES];
    private final Hide[] hides = new Hide[MOST_HIDES];
    private final Ticket[] tickets = new Ticket[MOST_TICKETS];
    private final Lot[] lots = new Lot[MOST_LOTS];
    private final Operator[] operators = new Operator[OPERATORS];
    private final int[] stands = new int[MATERIALS];
    private int modelCount;
    private int styleCount;
    private int hideCount;
    private int ticketCount;
    private int lotCount;
    private int returnedCount;
    private int minute;

    public Lastroom() {
        for (int operator = 0; operator < operators.length; operator++) {
            operators[operator] = new Operator();
        }
        for (int material = 0; material < stands.length; material++) {
            stands[material] = FIRST_STAND;
        }
    }

    // Sizes, lasts and feet

    public int length(char system, int size) throws IllegalArgumentException {
        demandSize(system, size);
        return lengthOf(system, size);
    }

    public int convert(char system, int size, char to) throws IllegalArgumentException {
        demandSize(system, size);
        if (!isSystem(to)) {
            throw new IllegalArgumentException("no such system");
        }
        int wanted = lengthOf(system, size);
        int best = lowestSize(to);
        for (int other = best + 1; other <= highestSize(to); other++) {
            if (Math.abs(lengthOf(to, other) - wanted) < Math.abs(lengthOf(to, best) - wanted)) {
                best = other;
            }
        }
        return best;
    }

    public int model(int girth, int grade) throws IllegalArgumentException, IllegalStateException {
        demandRange(girth, 1500, 3500);
        demandRange(grade, 10, 99);
        if (modelCount >= models.length) {
            throw new IllegalStateException("no more models");
        }
        models[modelCount] = new Model(girth, grade);
        return modelCount++;
    }

    public int girth(int model, int size) throws IndexOutOfBoundsException, IllegalArgumentException {
        Model shape = findModel(model);
        demandLastSize(size);
        return shape.girthAt(size);
    }

    public int setLasts(int model, int size, int pairs) throws IndexOutOfBoundsException, IllegalArgumentException, UnsupportedOperationException {
        Model shape = findModel(model);
        demandLastSize(size);
        demandRange(pairs, 0, MOST_PAIRS);
        if (pairs < countStanding(shape, size)) {
            throw new UnsupportedOperationException("more stand on lasts");
        }
        int before = shape.pairsAt(size);
        shape.setPairsAt(size, pairs);
        return before;
    }

    public int freeLasts(int model, int size) throws IndexOutOfBoundsException, IllegalArgumentException {
        Model shape = findModel(model);
        demandLastSize(size);
        return countFree(shape, size);
    }

    public int missingLasts(int model, int size) throws IndexOutOfBoundsException, IllegalArgumentException {
        Model shape = findModel(model);
        demandLastSize(size);
        return Math.max(0, countReady(shape, size) - countFree(shape, size));
    }

    public int misfit(int length, int girth, int model, int size) throws IllegalArgumentException, IndexOutOfBoundsException {
        demandFoot(length, girth);
        demandLastSize(size);
        return misfitOf(length, girth, findModel(model), size);
    }

    public int bestModel(int length, int girth) throws IllegalArgumentException, NoSuchElementException {
        demandFoot(length, girth);
        int best = NONE;
        int least = Integer.MAX_VALUE;
        for (int number = 0; number < models.length; number++) {
            Model shape = models[number];
            if (shape != null) {
                int misfit = misfitOf(length, girth, shape, bestSizeOf(length, girth, shape));
                if (misfit < least) {
                    least = misfit;
                    best = number;
                }
            }
        }
        if (best == NONE) {
            throw new NoSuchElementException("no models");
        }
        return best;
    }

    public int bestSize(int length, int girth, int model) throws IllegalArgumentException, IndexOutOfBoundsException {
        demandFoot(length, girth);
        return bestSizeOf(length, girth, findModel(model));
    }

    // Styles

    public int style(int model, char construction, int upper, int sole) throws IndexOutOfBoundsException, IllegalArgumentException, UnsupportedOperationException, IllegalStateException {
        Model shape = findModel(model);
        if (!isConstruction(construction)) {
            throw new IllegalArgumentException("no such construction");
        }
        demandRange(upper, 0, MATERIALS - 1);
        demandRange(sole, 0, MATERIALS - 1);
        if (!fitsSole(construction, sole)) {
            throw new UnsupportedOperationException("such a sole does not fit");
        }
        if (styleCount >= styles.length) {
            throw new IllegalStateException("no more styles");
        }
        styles[styleCount] = new Style(shape, construction, upper, sole);
        return styleCount++;
    }

    public int piece(int style, int width, int height, int grade, int quality, boolean isAlong) throws IndexOutOfBoundsException, IllegalArgumentException, IllegalStateException {
        Style design = findStyle(style);
        demandRange(width, 1, 4);
        demandRange(height, 1, 4);
        demandRange(grade, 1, 20);
        demandRange(quality, 0, BEST_QUALITY);
        if (design.pieceCount >= MOST_PIECES || hasTicket(design)) {
            throw new IllegalStateException("no more pieces");
        }
        return design.addPiece(new Piece(width, height, grade, quality, isAlong));
    }

    public int seam(int style, int skill, int minutes, int after) throws IndexOutOfBoundsException, IllegalArgumentException, IllegalStateException {
        Style design = findStyle(style);
        demandRange(skill, 0, SKILLS - 1);
        demandRange(minutes, 1, 60);
        if (after >>> design.seamCount != 0) {
            throw new IllegalArgumentException("no earlier seam");
        }
        if (design.seamCount >= MOST_SEAMS || hasTicket(design)) {
            throw new IllegalStateException("no more seams");
        }
        return design.addSeam(new Seam(skill, minutes, after, design.longestOf(after) + minutes));
    }

    public int pieceCells(int style, int piece, int size, boolean isHeight) throws IndexOutOfBoundsException, IllegalArgumentException {
        Piece part = findPiece(findStyle(style), piece);
        demandLastSize(size);
        return isHeight ? part.heightAt(size) : part.widthAt(size);
    }

    public int shortest(int style) throws IndexOutOfBoundsException {
        return findStyle(style).longestOf(ALL_SEAMS);
    }

    public boolean bonds(int style) throws IndexOutOfBoundsException {
        return findStyle(style).bondsUnprimed();
    }

    // Hides and cutting

    public int hide(int material, int columns, int rows) throws IllegalArgumentException, IllegalStateException {
        demandRange(material, 0, MATERIALS - 1);
        demandRange(columns, 1, MOST_COLUMNS);
        demandRange(rows, 1, MOST_ROWS);
        if (hideCount >= hides.length) {
            throw new IllegalStateException("no more hides");
        }
        hides[hideCount] = new Hide(material, columns, rows);
        return hideCount++;
    }

    public int fault(int hide, int column, int row, int quality) throws IndexOutOfBoundsException, IllegalArgumentException, IllegalStateException {
        Hide skin = findHide(hide);
        int before = skin.cellAt(column, row);
        if (before == NONE) {
            throw new IllegalArgumentException("no such cell");
        }
        demandRange(quality, 0, BEST_QUALITY);
        if (before >= CUT) {
            throw new IllegalStateException("the cell was cut");
        }
        skin.setCell(column, row, quality);
        return before;
    }

    public int cellOf(int hide, int column, int row) throws IndexOutOfBoundsException, IllegalArgumentException {
        int cell = findHide(hide).cellAt(column, row);
        if (cell == NONE) {
            throw new IllegalArgumentException("no such cell");
        }
        return cell;
    }

    public int cut(int ticket, int foot, int piece, int hide, int column, int row, boolean isTurned, int operator) throws IndexOutOfBoundsException, IllegalStateException, UnsupportedOperationException {
        Ticket pair = findTicket(ticket);
        Foot shoe = findFoot(pair, foot);
        Piece part = findPiece(pair.style, piece);
        Hide skin = findHide(hide);
        Operator cutter = findOperator(operator);
        if (shoe.hideAt(piece) != NONE) {
            throw new IllegalStateException("the piece was cut");
        }
        if (!cutter.isAtHand(minute)) {
            throw new IllegalStateException("the operator is absent or busy");
        }
        int across = isTurned ? part.heightAt(pair.size) : part.widthAt(pair.size);
        int down = isTurned ? part.widthAt(pair.size) : part.heightAt(pair.size);
        if (isTurned && part.isAlong || skin.material != pair.style.upper) {
            throw new UnsupportedOperationException("it must not be turned, or the hide is of another material");
        }
        int least = skin.leastQuality(column, row, across, down);
        if (least < part.quality) {
            throw new UnsupportedOperationException("the cells are not there, were cut, or of less quality");
        }
        if (!pair.mateOf(shoe).isAlike(piece, hide, least)) {
            throw new UnsupportedOperationException("it does not match the piece of the other foot");
        }
        skin.takeCells(column, row, across, down, CUT + ticket);
        shoe.takePiece(piece, hide, least);
        pair.hideMarks |= 1L << hide;
        pair.cutterMarks |= 1L << operator;
        cutter.pieceCount++;
        return across * down;
    }

    public int firstPlace(int ticket, int piece, int hide) throws IndexOutOfBoundsException, NoSuchElementException {
        Ticket pair = findTicket(ticket);
        Piece part = findPiece(pair.style, piece);
        Hide skin = findHide(hide);
        int place = NONE;
        if (skin.material == pair.style.upper) {
            place = skin.firstPlaceOf(part.widthAt(pair.size), part.heightAt(pair.size), part.quality);
        }
        if (place == NONE) {
            throw new NoSuchElementException("no such place");
        }
        return place;
    }

    public int waste(int hide) throws IndexOutOfBoundsException {
        return findHide(hide).uncutHundredths();
    }

    public int cutBy(int operator) throws IndexOutOfBoundsException {
        return findOperator(operator).pieceCount;
    }

    // Rooms

    public boolean setSkill(int operator, int skill, boolean has) throws IndexOutOfBoundsException, IllegalArgumentException {
        Operator worker = findOperator(operator);
        demandRange(skill, 0, SKILLS - 1);
        boolean before = worker.hasSkill(skill);
        worker.skills = has ? worker.skills | 1 << skill : worker.skills & ~(1 << skill);
        return before;
    }

    public boolean setAbsent(int operator, boolean isAbsent) throws IndexOutOfBoundsException {
        Operator worker = findOperator(operator);
        boolean before = worker.isAbsent;
        worker.isAbsent = isAbsent;
        return before;
    }

    public int ticket(int style, int size) throws IndexOutOfBoundsException, IllegalArgumentException, IllegalStateException {
        Style design = findStyle(style);
        demandLastSize(size);
        if (ticketCount >= tickets.length) {
            throw new IllegalStateException("no more tickets");
        }
        tickets[ticketCount] = new Ticket(design, size);
        return ticketCount++;
    }

    public int pass(int minutes) throws IllegalArgumentException {
        demandRange(minutes, 1, LONGEST_WAIT);
        minute += minutes;
        return minute;
    }

    public int sew(int ticket, int foot, int seam, int operator) throws IndexOutOfBoundsException, IllegalStateException, UnsupportedOperationException {
        Ticket pair = findTicket(ticket);
        Foot shoe = findFoot(pair, foot);
        Seam line = findSeam(pair.style, seam);
        Operator sewer = findOperator(operator);
        if (pair.roomAt(minute) != SEWING) {
            throw new IllegalStateException("the ticket is not in sewing");
        }
        if (shoe.sewerAt(seam) != NONE || shoe.isBusy(minute)) {
            throw new IllegalStateException("the seam was done, or the foot is busy");
        }
        if (!sewer.isAtHand(minute)) {
            throw new IllegalStateException("the operator is absent or busy");
        }
        if (!sewer.hasSkill(line.skill) || !shoe.hasSewn(line.after)) {
            throw new UnsupportedOperationException("a skill or an earlier seam is missing");
        }
        int end = minute + line.minutes;
        shoe.takeSeam(seam, operator, end);
        sewer.busyUntil = end;
        pair.sewerMarks |= 1L << operator;
        return end;
    }

    public char room(int ticket) throws IndexOutOfBoundsException {
        return findTicket(ticket).roomAt(minute);
    }

    public int bottleneck() throws NoSuchElementException {
        int best = NONE;
        int most = NONE;
        for (int skill = 0; skill < SKILLS; skill++) {
            int minutes = countMinutes(skill);
            int hands = countHands(skill);
            int load = hands == 0 ? Integer.MAX_VALUE : wholeParts(minutes, hands);
            if (minutes > 0 && load > most) {
                most = load;
                best = skill;
            }
        }
        if (best == NONE) {
            throw new NoSuchElementException("no minutes are to be done");
        }
        return best;
    }

    public int setStand(int material, int minutes) throws IllegalArgumentException {
        if (material < 0 || material >= stands.length) {
            throw new IllegalArgumentException("no such material");
        }
        demandRange(minutes, 1, LONGEST_WAIT);
        int before = stands[material];
        stands[material] = minutes;
        return before;
    }

    public int lastOn(int ticket) throws IndexOutOfBoundsException, IllegalStateException, UnsupportedOperationException {
        Ticket pair = findTicket(ticket);
        if (pair.roomAt(minute) != READY) {
            throw new IllegalStateException("the ticket is not ready");
        }
        int free = countFree(pair.style.model, pair.size);
        if (free <= 0) {
            throw new UnsupportedOperationException("no lasts are free");
        }
        pair.lateRoom = ON_LASTS;
        pair.lastedAt = minute;
        return free - 1;
    }

    public int open(int minutes) throws IllegalArgumentException, IllegalStateException {
        demandRange(minutes, 1, LONGEST_WAIT);
        if (lotCount >= lots.length) {
            throw new IllegalStateException("no more lots");
        }
        lots[lotCount] = new Lot(minute, minutes);
        return lotCount++;
    }

    public boolean sole(int ticket, int lot, boolean isPrimed) throws IndexOutOfBoundsException, IllegalStateException, UnsupportedOperationException {
        Ticket pair = findTicket(ticket);
        Lot glue = lot == NONE ? null : findLot(lot);
        int stood = minute - pair.lastedAt;
        if (pair.lateRoom != ON_LASTS || stood < standOf(pair.style.upper)) {
            throw new IllegalStateException("the ticket is not on lasts for long enough");
        }
        if (glue != null && !glue.isOpen(minute)) {
            throw new IllegalStateException("the lot is not open any more");
        }
        if (pair.style.isGlued() != (glue != null)) {
            throw new UnsupportedOperationException("it needs a lot, or none");
        }
        boolean isBonded = isPrimed || pair.style.bondsUnprimed();
        pair.lateRoom = SOLED;
        pair.soledAt = minute;
        pair.lot = lot;
        pair.bond = isBonded ? pair.style.bondAfter(glue == null ? 0 : minute - glue.openedAt) : 0;
        pair.flex = 20 * pair.leastQuality() + Math.min(40, stood);
        return isBonded;
    }

    public int takeOff(int ticket) throws IndexOutOfBoundsException, IllegalStateException {
        Ticket pair = findTicket(ticket);
        if (pair.lateRoom != SOLED || minute - pair.soledAt < 10 * pair.style.sole) {
            throw new IllegalStateException("the ticket is not soled for long enough");
        }
        pair.lateRoom = DONE;
        return countFree(pair.style.model, pair.size);
    }

    public boolean pack(int ticket, int bond, int flex) throws IndexOutOfBoundsException, IllegalArgumentException, IllegalStateException {
        Ticket pair = findTicket(ticket);
        demandRange(bond, 0, 100);
        demandRange(flex, 0, 100);
        if (pair.lateRoom != DONE) {
            throw new IllegalStateException("the ticket is not done");
        }
        boolean isGood = pair.bond >= bond && pair.flex >= flex;
        if (isGood) {
            pair.lateRoom = PACKED;
        }
        return isGood;
    }

    // Tests and returns

    public int test(int ticket, char what) throws IndexOutOfBoundsException, IllegalArgumentException, IllegalStateException {
        Ticket pair = findTicket(ticket);
        if (what != 'b' && what != 'f' && what != 'w') {
            throw new IllegalArgumentException("no such test");
        }
        if (pair.lateRoom != DONE && !pair.wasPacked()) {
            throw new IllegalStateException("the ticket is not done");
        }
        if (what == 'w') {
            return pair.bond * pair.flex / 100;
        }
        return what == 'b' ? pair.bond : pair.flex;
    }

    public int comeBack(int ticket) throws IndexOutOfBoundsException, IllegalStateException {
        Ticket pair = findTicket(ticket);
        if (pair.lateRoom != PACKED) {
            throw new IllegalStateException("the ticket is not packed");
        }
        pair.lateRoom = RETURNED;
        returnedCount++;
        return returnedCount;
    }

    public char cause() throws NoSuchElementException {
        return (char) (findCause() / CAUSE_NUMBERS);
    }

    public int causeOf() throws NoSuchElementException {
        return findCause() % CAUSE_NUMBERS;
    }

    public int hideOf(int ticket, int foot, int piece) throws IndexOutOfBoundsException, NoSuchElementException {
        Ticket pair = findTicket(ticket);
        Foot shoe = findFoot(pair, foot);
        findPiece(pair.style, piece);
        int hide = shoe.hideAt(piece);
        if (hide == NONE) {
            throw new NoSuchElementException("the piece was not cut");
        }
        return hide;
    }

    public int sewerOf(int ticket, int foot, int seam) throws IndexOutOfBoundsException, NoSuchElementException {
        Ticket pair = findTicket(ticket);
        Foot shoe = findFoot(pair, foot);
        findSeam(pair.style, seam);
        int sewer = shoe.sewerAt(seam);
        if (sewer == NONE) {
            throw new NoSuchElementException("the seam was not sewn");
        }
        return sewer;
    }

    // Figures

    public long checksum() {
        long sum = 0;
        for (Ticket pair : tickets) {
            if (pair != null) {
                sum = 31 * sum + pair.roomAt(minute) + 7 * (pair.countCut() + pair.countSewn());
            }
        }
        return sum;
    }

    public float packedShare() throws ArithmeticException {
        if (ticketCount == 0) {
            throw new ArithmeticException("no tickets");
        }
        int packed = 0;
        for (Ticket pair : tickets) {
            if (pair != null && pair.wasPacked()) {
                packed++;
            }
        }
        return (float) packed / (float) ticketCount;
    }

    public double meanWaste() throws ArithmeticException {
        if (hideCount == 0) {
            throw new ArithmeticException("no hides");
        }
        int sum = 0;
        for (Hide skin : hides) {
            if (skin != null) {
                sum += skin.uncutHundredths();
            }
        }
        return (double) sum / (double) hideCount;
    }

    public boolean isSound() {
        for (Ticket pair : tickets) {
            if (pair != null && !pair.isMatched()) {
                return false;
            }
        }
        return true;
    }

    // What the calls demand

    private static void demandRange(int number, int lowest, int highest) {
        if (number < lowest || number > highest) {
            throw new IllegalArgumentException("a number is out of range");
        }
    }

    private static void demandLastSize(int size) {
        demandRange(size, LOWEST_SIZE, HIGHEST_SIZE);
    }

    private static void demandSize(char system, int size) {
        if (!isSystem(system)) {
            throw new IllegalArgumentException("no such system");
        }
        demandRange(size, lowestSize(system), highestSize(system));
    }

    private static void demandFoot(int length, int girth) {
        demandRange(length, 1000, 3500);
        demandRange(girth, 1000, 4500);
    }

    private Model findModel(int number) {
        Model found = number >= 0 && number < models.length ? models[number] : null;
        if (found == null) {
            throw new IndexOutOfBoundsException("no such model");
        }
        return found;
    }

    private Style findStyle(int number) {
        Style found = number >= 0 && number < styles.length ? styles[number] : null;
        if (found == null) {
            throw new IndexOutOfBoundsException("no such style");
        }
        return found;
    }

    private static Piece findPiece(Style design, int number) {
        Piece found = number >= 0 && number < design.pieces.length ? design.pieces[number] : null;
        if (found == null) {
            throw new IndexOutOfBoundsException("no such piece");
        }
        return found;
    }

    private static Seam findSeam(Style design, int number) {
        Seam found = number >= 0 && number < design.seams.length ? design.seams[number] : null;
        if (found == null) {
            throw new IndexOutOfBoundsException("no such seam");
        }
        return found;
    }

    private Hide findHide(int number) {
        Hide found = number >= 0 && number < hides.length ? hides[number] : null;
        if (found == null) {
            throw new IndexOutOfBoundsException("no such hide");
        }
        return found;
    }

    private Operator findOperator(int number) {
        Operator found = number >= 0 && number < operators.length ? operators[number] : null;
        if (found == null) {
            throw new IndexOutOfBoundsException("no such operator");
        }
        return found;
    }

    private Ticket findTicket(int number) {
        Ticket found = number >= 0 && number < tickets.length ? tickets[number] : null;
        if (found == null) {
            throw new IndexOutOfBoundsException("no such ticket");
        }
        return found;
    }

    private static Foot findFoot(Ticket pair, int foot) {
        if (foot != 0 && foot != 1) {
            throw new IndexOutOfBoundsException("no such foot");
        }
        return foot == 0 ? pair.left : pair.right;
    }

    private Lot findLot(int number) {
        Lot found = number >= 0 && number < lots.length ? lots[number] : null;
        if (found == null) {
            throw new IndexOutOfBoundsException("no such lot");
        }
        return found;
    }

    // What the terms say

    private static boolean isSystem(char system) {
        return system == 'f' || system == 'u' || system == 'a' || system == 'm';
    }

    private static int lowestSize(char system) {
        switch (system) {
            case 'f':
                return LOWEST_SIZE;
            case 'u':
                return 0;
            case 'a':
                return 1;
            default:
                return 150;
        }
    }

    private static int highestSize(char system) {
        switch (system) {
            case 'f':
                return HIGHEST_SIZE;
            case 'u':
                return 15;
            case 'a':
                return 16;
            default:
                return 330;
        }
    }

    private static int lengthOf(char system, int size) {
        switch (system) {
            case 'f':
                return 200 * size / 3;
            case 'u':
                return 254 * (size + 25) / 3;
            case 'a':
                return 254 * (size + 24) / 3;
            default:
                return 10 * size;
        }
    }

    private static int misfitOf(int length, int girth, Model shape, int size) {
        int lastLength = lengthOf('f', size) - 100;
        return Math.abs(length - lastLength) + 2 * Math.abs(girth - shape.girthAt(size));
    }

    private static int bestSizeOf(int length, int girth, Model shape) {
        int best = LOWEST_SIZE;
        int least = Integer.MAX_VALUE;
        for (int size = LOWEST_SIZE; size <= HIGHEST_SIZE; size++) {
            int misfit = misfitOf(length, girth, shape, size);
            if (misfit < least) {
                least = misfit;
                best = size;
            }
        }
        return best;
    }

    private static boolean isConstruction(char construction) {
        return construction == 'w' || construction == 's' || construction == 'c' || construction == 'm';
    }

    private static boolean fitsSole(char construction, int sole) {
        switch (construction) {
            case 'w':
                return sole <= 1;
            case 's':
                return sole <= 2;
            case 'c':
                return sole >= 1;
            default:
                return sole >= 3;
        }
    }

    private static int wholeParts(int amount, int part) {
        return part == 0 ? 0 : amount / part;
    }

    private int standOf(int material) {
        return material >= 0 && material < stands.length ? stands[material] : FIRST_STAND;
    }

    private boolean hasTicket(Style design) {
        for (Ticket pair : tickets) {
            if (pair != null && pair.style == design) {
                return true;
            }
        }
        return false;
    }

    private int countStanding(Model shape, int size) {
        int standing = 0;
        for (Ticket pair : tickets) {
            if (pair != null && pair.isFor(shape, size) && (pair.lateRoom == ON_LASTS || pair.lateRoom == SOLED)) {
                standing++;
            }
        }
        return standing;
    }

    private int countFree(Model shape, int size) {
        return shape.pairsAt(size) - countStanding(shape, size);
    }

    private int countReady(Model shape, int size) {
        int ready = 0;
        for (Ticket pair : tickets) {
            if (pair != null && pair.isFor(shape, size) && pair.roomAt(minute) == READY) {
                ready++;
            }
        }
        return ready;
    }

    // All tickets may be asked: those behind sewing have no seam left that was not begun.
    private int countMinutes(int skill) {
        int minutes = 0;
        for (Ticket pair : tickets) {
            if (pair != null) {
                minutes += pair.minutesLeft(skill);
            }
        }
        return minutes;
    }

    private int countHands(int skill) {
        int hands = 0;
        for (Operator worker : operators) {
            if (worker != null && !worker.isAbsent && worker.hasSkill(skill)) {
                hands++;
            }
        }
        return hands;
    }

    // The kind stands above the number, so that both calls of the cause share one search.
    private int findCause() {
        int best = NONE;
        int fewest = Integer.MAX_VALUE;
        for (char kind : CAUSES) {
            long common = commonMarks(kind);
            for (int number = 0; number < CAUSE_NUMBERS; number++) {
                if ((common >>> number & 1) == 0) {
                    continue;
                }
                int packed = countPacked(kind, number);
                if (packed < fewest) {
                    fewest = packed;
                    best = kind * CAUSE_NUMBERS + number;
                }
            }
        }
        if (best == NONE) {
            throw new NoSuchElementException("no cause");
        }
        return best;
    }

    private long commonMarks(char kind) {
        long common = returnedCount == 0 ? 0L : -1L;
        for (Ticket pair : tickets) {
            if (pair != null && pair.lateRoom == RETURNED) {
                common &= pair.marksOf(kind);
            }
        }
        return common;
    }

    private int countPacked(char kind, int number) {
        int packed = 0;
        for (Ticket pair : tickets) {
            if (pair != null && pair.lateRoom == PACKED && (pair.marksOf(kind) >>> number & 1) == 1) {
                packed++;
            }
        }
        return packed;
    }

    private static final class Model {
        private final int middleGirth;
        private final int grade;
        private final int[] pairs = new int[HIGHEST_SIZE - LOWEST_SIZE + 1];

        Model(int middleGirth, int grade) {
            this.middleGirth = middleGirth;
            this.grade = grade;
        }

        int girthAt(int size) {
            return middleGirth + grade * (size - MIDDLE_SIZE);
        }

        int pairsAt(int size) {
            int index = size - LOWEST_SIZE;
            return index >= 0 && index < pairs.length ? pairs[index] : 0;
        }

        void setPairsAt(int size, int count) {
            int index = size - LOWEST_SIZE;
            if (index >= 0 && index < pairs.length) {
                pairs[index] = count;
            }
        }
    }

    private static final class Style {
        final Model model;
        final char construction;
        final int upper;
        final int sole;
        final Piece[] pieces = new Piece[MOST_PIECES];
        final Seam[] seams = new Seam[MOST_SEAMS];
        int pieceCount;
        int seamCount;

        Style(Model model, char construction, int upper, int sole) {
            this.model = model;
            this.construction = construction;
            this.upper = upper;
            this.sole = sole;
        }

        int addPiece(Piece part) {
            if (pieceCount < pieces.length) {
                pieces[pieceCount] = part;
                pieceCount++;
            }
            return pieceCount - 1;
        }

        int addSeam(Seam line) {
            if (seamCount < seams.length) {
                seams[seamCount] = line;
                seamCount++;
            }
            return seamCount - 1;
        }

        int longestOf(int chosen) {
            int longest = 0;
            for (int number = 0; number < seams.length; number++) {
                Seam line = seams[number];
                if (line != null && (chosen >>> number & 1) == 1) {
                    longest = Math.max(longest, line.longest);
                }
            }
            return longest;
        }

        boolean isGlued() {
            return construction == 'c' || construction == 'm';
        }

        boolean bondsUnprimed() {
            return !isGlued() || (upper + sole) % 3 != 0;
        }

        int bondAfter(int minutesOpen) {
            if (construction == 'w') {
                return 100;
            }
            return construction == 's' ? 80 : Math.max(10, 90 - minutesOpen);
        }
    }

    private static final class Piece {
        private final int width;
        private final int height;
        private final int grade;
        final int quality;
        final boolean isAlong;

        Piece(int width, int height, int grade, int quality, boolean isAlong) {
            this.width = width;
            this.height = height;
            this.grade = grade;
            this.quality = quality;
            this.isAlong = isAlong;
        }

        int widthAt(int size) {
            return Math.max(1, width + wholeParts(size - MIDDLE_SIZE, grade));
        }

        int heightAt(int size) {
            return Math.max(1, height + wholeParts(size - MIDDLE_SIZE, grade));
        }
    }

    private static final class Seam {
        final int skill;
        final int minutes;
        final int after;
        // The minutes of the longest chain that ends with it: later seams don't change it.
        final int longest;

        Seam(int skill, int minutes, int after, int longest) {
            this.skill = skill;
            this.minutes = minutes;
            this.after = after;
            this.longest = longest;
        }
    }

    private static final class Hide {
        final int material;
        private final int columns;
        private final int rows;
        private final int[] cells = new int[MOST_COLUMNS * MOST_ROWS];

        Hide(int material, int columns, int rows) {
            this.material = material;
            this.columns = columns;
            this.rows = rows;
            for (int index = 0; index < cells.length; index++) {
                cells[index] = BEST_QUALITY;
            }
        }

        private int indexOf(int column, int row) {
            boolean isThere = column >= 0 && column < columns && row >= 0 && row < rows;
            return isThere ? row * MOST_COLUMNS + column : NONE;
        }

        int cellAt(int column, int row) {
            int index = indexOf(column, row);
            return index >= 0 && index < cells.length ? cells[index] : NONE;
        }

        void setCell(int column, int row, int cell) {
            int index = indexOf(column, row);
            if (index >= 0 && index < cells.length) {
                cells[index] = cell;
            }
        }

        int leastQuality(int column, int row, int across, int down) {
            int least = BEST_QUALITY;
            for (int y = 0; y < down; y++) {
                for (int x = 0; x < across; x++) {
                    // A sum beyond the greatest int is negative, and so no cell either.
                    int cell = cellAt(column + x, row + y);
                    if (cell == NONE || cell >= CUT) {
                        return NONE;
                    }
                    least = Math.min(least, cell);
                }
            }
            return least;
        }

        void takeCells(int column, int row, int across, int down, int mark) {
            for (int y = 0; y < down; y++) {
                for (int x = 0; x < across; x++) {
                    setCell(column + x, row + y, mark);
                }
            }
        }

        int firstPlaceOf(int across, int down, int quality) {
            for (int row = 0; row < rows; row++) {
                for (int column = 0; column < columns; column++) {
                    if (leastQuality(column, row, across, down) >= quality) {
                        return 100 * row + column;
                    }
                }
            }
            return NONE;
        }

        int uncutHundredths() {
            int uncut = 0;
            for (int row = 0; row < rows; row++) {
                for (int column = 0; column < columns; column++) {
                    if (cellAt(column, row) < CUT) {
                        uncut++;
                    }
                }
            }
            return wholeParts(100 * uncut, columns * rows);
        }
    }

    private static final class Operator {
        int skills;
        boolean isAbsent;
        int busyUntil;
        int pieceCount;

        boolean hasSkill(int skill) {
            return (skills >>> skill & 1) == 1;
        }

        boolean isAtHand(int minute) {
            return !isAbsent && busyUntil <= minute;
        }
    }

    private static final class Lot {
        final int openedAt;
        private final int minutes;

        Lot(int openedAt, int minutes) {
            this.openedAt = openedAt;
            this.minutes = minutes;
        }

        boolean isOpen(int minute) {
            return minute - openedAt <= minutes;
        }
    }

    private static final class Foot {
        private final int[] hides = new int[MOST_PIECES];
        private final int[] qualities = new int[MOST_PIECES];
        private final int[] sewers = new int[MOST_SEAMS];
        private int sewn;
        private int busyUntil;
        int cutCount;
        int sewnCount;

        Foot() {
            for (int piece = 0; piece < hides.length; piece++) {
                hides[piece] = NONE;
            }
            for (int piece = 0; piece < qualities.length; piece++) {
                qualities[piece] = BEST_QUALITY;
            }
            for (int seam = 0; seam < sewers.length; seam++) {
                sewers[seam] = NONE;
            }
        }

        int hideAt(int piece) {
            return piece >= 0 && piece < hides.length ? hides[piece] : NONE;
        }

        int qualityAt(int piece) {
            return piece >= 0 && piece < qualities.length ? qualities[piece] : BEST_QUALITY;
        }

        int sewerAt(int seam) {
            return seam >= 0 && seam < sewers.length ? sewers[seam] : NONE;
        }

        void takePiece(int piece, int hide, int quality) {
            if (piece >= 0 && piece < hides.length && piece < qualities.length) {
                hides[piece] = hide;
                qualities[piece] = quality;
                cutCount++;
            }
        }

        void takeSeam(int seam, int sewer, int end) {
            if (seam >= 0 && seam < sewers.length) {
                sewers[seam] = sewer;
                sewn |= 1 << seam;
                busyUntil = end;
                sewnCount++;
            }
        }

        boolean isBusy(int minute) {
            return busyUntil > minute;
        }

        boolean hasSewn(int seams) {
            return (seams & ~sewn) == 0;
        }

        // A piece that was not cut yet hinders no mate.
        boolean isAlike(int piece, int hide, int quality) {
            return hideAt(piece) == NONE || hideAt(piece) == hide && qualityAt(piece) == quality;
        }

        int leastQuality() {
            int least = BEST_QUALITY;
            for (int quality : qualities) {
                least = Math.min(least, quality);
            }
            return least;
        }
    }

    private static final class Ticket {
        final Style style;
        final int size;
        final Foot left = new Foot();
        final Foot right = new Foot();
        // The room from the lasts on; ahead of them the pieces, seams and minutes tell it.
        char lateRoom = CUTTING;
        int lastedAt;
        int soledAt;
        int lot = NONE;
        int bond;
        int flex;
        // Bit n: the hide, the cutter or the sewer n has to do with the pair.
        long hideMarks;
        long cutterMarks;
        long sewerMarks;

        Ticket(Style style, int size) {
            this.style = style;
            this.size = size;
        }

        char roomAt(int minute) {
            if (lateRoom != CUTTING) {
                return lateRoom;
            }
            if (countCut() < 2 * style.pieceCount) {
                return CUTTING;
            }
            if (countSewn() < 2 * style.seamCount || left.isBusy(minute) || right.isBusy(minute)) {
                return SEWING;
            }
            return READY;
        }

        int countCut() {
            return left.cutCount + right.cutCount;
        }

        int countSewn() {
            return left.sewnCount + right.sewnCount;
        }

        boolean isFor(Model shape, int lastSize) {
            return style.model == shape && size == lastSize;
        }

        boolean wasPacked() {
            return lateRoom == PACKED || lateRoom == RETURNED;
        }

        Foot mateOf(Foot shoe) {
            return shoe == left ? right : left;
        }

        boolean isMatched() {
            for (int piece = 0; piece < MOST_PIECES; piece++) {
                if (left.hideAt(piece) != NONE && !right.isAlike(piece, left.hideAt(piece), left.qualityAt(piece))) {
                    return false;
                }
            }
            return true;
        }

        // Without pieces the best quality counts, which gives the 60 of the flex.
        int leastQuality() {
            return Math.min(left.leastQuality(), right.leastQuality());
        }

        int minutesLeft(int skill) {
            int minutes = 0;
            for (int number = 0; number < style.seams.length; number++) {
                Seam line = style.seams[number];
                if (line != null && line.skill == skill) {
                    minutes += left.sewerAt(number) == NONE ? line.minutes : 0;
                    minutes += right.sewerAt(number) == NONE ? line.minutes : 0;
                }
            }
            return minutes;
        }

        long marksOf(char kind) {
            switch (kind) {
                case 'h':
                    return hideMarks;
                case 'k':
                    return cutterMarks;
                case 's':
                    return sewerMarks;
                case 'g':
                    return lot == NONE ? 0L : 1L << lot;
                default:
                    return 1L << size;
            }
        }
    }
}
