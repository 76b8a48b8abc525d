/** The edges of promises 2 to 11: sizes, lasts and feet. */
final class SizeEdges extends Edges {
    static void ask() {
        systems();
        lengths();
        conversions();
        models();
        girths();
        setsLasts();
        freeAndMissing();
        misfits();
        bestOnes();
        orders();
    }

    private static Lastroom models(int count) {
        Lastroom x = new Lastroom();
        for (int model = 0; model < count; model++) {
            x.model(2300, 50);
        }
        return x;
    }

    private static Lastroom oneModel() {
        return models(1);
    }

    /** Three pairs of a style without pieces and seams, two pairs of lasts, and one that stands on them. */
    private static Lastroom standing() {
        Lastroom x = models(2);
        x.style(0, 'w', 0, 1);
        x.setLasts(0, 40, 2);
        for (int ticket = 0; ticket < 3; ticket++) {
            x.ticket(0, 40);
        }
        x.lastOn(0);
        return x;
    }

    private static int lengthDue(char system, int size) {
        switch (system) {
            case 'f':
                return Math.floorDiv(200 * size, 3);
            case 'u':
                return Math.floorDiv(254 * (25 + size), 3);
            case 'a':
                return Math.floorDiv(254 * (24 + size), 3);
            default:
                return 10 * size;
        }
    }

    private static void systems() {
        says(TERMS, "There are the systems", () -> {
            for (int sign = 0; sign <= Character.MAX_VALUE; sign++) {
                char system = (char) sign;
                if ("fuam".indexOf(system) < 0) {
                    Check.fails(BAD, () -> new Lastroom().length(system, 15));
                    Check.fails(BAD, () -> new Lastroom().convert(system, 15, 'f'));
                    Check.fails(BAD, () -> new Lastroom().convert('f', 15, system));
                }
            }
        });
        says(TERMS, "'f' (15 to 50)", () -> sizes('f', 15, 50));
        says(TERMS, "'u' (0 to 15)", () -> sizes('u', 0, 15));
        says(TERMS, "'a' (1 to 16)", () -> sizes('a', 1, 16));
        says(TERMS, "'m' (150 to 330)", () -> sizes('m', 150, 330));
    }

    private static void sizes(char system, int least, int greatest) {
        range(BAD, EMPTY, least, greatest, (x, size) -> x.length(system, size));
        for (char to : new char[] {'f', 'u', 'a', 'm'}) {
            range(BAD, EMPTY, least, greatest, (x, size) -> x.convert(system, size, to));
        }
    }

    private static void lengths() {
        says(2, "there is no such system", () -> {
            for (char system : new char[] {'\0', 'F', 'U', 'A', 'M', 'e', 'g', 't', 'v', 'b', 'l', 'n', ' ', '\uffff'}) {
                refused(BAD, EMPTY, x -> x.length(system, 15));
                refused(BAD, EMPTY, x -> x.length(system, 200));
            }
        });
        says(2, "the size is out of range", () -> {
            // Sizes of another system each.
            refused(BAD, EMPTY, x -> x.length('f', 14));
            refused(BAD, EMPTY, x -> x.length('f', 150));
            refused(BAD, EMPTY, x -> x.length('u', 16));
            refused(BAD, EMPTY, x -> x.length('u', 40));
            refused(BAD, EMPTY, x -> x.length('a', 0));
            refused(BAD, EMPTY, x -> x.length('a', 17));
            refused(BAD, EMPTY, x -> x.length('m', 50));
        });
        says(TERMS, "The length of a size, in tenths of a millimetre, is 200 times it, divided by 3, in 'f'", () -> lengths('f', 15, 50));
        says(TERMS, "254 times 25 more than it, divided by 3, in 'u'", () -> lengths('u', 0, 15));
        says(TERMS, "254 times 24 more than it, divided by 3, in 'a'", () -> lengths('a', 1, 16));
        says(TERMS, "10 times it in 'm'", () -> lengths('m', 150, 330));
        says(TERMS, "all rounded down", () -> {
            // 2666 and 2/3, 2733 and 1/3, 2201 and 1/3, 2286 whole, 2285 and 2/3 would be none.
            is(2666, EMPTY, x -> x.length('f', 40));
            is(2733, EMPTY, x -> x.length('f', 41));
            is(2800, EMPTY, x -> x.length('f', 42));
            is(2116, EMPTY, x -> x.length('u', 0));
            is(2201, EMPTY, x -> x.length('u', 1));
            is(2286, EMPTY, x -> x.length('u', 2));
            is(2116, EMPTY, x -> x.length('a', 1));
            is(2201, EMPTY, x -> x.length('a', 2));
            is(2286, EMPTY, x -> x.length('a', 3));
        });
    }

    private static void lengths(char system, int least, int greatest) {
        Lastroom x = new Lastroom();
        for (int size = least; size <= greatest; size++) {
            int given = size;
            Check.is(lengthDue(system, size), () -> x.length(system, given));
        }
    }

    private static int nearestDue(int length, char to, int least, int greatest) {
        int best = least;
        for (int size = least; size <= greatest; size++) {
            if (Math.abs(lengthDue(to, size) - length) < Math.abs(lengthDue(to, best) - length)) {
                best = size;
            }
        }
        return best;
    }

    private static void conversions() {
        says(3, "there is no such system", () -> {
            refused(BAD, EMPTY, x -> x.convert('x', 40, 'f'));
            refused(BAD, EMPTY, x -> x.convert('\0', 40, 'm'));
            refused(BAD, EMPTY, x -> x.convert('\uffff', 40, 'm'));
        });
        says(3, "the size is out of range", () -> {
            refused(BAD, EMPTY, x -> x.convert('f', 51, 'f'));
            refused(BAD, EMPTY, x -> x.convert('f', 14, 'f'));
            refused(BAD, EMPTY, x -> x.convert('a', 0, 'u'));
            refused(BAD, EMPTY, x -> x.convert('u', 16, 'a'));
        });
        says(3, "for either", () -> {
            refused(BAD, EMPTY, x -> x.convert('f', 40, 'x'));
            refused(BAD, EMPTY, x -> x.convert('f', 40, '\0'));
            refused(BAD, EMPTY, x -> x.convert('f', 40, '\uffff'));
            refused(BAD, EMPTY, x -> x.convert('f', 51, 'x'));
            refused(BAD, EMPTY, x -> x.convert('f', 200, 'm'));
        });
        says(TERMS, "A size becomes that of another system of which the length is nearest", () -> {
            int[][] systems = {{'f', 15, 50}, {'u', 0, 15}, {'a', 1, 16}, {'m', 150, 330}};
            for (int[] from : systems) {
                for (int[] to : systems) {
                    conversions(from, to);
                }
            }
            // Beyond all sizes of the other system, its least and its greatest one.
            is(0, EMPTY, x -> x.convert('f', 15, 'u'));
            is(1, EMPTY, x -> x.convert('m', 150, 'a'));
            is(150, EMPTY, x -> x.convert('f', 15, 'm'));
            is(50, EMPTY, x -> x.convert('a', 16, 'f'));
            is(330, EMPTY, x -> x.convert('u', 15, 'm'));
        });
        says(TERMS, "of two the lesser one", () -> {
            is(2455, EMPTY, x -> x.length('u', 4));
            is(245, EMPTY, x -> x.convert('u', 4, 'm'));
            is(2455, EMPTY, x -> x.length('a', 5));
            is(245, EMPTY, x -> x.convert('a', 5, 'm'));
        });
    }

    private static void conversions(int[] from, int[] to) {
        Lastroom x = new Lastroom();
        for (int size = from[1]; size <= from[2]; size++) {
            int given = size;
            int due = nearestDue(lengthDue((char) from[0], size), (char) to[0], to[1], to[2]);
            Check.is(due, () -> x.convert((char) from[0], given, (char) to[0]));
        }
    }

    private static void models() {
        says(4, "the girth at the size 40, 1500 to 3500", () -> range(BAD, EMPTY, 1500, 3500, (x, girth) -> x.model(girth, 10)));
        says(4, "the grade, 10 to 99", () -> range(BAD, EMPTY, 10, 99, (x, grade) -> x.model(3500, grade)));
        says(4, "a number is out of range", () -> {
            refused(BAD, EMPTY, x -> x.model(1499, 99));
            refused(BAD, EMPTY, x -> x.model(3501, 99));
            refused(BAD, SizeEdges::oneModel, x -> x.model(1500, 9));
            refused(BAD, SizeEdges::oneModel, x -> x.model(1500, 100));
        });
        says(4, "there are 5 models", () -> {
            is(4, () -> models(4), x -> x.model(1500, 99));
            refused(STATE, () -> models(5), x -> x.model(1500, 99));
        });
        says(TERMS, "At most 5 models are numbered from 0", () -> {
            for (int count = 0; count < 5; count++) {
                int due = count;
                is(due, () -> models(due), x -> x.model(2300, 50));
            }
            Check.fails(STATE, () -> models(6));
        });
        says(TERMS, "each with a girth at the size 40, and a grade by which it is more for each size more", () -> {
            Lastroom x = new Lastroom();
            x.model(1500, 99);
            x.model(3500, 10);
            for (int size = 15; size <= 50; size++) {
                int given = size;
                Check.is(1500 + 99 * (size - 40), () -> x.girth(0, given));
                Check.is(3500 + 10 * (size - 40), () -> x.girth(1, given));
            }
        });
    }

    private static void girths() {
        says(5, "there is no such model", () -> {
            numbered(EMPTY, 0, (x, model) -> x.girth(model, 40));
            numbered(() -> models(2), 2, (x, model) -> x.girth(model, 40));
            numbered(() -> models(5), 5, (x, model) -> x.girth(model, 40));
        });
        says(5, "the size, 15 to 50", () -> range(BAD, SizeEdges::oneModel, 15, 50, (x, size) -> x.girth(0, size)));
        says(5, "a number is out of range", () -> {
            refused(BAD, SizeEdges::oneModel, x -> x.girth(0, 0));
            refused(BAD, SizeEdges::oneModel, x -> x.girth(0, 265));
        });
    }

    private static void setsLasts() {
        says(6, "there is no such model", () -> {
            numbered(EMPTY, 0, (x, model) -> x.setLasts(model, 40, 1));
            numbered(SizeEdges::standing, 2, (x, model) -> x.setLasts(model, 40, 3));
            numbered(() -> models(5), 5, (x, model) -> x.setLasts(model, 40, 3));
        });
        says(6, "the size, 15 to 50", () -> range(BAD, SizeEdges::oneModel, 15, 50, (x, size) -> x.setLasts(0, size, 1)));
        says(6, "how many, 0 to 9", () -> range(BAD, SizeEdges::oneModel, 0, 9, (x, pairs) -> x.setLasts(0, 40, pairs)));
        says(6, "a number is out of range", () -> {
            refused(BAD, SizeEdges::standing, x -> x.setLasts(0, 14, 2));
            refused(BAD, SizeEdges::standing, x -> x.setLasts(0, 40, 10));
        });
        says(6, "more stand on lasts by now", () -> {
            refused(UNFIT, SizeEdges::standing, x -> x.setLasts(0, 40, 0));
            is(2, SizeEdges::standing, x -> x.setLasts(0, 40, 1));
            // Those of another size or model don't stand on these.
            is(0, SizeEdges::standing, x -> x.setLasts(0, 41, 0));
            is(0, SizeEdges::standing, x -> x.setLasts(1, 40, 0));
            refused(UNFIT, SizeEdges::soled, x -> x.setLasts(0, 40, 0));
            is(2, SizeEdges::takenOff, x -> x.setLasts(0, 40, 0));
            refused(UNFIT, () -> standing(9), x -> x.setLasts(0, 40, 8));
            is(9, () -> standing(9), x -> x.setLasts(0, 40, 9));
        });
    }

    /** So many pairs on so many lasts. */
    private static Lastroom standing(int pairs) {
        Lastroom x = oneModel();
        x.style(0, 'w', 0, 1);
        x.setLasts(0, 40, pairs);
        for (int ticket = 0; ticket < pairs; ticket++) {
            x.ticket(0, 40);
            x.lastOn(ticket);
        }
        return x;
    }

    private static Lastroom soled() {
        Lastroom x = standing();
        x.pass(30);
        x.sole(0, -1, false);
        return x;
    }

    private static Lastroom takenOff() {
        Lastroom x = soled();
        x.pass(10);
        x.takeOff(0);
        return x;
    }

    private static Object afterSetting(Lastroom x, int pairs) {
        x.setLasts(0, 40, pairs);
        return x.missingLasts(0, 40);
    }

    private static void freeAndMissing() {
        says(7, "there is no such model", () -> {
            numbered(EMPTY, 0, (x, model) -> x.freeLasts(model, 40));
            numbered(SizeEdges::standing, 2, (x, model) -> x.freeLasts(model, 40));
            numbered(() -> models(5), 5, (x, model) -> x.freeLasts(model, 40));
        });
        says(7, "the size, 15 to 50", () -> range(BAD, SizeEdges::standing, 15, 50, (x, size) -> x.freeLasts(0, size)));
        says(7, "a number is out of range", () -> refused(BAD, SizeEdges::standing, x -> x.freeLasts(0, 51)));
        says(TERMS, "There are pairs of lasts of a model in a size, none at first", () -> {
            for (int model = 0; model < 5; model++) {
                Lastroom x = models(5);
                for (int size = 15; size <= 50; size++) {
                    int number = model;
                    int given = size;
                    Check.is(0, () -> x.freeLasts(number, given));
                    Check.is(0, () -> x.missingLasts(number, given));
                    Check.is(0, () -> x.setLasts(number, given, 9));
                    Check.is(9, () -> x.freeLasts(number, given));
                }
            }
        });
        says(TERMS, "those on which a pair stands are not free", () -> {
            is(1, SizeEdges::standing, x -> x.freeLasts(0, 40));
            is(1, SizeEdges::soled, x -> x.freeLasts(0, 40));
            is(2, SizeEdges::takenOff, x -> x.freeLasts(0, 40));
            is(0, () -> standing(9), x -> x.freeLasts(0, 40));
        });
        says(8, "there is no such model", () -> {
            numbered(EMPTY, 0, (x, model) -> x.missingLasts(model, 40));
            numbered(SizeEdges::standing, 2, (x, model) -> x.missingLasts(model, 40));
            numbered(() -> models(5), 5, (x, model) -> x.missingLasts(model, 40));
        });
        says(8, "the size, 15 to 50", () -> range(BAD, SizeEdges::standing, 15, 50, (x, size) -> x.missingLasts(0, size)));
        says(8, "a number is out of range", () -> refused(BAD, SizeEdges::standing, x -> x.missingLasts(0, 14)));
        says(8, "how many more pairs of lasts it would take so that all pairs that are ready for lasts could be on some at once", () -> {
            // Two are ready: one stands, and of the lasts 1, 2, 3 or 4 are free beside it.
            is(2, SizeEdges::standing, x -> afterSetting(x, 1));
            is(1, SizeEdges::standing, x -> afterSetting(x, 2));
            is(0, SizeEdges::standing, x -> afterSetting(x, 3));
            is(0, SizeEdges::standing, x -> afterSetting(x, 4));
            is(0, SizeEdges::standing, x -> x.missingLasts(0, 41));
            is(0, SizeEdges::standing, x -> x.missingLasts(1, 40));
        });
    }

    private static void misfits() {
        says(9, "the length of the foot, 1000 to 3500", () -> range(BAD, SizeEdges::oneModel, 1000, 3500, (x, length) -> x.misfit(length, 2300, 0, 40)));
        says(9, "its girth, 1000 to 4500", () -> range(BAD, SizeEdges::oneModel, 1000, 4500, (x, girth) -> x.misfit(2600, girth, 0, 40)));
        says(9, "the size, 15 to 50", () -> range(BAD, SizeEdges::oneModel, 15, 50, (x, size) -> x.misfit(2600, 2300, 0, size)));
        says(9, "a number is out of range", () -> {
            refused(BAD, SizeEdges::oneModel, x -> x.misfit(999, 999, 0, 40));
            refused(BAD, SizeEdges::oneModel, x -> x.misfit(2600, 2300, 0, 0));
        });
        says(9, "there is no such model", () -> {
            numbered(EMPTY, 0, (x, model) -> x.misfit(2600, 2300, model, 40));
            numbered(() -> models(2), 2, (x, model) -> x.misfit(2600, 2300, model, 40));
            numbered(() -> models(5), 5, (x, model) -> x.misfit(2600, 2300, model, 40));
        });
        says(TERMS, "The misfit of a foot, of a length and a girth, to a last is the difference of its length to the length of the last's size made 100 less, and twice the difference of both girths, together", () -> {
            is(0, SizeEdges::oneModel, x -> x.misfit(2566, 2300, 0, 40));
            is(1, SizeEdges::oneModel, x -> x.misfit(2567, 2300, 0, 40));
            is(1, SizeEdges::oneModel, x -> x.misfit(2565, 2300, 0, 40));
            is(2, SizeEdges::oneModel, x -> x.misfit(2566, 2301, 0, 40));
            is(2, SizeEdges::oneModel, x -> x.misfit(2566, 2299, 0, 40));
            is(3, SizeEdges::oneModel, x -> x.misfit(2565, 2301, 0, 40));
            // A girth of a last below 0: 1500 less 25 times 99.
            is(2600 + 2 * (4500 + 975), SizeEdges::thinModel, x -> x.misfit(3500, 4500, 0, 15));
        });
        says(TERMS, "All sizes without a system are of 'f'", () -> {
            for (int size = 15; size <= 50; size++) {
                int given = size;
                int length = Math.max(1000, lengthDue('f', size) - 100);
                int due = length - (lengthDue('f', size) - 100);
                is(due, SizeEdges::oneModel, x -> x.misfit(length, Math.max(1000, x.girth(0, given)), 0, given));
            }
        });
    }

    private static Lastroom thinModel() {
        Lastroom x = new Lastroom();
        x.model(1500, 99);
        return x;
    }

    private static void bestOnes() {
        says(10, "the length of the foot, 1000 to 3500", () -> range(BAD, SizeEdges::oneModel, 1000, 3500, (x, length) -> x.bestModel(length, 2300)));
        says(10, "its girth, 1000 to 4500", () -> range(BAD, SizeEdges::oneModel, 1000, 4500, (x, girth) -> x.bestModel(2600, girth)));
        says(10, "a number is out of range", () -> refused(BAD, SizeEdges::oneModel, x -> x.bestModel(3501, 999)));
        says(10, "there are no models", () -> {
            refused(NONE, EMPTY, x -> x.bestModel(1000, 1000));
            refused(NONE, EMPTY, x -> x.bestModel(3500, 4500));
            is(0, SizeEdges::oneModel, x -> x.bestModel(1000, 4500));
        });
        says(10, "the model of a last with the least misfit for a foot, in whatever size", () -> leastModels());
        says(10, "of several the lowest one", () -> {
            is(0, () -> models(5), x -> x.bestModel(2600, 2300));
            is(1, () -> withFirst(1500, 10, 4), x -> x.bestModel(2600, 2300));
        });
        says(11, "the length of the foot, 1000 to 3500", () -> range(BAD, SizeEdges::oneModel, 1000, 3500, (x, length) -> x.bestSize(length, 2300, 0)));
        says(11, "its girth, 1000 to 4500", () -> range(BAD, SizeEdges::oneModel, 1000, 4500, (x, girth) -> x.bestSize(2600, girth, 0)));
        says(11, "a number is out of range", () -> refused(BAD, SizeEdges::oneModel, x -> x.bestSize(999, 4501, 0)));
        says(11, "there is no such model", () -> {
            numbered(EMPTY, 0, (x, model) -> x.bestSize(2600, 2300, model));
            numbered(() -> models(2), 2, (x, model) -> x.bestSize(2600, 2300, model));
            numbered(() -> models(5), 5, (x, model) -> x.bestSize(2600, 2300, model));
        });
        says(11, "the size with the least misfit for a foot in a model", () -> {
            leastSizes();
            is(15, SizeEdges::oneModel, x -> x.bestSize(1000, 1000, 0));
            is(50, SizeEdges::oneModel, x -> x.bestSize(3500, 4500, 0));
        });
        says(11, "of several the lowest one", () -> {
            is(222, () -> withFirst(1500, 33, 0), x -> x.misfit(2790, 1500, 0, 42));
            is(222, () -> withFirst(1500, 33, 0), x -> x.misfit(2790, 1500, 0, 43));
            is(42, () -> withFirst(1500, 33, 0), x -> x.bestSize(2790, 1500, 0));
        });
    }

    private static Lastroom withFirst(int girth, int grade, int others) {
        Lastroom x = new Lastroom();
        x.model(girth, grade);
        for (int model = 0; model < others; model++) {
            x.model(2300, 50);
        }
        return x;
    }

    private static Lastroom fiveModels() {
        Lastroom x = new Lastroom();
        x.model(1500, 10);
        x.model(2000, 99);
        x.model(2300, 50);
        x.model(2700, 33);
        x.model(3500, 70);
        return x;
    }

    private static int misfitDue(int length, int girth, int[] model, int size) {
        int lastGirth = model[0] + model[1] * (size - 40);
        return Math.abs(length - (200 * size / 3 - 100)) + 2 * Math.abs(girth - lastGirth);
    }

    private static int bestSizeDue(int length, int girth, int[] model) {
        int best = 15;
        for (int size = 16; size <= 50; size++) {
            best = misfitDue(length, girth, model, size) < misfitDue(length, girth, model, best) ? size : best;
        }
        return best;
    }

    private static final int[][] FIVE = {{1500, 10}, {2000, 99}, {2300, 50}, {2700, 33}, {3500, 70}};

    private static void leastModels() {
        for (int length = 1000; length <= 3500; length += 125) {
            for (int girth = 1000; girth <= 4500; girth += 175) {
                int best = 0;
                int least = Integer.MAX_VALUE;
                for (int model = 0; model < FIVE.length; model++) {
                    int misfit = misfitDue(length, girth, FIVE[model], bestSizeDue(length, girth, FIVE[model]));
                    best = misfit < least ? model : best;
                    least = Math.min(least, misfit);
                }
                int foot = length;
                int round = girth;
                is(best, SizeEdges::fiveModels, x -> x.bestModel(foot, round));
            }
        }
    }

    private static void leastSizes() {
        for (int model = 0; model < FIVE.length; model++) {
            for (int length = 1000; length <= 3500; length += 250) {
                for (int girth = 1000; girth <= 4500; girth += 350) {
                    int number = model;
                    int foot = length;
                    int round = girth;
                    is(bestSizeDue(length, girth, FIVE[model]), SizeEdges::fiveModels, x -> x.bestSize(foot, round, number));
                }
            }
        }
    }

    private static void orders() {
        order(4, BAD, STATE, () -> models(5), x -> x.model(1499, 50));
        order(4, BAD, STATE, () -> models(5), x -> x.model(2300, 100));
        order(5, NO_SUCH, BAD, SizeEdges::oneModel, x -> x.girth(1, 51));
        order(6, NO_SUCH, BAD, SizeEdges::standing, x -> x.setLasts(2, 51, 10));
        neverBoth(6, NO_SUCH, UNFIT, "no pair stands on lasts of a model that there is not");
        order(6, BAD, UNFIT, SizeEdges::standing, x -> x.setLasts(0, 40, -1));
        order(7, NO_SUCH, BAD, SizeEdges::oneModel, x -> x.freeLasts(-1, 14));
        order(8, NO_SUCH, BAD, SizeEdges::oneModel, x -> x.missingLasts(1, 51));
        order(9, BAD, NO_SUCH, SizeEdges::oneModel, x -> x.misfit(999, 2300, 1, 40));
        order(9, BAD, NO_SUCH, SizeEdges::oneModel, x -> x.misfit(2600, 4501, -1, 40));
        order(9, BAD, NO_SUCH, SizeEdges::oneModel, x -> x.misfit(2600, 2300, 5, 51));
        order(10, BAD, NONE, EMPTY, x -> x.bestModel(3501, 2300));
        order(10, BAD, NONE, EMPTY, x -> x.bestModel(2600, 999));
        order(11, BAD, NO_SUCH, SizeEdges::oneModel, x -> x.bestSize(999, 2300, 1));
        order(11, BAD, NO_SUCH, SizeEdges::oneModel, x -> x.bestSize(2600, 4501, 1));
    }
}
