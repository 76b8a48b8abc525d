/** The edges of promises 32 to 37: lasts, glue, soles and packing. */
final class LastEdges extends Edges {
    static void ask() {
        stands();
        lasting();
        lots();
        soling();
        standing();
        gluing();
        bonding();
        takingOff();
        packing();
        orders();
    }

    /** A style of the construction and materials, and the ticket 0, ready for one pair of lasts. */
    private static Lastroom ready(char construction, int upper, int sole) {
        Lastroom x = new Lastroom();
        x.model(2300, 50);
        x.style(0, construction, upper, sole);
        x.setLasts(0, 40, 1);
        x.ticket(0, 40);
        return x;
    }

    private static Lastroom onLasts(char construction, int upper, int sole) {
        Lastroom x = ready(construction, upper, sole);
        x.lastOn(0);
        return x;
    }

    private static Lastroom passed(Lastroom x, int minutes) {
        for (int left = minutes; left > 0; left -= 240) {
            x.pass(Math.min(left, 240));
        }
        return x;
    }

    private static Lastroom opened(Lastroom x, int minutes) {
        x.open(minutes);
        return x;
    }

    private static Lastroom stand(Lastroom x, int material, int minutes) {
        x.setStand(material, minutes);
        return x;
    }

    private static Lastroom soled(Lastroom x, int lot) {
        x.sole(0, lot, true);
        return x;
    }

    /** It stood for 30 minutes, and was soled now. */
    private static Lastroom soledWelt(int sole) {
        return soled(passed(onLasts('w', 1, sole), 30), -1);
    }

    private static Lastroom done() {
        Lastroom x = soledWelt(0);
        x.takeOff(0);
        return x;
    }

    private static Lastroom tickets(int lasts) {
        Lastroom x = new Lastroom();
        x.model(2300, 50);
        x.model(2300, 50);
        x.style(0, 'w', 1, 0);
        x.style(1, 'w', 1, 0);
        x.setLasts(0, 40, lasts);
        x.ticket(0, 40);
        x.ticket(0, 40);
        x.ticket(0, 41);
        x.ticket(1, 40);
        return x;
    }

    private static void stands() {
        says(32, "the material, 0 to 4", () -> range(BAD, EMPTY, 0, 4, (x, material) -> x.setStand(material, 1)));
        says(32, "the minutes, 1 to 240", () -> range(BAD, EMPTY, 1, 240, (x, minutes) -> x.setStand(4, minutes)));
        says(32, "a number is out of range", () -> {
            refused(BAD, EMPTY, x -> x.setStand(5, 240));
            refused(BAD, EMPTY, x -> x.setStand(0, 241));
        });
        says(32, "Returns the minutes before", () -> {
            for (int material = 0; material <= 4; material++) {
                int number = material;
                is(30, EMPTY, x -> x.setStand(number, 240));
                is(240, () -> stand(new Lastroom(), number, 240), x -> x.setStand(number, 1));
                is(30, () -> stand(new Lastroom(), number, 240), x -> x.setStand((number + 1) % 5, 1));
            }
        });
    }

    private static void lasting() {
        says(33, "there is no such ticket", () -> {
            numbered(EMPTY, 0, (x, ticket) -> x.lastOn(ticket));
            numbered(() -> tickets(9), 2, (x, ticket) -> ticket == 2 ? x.lastOn(4) : x.lastOn(ticket == 3 ? 16 : ticket));
        });
        says(33, "it is not ready", () -> {
            refused(STATE, LastEdges::inCutting, x -> x.lastOn(0));
            refused(STATE, LastEdges::inSewing, x -> x.lastOn(0));
            refused(STATE, () -> withMoreLasts(onLasts('w', 1, 0)), x -> x.lastOn(0));
            refused(STATE, () -> withMoreLasts(soledWelt(0)), x -> x.lastOn(0));
            refused(STATE, LastEdges::done, x -> x.lastOn(0));
            refused(STATE, LastEdges::packed, x -> x.lastOn(0));
            refused(STATE, LastEdges::returned, x -> x.lastOn(0));
            is(0, () -> ready('w', 1, 0), x -> x.lastOn(0));
        });
        says(33, "none are free", () -> {
            refused(UNFIT, () -> tickets(0), x -> x.lastOn(0));
            is(0, () -> tickets(1), x -> x.lastOn(0));
            refused(UNFIT, LastEdges::firstOn, x -> x.lastOn(1));
            is(8, () -> tickets(9), x -> x.lastOn(0));
        });
        says(TERMS, "A pair goes onto a free pair of lasts of the model and size", () -> {
            refused(UNFIT, () -> tickets(9), x -> x.lastOn(2));
            refused(UNFIT, () -> tickets(9), x -> x.lastOn(3));
            is(0, LastEdges::firstTakenOff, x -> x.lastOn(1));
        });
        says(TERMS, "'l' ready for the lasts; 'o' on lasts; 'b' soled, still on them; 'd' done; 'p' packed; 'r' returned", () -> {
            is('l', () -> ready('w', 1, 0), x -> x.room(0));
            is('o', () -> onLasts('w', 1, 0), x -> x.room(0));
            is('o', () -> passed(onLasts('w', 1, 0), 240), x -> x.room(0));
            is('b', () -> soledWelt(0), x -> x.room(0));
            is('b', () -> passed(soledWelt(0), 240), x -> x.room(0));
            is('d', LastEdges::done, x -> x.room(0));
            is('p', LastEdges::packed, x -> x.room(0));
            is('r', LastEdges::returned, x -> x.room(0));
        });
    }

    private static Lastroom inCutting() {
        Lastroom x = new Lastroom();
        x.model(2300, 50);
        x.style(0, 'w', 1, 0);
        x.piece(0, 1, 1, 20, 0, false);
        x.setLasts(0, 40, 1);
        x.ticket(0, 40);
        return x;
    }

    private static Lastroom inSewing() {
        Lastroom x = new Lastroom();
        x.model(2300, 50);
        x.style(0, 'w', 1, 0);
        x.seam(0, 0, 1, 0);
        x.setLasts(0, 40, 1);
        x.ticket(0, 40);
        return x;
    }

    private static Lastroom withMoreLasts(Lastroom x) {
        x.setLasts(0, 40, 9);
        return x;
    }

    private static Lastroom packed() {
        Lastroom x = done();
        x.pack(0, 0, 0);
        return x;
    }

    private static Lastroom returned() {
        Lastroom x = packed();
        x.comeBack(0);
        return x;
    }

    private static Lastroom firstOn() {
        Lastroom x = tickets(1);
        x.lastOn(0);
        return x;
    }

    private static Lastroom firstTakenOff() {
        Lastroom x = passed(firstOn(), 30);
        x.sole(0, -1, false);
        x.takeOff(0);
        return x;
    }

    private static Lastroom lots(int count) {
        Lastroom x = new Lastroom();
        for (int lot = 0; lot < count; lot++) {
            x.open(240);
        }
        return x;
    }

    private static void lots() {
        says(34, "for how long, 1 to 240", () -> range(BAD, EMPTY, 1, 240, (x, minutes) -> x.open(minutes)));
        says(34, "a number is out of range", () -> {
            refused(BAD, () -> lots(19), x -> x.open(0));
            refused(BAD, () -> lots(19), x -> x.open(241));
        });
        says(34, "there were 20", () -> {
            is(19, () -> lots(19), x -> x.open(1));
            refused(STATE, () -> lots(20), x -> x.open(1));
            // Also if none of them is open any more.
            refused(STATE, () -> passed(lots(20), 241), x -> x.open(1));
        });
        says(TERMS, "A glue is opened in lots, numbered from 0, at most 20", () -> {
            for (int count = 0; count < 20; count++) {
                int due = count;
                is(due, () -> lots(due), x -> x.open(240));
            }
            Check.fails(STATE, () -> lots(21));
        });
    }

    private static Lastroom gluedWithLots(int lots) {
        Lastroom x = passed(onLasts('c', 1, 1), 30);
        for (int lot = 0; lot < lots; lot++) {
            x.open(240);
        }
        return x;
    }

    private static void soling() {
        says(35, "there is no such ticket", () -> {
            numbered(EMPTY, 0, (x, ticket) -> x.sole(ticket, -1, false));
            numbered(() -> passed(onLasts('w', 1, 0), 30), 1, (x, ticket) -> x.sole(ticket, -1, false));
        });
        says(35, "no such lot", () -> {
            for (int lots : new int[] {1, 2, 20}) {
                is(true, () -> gluedWithLots(lots), x -> x.sole(0, 0, false));
                is(true, () -> gluedWithLots(lots), x -> x.sole(0, lots - 1, false));
                for (int lot : new int[] {-2, lots, lots + 1, 64, Integer.MIN_VALUE, Integer.MAX_VALUE}) {
                    refused(NO_SUCH, () -> gluedWithLots(lots), x -> x.sole(0, lot, false));
                }
            }
            refused(NO_SUCH, () -> gluedWithLots(0), x -> x.sole(0, 0, false));
        });
        says(35, "it is not -1", () -> {
            is(true, () -> passed(onLasts('w', 1, 0), 30), x -> x.sole(0, -1, false));
            refused(NO_SUCH, () -> passed(onLasts('w', 1, 0), 30), x -> x.sole(0, -2, false));
        });
        says(35, "the lot of glue, or -1 for none", () -> {
            is(true, () -> passed(onLasts('s', 1, 0), 30), x -> x.sole(0, -1, true));
            refused(UNFIT, () -> gluedWithLots(1), x -> x.sole(0, -1, true));
        });
        says(35, "it is not on lasts", () -> {
            refused(STATE, () -> passed(ready('w', 1, 0), 30), x -> x.sole(0, -1, false));
            refused(STATE, () -> passed(inCutting(), 30), x -> x.sole(0, -1, false));
            refused(STATE, () -> passed(inSewing(), 30), x -> x.sole(0, -1, false));
            refused(STATE, () -> passed(soledWelt(0), 30), x -> x.sole(0, -1, false));
            refused(STATE, () -> passed(done(), 30), x -> x.sole(0, -1, false));
            refused(STATE, () -> passed(packed(), 30), x -> x.sole(0, -1, false));
            refused(STATE, () -> passed(returned(), 30), x -> x.sole(0, -1, false));
        });
        says(35, "did not stand for long enough", () -> {
            refused(STATE, () -> onLasts('w', 1, 0), x -> x.sole(0, -1, false));
            refused(STATE, () -> passed(onLasts('w', 1, 0), 29), x -> x.sole(0, -1, false));
            is(true, () -> passed(onLasts('w', 1, 0), 30), x -> x.sole(0, -1, false));
            // Minutes ahead of the lasts don't count.
            refused(STATE, LastEdges::lateOnLasts, x -> x.sole(0, -1, false));
        });
        says(35, "the lot is not open any more", () -> {
            refused(STATE, () -> openFor(1, 2), x -> x.sole(0, 0, false));
            is(true, () -> openFor(1, 1), x -> x.sole(0, 0, false));
            refused(STATE, () -> openFor(240, 241), x -> x.sole(0, 0, false));
            is(true, () -> openFor(240, 240), x -> x.sole(0, 0, false));
        });
        says(35, "it needs a lot", () -> {
            refused(UNFIT, () -> gluedWithLots(1), x -> x.sole(0, -1, false));
            refused(UNFIT, () -> opened(passed(onLasts('m', 1, 3), 30), 9), x -> x.sole(0, -1, true));
        });
        says(35, "or none", () -> {
            refused(UNFIT, () -> opened(passed(onLasts('w', 1, 0), 30), 9), x -> x.sole(0, 0, false));
            refused(UNFIT, () -> opened(passed(onLasts('s', 1, 0), 30), 9), x -> x.sole(0, 0, true));
        });
    }

    private static Lastroom lateOnLasts() {
        Lastroom x = passed(ready('w', 1, 0), 29);
        x.lastOn(0);
        return passed(x, 29);
    }

    /** A pair by 'c' that stood for long enough, and a lot that was opened so many minutes ago. */
    private static Lastroom openFor(int minutes, int ago) {
        return passed(opened(passed(onLasts('c', 1, 1), 30), minutes), ago);
    }

    private static void standing() {
        says(TERMS, "It must stand on them for the minutes of its upper's material, 30 at first, as they are told when it is soled, ahead of that", () -> {
            for (int upper = 0; upper <= 4; upper++) {
                int material = upper;
                is(true, () -> passed(onLasts('w', material, 0), 30), x -> x.sole(0, -1, false));
                refused(STATE, () -> passed(onLasts('w', material, 0), 29), x -> x.sole(0, -1, false));
                for (int minutes : new int[] {1, 2, 31, 239, 240}) {
                    is(true, () -> stand(passed(onLasts('w', material, 0), minutes), material, minutes), x -> x.sole(0, -1, false));
                    Works less = () -> passed(stand(onLasts('w', material, 0), material, minutes), minutes - 1);
                    refused(STATE, less, x -> x.sole(0, -1, false));
                }
                // Of another material they say nothing.
                is(true, () -> stand(passed(onLasts('w', material, 0), 30), (material + 1) % 5, 240), x -> x.sole(0, -1, false));
            }
            // What was told while it went onto the lasts is told anew by now.
            is(true, () -> stand(passed(stand(onLasts('w', 1, 0), 1, 100), 50), 1, 50), x -> x.sole(0, -1, false));
            refused(STATE, () -> stand(passed(stand(onLasts('w', 1, 0), 1, 50), 50), 1, 51), x -> x.sole(0, -1, false));
        });
        says(TERMS, "and 10 times its sole's material more behind that, then it comes off", () -> {
            char[] constructions = {'w', 'w', 's', 'c', 'm'};
            for (int sole = 0; sole <= 4; sole++) {
                char construction = constructions[sole];
                int material = sole;
                int lot = sole >= 3 ? 0 : -1;
                Works onLasts = () -> opened(passed(onLasts(construction, 1, material), 30), 240);
                is(1, () -> passed(soled(onLasts.made(), lot), 10 * material), x -> x.takeOff(0));
                if (sole > 0) {
                    refused(STATE, () -> passed(soled(onLasts.made(), lot), 10 * material - 1), x -> x.takeOff(0));
                    // The minutes ahead of the sole count for nothing here.
                    refused(STATE, () -> soled(passed(onLasts.made(), 100), lot), x -> x.takeOff(0));
                }
            }
        });
    }

    private static void gluing() {
        says(TERMS, "each open until more minutes than told have passed", () -> {
            for (int minutes : new int[] {1, 2, 10, 239, 240}) {
                is(true, () -> passed(openFor(minutes, 0), minutes), x -> x.sole(0, 0, false));
                refused(STATE, () -> passed(openFor(minutes, 0), minutes + 1), x -> x.sole(0, 0, false));
            }
            // Each lot has minutes of its own.
            is(true, LastEdges::twoLots, x -> x.sole(0, 1, false));
            refused(STATE, LastEdges::twoLots, x -> x.sole(0, 0, false));
        });
        says(TERMS, "a pair by 'c' and 'm' is soled by a lot that is open, and primed or not", () -> {
            for (boolean isPrimed : new boolean[] {true, false}) {
                is(true, () -> opened(passed(onLasts('c', 1, 1), 30), 1), x -> x.sole(0, 0, isPrimed));
                is(true, () -> opened(passed(onLasts('m', 1, 3), 30), 1), x -> x.sole(0, 0, isPrimed));
                refused(UNFIT, () -> opened(passed(onLasts('m', 1, 3), 30), 1), x -> x.sole(0, -1, isPrimed));
            }
        });
        says(TERMS, "by 'w' and 's' by none", () -> {
            for (boolean isPrimed : new boolean[] {true, false}) {
                is(true, () -> passed(onLasts('w', 1, 1), 30), x -> x.sole(0, -1, isPrimed));
                is(true, () -> passed(onLasts('s', 1, 2), 30), x -> x.sole(0, -1, isPrimed));
                refused(UNFIT, () -> opened(passed(onLasts('s', 1, 2), 30), 1), x -> x.sole(0, 0, isPrimed));
            }
        });
    }

    private static Lastroom twoLots() {
        return passed(opened(openFor(5, 3), 5), 3);
    }

    private static void bonding() {
        says(TERMS, "It bonds if it does so as told under styles", () -> {
            for (int upper = 0; upper <= 4; upper++) {
                for (int sole = 0; sole <= 4; sole++) {
                    int above = upper;
                    int below = sole;
                    boolean due = (upper + sole) % 3 != 0;
                    if (sole >= 1) {
                        is(due, () -> opened(passed(onLasts('c', above, below), 30), 1), x -> x.sole(0, 0, false));
                        is(true, () -> opened(passed(onLasts('c', above, below), 30), 1), x -> x.sole(0, 0, true));
                    }
                    if (sole >= 3) {
                        is(due, () -> opened(passed(onLasts('m', above, below), 30), 1), x -> x.sole(0, 0, false));
                        is(true, () -> opened(passed(onLasts('m', above, below), 30), 1), x -> x.sole(0, 0, true));
                    }
                    if (sole <= 1) {
                        is(true, () -> passed(onLasts('w', above, below), 30), x -> x.sole(0, -1, false));
                    }
                    if (sole <= 2) {
                        is(true, () -> passed(onLasts('s', above, below), 30), x -> x.sole(0, -1, false));
                    }
                }
            }
        });
    }

    private static void takingOff() {
        says(36, "there is no such ticket", () -> {
            numbered(EMPTY, 0, (x, ticket) -> x.takeOff(ticket));
            numbered(() -> soledWelt(0), 1, (x, ticket) -> x.takeOff(ticket));
        });
        says(36, "it is not soled", () -> {
            refused(STATE, () -> passed(ready('w', 1, 0), 240), x -> x.takeOff(0));
            refused(STATE, () -> passed(onLasts('w', 1, 0), 240), x -> x.takeOff(0));
            refused(STATE, () -> passed(inCutting(), 240), x -> x.takeOff(0));
            refused(STATE, () -> passed(inSewing(), 240), x -> x.takeOff(0));
            refused(STATE, LastEdges::done, x -> x.takeOff(0));
            refused(STATE, LastEdges::packed, x -> x.takeOff(0));
            refused(STATE, LastEdges::returned, x -> x.takeOff(0));
        });
        says(36, "did not stand for long enough behind that", () -> {
            refused(STATE, () -> soledWelt(1), x -> x.takeOff(0));
            refused(STATE, () -> passed(soledWelt(1), 9), x -> x.takeOff(0));
            is(1, () -> passed(soledWelt(1), 10), x -> x.takeOff(0));
            is(1, () -> soledWelt(0), x -> x.takeOff(0));
        });
    }

    private static Object roomAfterPacking(Lastroom x, int bond, int flex) {
        x.pack(0, bond, flex);
        return x.room(0);
    }

    private static void packing() {
        says(37, "there is no such ticket", () -> {
            numbered(EMPTY, 0, (x, ticket) -> x.pack(ticket, 0, 0));
            numbered(LastEdges::done, 1, (x, ticket) -> x.pack(ticket, 0, 0));
        });
        says(37, "the least bond, 0 to 100", () -> range(BAD, LastEdges::done, 0, 100, (x, bond) -> x.pack(0, bond, 100)));
        says(37, "the least flex, 0 to 100", () -> range(BAD, LastEdges::done, 0, 100, (x, flex) -> x.pack(0, 100, flex)));
        says(37, "a number is out of range", () -> {
            refused(BAD, LastEdges::done, x -> x.pack(0, -1, 0));
            refused(BAD, LastEdges::done, x -> x.pack(0, 0, 101));
        });
        says(37, "it is not done", () -> {
            refused(STATE, () -> ready('w', 1, 0), x -> x.pack(0, 0, 0));
            refused(STATE, () -> onLasts('w', 1, 0), x -> x.pack(0, 0, 0));
            refused(STATE, () -> soledWelt(0), x -> x.pack(0, 0, 0));
            refused(STATE, LastEdges::inCutting, x -> x.pack(0, 0, 0));
            refused(STATE, LastEdges::inSewing, x -> x.pack(0, 0, 0));
            refused(STATE, LastEdges::packed, x -> x.pack(0, 0, 0));
            refused(STATE, LastEdges::packed, x -> x.pack(0, 100, 100));
            refused(STATE, LastEdges::returned, x -> x.pack(0, 0, 0));
        });
        says(37, "whether it was good enough; otherwise it stays", () -> {
            // A bond of 80 and a flex of 60 and 33.
            for (int bond = 79; bond <= 81; bond++) {
                for (int flex = 92; flex <= 94; flex++) {
                    int least = bond;
                    int soft = flex;
                    boolean due = bond <= 80 && flex <= 93;
                    is(due, LastEdges::stitched, x -> x.pack(0, least, soft));
                    is(due ? 'p' : 'd', LastEdges::stitched, x -> roomAfterPacking(x, least, soft));
                }
            }
            // Neither makes up for the other.
            is(false, LastEdges::stitched, x -> x.pack(0, 81, 0));
            is(false, LastEdges::stitched, x -> x.pack(0, 0, 94));
            // A pair that stayed can be packed later, and is as it was.
            String untouched = Probe.tell(LastEdges::stitched, null);
            Check.is(untouched, () -> Probe.tell(LastEdges::stitched, x -> x.pack(0, 81, 93)));
            // The best pair: 100 and 100. The least one: 0.
            is(true, () -> best(40), x -> x.pack(0, 100, 100));
            is(false, () -> best(39), x -> x.pack(0, 100, 100));
            is(true, LastEdges::unbonded, x -> x.pack(0, 0, 90));
            is(false, LastEdges::unbonded, x -> x.pack(0, 1, 90));
        });
    }

    private static Lastroom stitched() {
        Lastroom x = soled(passed(onLasts('s', 1, 0), 33), -1);
        x.takeOff(0);
        return x;
    }

    private static Lastroom best(int minutes) {
        Lastroom x = soled(passed(onLasts('w', 1, 0), minutes), -1);
        x.takeOff(0);
        return x;
    }

    private static Lastroom unbonded() {
        Lastroom x = opened(passed(onLasts('c', 1, 2), 30), 1);
        x.sole(0, 0, false);
        x.pass(20);
        x.takeOff(0);
        return x;
    }

    /** A lot that is not open any more, and a pair that went onto lasts now. */
    private static Lastroom oldLot(char construction) {
        Lastroom x = passed(opened(ready(construction, 1, 1), 1), 2);
        x.lastOn(0);
        return x;
    }

    private static void orders() {
        order(33, NO_SUCH, STATE, LastEdges::inCutting, x -> x.lastOn(1));
        order(33, NO_SUCH, UNFIT, () -> tickets(0), x -> x.lastOn(4));
        order(33, STATE, UNFIT, () -> withLasts(inCutting(), 0), x -> x.lastOn(0));
        order(33, STATE, UNFIT, () -> withLasts(inSewing(), 0), x -> x.lastOn(0));
        order(33, STATE, UNFIT, () -> onLasts('w', 1, 0), x -> x.lastOn(0));
        order(34, BAD, STATE, () -> lots(20), x -> x.open(0));
        order(34, BAD, STATE, () -> lots(20), x -> x.open(241));
        order(35, NO_SUCH, STATE, () -> ready('w', 1, 0), x -> x.sole(0, 0, false));
        order(35, NO_SUCH, STATE, () -> onLasts('w', 1, 0), x -> x.sole(0, -2, false));
        order(35, NO_SUCH, STATE, () -> oldLot('c'), x -> x.sole(1, 0, false));
        order(35, NO_SUCH, UNFIT, () -> passed(onLasts('w', 1, 0), 30), x -> x.sole(0, 0, false));
        order(35, NO_SUCH, UNFIT, () -> passed(onLasts('c', 1, 1), 30), x -> x.sole(1, -1, false));
        // Not on lasts, not for long enough, or by a lot that is not open, each with a lot that is needed or not.
        order(35, STATE, UNFIT, () -> passed(ready('c', 1, 1), 30), x -> x.sole(0, -1, false));
        order(35, STATE, UNFIT, () -> passed(opened(ready('w', 1, 1), 240), 30), x -> x.sole(0, 0, false));
        order(35, STATE, UNFIT, () -> passed(onLasts('c', 1, 1), 29), x -> x.sole(0, -1, false));
        order(35, STATE, UNFIT, () -> passed(opened(onLasts('w', 1, 1), 240), 29), x -> x.sole(0, 0, false));
        order(35, STATE, UNFIT, () -> passed(oldLot('w'), 30), x -> x.sole(0, 0, false));
        order(35, STATE, UNFIT, () -> passed(oldLot('s'), 30), x -> x.sole(0, 0, true));
        order(36, NO_SUCH, STATE, () -> soledWelt(1), x -> x.takeOff(1));
        order(37, NO_SUCH, BAD, LastEdges::done, x -> x.pack(1, -1, 101));
        order(37, NO_SUCH, STATE, () -> ready('w', 1, 0), x -> x.pack(1, 0, 0));
        order(37, BAD, STATE, () -> ready('w', 1, 0), x -> x.pack(0, 101, 0));
        order(37, BAD, STATE, LastEdges::packed, x -> x.pack(0, 0, -1));
    }

    private static Lastroom withLasts(Lastroom x, int pairs) {
        x.setLasts(0, 40, pairs);
        return x;
    }
}
