/** The edges of promises 38 to 41: tests, returns and their causes. */
final class ReturnEdges extends Edges {
    static void ask() {
        tests();
        bonds();
        flexes();
        waters();
        comingBack();
        noCauses();
        commonThings();
        leastCauses();
        orders();
    }

    private static Lastroom passed(Lastroom x, int minutes) {
        for (int left = minutes; left > 0; left -= 240) {
            x.pass(Math.min(left, 240));
        }
        return x;
    }

    /** A pair of the construction that stood for so many minutes, soled by a lot that is open for some of them. */
    private static Lastroom made(char construction, int stood, int open, boolean isPrimed) {
        Lastroom x = new Lastroom();
        x.model(2300, 50);
        x.style(0, construction, 0, construction == 'w' || construction == 's' ? 0 : 3);
        x.setStand(0, 1);
        x.setLasts(0, 40, 1);
        x.ticket(0, 40);
        x.lastOn(0);
        passed(x, stood - open);
        x.open(240);
        passed(x, open);
        x.sole(0, construction == 'w' || construction == 's' ? -1 : 0, isPrimed);
        x.pass(30);
        x.takeOff(0);
        return x;
    }

    private static Lastroom done() {
        return made('s', 30, 0, false);
    }

    private static Lastroom packed() {
        Lastroom x = done();
        x.pack(0, 0, 0);
        return x;
    }

    private static Lastroom returned() {
        Lastroom x = packed();
        x.comeBack(0);
        return x;
    }

    private static Lastroom ready() {
        Lastroom x = new Lastroom();
        x.model(2300, 50);
        x.style(0, 'w', 0, 1);
        x.setLasts(0, 40, 1);
        x.ticket(0, 40);
        return x;
    }

    private static Lastroom onLasts() {
        Lastroom x = ready();
        x.lastOn(0);
        x.pass(30);
        return x;
    }

    private static Lastroom soled() {
        Lastroom x = onLasts();
        x.sole(0, -1, false);
        return x;
    }

    private static void tests() {
        says(38, "there is no such ticket", () -> {
            numbered(EMPTY, 0, (x, ticket) -> x.test(ticket, 'b'));
            numbered(ReturnEdges::done, 1, (x, ticket) -> x.test(ticket, 'w'));
        });
        says(38, "there is no such test", () -> {
            for (int sign = 0; sign <= Character.MAX_VALUE; sign++) {
                char what = (char) sign;
                if ("bfw".indexOf(what) < 0) {
                    Check.fails(BAD, () -> returnedOnce.test(0, what));
                    // An object is used for 512 calls alone.
                    if (sign % 400 == 0) {
                        returnedOnce = returned();
                    }
                }
            }
            for (char what : new char[] {'\0', 'B', 'F', 'W', 'a', 'c', 'e', 'g', 'v', 'x', '\uffff'}) {
                refused(BAD, ReturnEdges::done, x -> x.test(0, what));
            }
        });
        says(38, "it is not", () -> {
            for (char what : new char[] {'b', 'f', 'w'}) {
                refused(STATE, ReturnEdges::ready, x -> x.test(0, what));
                refused(STATE, ReturnEdges::onLasts, x -> x.test(0, what));
                refused(STATE, ReturnEdges::soled, x -> x.test(0, what));
                refused(STATE, () -> passed(soled(), 10), x -> x.test(0, what));
                int due = what == 'b' ? 80 : what == 'f' ? 90 : 72;
                is(due, ReturnEdges::done, x -> x.test(0, what));
                is(due, ReturnEdges::packed, x -> x.test(0, what));
                is(due, ReturnEdges::returned, x -> x.test(0, what));
            }
        });
    }

    private static Lastroom returnedOnce = returned();

    private static void bonds() {
        says(TERMS, "The bond of a pair is 100 by 'w', 80 by 's', otherwise 90 less the minutes by which its lot had been open", () -> {
            is(100, () -> made('w', 30, 0, false), x -> x.test(0, 'b'));
            is(80, () -> made('s', 30, 0, true), x -> x.test(0, 'b'));
            for (int open = 0; open < 80; open++) {
                int minutes = open;
                is(90 - open, () -> made('c', 100, minutes, true), x -> x.test(0, 'b'));
                is(90 - open, () -> made('m', 100, minutes, true), x -> x.test(0, 'b'));
            }
        });
        says(TERMS, ", at least 10", () -> {
            int[] opens = {79, 80, 81, 89, 90, 91, 100, 240};
            for (int open : opens) {
                int due = open == 79 ? 11 : 10;
                is(due, () -> made('c', 250, open, true), x -> x.test(0, 'b'));
                is(due, () -> made('m', 250, open, true), x -> x.test(0, 'b'));
            }
        });
        says(TERMS, "or 0 if it does not bond", () -> {
            for (int open : new int[] {0, 1, 80, 240}) {
                is(0, () -> made('c', 250, open, false), x -> x.test(0, 'b'));
                is(0, () -> made('m', 250, open, false), x -> x.test(0, 'b'));
            }
        });
    }

    private static void flexes() {
        says(TERMS, "The flex is 20 times the least quality of all its cells", () -> {
            for (int left = 0; left <= 3; left++) {
                for (int right = 0; right <= 3; right++) {
                    int first = left;
                    int second = right;
                    is(20 * Math.min(left, right) + 1, () -> pieces(first, second, 1), x -> x.test(0, 'f'));
                }
            }
        });
        says(TERMS, "60 without pieces", () -> {
            is(61, () -> made('w', 1, 0, false), x -> x.test(0, 'f'));
            is(61, () -> made('c', 1, 0, false), x -> x.test(0, 'f'));
        });
        says(TERMS, "plus the minutes for which it stood ahead of being soled, at most 40 of these", () -> {
            for (int stood : new int[] {1, 2, 30, 39, 40, 41, 80, 240, 500}) {
                is(60 + Math.min(40, stood), () -> made('w', stood, 0, false), x -> x.test(0, 'f'));
                is(Math.min(40, stood), () -> pieces(0, 3, stood), x -> x.test(0, 'f'));
            }
        });
    }

    /** Two pieces of 2 by 1 for each foot, each pair of which has a cell of its quality. */
    private static Lastroom pieces(int firstQuality, int secondQuality, int stood) {
        Lastroom x = new Lastroom();
        x.model(2300, 50);
        x.style(0, 'w', 0, 0);
        x.piece(0, 2, 1, 20, 0, false);
        x.piece(0, 2, 1, 20, 0, false);
        x.hide(0, 4, 2);
        x.fault(0, 1, 0, firstQuality);
        x.fault(0, 2, 0, firstQuality);
        x.fault(0, 0, 1, secondQuality);
        x.fault(0, 3, 1, secondQuality);
        x.setStand(0, 1);
        x.setLasts(0, 40, 1);
        x.ticket(0, 40);
        for (int piece = 0; piece < 2; piece++) {
            x.cut(0, 0, piece, 0, 0, piece, false, 0);
            x.cut(0, 1, piece, 0, 2, piece, false, 0);
        }
        x.lastOn(0);
        passed(x, stood);
        x.sole(0, -1, false);
        x.takeOff(0);
        return x;
    }

    private static void waters() {
        says(TERMS, "The water is the bond times the flex, divided by 100, rounded down", () -> {
            for (int stood = 1; stood <= 45; stood++) {
                int minutes = stood;
                int flex = 60 + Math.min(40, stood);
                is(flex, () -> made('w', minutes, 0, false), x -> x.test(0, 'w'));
                is(80 * flex / 100, () -> made('s', minutes, 0, false), x -> x.test(0, 'w'));
                is((90 - stood) * flex / 100, () -> made('c', minutes, minutes, true), x -> x.test(0, 'w'));
                is(0, () -> made('c', minutes, minutes, false), x -> x.test(0, 'w'));
            }
        });
    }

    /**
     * Three hides; the style 0 by 'w' with a piece and a seam, 1 by 'w' with a piece, 2 by 'w' with neither, and 3 by 'c'
     * with neither; all can sew, and all lots are opened when they are needed.
     */
    private static Lastroom works() {
        Lastroom x = new Lastroom();
        x.model(2300, 50);
        for (int style = 0; style < 4; style++) {
            x.style(0, style == 3 ? 'c' : 'w', 1, 1);
        }
        x.piece(0, 1, 1, 20, 0, false);
        x.piece(1, 1, 1, 20, 0, false);
        x.seam(0, 0, 1, 0);
        for (int operator = 0; operator < 8; operator++) {
            x.setSkill(operator, 0, true);
        }
        for (int hide = 0; hide < 3; hide++) {
            x.hide(1, 4, 4);
        }
        x.setStand(1, 1);
        return x;
    }

    /** Packs pairs, each told as a style, a size, a hide, a cutter, and the sewers or a lot; those of the bits came back. */
    private static Lastroom packed(int back, int[]... pairs) {
        Lastroom x = works();
        for (int[] pair : pairs) {
            pack(x, pair);
        }
        for (int ticket = 0; ticket < pairs.length; ticket++) {
            if ((back & 1 << ticket) != 0) {
                x.comeBack(ticket);
            }
        }
        return x;
    }

    private static void pack(Lastroom x, int[] pair) {
        int ticket = x.ticket(pair[0], pair[1]);
        for (int foot = 0; foot < 2 && x.room(ticket) == 'c'; foot++) {
            int place = x.firstPlace(ticket, 0, pair[2]);
            x.cut(ticket, foot, 0, pair[2], place % 100, place / 100, false, pair[3]);
        }
        for (int foot = 0; foot < 2 && x.room(ticket) == 's'; foot++) {
            x.sew(ticket, foot, 0, pair[4 + foot]);
            x.pass(1);
        }
        x.setLasts(0, pair[1], 1);
        x.lastOn(ticket);
        x.pass(1);
        if (pair[0] == 3) {
            int opened = -1;
            while (opened < pair[4]) {
                opened = x.open(240);
            }
        }
        x.sole(ticket, pair[0] == 3 ? pair[4] : -1, true);
        x.pass(10);
        x.takeOff(ticket);
        x.pack(ticket, 0, 0);
    }

    private static int[] sewn(int size, int hide, int cutter, int left, int right) {
        return new int[] {0, size, hide, cutter, left, right};
    }

    private static int[] cut(int size, int hide, int cutter) {
        return new int[] {1, size, hide, cutter};
    }

    private static int[] bare(int size) {
        return new int[] {2, size};
    }

    private static int[] glued(int size, int lot) {
        return new int[] {3, size, 0, 0, lot};
    }

    private static void cause(char kind, int number, int back, int[]... pairs) {
        is(kind, () -> packed(back, pairs), x -> x.cause());
        is(number, () -> packed(back, pairs), x -> x.causeOf());
    }

    private static void noCause(int back, int[]... pairs) {
        refused(NONE, () -> packed(back, pairs), x -> x.cause());
        refused(NONE, () -> packed(back, pairs), x -> x.causeOf());
    }

    private static void comingBack() {
        says(39, "there is no such ticket", () -> {
            numbered(EMPTY, 0, (x, ticket) -> x.comeBack(ticket));
            numbered(() -> packed(0, bare(40), bare(41)), 2, (x, ticket) -> x.comeBack(ticket));
        });
        says(39, "it is not packed", () -> {
            refused(STATE, ReturnEdges::ready, x -> x.comeBack(0));
            refused(STATE, ReturnEdges::onLasts, x -> x.comeBack(0));
            refused(STATE, ReturnEdges::soled, x -> x.comeBack(0));
            refused(STATE, ReturnEdges::done, x -> x.comeBack(0));
            refused(STATE, ReturnEdges::returned, x -> x.comeBack(0));
            is(1, ReturnEdges::packed, x -> x.comeBack(0));
        });
        says(TERMS, "A packed pair can come back", () -> {
            Works all = () -> packed(0, bare(40), bare(40), bare(40));
            is(1, all, x -> x.comeBack(2));
            is(2, () -> packed(4, bare(40), bare(40), bare(40)), x -> x.comeBack(0));
            is(3, () -> packed(5, bare(40), bare(40), bare(40)), x -> x.comeBack(1));
            refused(STATE, () -> packed(5, bare(40), bare(40), bare(40)), x -> x.comeBack(2));
        });
    }

    private static void noCauses() {
        for (int promise = 40; promise <= 41; promise++) {
            says(promise, "none came back", () -> {
                refused(NONE, EMPTY, x -> x.cause());
                refused(NONE, EMPTY, x -> x.causeOf());
                noCause(0, bare(40));
                noCause(0, sewn(40, 0, 0, 0, 0), sewn(40, 0, 0, 0, 0));
                refused(NONE, ReturnEdges::done, x -> x.cause());
                cause('z', 40, 1, bare(40));
            });
            says(promise, "they have nothing in common", () -> {
                noCause(3, bare(40), bare(41));
                noCause(3, sewn(40, 0, 0, 1, 2), sewn(41, 1, 3, 4, 5));
                noCause(3, glued(40, 0), glued(41, 1));
                // A pair without glue has no lot in common with another one, nor one without pieces a hide.
                noCause(3, bare(40), glued(41, 0));
                noCause(7, cut(40, 0, 0), cut(41, 0, 0), bare(42));
                // Two by two they have something, all three nothing.
                noCause(7, cut(40, 0, 0), cut(40, 1, 1), cut(41, 1, 0));
            });
        }
    }

    private static void commonThings() {
        says(TERMS, "What pairs have in common is a hide 'h' of some piece", () -> {
            for (int hide = 0; hide < 3; hide++) {
                cause('h', hide, 3, sewn(40, hide, 0, 1, 1), sewn(41, hide, 2, 3, 3));
                for (int piece = 0; piece < 6; piece++) {
                    int common = hide;
                    int place = piece;
                    is('h', () -> hidesAlike(place, common), x -> x.cause());
                    is(hide, () -> hidesAlike(place, common), x -> x.causeOf());
                }
            }
        });
        says(TERMS, "an operator 'k' who cut some piece", () -> {
            for (int cutter = 0; cutter < 8; cutter++) {
                cause('k', cutter, 3, cut(40, 0, cutter), cut(41, 1, cutter));
                for (int piece = 0; piece < 12; piece++) {
                    int common = cutter;
                    int place = piece;
                    is('k', () -> cuttersAlike(place, common), x -> x.cause());
                    is(cutter, () -> cuttersAlike(place, common), x -> x.causeOf());
                }
            }
            // One who cut for the one pair, and sewed for the other, is none.
            noCause(3, cut(40, 0, 5), sewn(41, 1, 6, 5, 5));
        });
        says(TERMS, "or 's' who sewed some seam", () -> {
            for (int sewer = 0; sewer < 8; sewer++) {
                int other = (sewer + 1) % 8;
                int third = (sewer + 2) % 8;
                cause('s', sewer, 3, sewn(40, 0, 0, sewer, other), sewn(41, 1, 1, sewer, third));
                cause('s', sewer, 3, sewn(40, 0, 0, sewer, other), sewn(41, 1, 1, third, sewer));
            }
        });
        says(TERMS, "a lot of glue 'g'", () -> {
            for (int lot : new int[] {0, 1, 18, 19}) {
                cause('g', lot, 1, glued(40, lot), bare(40));
            }
            cause('g', 0, 3, glued(40, 0), gluedBy(41, 0));
        });
        says(TERMS, "or a size 'z'", () -> {
            for (int size = 15; size <= 50; size++) {
                cause('z', size, 1, bare(size));
            }
            cause('z', 50, 3, cut(50, 0, 0), cut(50, 1, 1));
        });
    }

    /** Two pairs of six pieces; of each piece and foot the hides and the cutters are told for both. Both came back. */
    private static Lastroom twoOfSixPieces(int[][] hides, int[][] cutters) {
        Lastroom x = new Lastroom();
        x.model(2300, 50);
        x.style(0, 'w', 1, 1);
        for (int piece = 0; piece < 6; piece++) {
            x.piece(0, 1, 1, 20, 0, false);
            x.hide(1, 12, 2);
        }
        x.setLasts(0, 40, 1);
        x.setLasts(0, 41, 1);
        for (int ticket = 0; ticket < 2; ticket++) {
            x.ticket(0, 40 + ticket);
            for (int place = 0; place < 12; place++) {
                x.cut(ticket, place % 2, place / 2, hides[ticket][place / 2], place, ticket, false, cutters[ticket][place]);
            }
            x.lastOn(ticket);
        }
        x.pass(30);
        for (int ticket = 0; ticket < 2; ticket++) {
            x.sole(ticket, -1, false);
        }
        x.pass(10);
        for (int ticket = 0; ticket < 2; ticket++) {
            x.takeOff(ticket);
            x.pack(ticket, 0, 0);
            x.comeBack(ticket);
        }
        return x;
    }

    /** The first pair is of the hides 3 and 4, the second one of 5; one piece of each is of the common hide. */
    private static Lastroom hidesAlike(int piece, int hide) {
        int[][] hides = {{3, 4, 3, 4, 3, 4}, {5, 5, 5, 5, 5, 5}};
        hides[0][piece] = hide;
        hides[1][5 - piece] = hide;
        return twoOfSixPieces(hides, new int[2][12]);
    }

    /** All hides differ; one piece of one foot of each pair was cut by the common operator. */
    private static Lastroom cuttersAlike(int place, int cutter) {
        int[][] cutters = new int[2][12];
        for (int other = 0; other < 12; other++) {
            cutters[0][other] = (cutter + 1 + other % 3) % 8;
            cutters[1][other] = (cutter + 4 + other % 4) % 8;
        }
        cutters[0][place] = cutter;
        cutters[1][11 - place] = cutter;
        return twoOfSixPieces(new int[][] {{0, 1, 2, 0, 1, 2}, {3, 4, 5, 3, 4, 5}}, cutters);
    }

    /** Soled by a lot that was opened for a pair ahead of it. */
    private static int[] gluedBy(int size, int lot) {
        return new int[] {3, size, 0, 0, lot};
    }

    private static void leastCauses() {
        says(TERMS, "The cause is what all returned pairs have", () -> {
            // The hide 0 is of two returned pairs alone, the size 40 of all three, though of more packed ones.
            cause('z', 40, 7, cut(40, 0, 0), cut(40, 0, 1), cut(40, 1, 2), bare(40), bare(40));
            cause('h', 0, 3, cut(40, 0, 0), cut(41, 0, 1), bare(40));
        });
        says(TERMS, "and the fewest packed ones that did not come back", () -> {
            cause('k', 0, 1, cut(40, 0, 0), cut(40, 0, 1));
            cause('z', 40, 1, cut(40, 0, 0), cut(41, 0, 0));
            cause('h', 0, 1, cut(40, 0, 0), cut(40, 1, 0));
            cause('h', 0, 1, cut(40, 0, 0), cut(40, 0, 0));
            // One packed pair of the hide, and two of the cutter and of the size.
            cause('h', 0, 1, cut(40, 0, 0), cut(41, 0, 1), cut(40, 1, 0), cut(40, 1, 0));
            // Those that came back count for nothing.
            cause('h', 0, 3, cut(40, 0, 0), cut(40, 0, 0), bare(40));
            // Nor do those that are not packed.
            is('h', ReturnEdges::oneUnpacked, x -> x.cause());
        });
        says(TERMS, "of several the first kind as told here", () -> {
            cause('h', 2, 1, sewn(40, 2, 1, 0, 0));
            cause('k', 2, 1, sewn(40, 1, 2, 0, 0), cut(41, 1, 1));
            cause('s', 0, 1, sewn(40, 2, 1, 0, 0), cut(41, 2, 1));
            cause('g', 3, 1, glued(15, 3));
            cause('z', 15, 1, glued(15, 3), gluedBy(16, 3));
        });
        says(TERMS, "then the lowest number", () -> {
            cause('s', 3, 1, sewn(40, 0, 0, 7, 3), cut(40, 0, 0));
            cause('s', 3, 1, sewn(40, 0, 0, 3, 7), cut(40, 0, 0));
            cause('h', 0, 1, new int[] {0, 40, 0, 5, 6, 7});
        });
    }

    /** The first pair came back; another of its hide, cutter and size is done, and not packed. */
    private static Lastroom oneUnpacked() {
        Lastroom x = packed(1, cut(40, 0, 0));
        int ticket = x.ticket(1, 40);
        x.cut(ticket, 0, 0, 0, 0, 3, false, 0);
        x.cut(ticket, 1, 0, 0, 1, 3, false, 0);
        x.lastOn(ticket);
        x.pass(1);
        x.sole(ticket, -1, false);
        x.pass(10);
        x.takeOff(ticket);
        return x;
    }

    private static void orders() {
        order(38, NO_SUCH, BAD, ReturnEdges::done, x -> x.test(1, 'x'));
        order(38, NO_SUCH, STATE, ReturnEdges::ready, x -> x.test(1, 'b'));
        order(38, BAD, STATE, ReturnEdges::ready, x -> x.test(0, 'x'));
        order(38, BAD, STATE, ReturnEdges::soled, x -> x.test(0, '\0'));
        order(39, NO_SUCH, STATE, ReturnEdges::ready, x -> x.comeBack(1));
        order(39, NO_SUCH, STATE, ReturnEdges::returned, x -> x.comeBack(-1));
    }
}
