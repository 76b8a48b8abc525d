/** The edges of promises 12 to 17: styles, their pieces and their seams. */
final class StyleEdges extends Edges {
    private static final char[] CONSTRUCTIONS = {'w', 's', 'c', 'm'};

    static void ask() {
        styles();
        soles();
        pieces();
        pieceCells();
        seams();
        shortestTimes();
        bonds();
        orders();
    }

    private static Lastroom model() {
        Lastroom x = new Lastroom();
        x.model(2300, 50);
        return x;
    }

    private static Lastroom styles(int count) {
        Lastroom x = model();
        for (int style = 0; style < count; style++) {
            x.style(0, 'c', 1, 1);
        }
        return x;
    }

    private static Lastroom oneStyle() {
        return styles(1);
    }

    private static Lastroom pieces(int count) {
        Lastroom x = styles(2);
        for (int piece = 0; piece < count; piece++) {
            x.piece(0, 2, 1, 4, 0, false);
        }
        return x;
    }

    private static Lastroom seams(int count) {
        Lastroom x = styles(2);
        for (int seam = 0; seam < count; seam++) {
            x.seam(0, 0, 10, 0);
        }
        return x;
    }

    private static Lastroom ticketed() {
        Lastroom x = styles(2);
        x.piece(0, 1, 1, 1, 0, false);
        x.seam(0, 0, 10, 0);
        x.ticket(0, 40);
        return x;
    }

    private static void styles() {
        says(12, "there is no such model", () -> {
            numbered(EMPTY, 0, (x, model) -> x.style(model, 'w', 0, 0));
            numbered(StyleEdges::model, 1, (x, model) -> x.style(model, 'w', 0, 0));
        });
        says(12, "there is no such construction", () -> {
            for (int sign = 0; sign <= Character.MAX_VALUE; sign++) {
                char construction = (char) sign;
                if ("wscm".indexOf(construction) < 0) {
                    Check.fails(BAD, () -> model().style(0, construction, 1, 1));
                    Check.fails(BAD, () -> model().style(0, construction, 1, 3));
                }
            }
            for (char construction : new char[] {'\0', 'W', 'S', 'C', 'M', 'v', 'x', 'r', 't', 'b', 'd', 'l', 'n', '\uffff'}) {
                refused(BAD, StyleEdges::oneStyle, x -> x.style(0, construction, 1, 1));
            }
        });
        says(12, "the material of the upper, 0 to 4", () -> range(BAD, StyleEdges::model, 0, 4, (x, upper) -> x.style(0, 'c', upper, 1)));
        says(12, "the material of the sole, 0 to 4", () -> range(BAD, StyleEdges::model, 0, 4, (x, sole) -> x.style(0, sole <= 2 ? 's' : 'm', 0, sole)));
        says(12, "or material", () -> {
            refused(BAD, StyleEdges::oneStyle, x -> x.style(0, 'm', 5, 4));
            refused(BAD, StyleEdges::oneStyle, x -> x.style(0, 'w', -1, 0));
            refused(BAD, StyleEdges::oneStyle, x -> x.style(0, 'm', 4, 5));
            refused(BAD, StyleEdges::oneStyle, x -> x.style(0, 'w', 0, -1));
        });
        says(12, "there are 6 styles", () -> {
            is(5, () -> styles(5), x -> x.style(0, 'c', 1, 1));
            refused(STATE, () -> styles(6), x -> x.style(0, 'c', 1, 1));
        });
        says(12, "Adds a style without pieces and seams", () -> {
            is(0, StyleEdges::oneStyle, x -> x.shortest(0));
            refused(NO_SUCH, StyleEdges::oneStyle, x -> x.pieceCells(0, 0, 40, false));
            is(0, StyleEdges::oneStyle, x -> x.piece(0, 1, 1, 1, 0, false));
            is(0, StyleEdges::oneStyle, x -> x.seam(0, 0, 1, 0));
        });
        says(TERMS, "At most 6 styles are numbered from 0", () -> {
            for (int count = 0; count < 6; count++) {
                int due = count;
                is(due, () -> styles(due), x -> x.style(0, 'w', 0, 0));
            }
            Check.fails(STATE, () -> styles(7));
        });
        says(TERMS, "each with a model, a construction, 'w' welted, 's' stitched, 'c' cemented or 'm' moulded, and materials of the upper and of the sole, 0 to 4", () -> {
            for (char construction : CONSTRUCTIONS) {
                for (int upper = 0; upper <= 4; upper++) {
                    int material = upper;
                    is(0, StyleEdges::model, x -> x.style(0, construction, material, construction == 'm' ? 4 : 1));
                }
            }
        });
    }

    private static void soles() {
        says(TERMS, "Soles fit by these rules", () -> {
            for (char construction : CONSTRUCTIONS) {
                refused(UNFIT, StyleEdges::model, x -> x.style(0, construction, 0, construction == 'w' || construction == 's' ? 4 : 0));
            }
        });
        says(TERMS, "'w' those of 0 and 1", () -> soles('w', 0, 1));
        says(TERMS, "'s' of 0 to 2", () -> soles('s', 0, 2));
        says(TERMS, "'c' of 1 to 4", () -> soles('c', 1, 4));
        says(TERMS, "'m' of 3 and 4", () -> soles('m', 3, 4));
        says(12, "such a sole does not fit", () -> {
            refused(UNFIT, StyleEdges::oneStyle, x -> x.style(0, 'w', 4, 2));
            refused(UNFIT, StyleEdges::oneStyle, x -> x.style(0, 's', 4, 3));
            refused(UNFIT, StyleEdges::oneStyle, x -> x.style(0, 'c', 4, 0));
            refused(UNFIT, StyleEdges::oneStyle, x -> x.style(0, 'm', 4, 2));
        });
    }

    private static void soles(char construction, int least, int greatest) {
        for (int sole = 0; sole <= 4; sole++) {
            int material = sole;
            if (sole >= least && sole <= greatest) {
                is(0, StyleEdges::model, x -> x.style(0, construction, 2, material));
            } else {
                refused(UNFIT, StyleEdges::model, x -> x.style(0, construction, 2, material));
            }
        }
    }

    private static void pieces() {
        says(13, "there is no such style", () -> {
            numbered(EMPTY, 0, (x, style) -> x.piece(style, 1, 1, 1, 0, false));
            numbered(() -> styles(2), 2, (x, style) -> x.piece(style, 1, 1, 1, 0, false));
            numbered(() -> styles(6), 6, (x, style) -> x.piece(style, 1, 1, 1, 0, false));
        });
        says(13, "the width, 1 to 4", () -> range(BAD, StyleEdges::oneStyle, 1, 4, (x, width) -> x.piece(0, width, 1, 1, 0, true)));
        says(13, "the height, 1 to 4", () -> range(BAD, StyleEdges::oneStyle, 1, 4, (x, height) -> x.piece(0, 4, height, 1, 0, true)));
        says(13, "the grade, 1 to 20", () -> range(BAD, StyleEdges::oneStyle, 1, 20, (x, grade) -> x.piece(0, 1, 4, grade, 3, true)));
        says(13, "the quality, 0 to 3", () -> range(BAD, StyleEdges::oneStyle, 0, 3, (x, quality) -> x.piece(0, 4, 4, 20, quality, false)));
        says(13, "a number is out of range", () -> {
            refused(BAD, () -> pieces(5), x -> x.piece(0, 5, 4, 20, 3, true));
            refused(BAD, () -> pieces(5), x -> x.piece(0, 4, 4, 0, 3, true));
        });
        says(13, "it has 6 pieces", () -> {
            is(5, () -> pieces(5), x -> x.piece(0, 1, 1, 1, 0, false));
            refused(STATE, () -> pieces(6), x -> x.piece(0, 1, 1, 1, 0, false));
            is(0, () -> pieces(6), x -> x.piece(1, 1, 1, 1, 0, false));
        });
        says(13, "a ticket", () -> {
            refused(STATE, StyleEdges::ticketed, x -> x.piece(0, 1, 1, 1, 0, false));
            // A ticket of another style hinders none.
            is(0, StyleEdges::ticketed, x -> x.piece(1, 1, 1, 1, 0, false));
        });
        says(TERMS, "A style has at most 6 pieces for each foot, with a width and a height in cells at the size 40, a grade, and the quality that they ask for", () -> {
            for (int count = 0; count < 6; count++) {
                int due = count;
                is(due, () -> pieces(due), x -> x.piece(0, 4, 3, 1, 0, false));
            }
            Check.fails(STATE, () -> pieces(7));
            for (int width = 1; width <= 4; width++) {
                for (int height = 1; height <= 4; height++) {
                    int across = width;
                    int down = height;
                    Works works = () -> onePiece(across, down, 1);
                    is(width, works, x -> x.pieceCells(0, 0, 40, false));
                    is(height, works, x -> x.pieceCells(0, 0, 40, true));
                }
            }
        });
    }

    private static Lastroom onePiece(int width, int height, int grade) {
        Lastroom x = oneStyle();
        x.piece(0, width, height, grade, 0, false);
        return x;
    }

    private static void pieceCells() {
        says(15, "there is no such style", () -> {
            numbered(EMPTY, 0, (x, style) -> x.pieceCells(style, 0, 40, false));
            numbered(() -> onePiece(1, 1, 1), 1, (x, style) -> x.pieceCells(style, 0, 40, true));
        });
        says(15, "no such piece", () -> {
            numbered(() -> pieces(0), 0, (x, piece) -> x.pieceCells(0, piece, 40, false));
            numbered(() -> pieces(3), 3, (x, piece) -> x.pieceCells(0, piece, 40, true));
            numbered(() -> pieces(6), 6, (x, piece) -> x.pieceCells(0, piece, 40, false));
            numbered(() -> pieces(6), 0, (x, piece) -> x.pieceCells(1, piece, 40, false));
        });
        says(15, "the size, 15 to 50", () -> range(BAD, () -> pieces(1), 15, 50, (x, size) -> x.pieceCells(0, 0, size, false)));
        says(15, "a number is out of range", () -> refused(BAD, () -> pieces(1), x -> x.pieceCells(0, 0, 51, true)));
        says(TERMS, "At another size, width and height are more by 1 for each whole grade of sizes above 40", () -> {
            for (int grade = 1; grade <= 20; grade++) {
                for (int size = 40; size <= 50; size++) {
                    cells(grade, size, (size - 40) / grade);
                }
            }
        });
        says(TERMS, "or less by 1 for each below, at least 1", () -> {
            for (int grade = 1; grade <= 20; grade++) {
                for (int size = 15; size <= 40; size++) {
                    cells(grade, size, -((40 - size) / grade));
                }
            }
        });
    }

    private static void cells(int grade, int size, int more) {
        Works works = () -> onePiece(4, 2, grade);
        is(Math.max(1, 4 + more), works, x -> x.pieceCells(0, 0, size, false));
        is(Math.max(1, 2 + more), works, x -> x.pieceCells(0, 0, size, true));
    }

    private static void seams() {
        says(14, "there is no such style", () -> {
            numbered(EMPTY, 0, (x, style) -> x.seam(style, 0, 1, 0));
            numbered(() -> styles(2), 2, (x, style) -> x.seam(style, 0, 1, 0));
            numbered(() -> styles(6), 6, (x, style) -> x.seam(style, 0, 1, 0));
        });
        says(14, "the skill, 0 to 3", () -> range(BAD, StyleEdges::oneStyle, 0, 3, (x, skill) -> x.seam(0, skill, 60, 0)));
        says(14, "the minutes, 1 to 60", () -> range(BAD, StyleEdges::oneStyle, 1, 60, (x, minutes) -> x.seam(0, 3, minutes, 0)));
        says(14, "a number is out of range", () -> {
            refused(BAD, () -> seams(7), x -> x.seam(0, 4, 60, 0));
            refused(BAD, () -> seams(7), x -> x.seam(0, 3, 61, 0));
        });
        says(14, "a bit is none of an earlier seam", () -> {
            for (int count = 0; count <= 7; count++) {
                int seams = count;
                range(BAD, () -> seams(seams), 0, (1 << count) - 1, (x, after) -> x.seam(0, 0, 1, after));
                for (int bit = count; bit < 32; bit++) {
                    int after = 1 << bit;
                    Check.fails(BAD, () -> seams(seams).seam(0, 0, 1, after));
                }
            }
            // The seams of another style are none of this one.
            refused(BAD, () -> seams(3), x -> x.seam(1, 0, 1, 1));
        });
        says(14, "it has 8 seams", () -> {
            is(7, () -> seams(7), x -> x.seam(0, 0, 1, 127));
            refused(STATE, () -> seams(8), x -> x.seam(0, 0, 1, 0));
            refused(STATE, () -> seams(8), x -> x.seam(0, 0, 1, 255));
            is(0, () -> seams(8), x -> x.seam(1, 0, 1, 0));
        });
        says(14, "a ticket", () -> {
            refused(STATE, StyleEdges::ticketed, x -> x.seam(0, 0, 1, 1));
            is(0, StyleEdges::ticketed, x -> x.seam(1, 0, 1, 0));
        });
        says(TERMS, "A style has at most 8 seams, numbered from 0, each with a skill, 0 to 3, minutes", () -> {
            for (int count = 0; count < 8; count++) {
                int due = count;
                is(due, () -> seams(due), x -> x.seam(0, 3, 1, 0));
            }
            Check.fails(STATE, () -> seams(9));
        });
    }

    /** A style of seams of 1, 2, 4 .. minutes, of which the bits tell which are ahead of each. */
    private static Lastroom chains(int[] after) {
        Lastroom x = styles(2);
        for (int seam = 0; seam < after.length; seam++) {
            x.seam(0, 0, Math.min(60, 1 << seam), after[seam]);
        }
        return x;
    }

    private static int longestDue(int[] after, int seam) {
        int longest = 0;
        for (int ahead = 0; ahead < seam; ahead++) {
            if ((after[seam] & 1 << ahead) != 0) {
                longest = Math.max(longest, longestDue(after, ahead));
            }
        }
        return longest + Math.min(60, 1 << seam);
    }

    private static void shortestTimes() {
        says(16, "there is no such style", () -> {
            numbered(EMPTY, 0, (x, style) -> x.shortest(style));
            numbered(() -> styles(2), 2, (x, style) -> x.shortest(style));
            numbered(() -> styles(6), 6, (x, style) -> x.shortest(style));
        });
        says(TERMS, "The shortest time of a style is the greatest sum of minutes of seams of which each must be done ahead of the next one", () -> {
            for (int pattern = 0; pattern < 500; pattern++) {
                int[] after = new int[1 + pattern % 8];
                int longest = 0;
                for (int seam = 0; seam < after.length; seam++) {
                    after[seam] = (pattern * 7919 >>> seam + 2) & (1 << seam) - 1;
                    longest = Math.max(longest, longestDue(after, seam));
                }
                is(longest, () -> chains(after), x -> x.shortest(0));
            }
            is(0, () -> styles(1), x -> x.shortest(0));
            is(0, () -> seams(3), x -> x.shortest(1));
            is(10, () -> seams(8), x -> x.shortest(0));
            is(480, StyleEdges::longest, x -> x.shortest(0));
        });
    }

    private static Lastroom longest() {
        Lastroom x = oneStyle();
        for (int seam = 0; seam < 8; seam++) {
            x.seam(0, 0, 60, (1 << seam) - 1);
        }
        return x;
    }

    private static void bonds() {
        says(17, "there is no such style", () -> {
            numbered(EMPTY, 0, (x, style) -> x.bonds(style));
            numbered(() -> styles(2), 2, (x, style) -> x.bonds(style));
            numbered(() -> styles(6), 6, (x, style) -> x.bonds(style));
        });
        says(17, "whether upper and sole bond without a primer", () -> {
            is(true, StyleEdges::oneStyle, x -> x.bonds(0));
            is(false, () -> styled('c', 1, 2), x -> x.bonds(0));
        });
        says(TERMS, "An upper and a sole bond by themselves, if their materials together are no multiple of 3, otherwise only with a primer, by 'c' and 'm'", () -> {
            for (int upper = 0; upper <= 4; upper++) {
                for (int sole = 1; sole <= 4; sole++) {
                    int above = upper;
                    int below = sole;
                    boolean due = "036".indexOf('0' + upper + sole) < 0;
                    is(due, () -> styled('c', above, below), x -> x.bonds(0));
                    if (sole >= 3) {
                        is(due, () -> styled('m', above, below), x -> x.bonds(0));
                    }
                }
            }
        });
        says(TERMS, "by 'w' and 's' always", () -> {
            for (int upper = 0; upper <= 4; upper++) {
                for (int sole = 0; sole <= 2; sole++) {
                    int above = upper;
                    int below = sole;
                    is(true, () -> styled('s', above, below), x -> x.bonds(0));
                    if (sole <= 1) {
                        is(true, () -> styled('w', above, below), x -> x.bonds(0));
                    }
                }
            }
        });
    }

    private static Lastroom styled(char construction, int upper, int sole) {
        Lastroom x = model();
        x.style(0, construction, upper, sole);
        return x;
    }

    private static void orders() {
        order(12, NO_SUCH, BAD, StyleEdges::model, x -> x.style(1, 'x', 0, 0));
        order(12, NO_SUCH, BAD, StyleEdges::model, x -> x.style(1, 'w', 5, 0));
        order(12, NO_SUCH, UNFIT, StyleEdges::model, x -> x.style(1, 'w', 0, 4));
        order(12, NO_SUCH, STATE, () -> styles(6), x -> x.style(1, 'w', 0, 0));
        order(12, BAD, UNFIT, StyleEdges::model, x -> x.style(0, 'w', 5, 4));
        order(12, BAD, UNFIT, StyleEdges::model, x -> x.style(0, 'm', -1, 0));
        order(12, BAD, STATE, () -> styles(6), x -> x.style(0, 'x', 0, 0));
        order(12, BAD, STATE, () -> styles(6), x -> x.style(0, 'w', 0, 5));
        order(12, UNFIT, STATE, () -> styles(6), x -> x.style(0, 'w', 0, 4));
        order(13, NO_SUCH, BAD, StyleEdges::oneStyle, x -> x.piece(1, 0, 1, 1, 0, false));
        neverBoth(13, NO_SUCH, STATE, "a style that there is not has neither pieces nor tickets");
        order(13, BAD, STATE, () -> pieces(6), x -> x.piece(0, 0, 1, 1, 0, false));
        order(13, BAD, STATE, StyleEdges::ticketed, x -> x.piece(0, 1, 1, 1, 4, false));
        order(14, NO_SUCH, BAD, StyleEdges::oneStyle, x -> x.seam(1, 0, 0, 1));
        neverBoth(14, NO_SUCH, STATE, "a style that there is not has neither seams nor tickets");
        order(14, BAD, STATE, () -> seams(8), x -> x.seam(0, 0, 1, 256));
        order(14, BAD, STATE, () -> seams(8), x -> x.seam(0, 4, 1, 0));
        order(14, BAD, STATE, StyleEdges::ticketed, x -> x.seam(0, 0, 1, 2));
        order(15, NO_SUCH, BAD, StyleEdges::oneStyle, x -> x.pieceCells(1, 0, 51, false));
        order(15, NO_SUCH, BAD, () -> pieces(2), x -> x.pieceCells(0, 2, 14, false));
    }
}
