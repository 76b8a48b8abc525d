/** The edges of promises 21, 22, 24 and 42: cutting, places and hides of pieces. */
final class CutEdges extends Edges {
    static void ask() {
        missingThings();
        badStates();
        turning();
        cellsThatDoNotDo();
        matching();
        places();
        cutters();
        hidesOfPieces();
        orders();
    }

    /**
     * The piece 0 (2 by 1, turned or not), 1 (1 by 2, along) and 2 (1 by 1, of the quality 2); the hides 0 and 1 of 4 by 4,
     * and 2 of another material; the ticket 0, of which nothing is cut; a style 1 that is sewn, of the ticket 1.
     */
    private static Lastroom works() {
        Lastroom x = new Lastroom();
        x.model(2300, 50);
        x.style(0, 'w', 1, 1);
        x.piece(0, 2, 1, 20, 0, false);
        x.piece(0, 1, 2, 20, 0, true);
        x.piece(0, 1, 1, 20, 2, false);
        x.style(0, 'w', 1, 1);
        x.seam(1, 0, 10, 0);
        x.hide(1, 4, 4);
        x.hide(1, 4, 4);
        x.hide(2, 4, 4);
        x.ticket(0, 40);
        x.ticket(1, 40);
        x.setSkill(1, 0, true);
        return x;
    }

    private static Lastroom absent() {
        Lastroom x = works();
        x.setAbsent(0, true);
        return x;
    }

    private static Lastroom busy() {
        Lastroom x = works();
        x.sew(1, 0, 0, 1);
        return x;
    }

    /** The left pieces 0 and 2 are cut: the hide 0 tells 10 in (0,0), (1,0) and (0,1). */
    private static Lastroom leftCut() {
        Lastroom x = works();
        x.cut(0, 0, 0, 0, 0, 0, false, 0);
        x.cut(0, 0, 2, 0, 0, 1, false, 0);
        return x;
    }

    private static Object plainCut(Lastroom x) {
        return x.cut(0, 0, 0, 0, 0, 0, false, 0);
    }

    private static void missingThings() {
        says(21, "there is no such ticket", () -> {
            numbered(EMPTY, 0, (x, ticket) -> x.cut(ticket, 0, 0, 0, 0, 0, false, 0));
            numbered(CutEdges::twoTickets, 2, (x, ticket) -> x.cut(ticket, 0, 0, 0, 0, 0, false, 0));
        });
        says(21, "0 the left one, 1 the right one", () -> {
            is(0, CutEdges::leftCut, x -> x.hideOf(0, 0, 0));
            refused(NONE, CutEdges::leftCut, x -> x.hideOf(0, 1, 0));
            is(2, CutEdges::leftCut, x -> x.cut(0, 1, 0, 0, 2, 0, false, 0));
            refused(STATE, CutEdges::leftCut, x -> x.cut(0, 0, 0, 0, 2, 0, false, 0));
        });
        says(21, ", foot", () -> numbered(CutEdges::works, 2, (x, foot) -> x.cut(0, foot, 0, 0, 0, 0, false, 0)));
        says(21, ", piece", () -> {
            numbered(CutEdges::works, 3, (x, piece) -> x.cut(0, 0, piece, 0, 0, 0, false, 0));
            numbered(CutEdges::works, 0, (x, piece) -> x.cut(1, 0, piece, 0, 0, 0, false, 0));
            numbered(CutEdges::sixPieces, 6, (x, piece) -> x.cut(0, 0, piece, 0, 0, 0, false, 0));
        });
        says(21, ", hide", () -> {
            numbered(CutEdges::twoTickets, 1, (x, hide) -> x.cut(0, 0, 0, hide, 0, 0, false, 0));
            numbered(CutEdges::sixPieces, 6, (x, hide) -> x.cut(0, 0, 0, hide, 0, 0, false, 0));
        });
        says(21, "or operator", () -> numbered(CutEdges::works, 8, (x, operator) -> x.cut(0, 0, 0, 0, 0, 0, false, operator)));
        says(21, "the operator, 0 to 7", () -> range(NO_SUCH, CutEdges::works, 0, 7, (x, operator) -> x.cut(0, 1, 2, 1, 3, 3, true, operator)));
        says(21, "Cuts a piece for a foot of a ticket, with its first cell at a column and a row", () -> {
            for (int cell = 0; cell < 16; cell++) {
                int column = cell % 4;
                int row = cell / 4;
                boolean isTaken = row == 1 && (column == 1 || column == 2);
                is(isTaken ? 10 : 3, CutEdges::works, x -> cellAfter(x, false, column, row));
            }
        });
        says(21, "the column, from 0", () -> range(UNFIT, CutEdges::works, 0, 2, (x, column) -> x.cut(0, 0, 0, 0, column, 3, false, 0)));
        says(21, "the row, from 0", () -> range(UNFIT, CutEdges::works, 0, 3, (x, row) -> x.cut(0, 0, 0, 0, 2, row, false, 0)));
    }

    private static Lastroom twoTickets() {
        Lastroom x = new Lastroom();
        x.model(2300, 50);
        x.style(0, 'w', 1, 1);
        x.piece(0, 1, 1, 20, 0, false);
        x.hide(1, 2, 1);
        x.ticket(0, 40);
        x.ticket(0, 40);
        return x;
    }

    private static Lastroom sixPieces() {
        Lastroom x = new Lastroom();
        x.model(2300, 50);
        x.style(0, 'w', 1, 1);
        for (int number = 0; number < 6; number++) {
            x.piece(0, 1, 1, 20, 0, false);
            x.hide(1, 2, 1);
        }
        x.ticket(0, 40);
        return x;
    }

    private static void badStates() {
        says(21, "the piece was cut", () -> {
            refused(STATE, CutEdges::leftCut, x -> x.cut(0, 0, 0, 0, 2, 2, false, 0));
            refused(STATE, CutEdges::leftCut, x -> x.cut(0, 0, 2, 0, 2, 2, false, 7));
            is(2, CutEdges::leftCut, x -> x.cut(0, 0, 1, 0, 2, 2, false, 0));
            is(1, CutEdges::leftCut, x -> x.cut(0, 1, 2, 0, 2, 2, false, 0));
            refused(STATE, CutEdges::allCut, x -> x.cut(0, 0, 0, 0, 0, 3, false, 0));
            refused(STATE, CutEdges::allCut, x -> x.cut(0, 1, 1, 0, 0, 3, false, 0));
        });
        says(21, "the operator is absent", () -> {
            refused(STATE, CutEdges::absent, CutEdges::plainCut);
            is(2, CutEdges::absent, x -> x.cut(0, 0, 0, 0, 0, 0, false, 1));
            is(2, CutEdges::backAgain, CutEdges::plainCut);
        });
        says(21, "or busy", () -> {
            refused(STATE, CutEdges::busy, x -> x.cut(0, 0, 0, 0, 0, 0, false, 1));
            is(2, CutEdges::busy, CutEdges::plainCut);
            refused(STATE, () -> busyFor(9), x -> x.cut(0, 0, 0, 0, 0, 0, false, 1));
            is(2, () -> busyFor(10), x -> x.cut(0, 0, 0, 0, 0, 0, false, 1));
        });
        says(TERMS, "cutting takes no time", () -> {
            is(1, CutEdges::leftCut, x -> x.pass(1));
            // The same operator, and the same foot, at once.
            is(2, CutEdges::leftCut, x -> x.cut(0, 0, 1, 0, 3, 0, false, 0));
            is(10, CutEdges::cutByOne, x -> x.sew(1, 0, 0, 1));
        });
        // Cutting asks for no skill.
        says(21, "the operator, 0 to 7", () -> is(2, CutEdges::works, x -> x.cut(0, 0, 0, 0, 0, 0, false, 7)));
    }

    private static Lastroom backAgain() {
        Lastroom x = absent();
        x.setAbsent(0, false);
        return x;
    }

    private static Lastroom busyFor(int minutes) {
        Lastroom x = busy();
        x.pass(minutes);
        return x;
    }

    private static Lastroom cutByOne() {
        Lastroom x = works();
        x.cut(0, 0, 0, 0, 0, 0, false, 1);
        return x;
    }

    private static Lastroom allCut() {
        Lastroom x = leftCut();
        x.cut(0, 1, 0, 0, 2, 0, false, 2);
        x.cut(0, 1, 2, 0, 1, 1, false, 2);
        x.cut(0, 0, 1, 1, 0, 0, false, 3);
        x.cut(0, 1, 1, 1, 1, 0, false, 3);
        return x;
    }

    private static Object cellAfter(Lastroom x, boolean isTurned, int column, int row) {
        x.cut(0, 0, 0, 0, 1, 1, isTurned, 0);
        return x.cellOf(0, column, row);
    }

    private static void turning() {
        says(21, "it must not be turned", () -> {
            refused(UNFIT, CutEdges::works, x -> x.cut(0, 0, 1, 0, 0, 0, true, 0));
            is(2, CutEdges::works, x -> x.cut(0, 0, 1, 0, 0, 0, false, 0));
            // Nor one of which width and height are alike.
            refused(UNFIT, CutEdges::square, x -> x.cut(0, 0, 0, 0, 0, 0, true, 0));
            is(4, CutEdges::square, x -> x.cut(0, 0, 0, 0, 0, 0, false, 0));
        });
        says(TERMS, "A piece that goes along is not turned when it is cut", () -> {
            refused(UNFIT, CutEdges::works, x -> x.cut(0, 1, 1, 0, 0, 0, true, 0));
            is(2, CutEdges::works, x -> x.cut(0, 1, 1, 0, 3, 2, false, 0));
        });
        says(TERMS, "others can be, so that width and height change places", () -> {
            int[][] cells = {{1, 1, 10, 10}, {2, 1, 10, 3}, {1, 2, 3, 10}, {2, 2, 3, 3}, {3, 1, 3, 3}, {1, 3, 3, 3}, {0, 1, 3, 3}, {1, 0, 3, 3}};
            for (int[] cell : cells) {
                is(cell[2], CutEdges::works, x -> cellAfter(x, false, cell[0], cell[1]));
                is(cell[3], CutEdges::works, x -> cellAfter(x, true, cell[0], cell[1]));
            }
            // Turned it needs one column and two rows.
            is(2, CutEdges::works, x -> x.cut(0, 0, 0, 0, 3, 2, true, 0));
            refused(UNFIT, CutEdges::works, x -> x.cut(0, 0, 0, 0, 3, 2, false, 0));
            refused(UNFIT, CutEdges::works, x -> x.cut(0, 0, 0, 0, 2, 3, true, 0));
            is(2, CutEdges::works, x -> x.cut(0, 0, 0, 0, 2, 3, false, 0));
        });
    }

    private static Lastroom square() {
        Lastroom x = new Lastroom();
        x.model(2300, 50);
        x.style(0, 'w', 1, 1);
        x.piece(0, 2, 2, 20, 0, true);
        x.hide(1, 2, 2);
        x.ticket(0, 40);
        return x;
    }

    private static void cellsThatDoNotDo() {
        says(21, "the hide is of another material", () -> {
            refused(UNFIT, CutEdges::works, x -> x.cut(0, 0, 0, 2, 0, 0, false, 0));
            for (int upper = 0; upper <= 4; upper++) {
                for (int material = 0; material <= 4; material++) {
                    int above = upper;
                    int skin = material;
                    if (upper == material) {
                        is(1, () -> ofMaterials(above, skin), x -> x.cut(0, 0, 0, 0, 0, 0, false, 0));
                    } else {
                        refused(UNFIT, () -> ofMaterials(above, skin), x -> x.cut(0, 0, 0, 0, 0, 0, false, 0));
                    }
                }
            }
        });
        says(21, "the cells are not there", () -> {
            range(UNFIT, CutEdges::works, 0, 2, (x, column) -> x.cut(0, 0, 0, 0, column, 0, false, 0));
            range(UNFIT, CutEdges::works, 0, 3, (x, column) -> x.cut(0, 0, 0, 0, column, 0, true, 0));
            range(UNFIT, CutEdges::works, 0, 3, (x, row) -> x.cut(0, 0, 0, 0, 0, row, false, 0));
            range(UNFIT, CutEdges::works, 0, 2, (x, row) -> x.cut(0, 0, 0, 0, 0, row, true, 0));
            refused(UNFIT, CutEdges::works, x -> x.cut(0, 0, 0, 0, Integer.MAX_VALUE, Integer.MAX_VALUE, false, 0));
            refused(UNFIT, CutEdges::works, x -> x.cut(0, 0, 0, 0, Integer.MAX_VALUE - 1, 0, false, 0));
            refused(UNFIT, CutEdges::works, x -> x.cut(0, 0, 0, 0, -1, 3, false, 0));
            refused(UNFIT, CutEdges::works, x -> x.cut(0, 0, 0, 0, Integer.MIN_VALUE, Integer.MIN_VALUE, true, 0));
        });
        says(21, "were cut", () -> {
            refused(UNFIT, CutEdges::leftCut, x -> x.cut(0, 1, 0, 0, 0, 0, false, 0));
            refused(UNFIT, CutEdges::leftCut, x -> x.cut(0, 1, 0, 0, 1, 0, false, 0));
            is(2, CutEdges::leftCut, x -> x.cut(0, 1, 0, 0, 2, 0, false, 0));
            refused(UNFIT, CutEdges::leftCut, x -> x.cut(0, 1, 0, 0, 0, 1, false, 0));
            is(2, CutEdges::leftCut, x -> x.cut(0, 1, 0, 0, 1, 1, false, 0));
        });
        says(21, "of less quality", () -> {
            for (int cell = 0; cell <= 3; cell++) {
                for (int asked = 0; asked <= 3; asked++) {
                    int least = cell;
                    int quality = asked;
                    for (int place = 0; place < 4; place++) {
                        int faulty = place;
                        Works works = () -> ofQuality(quality, faulty, least);
                        if (cell >= asked) {
                            is(4, works, x -> x.cut(0, 0, 0, 0, 0, 0, false, 0));
                        } else {
                            refused(UNFIT, works, x -> x.cut(0, 0, 0, 0, 0, 0, false, 0));
                        }
                    }
                }
            }
        });
        says(TERMS, "A piece is cut out of cells that were not cut, all of at least the quality that it asks for", () -> {
            refused(UNFIT, CutEdges::leftCut, x -> x.cut(0, 1, 2, 0, 0, 1, false, 0));
            is(1, () -> faultyAt(2), x -> x.cut(0, 0, 2, 0, 3, 3, false, 0));
            refused(UNFIT, () -> faultyAt(1), x -> x.cut(0, 0, 2, 0, 3, 3, false, 0));
            is(1, () -> faultyAt(1), x -> x.cut(0, 0, 2, 0, 2, 3, false, 0));
        });
    }

    private static Lastroom faultyAt(int quality) {
        Lastroom x = works();
        x.fault(0, 3, 3, quality);
        return x;
    }

    private static Lastroom ofMaterials(int upper, int material) {
        Lastroom x = new Lastroom();
        x.model(2300, 50);
        x.style(0, 'w', upper, 1);
        x.piece(0, 1, 1, 20, 0, false);
        x.hide(material, 1, 1);
        x.ticket(0, 40);
        return x;
    }

    /** A piece of 2 by 2 on a hide of 2 by 2, of which one cell is of the quality. */
    private static Lastroom ofQuality(int asked, int place, int quality) {
        Lastroom x = new Lastroom();
        x.model(2300, 50);
        x.style(0, 'w', 1, 1);
        x.piece(0, 2, 2, 20, asked, false);
        x.hide(1, 2, 2);
        x.fault(0, place % 2, place / 2, quality);
        x.ticket(0, 40);
        return x;
    }

    /** Of two hides of 4 qualities, 0 to 3 twice, the piece of one foot is cut at a place, then that of the other one. */
    private static Lastroom rowsOfQualities(int foot, int place) {
        Lastroom x = new Lastroom();
        x.model(2300, 50);
        x.style(0, 'w', 1, 1);
        x.piece(0, 1, 1, 20, 0, false);
        x.piece(0, 1, 1, 20, 0, false);
        x.ticket(0, 40);
        x.ticket(0, 40);
        for (int hide = 0; hide < 2; hide++) {
            x.hide(1, 8, 1);
            for (int column = 0; column < 8; column++) {
                x.fault(hide, column, 0, column % 4);
            }
        }
        x.cut(0, foot, 0, 0, place, 0, false, 0);
        return x;
    }

    private static void matching() {
        says(21, "it does not match the piece of the other foot", () -> {
            for (int foot = 0; foot < 2; foot++) {
                for (int first = 0; first < 4; first++) {
                    for (int second = 0; second < 4; second++) {
                        matching(foot, first, second);
                    }
                }
            }
        });
        says(TERMS, "All pieces with the same number of a pair are of the same hide, and the lesser quality of their cells is alike", () -> {
            // Another number, or another pair, is of whatever hide and quality.
            is(1, () -> rowsOfQualities(0, 2), x -> x.cut(0, 1, 1, 1, 1, 0, false, 0));
            is(1, () -> rowsOfQualities(0, 2), x -> x.cut(0, 0, 1, 1, 1, 0, false, 0));
            is(1, () -> rowsOfQualities(0, 2), x -> x.cut(1, 1, 0, 1, 1, 0, false, 0));
            is(1, () -> rowsOfQualities(0, 2), x -> x.cut(1, 0, 0, 1, 1, 0, false, 0));
            // Of cells of 3 and 1 the lesser one counts, wherever it lies.
            is(2, CutEdges::mixedCells, x -> x.cut(0, 1, 0, 0, 2, 0, false, 0));
            refused(UNFIT, CutEdges::mixedCells, x -> x.cut(0, 1, 0, 0, 4, 0, false, 0));
            refused(UNFIT, CutEdges::mixedCells, x -> x.cut(0, 1, 0, 0, 6, 0, false, 0));
        });
        says(TERMS, "Each shoe that leaves has a mate from the same places", () -> {
            is(true, CutEdges::mixedCells, x -> x.isSound());
            is(true, CutEdges::allCut, x -> x.isSound());
        });
    }

    private static void matching(int foot, int first, int second) {
        Works works = () -> rowsOfQualities(foot, first);
        refused(UNFIT, works, x -> x.cut(0, 1 - foot, 0, 1, second, 0, false, 0));
        if (first == second) {
            is(1, works, x -> x.cut(0, 1 - foot, 0, 0, 4 + second, 0, false, 0));
        } else {
            refused(UNFIT, works, x -> x.cut(0, 1 - foot, 0, 0, 4 + second, 0, false, 0));
        }
    }

    /** The cells are 3 1 1 3 3 2 3 3; the left piece is cut out of the first two. */
    private static Lastroom mixedCells() {
        Lastroom x = new Lastroom();
        x.model(2300, 50);
        x.style(0, 'w', 1, 1);
        x.piece(0, 2, 1, 20, 0, false);
        x.hide(1, 8, 1);
        x.fault(0, 1, 0, 1);
        x.fault(0, 2, 0, 1);
        x.fault(0, 5, 0, 2);
        x.ticket(0, 40);
        x.cut(0, 0, 0, 0, 0, 0, false, 0);
        return x;
    }

    private static void places() {
        says(22, "there is no such ticket", () -> {
            numbered(EMPTY, 0, (x, ticket) -> x.firstPlace(ticket, 0, 0));
            numbered(CutEdges::twoTickets, 2, (x, ticket) -> x.firstPlace(ticket, 0, 0));
        });
        says(22, ", piece", () -> {
            numbered(CutEdges::works, 3, (x, piece) -> x.firstPlace(0, piece, 0));
            numbered(CutEdges::works, 0, (x, piece) -> x.firstPlace(1, piece, 0));
        });
        says(22, "or hide", () -> {
            numbered(CutEdges::twoTickets, 1, (x, hide) -> x.firstPlace(0, 0, hide));
            numbered(CutEdges::sixPieces, 6, (x, hide) -> x.firstPlace(0, 0, hide));
        });
        says(22, "there is none", () -> {
            refused(NONE, CutEdges::works, x -> x.firstPlace(0, 0, 2));
            is(0, CutEdges::square, x -> x.firstPlace(0, 0, 0));
            refused(NONE, () -> narrow(2, 1), x -> x.firstPlace(0, 0, 0));
            refused(NONE, () -> narrow(1, 2), x -> x.firstPlace(0, 0, 0));
            is(0, () -> narrow(2, 2), x -> x.firstPlace(0, 0, 0));
            refused(NONE, CutEdges::mixedCut, x -> x.firstPlace(0, 0, 0));
        });
        says(22, "the first place of a hide at which a piece of a ticket could be cut as it is, not turned, row by row, the other foot aside", () -> {
            // Row by row: a place in an upper row comes ahead of one farther left.
            is(2, CutEdges::leftCut, x -> x.firstPlace(0, 0, 0));
            is(2, CutEdges::leftCut, x -> x.firstPlace(0, 1, 0));
            // The left piece is of the hide 0, the place is of the hide 1.
            is(0, CutEdges::leftCut, x -> x.firstPlace(0, 0, 1));
            // Not turned: 2 by 1 lies in no column, 1 by 2 in no row.
            refused(NONE, () -> oneLine(1, 4), x -> x.firstPlace(0, 0, 0));
            is(0, () -> oneLine(4, 1), x -> x.firstPlace(0, 0, 0));
            is(0, () -> oneLine(1, 4), x -> x.firstPlace(0, 1, 0));
            refused(NONE, () -> oneLine(4, 1), x -> x.firstPlace(0, 1, 0));
        });
        says(22, "Returns 100 times the row plus the column", () -> {
            for (int place = 0; place < 120; place++) {
                int due = place / 12 * 100 + place % 12;
                int free = place;
                is(due, () -> lastFree(free % 12, free / 12), x -> x.firstPlace(0, 0, 0));
            }
        });
    }

    private static Lastroom narrow(int columns, int rows) {
        Lastroom x = new Lastroom();
        x.model(2300, 50);
        x.style(0, 'w', 1, 1);
        x.piece(0, 2, 2, 20, 3, false);
        x.hide(1, columns, rows);
        x.ticket(0, 40);
        return x;
    }

    /** Four cells, of which the one or the other was cut, leave no room for 2 by 1. */
    private static Lastroom mixedCut() {
        Lastroom x = new Lastroom();
        x.model(2300, 50);
        x.style(0, 'w', 1, 1);
        x.piece(0, 2, 1, 20, 0, false);
        x.piece(0, 1, 1, 20, 0, false);
        x.hide(1, 4, 1);
        x.ticket(0, 40);
        x.cut(0, 0, 1, 0, 1, 0, false, 0);
        x.cut(0, 1, 1, 0, 3, 0, false, 0);
        return x;
    }

    private static Lastroom oneLine(int columns, int rows) {
        Lastroom x = new Lastroom();
        x.model(2300, 50);
        x.style(0, 'w', 1, 1);
        x.piece(0, 2, 1, 20, 0, false);
        x.piece(0, 1, 2, 20, 0, true);
        x.hide(1, columns, rows);
        x.ticket(0, 40);
        return x;
    }

    /** One cell alone of 12 by 10, and the ones behind it, do for the piece. */
    private static Lastroom lastFree(int column, int row) {
        Lastroom x = new Lastroom();
        x.model(2300, 50);
        x.style(0, 'w', 1, 1);
        x.piece(0, 1, 1, 20, 3, false);
        x.hide(1, 12, 10);
        for (int cell = 0; cell < 12 * row + column; cell++) {
            x.fault(0, cell % 12, cell / 12, 2);
        }
        x.ticket(0, 40);
        return x;
    }

    private static void cutters() {
        says(24, "there is no such operator", () -> {
            numbered(EMPTY, 8, (x, operator) -> x.cutBy(operator));
            numbered(CutEdges::allCut, 8, (x, operator) -> x.cutBy(operator));
        });
        says(24, "the operator, 0 to 7", () -> {
            int[] dues = {2, 0, 2, 2, 0, 0, 0, 0};
            for (int operator = 0; operator < 8; operator++) {
                int number = operator;
                is(dues[operator], CutEdges::allCut, x -> x.cutBy(number));
                is(0, EMPTY, x -> x.cutBy(number));
            }
        });
    }

    private static void hidesOfPieces() {
        says(42, "there is no such ticket", () -> {
            numbered(EMPTY, 0, (x, ticket) -> x.hideOf(ticket, 0, 0));
            numbered(CutEdges::bothCut, 2, (x, ticket) -> x.hideOf(ticket, 0, 0));
        });
        says(42, "0 the left one, 1 the right one", () -> {
            is(0, CutEdges::leftCut, x -> x.hideOf(0, 0, 2));
            refused(NONE, CutEdges::leftCut, x -> x.hideOf(0, 1, 2));
            is(1, CutEdges::allCut, x -> x.hideOf(0, 1, 1));
        });
        says(42, ", foot", () -> numbered(CutEdges::allCut, 2, (x, foot) -> x.hideOf(0, foot, 0)));
        says(42, "or piece", () -> {
            numbered(CutEdges::allCut, 3, (x, piece) -> x.hideOf(0, 1, piece));
            numbered(CutEdges::allCut, 0, (x, piece) -> x.hideOf(1, 1, piece));
        });
        says(42, "it was not cut", () -> {
            refused(NONE, CutEdges::works, x -> x.hideOf(0, 0, 0));
            refused(NONE, CutEdges::leftCut, x -> x.hideOf(0, 0, 1));
            refused(NONE, CutEdges::leftCut, x -> x.hideOf(0, 1, 0));
        });
    }

    private static Lastroom bothCut() {
        Lastroom x = twoTickets();
        x.cut(0, 0, 0, 0, 0, 0, false, 0);
        x.cut(1, 0, 0, 0, 1, 0, false, 0);
        return x;
    }

    private static Lastroom leftCutAndAbsent() {
        Lastroom x = leftCut();
        x.setAbsent(0, true);
        return x;
    }

    private static void orders() {
        // A piece that was cut, an absent and a busy operator, each with something that there is not.
        order(21, NO_SUCH, STATE, CutEdges::leftCut, x -> x.cut(0, 0, 0, 3, 0, 0, false, 0));
        order(21, NO_SUCH, STATE, CutEdges::leftCut, x -> x.cut(0, 0, 0, 0, 0, 0, false, 8));
        order(21, NO_SUCH, STATE, CutEdges::absent, x -> x.cut(0, 2, 0, 0, 0, 0, false, 0));
        order(21, NO_SUCH, STATE, CutEdges::absent, x -> x.cut(0, 0, 3, 0, 0, 0, false, 0));
        order(21, NO_SUCH, STATE, CutEdges::busy, x -> x.cut(2, 0, 0, 0, 0, 0, false, 1));
        order(21, NO_SUCH, STATE, CutEdges::busy, x -> x.cut(0, 0, 0, -1, 0, 0, false, 1));
        order(21, NO_SUCH, UNFIT, CutEdges::works, x -> x.cut(0, 0, 1, 0, 0, 0, true, 8));
        order(21, NO_SUCH, UNFIT, CutEdges::works, x -> x.cut(0, 0, 0, 0, 9, 9, false, -1));
        order(21, NO_SUCH, UNFIT, CutEdges::works, x -> x.cut(0, 0, 0, 2, 0, 0, false, 8));
        order(21, NO_SUCH, UNFIT, CutEdges::works, x -> x.cut(0, 2, 0, 2, 0, 0, false, 0));
        // Each state with all that does not fit.
        Call[] unfit = {
            x -> x.cut(0, 0, 0, 2, 3, 3, false, 0), x -> x.cut(0, 0, 0, 0, 3, 3, false, 0), x -> x.cut(0, 0, 0, 0, 0, 0, false, 0),
            x -> x.cut(0, 0, 0, 0, -1, 0, true, 0), x -> x.cut(0, 0, 0, 0, 0, Integer.MIN_VALUE, false, 0),
        };
        for (Call call : unfit) {
            order(21, STATE, UNFIT, CutEdges::leftCut, call);
            order(21, STATE, UNFIT, CutEdges::leftCutAndAbsent, call);
        }
        order(21, STATE, UNFIT, CutEdges::leftCut, x -> x.cut(0, 0, 2, 0, 0, 0, false, 0));
        order(21, STATE, UNFIT, CutEdges::absent, x -> x.cut(0, 0, 1, 0, 0, 0, true, 0));
        order(21, STATE, UNFIT, CutEdges::absent, x -> x.cut(0, 0, 0, 2, 0, 0, false, 0));
        order(21, STATE, UNFIT, CutEdges::busy, x -> x.cut(0, 0, 1, 0, 0, 0, true, 1));
        order(21, STATE, UNFIT, CutEdges::busy, x -> x.cut(0, 0, 0, 0, 4, 0, false, 1));
        order(21, STATE, UNFIT, CutEdges::leftCutAndAbsent, x -> x.cut(0, 1, 0, 1, 0, 0, false, 0));
        order(22, NO_SUCH, NONE, CutEdges::works, x -> x.firstPlace(2, 0, 2));
        order(22, NO_SUCH, NONE, CutEdges::works, x -> x.firstPlace(0, 3, 2));
        order(42, NO_SUCH, NONE, CutEdges::works, x -> x.hideOf(0, 2, 0));
    }
}
