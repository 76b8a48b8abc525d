/** The edges of promises 18 to 20 and 23: hides, their cells and faults. */
final class HideEdges extends Edges {
    static void ask() {
        hides();
        faults();
        cells();
        wastes();
        orders();
    }

    private static Lastroom hides(int count) {
        Lastroom x = new Lastroom();
        for (int hide = 0; hide < count; hide++) {
            x.hide(1, 3, 2);
        }
        return x;
    }

    private static Lastroom sized(int columns, int rows) {
        Lastroom x = new Lastroom();
        x.hide(1, columns, rows);
        return x;
    }

    /** A hide of 3 by 2 cells, the first of them of the quality 1, the one beside it cut for the ticket 0. */
    private static Lastroom cut() {
        Lastroom x = hides(1);
        x.model(2300, 50);
        x.style(0, 'w', 1, 1);
        x.piece(0, 1, 1, 20, 0, false);
        x.ticket(0, 40);
        x.fault(0, 0, 0, 1);
        x.cut(0, 0, 0, 0, 1, 0, false, 0);
        return x;
    }

    private static void hides() {
        says(18, "the material, 0 to 4", () -> range(BAD, EMPTY, 0, 4, (x, material) -> x.hide(material, 1, 1)));
        says(18, "how many columns, 1 to 12", () -> range(BAD, EMPTY, 1, 12, (x, columns) -> x.hide(0, columns, 1)));
        says(18, "how many rows, 1 to 10", () -> range(BAD, EMPTY, 1, 10, (x, rows) -> x.hide(0, 1, rows)));
        says(18, "a number is out of range", () -> {
            refused(BAD, () -> hides(5), x -> x.hide(4, 12, 11));
            refused(BAD, () -> hides(5), x -> x.hide(4, 13, 10));
            refused(BAD, () -> hides(5), x -> x.hide(5, 12, 10));
        });
        says(18, "there are 6 hides", () -> {
            is(5, () -> hides(5), x -> x.hide(0, 1, 1));
            refused(STATE, () -> hides(6), x -> x.hide(0, 1, 1));
        });
        says(TERMS, "At most 6 hides are numbered from 0, of a material, with cells in columns and rows", () -> {
            for (int count = 0; count < 6; count++) {
                int due = count;
                is(due, () -> hides(due), x -> x.hide(4, 12, 10));
            }
            Check.fails(STATE, () -> hides(7));
        });
        says(TERMS, "of the quality 3 at first", () -> {
            Lastroom x = sized(12, 10);
            for (int cell = 0; cell < 120; cell++) {
                int place = cell;
                Check.is(3, () -> x.cellOf(0, place % 12, place / 12));
            }
        });
    }

    private static void faults() {
        says(19, "there is no such hide", () -> {
            numbered(EMPTY, 0, (x, hide) -> x.fault(hide, 0, 0, 2));
            numbered(() -> hides(2), 2, (x, hide) -> x.fault(hide, 0, 0, 2));
            numbered(() -> hides(6), 6, (x, hide) -> x.fault(hide, 0, 0, 2));
        });
        says(19, "the column, from 0", () -> is(3, () -> sized(12, 10), x -> x.fault(0, 0, 9, 2)));
        says(19, "the row, from 0", () -> is(3, () -> sized(12, 10), x -> x.fault(0, 11, 0, 2)));
        says(19, "there is no such cell", () -> {
            range(BAD, HideEdges::cut, 0, 2, (x, column) -> x.fault(0, column, 1, 2));
            range(BAD, HideEdges::cut, 0, 1, (x, row) -> x.fault(0, 2, row, 2));
            range(BAD, () -> sized(12, 10), 0, 11, (x, column) -> x.fault(0, column, 9, 2));
            range(BAD, () -> sized(12, 10), 0, 9, (x, row) -> x.fault(0, 11, row, 2));
            range(BAD, () -> sized(1, 1), 0, 0, (x, column) -> x.fault(0, column, 0, 2));
            range(BAD, () -> sized(1, 1), 0, 0, (x, row) -> x.fault(0, 0, row, 2));
            // Beyond this hide, within the next one.
            refused(BAD, () -> twoSizes(), x -> x.fault(0, 2, 0, 2));
            is(3, () -> twoSizes(), x -> x.fault(1, 2, 0, 2));
        });
        says(19, "the quality of this cell, 0 to 3", () -> range(BAD, HideEdges::cut, 0, 3, (x, quality) -> x.fault(0, 0, 0, quality)));
        says(19, "or quality", () -> {
            refused(BAD, HideEdges::cut, x -> x.fault(0, 2, 1, 4));
            refused(BAD, HideEdges::cut, x -> x.fault(0, 2, 1, -1));
            refused(BAD, HideEdges::cut, x -> x.fault(0, 2, 1, 10));
        });
        says(19, "this cell was cut", () -> {
            refused(STATE, HideEdges::cut, x -> x.fault(0, 1, 0, 0));
            refused(STATE, HideEdges::cut, x -> x.fault(0, 1, 0, 3));
            is(3, HideEdges::cut, x -> x.fault(0, 2, 0, 0));
            is(3, HideEdges::cut, x -> x.fault(0, 1, 1, 0));
        });
        says(19, "Returns the quality before", () -> {
            for (int before = 0; before <= 3; before++) {
                for (int then = 0; then <= 3; then++) {
                    int first = before;
                    int second = then;
                    is(first, () -> faulty(first), x -> x.fault(0, 1, 1, second));
                    is(second, () -> faulty(second), x -> x.cellOf(0, 1, 1));
                }
            }
        });
        says(TERMS, "faults have less", () -> {
            for (int quality = 0; quality < 3; quality++) {
                int less = quality;
                is(less, () -> faulty(less), x -> x.cellOf(0, 1, 1));
                is(3, () -> faulty(less), x -> x.cellOf(0, 0, 1));
                is(3, () -> faulty(less), x -> x.cellOf(0, 1, 0));
            }
        });
    }

    private static Lastroom twoSizes() {
        Lastroom x = new Lastroom();
        x.hide(1, 2, 1);
        x.hide(1, 3, 1);
        return x;
    }

    private static Lastroom faulty(int quality) {
        Lastroom x = hides(2);
        x.fault(0, 1, 1, quality);
        return x;
    }

    private static void cells() {
        says(20, "there is no such hide", () -> {
            numbered(EMPTY, 0, (x, hide) -> x.cellOf(hide, 0, 0));
            numbered(HideEdges::cut, 1, (x, hide) -> x.cellOf(hide, 0, 0));
            numbered(() -> hides(6), 6, (x, hide) -> x.cellOf(hide, 0, 0));
        });
        says(20, "the column, from 0", () -> is(1, HideEdges::cut, x -> x.cellOf(0, 0, 0)));
        says(20, "the row, from 0", () -> is(10, HideEdges::cut, x -> x.cellOf(0, 1, 0)));
        says(20, "there is no such cell", () -> {
            range(BAD, HideEdges::cut, 0, 2, (x, column) -> x.cellOf(0, column, 1));
            range(BAD, HideEdges::cut, 0, 1, (x, row) -> x.cellOf(0, 2, row));
            range(BAD, () -> sized(12, 10), 0, 11, (x, column) -> x.cellOf(0, column, 9));
            range(BAD, () -> sized(12, 10), 0, 9, (x, row) -> x.cellOf(0, 11, row));
            range(BAD, () -> sized(1, 1), 0, 0, (x, column) -> x.cellOf(0, column, 0));
            range(BAD, () -> sized(1, 1), 0, 0, (x, row) -> x.cellOf(0, 0, row));
        });
        says(20, "the quality, or 10 more than the ticket for which it was cut", () -> {
            is(1, HideEdges::cut, x -> x.cellOf(0, 0, 0));
            is(10, HideEdges::cut, x -> x.cellOf(0, 1, 0));
            is(3, HideEdges::cut, x -> x.cellOf(0, 2, 0));
            Lastroom x = allTickets();
            for (int ticket = 0; ticket < 16; ticket++) {
                int number = ticket;
                Check.is(10 + number, () -> x.cellOf(0, number % 8, number / 8));
            }
        });
    }

    /** One cell each for 16 tickets. */
    private static Lastroom allTickets() {
        Lastroom x = sized(8, 2);
        x.model(2300, 50);
        x.style(0, 'w', 1, 1);
        x.piece(0, 1, 1, 20, 0, false);
        for (int ticket = 0; ticket < 16; ticket++) {
            x.ticket(0, 40);
            x.cut(ticket, 0, 0, 0, ticket % 8, ticket / 8, false, 0);
        }
        return x;
    }

    /** A hide of which so many cells in a row are cut. */
    private static Lastroom wasted(int columns, int rows, int cut) {
        Lastroom x = sized(columns, rows);
        x.model(2300, 50);
        x.style(0, 'w', 1, 1);
        x.piece(0, 1, 1, 20, 0, false);
        for (int cell = 0; cell < cut; cell++) {
            if (cell % 2 == 0) {
                x.ticket(0, 40);
            }
            x.cut(cell / 2, cell % 2, 0, 0, cell % columns, cell / columns, false, 0);
        }
        return x;
    }

    private static void wastes() {
        says(23, "there is no such hide", () -> {
            numbered(EMPTY, 0, (x, hide) -> x.waste(hide));
            numbered(HideEdges::cut, 1, (x, hide) -> x.waste(hide));
            numbered(() -> hides(6), 6, (x, hide) -> x.waste(hide));
        });
        says(23, "in hundredths of its cells, rounded down", () -> {
            int[][] sizes = {{1, 1}, {2, 1}, {3, 1}, {1, 7}, {3, 3}, {4, 4}, {6, 5}, {12, 10}};
            for (int[] size : sizes) {
                int cells = size[0] * size[1];
                for (int cut = 0; cut <= Math.min(32, cells); cut++) {
                    int taken = cut;
                    is(100 * (cells - cut) / cells, () -> wasted(size[0], size[1], taken), x -> x.waste(0));
                }
            }
        });
    }

    private static void orders() {
        order(18, BAD, STATE, () -> hides(6), x -> x.hide(5, 1, 1));
        order(18, BAD, STATE, () -> hides(6), x -> x.hide(0, 13, 1));
        order(18, BAD, STATE, () -> hides(6), x -> x.hide(0, 1, 0));
        order(19, NO_SUCH, BAD, HideEdges::cut, x -> x.fault(1, 3, 0, 0));
        order(19, NO_SUCH, BAD, HideEdges::cut, x -> x.fault(-1, 0, 0, 4));
        neverBoth(19, NO_SUCH, STATE, "no cell was cut of a hide that there is not");
        order(19, BAD, STATE, HideEdges::cut, x -> x.fault(0, 1, 0, 4));
        order(19, BAD, STATE, HideEdges::cut, x -> x.fault(0, 1, 0, -1));
        order(20, NO_SUCH, BAD, HideEdges::cut, x -> x.cellOf(1, 3, 2));
    }
}
