/** The edges of promises 1 and 44 to 47, and what holds for all calls. */
final class FigureEdges extends Edges {
    static void ask() {
        newObject();
        checksums();
        shares();
        wastes();
        sound();
        manyCalls();
        wholeMethods();
    }

    private static Lastroom tickets(int count) {
        Lastroom x = new Lastroom();
        x.model(2300, 50);
        x.style(0, 'w', 1, 0);
        x.setLasts(0, 40, 9);
        for (int ticket = 0; ticket < count; ticket++) {
            x.ticket(0, 40);
        }
        return x;
    }

    private static void newObject() {
        says(1, "a works without models, styles, hides and tickets", () -> {
            numbered(EMPTY, 0, (x, model) -> x.girth(model, 40));
            numbered(EMPTY, 0, (x, style) -> x.bonds(style));
            numbered(EMPTY, 0, (x, hide) -> x.waste(hide));
            numbered(EMPTY, 0, (x, ticket) -> x.room(ticket));
            is(0, EMPTY, x -> x.model(2300, 50));
            is(0, EMPTY, x -> x.hide(0, 1, 1));
            is(0, EMPTY, x -> x.open(1));
        });
        says(1, "at the minute 0", () -> is(1, EMPTY, x -> x.pass(1)));
        says(1, "Creates", () -> is(true, () -> twoWorks(), x -> x.isSound()));
    }

    /** What is done with one works is none of another's. */
    private static Lastroom twoWorks() {
        Lastroom other = tickets(3);
        other.setSkill(0, 0, true);
        other.setAbsent(0, true);
        other.setStand(0, 1);
        other.open(1);
        other.pass(1);
        String untouched = Probe.tell(EMPTY, null);
        Check.is(untouched, () -> Probe.tell(EMPTY, x -> other.pass(1)));
        return new Lastroom();
    }

    private static Lastroom withPiece(int tickets) {
        Lastroom x = new Lastroom();
        x.model(2300, 50);
        x.style(0, 'w', 1, 0);
        x.piece(0, 1, 1, 20, 0, false);
        x.seam(0, 0, 5, 0);
        x.hide(1, 4, 4);
        x.setSkill(0, 0, true);
        for (int ticket = 0; ticket < tickets; ticket++) {
            x.ticket(0, 40);
        }
        return x;
    }

    private static Lastroom cut(int pieces) {
        Lastroom x = withPiece(2);
        for (int piece = 0; piece < pieces; piece++) {
            x.cut(piece / 2, piece % 2, 0, 0, piece, 0, false, 0);
        }
        return x;
    }

    private static Lastroom begun() {
        Lastroom x = cut(2);
        x.sew(0, 1, 0, 0);
        return x;
    }

    private static long sum(int... parts) {
        long sum = 0;
        for (int part : parts) {
            sum = 31 * sum + part;
        }
        return sum;
    }

    private static void checksums() {
        says(44, "Returns 0 at first", () -> {
            Check.is(0L, () -> new Lastroom().checksum());
            Check.is(0L, () -> tickets(0).checksum());
        });
        says(44, "then for each ticket 31 times itself", () -> {
            Check.is(sum('l'), () -> tickets(1).checksum());
            Check.is(sum('l', 'l'), () -> tickets(2).checksum());
            Check.is(sum('l', 'l', 'l'), () -> tickets(3).checksum());
            // 16 tickets go beyond the greatest long, and round.
            int[] all = new int[16];
            for (int ticket = 0; ticket < 16; ticket++) {
                all[ticket] = 'l';
            }
            Check.is(sum(all), () -> tickets(16).checksum());
            Check.is(false, () -> new java.math.BigInteger("31").pow(15).multiply(new java.math.BigInteger("108")).bitLength() <= 63);
        });
        says(44, "plus the sign of its room", () -> {
            char[] rooms = {'l', 'o', 'b', 'd', 'p', 'r'};
            for (int steps = 0; steps < rooms.length; steps++) {
                int taken = steps;
                Check.is(sum(rooms[steps]), () -> onward(taken).checksum());
            }
            Check.is(sum('c', 'c'), () -> cut(0).checksum());
        });
        says(44, "plus 7 times how many pieces were cut and seams were sewn for it", () -> {
            Check.is(sum('c' + 7, 'c'), () -> cut(1).checksum());
            Check.is(sum('s' + 14, 'c'), () -> cut(2).checksum());
            Check.is(sum('s' + 14, 'c' + 7), () -> cut(3).checksum());
            Check.is(sum('s' + 14, 's' + 14), () -> cut(4).checksum());
            Check.is(sum('s' + 21, 'c'), () -> begun().checksum());
            Check.is(sum('s' + 21, 'c'), () -> passed(begun(), 5).checksum());
        });
    }

    private static Lastroom passed(Lastroom x, int minutes) {
        x.pass(minutes);
        return x;
    }

    /** A pair that took so many steps from the lasts on. */
    private static Lastroom onward(int steps) {
        return onward(tickets(1), 0, steps);
    }

    private static Lastroom onward(Lastroom x, int ticket, int steps) {
        for (int step = 1; step <= steps; step++) {
            switch (step) {
                case 1:
                    x.lastOn(ticket);
                    break;
                case 2:
                    x.pass(30);
                    x.sole(ticket, -1, false);
                    break;
                case 3:
                    x.takeOff(ticket);
                    break;
                case 4:
                    x.pack(ticket, 0, 0);
                    break;
                default:
                    x.comeBack(ticket);
            }
        }
        return x;
    }

    private static Lastroom packed(int tickets, int packed, int returned) {
        Lastroom x = tickets(tickets);
        for (int ticket = 0; ticket < packed; ticket++) {
            onward(x, ticket, ticket < returned ? 5 : 4);
        }
        return x;
    }

    private static void shares() {
        says(45, "the share of the tickets that were packed, also if they came back", () -> {
            for (int steps = 0; steps <= 5; steps++) {
                int taken = steps;
                Check.is(steps >= 4 ? 1.0f : 0.0f, () -> onward(taken).packedShare());
            }
        });
        says(45, "their number divided by that of all, both converted to float", () -> {
            for (int tickets = 1; tickets <= 16; tickets++) {
                for (int packed = 0; packed <= tickets; packed++) {
                    int all = tickets;
                    int some = packed;
                    Check.is((float) packed / (float) tickets, () -> packed(all, some, some / 2).packedShare());
                }
            }
        });
        says(45, "there are none", () -> {
            refused(ARITHMETIC, EMPTY, x -> x.packedShare());
            refused(ARITHMETIC, () -> tickets(0), x -> x.packedShare());
            Check.is(0.0f, () -> tickets(1).packedShare());
        });
    }

    /** Hides of 3 cells, of which so many are cut of each. */
    private static Lastroom hides(int... cut) {
        Lastroom x = withPiece(16);
        int next = 0;
        for (int hide = 0; hide < cut.length; hide++) {
            x.hide(1, 3, 1);
            for (int cell = 0; cell < cut[hide]; cell++) {
                x.cut(next, 0, 0, 1 + hide, cell, 0, false, 0);
                next++;
            }
        }
        return x;
    }

    private static void wastes() {
        says(46, "there are none", () -> {
            refused(ARITHMETIC, EMPTY, x -> x.meanWaste());
            refused(ARITHMETIC, () -> tickets(1), x -> x.meanWaste());
            Check.is(100.0, () -> hides().meanWaste());
        });
        says(46, "the sum in hundredths divided by their number, both converted to double", () -> {
            // The hide 0 is whole; each other one's waste is rounded down by itself.
            Check.is(200.0 / 2.0, () -> hides(0).meanWaste());
            Check.is(166.0 / 2.0, () -> hides(1).meanWaste());
            Check.is(232.0 / 3.0, () -> hides(1, 1).meanWaste());
            Check.is(199.0 / 3.0, () -> hides(1, 2).meanWaste());
            Check.is(100.0 / 6.0, () -> hides(3, 3, 3, 3, 3).meanWaste());
            Check.is(133.0 / 6.0, () -> hides(2, 3, 3, 3, 3).meanWaste());
        });
    }

    private static void sound() {
        says(TERMS, "Each shoe that leaves has a mate from the same places", () -> {
            is(true, EMPTY, x -> x.isSound());
            for (int pieces = 0; pieces <= 4; pieces++) {
                int taken = pieces;
                is(true, () -> cut(taken), x -> x.isSound());
            }
            is(true, () -> onward(5), x -> x.isSound());
        });
    }

    private static void manyCalls() {
        says(TERMS, "An object is used for at most 512 calls after it has been made; what later calls answer is free", () -> {
            Lastroom x = new Lastroom();
            for (int call = 1; call <= 508; call++) {
                x.pass(1);
            }
            Check.is(0, () -> x.model(2300, 50));
            Check.is(2350, () -> x.girth(0, 41));
            Check.is(511, () -> x.pass(1) + 2);
            Check.fails(NO_SUCH, () -> x.girth(1, 40));
            Lastroom y = new Lastroom();
            for (int call = 1; call <= 511; call++) {
                Check.fails(NO_SUCH, () -> y.room(0));
            }
            Check.is(1, () -> y.pass(1));
        });
    }

    private static Lastroom asked(Lastroom x, int some) {
        Probe.askSome(x, some);
        return x;
    }

    private static void wholeMethods() {
        says(TERMS, "A method that throws an exception changes nothing", () -> {
            for (int pieces = 0; pieces <= 4; pieces++) {
                int taken = pieces;
                Works works = () -> cut(taken);
                refused(NO_SUCH, works, x -> x.cut(2, 0, 0, 0, 3, 3, false, 0));
                refused(UNFIT, works, x -> taken == 0 || taken == 4 ? x.style(0, 'w', 0, 2) : x.cut(1, taken == 3 ? 1 : 0, 0, 0, 4, 0, false, 0));
                refused(NONE, works, x -> x.cause());
                refused(BAD, works, x -> x.pass(241));
            }
        });
        says(TERMS, "If several exceptions apply, the one that is documented first is thrown", () -> {
            refused(NO_SUCH, FigureEdges::begun, x -> x.sew(0, 1, 1, 0));
            refused(STATE, FigureEdges::begun, x -> x.sew(0, 1, 0, 1));
            refused(UNFIT, FigureEdges::begun, x -> x.sew(0, 0, 0, 1));
        });
        says(TERMS, "Lasts, styles, hides, tickets, operators, tests and returns come by calls; pieces, places, loads, fits and causes are asked", () -> {
            Works[] kinds = {EMPTY, () -> tickets(3), () -> cut(3), FigureEdges::begun, () -> onward(3), () -> onward(5)};
            for (Works works : kinds) {
                String untouched = Probe.tell(works, null);
                for (int some = 0; some < 3; some++) {
                    int questions = some;
                    Check.is(untouched, () -> Probe.tell(() -> asked(works.made(), questions), null));
                }
            }
        });
    }
}
