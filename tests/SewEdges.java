/** The edges of promises 25 to 31 and 43: operators, tickets, minutes, sewing and rooms. */
final class SewEdges extends Edges {
    static void ask() {
        skills();
        absences();
        tickets();
        minutes();
        missingThings();
        badStates();
        skillsAndOrder();
        times();
        rooms();
        bottlenecks();
        sewers();
        orders();
    }

    /**
     * The style 0 has the seams 0 (skill 0, 10 minutes), 1 (skill 1, 5 minutes, behind 0) and 2 (skill 3, 60 minutes); the
     * style 1 has a piece and a seam. The operator 0 has the skills 0, 1 and 3, 1 the skill 0, 7 all. The tickets 0 and 1 are
     * in sewing, 2 is in cutting.
     */
    private static Lastroom works() {
        Lastroom x = new Lastroom();
        x.model(2300, 50);
        x.style(0, 'w', 1, 1);
        x.seam(0, 0, 10, 0);
        x.seam(0, 1, 5, 1);
        x.seam(0, 3, 60, 0);
        x.style(0, 'w', 1, 1);
        x.piece(1, 1, 1, 20, 0, false);
        x.seam(1, 0, 1, 0);
        x.hide(1, 4, 4);
        for (int skill = 0; skill < 4; skill++) {
            x.setSkill(0, skill, skill != 2);
            x.setSkill(7, skill, true);
        }
        x.setSkill(1, 0, true);
        x.ticket(0, 40);
        x.ticket(0, 40);
        x.ticket(1, 40);
        return x;
    }

    /** The operator 0 sews the seam 0 of the left foot of the ticket 0, till the minute 10. */
    private static Lastroom sewing() {
        Lastroom x = works();
        x.sew(0, 0, 0, 0);
        return x;
    }

    private static Lastroom sewingFor(int minutes) {
        Lastroom x = sewing();
        x.pass(minutes);
        return x;
    }

    private static Lastroom absent(int operator) {
        Lastroom x = works();
        x.setAbsent(operator, true);
        return x;
    }

    private static void skills() {
        says(25, "there is no such operator", () -> {
            numbered(EMPTY, 8, (x, operator) -> x.setSkill(operator, 0, true));
            numbered(EMPTY, 8, (x, operator) -> x.setSkill(operator, 3, false));
        });
        says(25, "the operator, 0 to 7", () -> range(NO_SUCH, SewEdges::works, 0, 7, (x, operator) -> x.setSkill(operator, 0, false)));
        says(25, "there is no such skill", () -> {
            refused(BAD, SewEdges::works, x -> x.setSkill(0, 4, true));
            refused(BAD, SewEdges::works, x -> x.setSkill(0, 4, false));
            refused(BAD, SewEdges::works, x -> x.setSkill(0, 32, false));
            refused(BAD, SewEdges::works, x -> x.setSkill(0, 32, true));
        });
        says(25, "the skill, 0 to 3", () -> {
            range(BAD, SewEdges::works, 0, 3, (x, skill) -> x.setSkill(0, skill, false));
            range(BAD, SewEdges::works, 0, 3, (x, skill) -> x.setSkill(7, skill, true));
        });
        says(TERMS, "There are the operators 0 to 7, each with skills, none at first", () -> {
            for (int place = 0; place < 32; place++) {
                int operator = place / 4;
                int skill = place % 4;
                is(false, EMPTY, x -> x.setSkill(operator, skill, true));
                is(false, EMPTY, x -> x.setSkill(operator, skill, false));
                for (int other = 0; other < 32; other++) {
                    int asked = other;
                    is(other == place, () -> skilled(operator, skill), x -> x.setSkill(asked / 4, asked % 4, false));
                    is(other != place, () -> allSkilledBut(operator, skill), x -> x.setSkill(asked / 4, asked % 4, true));
                }
            }
        });
    }

    private static Lastroom skilled(int operator, int skill) {
        Lastroom x = new Lastroom();
        x.setSkill(operator, skill, true);
        return x;
    }

    private static Lastroom allSkilledBut(int operator, int skill) {
        Lastroom x = new Lastroom();
        for (int place = 0; place < 32; place++) {
            x.setSkill(place / 4, place % 4, true);
        }
        x.setSkill(operator, skill, false);
        return x;
    }

    private static void absences() {
        says(26, "there is no such operator", () -> {
            numbered(EMPTY, 8, (x, operator) -> x.setAbsent(operator, true));
            numbered(EMPTY, 8, (x, operator) -> x.setAbsent(operator, false));
        });
        says(26, "the operator, 0 to 7", () -> range(NO_SUCH, SewEdges::works, 0, 7, (x, operator) -> x.setAbsent(operator, true)));
        says(TERMS, "one can be absent", () -> {
            for (int operator = 0; operator < 8; operator++) {
                for (int other = 0; other < 8; other++) {
                    int number = operator;
                    int asked = other;
                    is(other == operator, () -> absent(number), x -> x.setAbsent(asked, false));
                    is(other == operator, () -> absent(number), x -> x.setAbsent(asked, true));
                }
            }
        });
        says(TERMS, "An operator who becomes absent while sewing goes on until the seam is done", () -> {
            is(0, SewEdges::absentWhileSewing, x -> x.sewerOf(0, 0, 0));
            // The seam is done, so that the next one can be sewn at the minute 10, and not ahead of that.
            is(15, () -> passed(absentWhileSewing(), 10), x -> x.sew(0, 0, 1, 7));
            refused(STATE, () -> passed(absentWhileSewing(), 9), x -> x.sew(0, 0, 1, 7));
            refused(STATE, () -> passed(absentWhileSewing(), 10), x -> x.sew(0, 0, 1, 0));
        });
    }

    private static Lastroom absentWhileSewing() {
        Lastroom x = sewing();
        x.setAbsent(0, true);
        return x;
    }

    private static Lastroom passed(Lastroom x, int minutes) {
        x.pass(minutes);
        return x;
    }

    private static Lastroom tickets(int count) {
        Lastroom x = new Lastroom();
        x.model(2300, 50);
        x.style(0, 'w', 1, 1);
        for (int ticket = 0; ticket < count; ticket++) {
            x.ticket(0, 40);
        }
        return x;
    }

    private static void tickets() {
        says(27, "there is no such style", () -> {
            numbered(EMPTY, 0, (x, style) -> x.ticket(style, 40));
            numbered(SewEdges::works, 2, (x, style) -> x.ticket(style, 40));
        });
        says(27, "the size, 15 to 50", () -> range(BAD, SewEdges::works, 15, 50, (x, size) -> x.ticket(0, size)));
        says(27, "the size is out of range", () -> {
            refused(BAD, () -> tickets(15), x -> x.ticket(0, 14));
            refused(BAD, () -> tickets(15), x -> x.ticket(0, 51));
        });
        says(27, "there are 16 tickets", () -> {
            is(15, () -> tickets(15), x -> x.ticket(0, 40));
            refused(STATE, () -> tickets(16), x -> x.ticket(0, 40));
        });
        says(TERMS, "At most 16 tickets are numbered from 0, each a pair of a style in a size: the feet 0, left, and 1, right", () -> {
            for (int count = 0; count < 16; count++) {
                int due = count;
                is(due, () -> tickets(due), x -> x.ticket(0, 15 + due));
            }
            Check.fails(STATE, () -> tickets(17));
        });
    }

    private static void minutes() {
        says(28, "how many, 1 to 240", () -> range(BAD, SewEdges::works, 1, 240, (x, minutes) -> x.pass(minutes)));
        says(28, "a number is out of range", () -> {
            refused(BAD, SewEdges::sewing, x -> x.pass(0));
            refused(BAD, SewEdges::sewing, x -> x.pass(-1));
            refused(BAD, SewEdges::sewing, x -> x.pass(241));
        });
        says(28, "Returns the minute then, 0 at first", () -> {
            is(1, EMPTY, x -> x.pass(1));
            is(240, EMPTY, x -> x.pass(240));
            is(241, () -> passed(new Lastroom(), 240), x -> x.pass(1));
            is(241, () -> passed(new Lastroom(), 1), x -> x.pass(240));
            Lastroom x = new Lastroom();
            for (int call = 1; call <= 512; call++) {
                int due = 240 * call;
                Check.is(due, () -> x.pass(240));
            }
        });
    }

    private static void missingThings() {
        says(29, "there is no such ticket", () -> {
            numbered(EMPTY, 0, (x, ticket) -> x.sew(ticket, 0, 0, 0));
            numbered(SewEdges::cutThird, 3, (x, ticket) -> x.sew(ticket, 0, 0, 0));
        });
        says(29, "0 the left one, 1 the right one", () -> {
            refused(STATE, SewEdges::sewing, x -> x.sew(0, 0, 2, 7));
            is(60, SewEdges::sewing, x -> x.sew(0, 1, 2, 7));
            is(10, SewEdges::sewing, x -> x.sew(0, 1, 0, 7));
            is(0, SewEdges::sewing, x -> x.sewerOf(0, 0, 0));
            refused(NONE, SewEdges::sewing, x -> x.sewerOf(0, 1, 0));
        });
        says(29, ", foot", () -> numbered(SewEdges::works, 2, (x, foot) -> x.sew(0, foot, 0, 0)));
        says(29, ", seam", () -> {
            numbered(SewEdges::eightSeams, 8, (x, seam) -> x.sew(0, 0, seam, 0));
            numbered(SewEdges::cutThird, 1, (x, seam) -> x.sew(2, 0, seam, 0));
            numbered(() -> tickets(1), 0, (x, seam) -> x.sew(0, 0, seam, 0));
        });
        says(29, "or operator", () -> {
            for (int number : new int[] {-1, 8, 9, Integer.MIN_VALUE, Integer.MAX_VALUE}) {
                refused(NO_SUCH, SewEdges::works, x -> x.sew(0, 0, 0, number));
            }
        });
        says(29, "the operator, 0 to 7", () -> range(NO_SUCH, SewEdges::works, 0, 7, (x, operator) -> x.sew(0, 0, 0, operator)));
    }

    /** The third ticket is in sewing too. */
    private static Lastroom cutThird() {
        Lastroom x = works();
        x.cut(2, 0, 0, 0, 0, 0, false, 0);
        x.cut(2, 1, 0, 0, 1, 0, false, 0);
        return x;
    }

    private static Lastroom eightSeams() {
        Lastroom x = new Lastroom();
        x.model(2300, 50);
        x.style(0, 'w', 1, 1);
        for (int seam = 0; seam < 8; seam++) {
            x.seam(0, 0, 1 + seam, 0);
        }
        x.setSkill(0, 0, true);
        x.ticket(0, 40);
        return x;
    }

    private static Lastroom halfCut() {
        Lastroom x = works();
        x.cut(2, 1, 0, 0, 1, 0, false, 0);
        return x;
    }

    /** All seams of the ticket 2 are begun, and done so many minutes behind that. */
    private static Lastroom sewnThird(int minutes) {
        Lastroom x = cutThird();
        x.sew(2, 0, 0, 0);
        x.sew(2, 1, 0, 1);
        if (minutes > 0) {
            x.pass(minutes);
        }
        return x;
    }

    private static void badStates() {
        says(29, "the ticket is not in sewing", () -> {
            refused(STATE, SewEdges::works, x -> x.sew(2, 0, 0, 0));
            refused(STATE, SewEdges::halfCut, x -> x.sew(2, 0, 0, 0));
            refused(STATE, SewEdges::halfCut, x -> x.sew(2, 1, 0, 0));
            is(1, SewEdges::cutThird, x -> x.sew(2, 1, 0, 0));
            refused(STATE, () -> sewnThird(1), x -> x.sew(2, 0, 0, 7));
            refused(STATE, () -> sewnThird(0), x -> x.sew(2, 0, 0, 7));
        });
        says(29, "the seam was done", () -> {
            refused(STATE, SewEdges::sewing, x -> x.sew(0, 0, 0, 7));
            refused(STATE, () -> sewingFor(10), x -> x.sew(0, 0, 0, 0));
            refused(STATE, () -> sewingFor(240), x -> x.sew(0, 0, 0, 7));
            is(20, () -> sewingFor(10), x -> x.sew(0, 1, 0, 0));
            is(20, () -> sewingFor(10), x -> x.sew(1, 0, 0, 0));
        });
        says(29, "the foot is busy", () -> {
            refused(STATE, SewEdges::sewing, x -> x.sew(0, 0, 2, 7));
            refused(STATE, () -> sewingFor(9), x -> x.sew(0, 0, 2, 7));
            is(70, () -> sewingFor(10), x -> x.sew(0, 0, 2, 7));
            is(60, SewEdges::sewing, x -> x.sew(0, 1, 2, 7));
            is(60, SewEdges::sewing, x -> x.sew(1, 0, 2, 7));
        });
        says(29, "the operator is absent", () -> {
            refused(STATE, () -> absent(0), x -> x.sew(0, 0, 0, 0));
            is(10, () -> absent(0), x -> x.sew(0, 0, 0, 1));
            is(10, SewEdges::backAgain, x -> x.sew(0, 0, 0, 0));
        });
        says(29, "or busy", () -> {
            refused(STATE, SewEdges::sewing, x -> x.sew(1, 0, 0, 0));
            refused(STATE, () -> sewingFor(9), x -> x.sew(1, 0, 0, 0));
            is(20, () -> sewingFor(10), x -> x.sew(1, 0, 0, 0));
            is(10, SewEdges::sewing, x -> x.sew(1, 0, 0, 1));
        });
    }

    private static Lastroom backAgain() {
        Lastroom x = absent(0);
        x.setAbsent(0, false);
        return x;
    }

    private static void skillsAndOrder() {
        says(29, "the operator has not the skill", () -> {
            refused(UNFIT, SewEdges::works, x -> x.sew(0, 0, 0, 2));
            refused(UNFIT, SewEdges::works, x -> x.sew(0, 0, 2, 1));
            refused(UNFIT, () -> sewingFor(10), x -> x.sew(0, 0, 1, 1));
            refused(UNFIT, SewEdges::unskilled, x -> x.sew(0, 0, 0, 0));
            is(60, SewEdges::works, x -> x.sew(0, 0, 2, 0));
        });
        says(29, "an earlier seam must be done ahead of it", () -> {
            refused(UNFIT, SewEdges::works, x -> x.sew(0, 0, 1, 0));
            is(15, () -> sewingFor(10), x -> x.sew(0, 0, 1, 0));
            // What is done of the other foot, or of another ticket, is not done of this one.
            refused(UNFIT, () -> sewingFor(10), x -> x.sew(0, 1, 1, 0));
            refused(UNFIT, () -> sewingFor(10), x -> x.sew(1, 0, 1, 0));
        });
        says(TERMS, "and those earlier ones that must be done ahead of it", () -> {
            for (int after = 0; after < 8; after++) {
                for (int done = 0; done < 8; done++) {
                    int bits = after;
                    int sewn = done;
                    Works works = () -> sewnOf(bits, sewn);
                    if ((after & ~done) == 0) {
                        is(4, works, x -> x.sew(0, 0, 3, 0));
                    } else {
                        refused(UNFIT, works, x -> x.sew(0, 0, 3, 0));
                    }
                }
            }
        });
    }

    private static Lastroom unskilled() {
        Lastroom x = works();
        x.setSkill(0, 0, false);
        return x;
    }

    /** Three seams, of which some are done, and the fourth one must wait for some; it is the minute 3. */
    private static Lastroom sewnOf(int after, int done) {
        Lastroom x = new Lastroom();
        x.model(2300, 50);
        x.style(0, 'w', 1, 1);
        for (int seam = 0; seam < 3; seam++) {
            x.seam(0, 0, 1, 0);
        }
        x.seam(0, 0, 1, after);
        x.setSkill(0, 0, true);
        x.ticket(0, 40);
        for (int seam = 0; seam < 3; seam++) {
            if ((done & 1 << seam) != 0) {
                x.sew(0, 0, seam, 0);
            }
            x.pass(1);
        }
        return x;
    }

    private static void times() {
        says(TERMS, "An operator who sews is busy for the minutes of the seam, and so is the foot", () -> {
            for (int minutes = 1; minutes <= 60; minutes++) {
                int length = minutes;
                is(length, () -> oneSeam(length), x -> x.sew(0, 0, 0, 0));
                Works begun = () -> begunSeam(length);
                is(length + 240, begun, x -> x.pass(240));
                if (minutes > 1) {
                    refused(STATE, () -> passed(begunSeam(length), length - 1), x -> x.sew(0, 1, 0, 0));
                    refused(STATE, () -> passed(begunSeam(length), length - 1), x -> x.sew(0, 0, 1, 1));
                }
                is(2 * length + length, () -> passed(begunSeam(length), length), x -> x.sew(0, 1, 0, 0));
                is(2 * length + length, () -> passed(begunSeam(length), length), x -> x.sew(0, 0, 1, 1));
            }
        });
    }

    private static Lastroom oneSeam(int minutes) {
        Lastroom x = new Lastroom();
        x.model(2300, 50);
        x.style(0, 'w', 1, 1);
        x.seam(0, 0, minutes, 0);
        x.seam(0, 0, minutes, 0);
        x.setSkill(0, 0, true);
        x.setSkill(1, 0, true);
        x.ticket(0, 40);
        return x;
    }

    /** The seam 0 is begun at the minute that is the length of it. */
    private static Lastroom begunSeam(int minutes) {
        Lastroom x = passed(oneSeam(minutes), minutes);
        x.sew(0, 0, 0, 0);
        return x;
    }

    private static void rooms() {
        says(30, "there is no such ticket", () -> {
            numbered(EMPTY, 0, (x, ticket) -> x.room(ticket));
            numbered(SewEdges::works, 3, (x, ticket) -> x.room(ticket));
            numbered(() -> tickets(16), 16, (x, ticket) -> x.room(ticket));
        });
        says(TERMS, "They go through the rooms: 'c' cutting, until all pieces of both feet are cut", () -> {
            is('c', SewEdges::works, x -> x.room(2));
            is('c', SewEdges::halfCut, x -> x.room(2));
            is('s', SewEdges::cutThird, x -> x.room(2));
        });
        says(TERMS, "'s' sewing, until all seams of both feet are done and the minutes of the last ones are over", () -> {
            is('s', SewEdges::works, x -> x.room(0));
            is('s', () -> sewingFor(240), x -> x.room(0));
            is('s', () -> sewnThird(0), x -> x.room(2));
            is('l', () -> sewnThird(1), x -> x.room(2));
            for (int later = 0; later < 2; later++) {
                int foot = later;
                is('s', () -> lastSeam(foot, 0), x -> x.room(0));
                is('s', () -> lastSeam(foot, 9), x -> x.room(0));
                is('l', () -> lastSeam(foot, 10), x -> x.room(0));
            }
        });
        says(TERMS, "A style that has no pieces, or no seams, goes on without these", () -> {
            is('l', () -> tickets(1), x -> x.room(0));
            is('s', SewEdges::works, x -> x.room(1));
            is('c', () -> piecesAlone(0), x -> x.room(0));
            is('c', () -> piecesAlone(1), x -> x.room(0));
            is('l', () -> piecesAlone(2), x -> x.room(0));
        });
    }

    /** Of one seam of 10 minutes, that of one foot is begun 5 minutes behind the other; so many minutes ago. */
    private static Lastroom lastSeam(int foot, int ago) {
        Lastroom x = new Lastroom();
        x.model(2300, 50);
        x.style(0, 'w', 1, 1);
        x.seam(0, 0, 10, 0);
        x.setSkill(0, 0, true);
        x.setSkill(1, 0, true);
        x.ticket(0, 40);
        x.sew(0, 1 - foot, 0, 0);
        x.pass(5);
        x.sew(0, foot, 0, 1);
        if (ago > 0) {
            x.pass(ago);
        }
        return x;
    }

    private static Lastroom piecesAlone(int cut) {
        Lastroom x = new Lastroom();
        x.model(2300, 50);
        x.style(0, 'w', 1, 1);
        x.piece(0, 1, 1, 20, 0, false);
        x.hide(1, 2, 1);
        x.ticket(0, 40);
        for (int foot = 0; foot < cut; foot++) {
            x.cut(0, foot, 0, 0, foot, 0, false, 0);
        }
        return x;
    }

    /** One ticket of seams of the minutes, each of the skill of its place, and so many operators with each skill. */
    private static Lastroom loads(int[] minutes, int[] operators) {
        Lastroom x = new Lastroom();
        x.model(2300, 50);
        x.style(0, 'w', 1, 1);
        for (int skill = 0; skill < 4; skill++) {
            if (minutes[skill] > 0) {
                x.seam(0, skill, minutes[skill], 0);
            }
            for (int operator = 0; operator < operators[skill]; operator++) {
                x.setSkill(operator, skill, true);
            }
        }
        x.ticket(0, 40);
        return x;
    }

    private static int[] row(int... numbers) {
        return numbers;
    }

    private static void bottlenecks() {
        says(31, "no minutes are to be done", () -> {
            refused(NONE, EMPTY, x -> x.bottleneck());
            refused(NONE, () -> tickets(3), x -> x.bottleneck());
            refused(NONE, () -> sewnBoth(), x -> x.bottleneck());
            is(0, SewEdges::oneLeft, x -> x.bottleneck());
            // One minute of one foot alone is some.
            is(2, () -> loads(row(0, 0, 1, 0), row(0, 0, 8, 0)), x -> x.bottleneck());
            is(2, () -> begun(loads(row(0, 0, 1, 0), row(0, 0, 8, 0)), 0), x -> x.bottleneck());
        });
        says(31, "the skill with the most minutes of seams that were not begun", () -> {
            for (int skill = 0; skill < 4; skill++) {
                int[] minutes = row(9, 9, 9, 9);
                minutes[skill] = 10;
                is(skill, () -> loads(minutes, row(1, 1, 1, 1)), x -> x.bottleneck());
            }
            // The seam 3 of 10 minutes is begun for one foot: 10 minutes are left, and 18 of the others.
            is(0, () -> begun(loads(row(9, 9, 9, 10), row(1, 1, 1, 1)), 3), x -> x.bottleneck());
            is(1, () -> begun(loads(row(9, 9, 9, 9), row(1, 1, 1, 1)), 0), x -> x.bottleneck());
            // Of 10 minutes for each foot one is begun: as much is left as of 5 for each, and less than of 6.
            for (int foot = 0; foot < 2; foot++) {
                int begun = foot;
                is(0, () -> begunFoot(loads(row(10, 5, 0, 0), row(1, 1, 0, 0)), begun), x -> x.bottleneck());
                is(1, () -> begunFoot(loads(row(10, 6, 0, 0), row(1, 1, 0, 0)), begun), x -> x.bottleneck());
                is(1, () -> begunFoot(loads(row(12, 6, 6, 0), row(2, 1, 1, 0)), begun), x -> x.bottleneck());
            }
        });
        says(31, "of tickets in sewing or ahead of it", () -> {
            // The ticket 2 is in cutting: 1 minute of the skill 0 for each foot.
            is(0, SewEdges::cuttingAlone, x -> x.bottleneck());
            refused(NONE, SewEdges::oneTicketSewn, x -> x.bottleneck());
        });
        says(31, "for each operator who is there and has it", () -> {
            is(0, () -> loads(row(9, 20, 0, 0), row(1, 3, 0, 0)), x -> x.bottleneck());
            is(1, () -> away(loads(row(9, 20, 0, 0), row(1, 3, 0, 0)), 2), x -> x.bottleneck());
            is(1, () -> loads(row(9, 20, 0, 0), row(1, 2, 0, 0)), x -> x.bottleneck());
            // One who became absent while sewing is not there, though the seam goes on: 10 by 1, and 18 by 1.
            is(1, () -> away(begun(loads(row(10, 9, 0, 0), row(2, 2, 0, 0)), 0), 0), x -> x.bottleneck());
            // 20 by 2 and 80 by 8.
            is(0, () -> loads(row(10, 40, 0, 0), row(2, 8, 0, 0)), x -> x.bottleneck());
            is(1, () -> away(loads(row(10, 40, 0, 0), row(2, 8, 0, 0)), 7), x -> x.bottleneck());
            is(0, () -> away(loads(row(10, 40, 0, 0), row(2, 8, 0, 0)), 1), x -> x.bottleneck());
        });
        says(31, "as a quotient rounded down", () -> {
            // 16 and 18 by 4 are 4 each.
            is(0, () -> loads(row(8, 9, 0, 0), row(4, 4, 0, 0)), x -> x.bottleneck());
            is(1, () -> loads(row(8, 10, 0, 0), row(4, 4, 0, 0)), x -> x.bottleneck());
        });
        says(31, "of several the lowest one", () -> {
            is(0, () -> loads(row(7, 7, 7, 7), row(1, 1, 1, 1)), x -> x.bottleneck());
            is(1, () -> loads(row(6, 7, 7, 7), row(1, 1, 1, 1)), x -> x.bottleneck());
            is(2, () -> loads(row(6, 6, 7, 7), row(1, 1, 1, 1)), x -> x.bottleneck());
            is(1, () -> loads(row(7, 7, 7, 7), row(1, 0, 0, 0)), x -> x.bottleneck());
            is(0, () -> loads(row(1, 1, 1, 1), row(8, 8, 8, 8)), x -> x.bottleneck());
        });
        says(31, "skills without minutes aside", () -> {
            is(2, () -> loads(row(0, 0, 1, 0), row(0, 0, 8, 0)), x -> x.bottleneck());
            is(3, () -> loads(row(0, 0, 0, 1), row(8, 8, 8, 8)), x -> x.bottleneck());
        });
        says(31, "and one with minutes and without such operators ahead of all", () -> {
            is(3, () -> loads(row(60, 60, 60, 1), row(1, 1, 1, 0)), x -> x.bottleneck());
            is(1, () -> loads(row(60, 1, 60, 60), row(1, 0, 1, 0)), x -> x.bottleneck());
            is(1, () -> away(loads(row(60, 1, 0, 0), row(2, 1, 0, 0)), 0), x -> x.bottleneck());
        });
        says(TERMS, "Operators who are busy are there", () -> {
            // The operator 0 is busy with the seam 0 of 10 minutes, and is one of two who have the skill 1.
            is(0, () -> begun(loads(row(10, 9, 0, 0), row(1, 2, 0, 0)), 0), x -> x.bottleneck());
            is(1, () -> begun(loads(row(10, 11, 0, 0), row(1, 2, 0, 0)), 0), x -> x.bottleneck());
            is(1, () -> away(begun(loads(row(10, 9, 0, 0), row(2, 2, 0, 0)), 0), 1), x -> x.bottleneck());
        });
    }

    private static Lastroom begun(Lastroom x, int seam) {
        x.sew(0, 0, seam, 0);
        return x;
    }

    private static Lastroom begunFoot(Lastroom x, int foot) {
        x.sew(0, foot, 0, 0);
        return x;
    }

    private static Lastroom away(Lastroom x, int operator) {
        x.setAbsent(operator, true);
        return x;
    }

    private static Lastroom oneLeft() {
        Lastroom x = oneTicket();
        x.sew(0, 0, 0, 0);
        return x;
    }

    private static Lastroom sewnBoth() {
        Lastroom x = oneLeft();
        x.sew(0, 1, 0, 1);
        return x;
    }

    private static Lastroom oneTicketSewn() {
        return passed(sewnBoth(), 10);
    }

    private static Lastroom oneTicket() {
        Lastroom x = new Lastroom();
        x.model(2300, 50);
        x.style(0, 'w', 1, 1);
        x.seam(0, 0, 10, 0);
        x.setSkill(0, 0, true);
        x.setSkill(1, 0, true);
        x.ticket(0, 40);
        return x;
    }

    private static Lastroom cuttingAlone() {
        Lastroom x = new Lastroom();
        x.model(2300, 50);
        x.style(0, 'w', 1, 1);
        x.piece(0, 1, 1, 20, 0, false);
        x.seam(0, 0, 1, 0);
        x.ticket(0, 40);
        return x;
    }

    private static void sewers() {
        says(43, "there is no such ticket", () -> {
            numbered(EMPTY, 0, (x, ticket) -> x.sewerOf(ticket, 0, 0));
            numbered(SewEdges::sewnTwo, 2, (x, ticket) -> x.sewerOf(ticket, 0, 0));
        });
        says(43, "0 the left one, 1 the right one", () -> {
            is(0, SewEdges::sewnTwo, x -> x.sewerOf(0, 0, 0));
            is(7, SewEdges::sewnTwo, x -> x.sewerOf(0, 1, 0));
            is(1, SewEdges::sewnTwo, x -> x.sewerOf(1, 0, 0));
        });
        says(43, ", foot", () -> numbered(SewEdges::sewnTwo, 2, (x, foot) -> x.sewerOf(0, foot, 0)));
        says(43, "or seam", () -> {
            numbered(SewEdges::sewnTwo, 1, (x, seam) -> x.sewerOf(0, 0, seam));
            numbered(() -> tickets(1), 0, (x, seam) -> x.sewerOf(0, 0, seam));
        });
        says(43, "it was not sewn", () -> {
            refused(NONE, SewEdges::works, x -> x.sewerOf(0, 0, 0));
            refused(NONE, SewEdges::sewing, x -> x.sewerOf(0, 0, 1));
            refused(NONE, SewEdges::sewing, x -> x.sewerOf(0, 0, 2));
            refused(NONE, SewEdges::sewing, x -> x.sewerOf(0, 1, 0));
            refused(NONE, SewEdges::sewing, x -> x.sewerOf(1, 0, 0));
            refused(NONE, SewEdges::works, x -> x.sewerOf(2, 0, 0));
        });
    }

    private static Lastroom sewnTwo() {
        Lastroom x = new Lastroom();
        x.model(2300, 50);
        x.style(0, 'w', 1, 1);
        x.seam(0, 0, 10, 0);
        for (int operator = 0; operator < 8; operator++) {
            x.setSkill(operator, 0, true);
        }
        x.ticket(0, 40);
        x.ticket(0, 40);
        x.sew(0, 0, 0, 0);
        x.sew(0, 1, 0, 7);
        x.sew(1, 0, 0, 1);
        return x;
    }

    private static void orders() {
        order(25, NO_SUCH, BAD, EMPTY, x -> x.setSkill(8, 4, true));
        order(25, NO_SUCH, BAD, EMPTY, x -> x.setSkill(-1, -1, true));
        order(27, NO_SUCH, BAD, SewEdges::works, x -> x.ticket(2, 51));
        order(27, NO_SUCH, STATE, () -> tickets(16), x -> x.ticket(1, 40));
        order(27, BAD, STATE, () -> tickets(16), x -> x.ticket(0, 14));
        order(29, NO_SUCH, STATE, SewEdges::works, x -> x.sew(2, 2, 0, 0));
        order(29, NO_SUCH, STATE, SewEdges::works, x -> x.sew(2, 0, 1, 0));
        order(29, NO_SUCH, STATE, SewEdges::works, x -> x.sew(2, 0, 0, 8));
        order(29, NO_SUCH, STATE, SewEdges::sewing, x -> x.sew(0, 0, 0, 8));
        order(29, NO_SUCH, STATE, SewEdges::sewing, x -> x.sew(0, 0, 3, 0));
        order(29, NO_SUCH, UNFIT, SewEdges::works, x -> x.sew(0, 2, 1, 2));
        order(29, NO_SUCH, UNFIT, SewEdges::works, x -> x.sew(3, 0, 0, 2));
        order(29, NO_SUCH, UNFIT, SewEdges::works, x -> x.sew(0, 0, 1, -1));
        // Each state with a skill that is missing, or an earlier seam.
        order(29, STATE, UNFIT, SewEdges::works, x -> x.sew(2, 0, 0, 2));
        order(29, STATE, UNFIT, SewEdges::sewing, x -> x.sew(0, 0, 0, 2));
        order(29, STATE, UNFIT, SewEdges::sewing, x -> x.sew(0, 0, 2, 1));
        order(29, STATE, UNFIT, SewEdges::sewing, x -> x.sew(1, 0, 1, 0));
        order(29, STATE, UNFIT, () -> sewingFor(10), x -> x.sew(0, 0, 0, 2));
        order(29, STATE, UNFIT, () -> absent(1), x -> x.sew(0, 0, 2, 1));
        order(29, STATE, UNFIT, () -> absent(0), x -> x.sew(0, 0, 1, 0));
        order(29, STATE, UNFIT, () -> sewnThird(1), x -> x.sew(2, 0, 0, 2));
        order(43, NO_SUCH, NONE, SewEdges::works, x -> x.sewerOf(0, 2, 0));
        order(43, NO_SUCH, NONE, SewEdges::works, x -> x.sewerOf(0, 0, 3));
        order(43, NO_SUCH, NONE, SewEdges::works, x -> x.sewerOf(3, 0, 0));
    }
}
