import java.io.IOException;
import java.nio.file.Files;
import java.nio.file.Path;
import java.util.ArrayList;
import java.util.List;

/** The example of README.md: the calls below are its lines, word by word, and what its comments say holds. */
public final class ReadmeTest {
    public static void main(String[] args) throws IOException {
        example();
        Check.is(lines("tests/ReadmeTest.java", "        // EXAMPLE", "        // END"), () -> readme());
        Check.end();
    }

    private static void example() {
        // EXAMPLE
        Lastroom works = new Lastroom();
        int model = works.model(2300, 50);                    // girth at the size 40, grade
        works.setLasts(model, 40, 2);
        int style = works.style(model, 'c', 1, 2);            // cemented, upper 1, sole 2
        works.piece(style, 2, 1, 5, 2, true);
        works.seam(style, 3, 12, 0);                          // skill 3, 12 minutes, after none
        int hide = works.hide(1, 12, 10);
        works.setSkill(6, 3, true);
        works.setSkill(7, 3, true);

        int ticket = works.ticket(style, 40);                 // in 'c', cutting
        Check.is('c', () -> works.room(ticket));
        works.cut(ticket, 0, 0, hide, 0, 0, false, 5);
        works.cut(ticket, 1, 0, hide, 2, 0, false, 5);        // in 's', sewing
        Check.is('s', () -> works.room(ticket));
        works.sew(ticket, 0, 0, 6);
        works.sew(ticket, 1, 0, 7);
        works.pass(12);                                       // in 'l', ready for the lasts
        Check.is('l', () -> works.room(ticket));
        works.lastOn(ticket);                                 // in 'o', on lasts
        Check.is('o', () -> works.room(ticket));
        works.pass(30);
        int lot = works.open(20);
        works.sole(ticket, lot, true);                        // in 'b', soled; true: it bonds
        Check.is('b', () -> works.room(ticket));
        works.pass(20);
        works.takeOff(ticket);                                // in 'd', done
        Check.is('d', () -> works.room(ticket));
        Check.is(90, () -> works.test(ticket, 'b'));
        works.pack(ticket, 80, 60);                           // in 'p', packed; true: good enough
        Check.is('p', () -> works.room(ticket));
        works.comeBack(ticket);                               // in 'r', returned
        Check.is('r', () -> works.room(ticket));
        works.cause();                                        // 'h': the hide is what they have in common
        Check.is('h', () -> works.cause());
        // END
    }

    private static List<String> readme() {
        try {
            return lines("README.md", "```java", "```");
        } catch (IOException e) {
            throw new IllegalStateException(e);
        }
    }

    /** The lines from the one of that start to the next one of that end, without what only the test asks. */
    private static List<String> lines(String file, String start, String end) throws IOException {
        List<String> all = Files.readAllLines(Path.of(file));
        List<String> found = new ArrayList<>();
        for (int number = all.indexOf(start) + 1; number < all.size() && !all.get(number).equals(end); number++) {
            String line = all.get(number).strip();
            if (!line.startsWith("Check.")) {
                found.add(line);
            }
        }
        return found;
    }
}
