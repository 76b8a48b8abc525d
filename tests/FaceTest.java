import java.io.IOException;
import java.lang.reflect.Executable;
import java.lang.reflect.Field;
import java.lang.reflect.Method;
import java.lang.reflect.Modifier;
import java.nio.file.Files;
import java.nio.file.Path;
import java.util.ArrayList;
import java.util.List;
import java.util.Set;
import java.util.TreeSet;

/** The public face, and those rules of the language that can be seen from outside or in the text. */
public final class FaceTest {
    private static final String[] FACE = {
        "public Lastroom()",
        "public int Lastroom.length(char,int) throws java.lang.IllegalArgumentException",
        "public int Lastroom.convert(char,int,char) throws java.lang.IllegalArgumentException",
        "public int Lastroom.model(int,int) throws java.lang.IllegalArgumentException, java.lang.IllegalStateException",
        "public int Lastroom.girth(int,int) throws java.lang.IndexOutOfBoundsException, java.lang.IllegalArgumentException",
        "public int Lastroom.setLasts(int,int,int) throws java.lang.IndexOutOfBoundsException, java.lang.IllegalArgumentException, java.lang.UnsupportedOperationException",
        "public int Lastroom.freeLasts(int,int) throws java.lang.IndexOutOfBoundsException, java.lang.IllegalArgumentException",
        "public int Lastroom.missingLasts(int,int) throws java.lang.IndexOutOfBoundsException, java.lang.IllegalArgumentException",
        "public int Lastroom.misfit(int,int,int,int) throws java.lang.IllegalArgumentException, java.lang.IndexOutOfBoundsException",
        "public int Lastroom.bestModel(int,int) throws java.lang.IllegalArgumentException, java.util.NoSuchElementException",
        "public int Lastroom.bestSize(int,int,int) throws java.lang.IllegalArgumentException, java.lang.IndexOutOfBoundsException",
        "public int Lastroom.style(int,char,int,int) throws java.lang.IndexOutOfBoundsException, java.lang.IllegalArgumentException, java.lang.UnsupportedOperationException, java.lang.IllegalStateException",
        "public int Lastroom.piece(int,int,int,int,int,boolean) throws java.lang.IndexOutOfBoundsException, java.lang.IllegalArgumentException, java.lang.IllegalStateException",
        "public int Lastroom.seam(int,int,int,int) throws java.lang.IndexOutOfBoundsException, java.lang.IllegalArgumentException, java.lang.IllegalStateException",
        "public int Lastroom.pieceCells(int,int,int,boolean) throws java.lang.IndexOutOfBoundsException, java.lang.IllegalArgumentException",
        "public int Lastroom.shortest(int) throws java.lang.IndexOutOfBoundsException",
        "public boolean Lastroom.bonds(int) throws java.lang.IndexOutOfBoundsException",
        "public int Lastroom.hide(int,int,int) throws java.lang.IllegalArgumentException, java.lang.IllegalStateException",
        "public int Lastroom.fault(int,int,int,int) throws java.lang.IndexOutOfBoundsException, java.lang.IllegalArgumentException, java.lang.IllegalStateException",
        "public int Lastroom.cellOf(int,int,int) throws java.lang.IndexOutOfBoundsException, java.lang.IllegalArgumentException",
        "public int Lastroom.cut(int,int,int,int,int,int,boolean,int) throws java.lang.IndexOutOfBoundsException, java.lang.IllegalStateException, java.lang.UnsupportedOperationException",
        "public int Lastroom.firstPlace(int,int,int) throws java.lang.IndexOutOfBoundsException, java.util.NoSuchElementException",
        "public int Lastroom.waste(int) throws java.lang.IndexOutOfBoundsException",
        "public int Lastroom.cutBy(int) throws java.lang.IndexOutOfBoundsException",
        "public boolean Lastroom.setSkill(int,int,boolean) throws java.lang.IndexOutOfBoundsException, java.lang.IllegalArgumentException",
        "public boolean Lastroom.setAbsent(int,boolean) throws java.lang.IndexOutOfBoundsException",
        "public int Lastroom.ticket(int,int) throws java.lang.IndexOutOfBoundsException, java.lang.IllegalArgumentException, java.lang.IllegalStateException",
        "public int Lastroom.pass(int) throws java.lang.IllegalArgumentException",
        "public int Lastroom.sew(int,int,int,int) throws java.lang.IndexOutOfBoundsException, java.lang.IllegalStateException, java.lang.UnsupportedOperationException",
        "public char Lastroom.room(int) throws java.lang.IndexOutOfBoundsException",
        "public int Lastroom.bottleneck() throws java.util.NoSuchElementException",
        "public int Lastroom.setStand(int,int) throws java.lang.IllegalArgumentException",
        "public int Lastroom.lastOn(int) throws java.lang.IndexOutOfBoundsException, java.lang.IllegalStateException, java.lang.UnsupportedOperationException",
        "public int Lastroom.open(int) throws java.lang.IllegalArgumentException, java.lang.IllegalStateException",
        "public boolean Lastroom.sole(int,int,boolean) throws java.lang.IndexOutOfBoundsException, java.lang.IllegalStateException, java.lang.UnsupportedOperationException",
        "public int Lastroom.takeOff(int) throws java.lang.IndexOutOfBoundsException, java.lang.IllegalStateException",
        "public boolean Lastroom.pack(int,int,int) throws java.lang.IndexOutOfBoundsException, java.lang.IllegalArgumentException, java.lang.IllegalStateException",
        "public int Lastroom.test(int,char) throws java.lang.IndexOutOfBoundsException, java.lang.IllegalArgumentException, java.lang.IllegalStateException",
        "public int Lastroom.comeBack(int) throws java.lang.IndexOutOfBoundsException, java.lang.IllegalStateException",
        "public char Lastroom.cause() throws java.util.NoSuchElementException",
        "public int Lastroom.causeOf() throws java.util.NoSuchElementException",
        "public int Lastroom.hideOf(int,int,int) throws java.lang.IndexOutOfBoundsException, java.util.NoSuchElementException",
        "public int Lastroom.sewerOf(int,int,int) throws java.lang.IndexOutOfBoundsException, java.util.NoSuchElementException",
        "public long Lastroom.checksum()",
        "public float Lastroom.packedShare() throws java.lang.ArithmeticException",
        "public double Lastroom.meanWaste() throws java.lang.ArithmeticException",
        "public boolean Lastroom.isSound()",
    };

    private static final String[] RULED_OUT = {
        "->", "::", " catch ", " try ", "finally", "synchronized", "assert ", "Exact(", "getMessage", "System.", "\" +", "+ \"",
        "String ", "protected ", "Object ", "Math.random", "var ", "@",
    };

    public static void main(String[] args) throws IOException {
        face();
        members(Lastroom.class);
        for (Class<?> inner : Lastroom.class.getDeclaredClasses()) {
            inner(inner);
        }
        text(Files.readAllLines(Path.of("src/main/java/Lastroom.java")));
        Check.is(true, () -> Lastroom.class.getDeclaredClasses().length < 12);
        Check.end();
    }

    private static void face() {
        Set<String> due = new TreeSet<>(List.of(FACE));
        Set<String> got = new TreeSet<>();
        List<Executable> all = new ArrayList<>(List.of(Lastroom.class.getDeclaredMethods()));
        all.addAll(List.of(Lastroom.class.getDeclaredConstructors()));
        for (Executable one : all) {
            if (!Modifier.isPrivate(one.getModifiers())) {
                got.add(one.toGenericString().replace(",java", ", java"));
            }
        }
        Check.is(due, () -> got);
        Check.is(true, () -> Modifier.isFinal(Lastroom.class.getModifiers()));
        for (Field field : Lastroom.class.getDeclaredFields()) {
            if (!Modifier.isPrivate(field.getModifiers())) {
                Check.fails("rule 1: the field " + field.getName() + " is not private");
            }
        }
    }

    private static void inner(Class<?> inner) {
        int modifiers = inner.getModifiers();
        if (!Modifier.isStatic(modifiers) || Modifier.isPublic(modifiers) || Modifier.isProtected(modifiers)) {
            Check.fails("rule 1: " + inner.getName() + " must be static, and private or package-visible");
        }
        members(inner);
    }

    private static void members(Class<?> type) {
        Set<String> names = new TreeSet<>();
        for (Method method : Lastroom.class.getMethods()) {
            names.add(method.getName());
        }
        for (Method method : type.getDeclaredMethods()) {
            boolean isFace = type == Lastroom.class && Modifier.isPublic(method.getModifiers());
            if (!isFace && names.contains(method.getName())) {
                Check.fails("rule 1: " + type.getName() + " has a method of the public name " + method.getName());
            }
            if (!isFace && method.getParameterCount() > 7) {
                Check.fails("rule 11: " + method.getName() + " has too many parameters");
            }
        }
        int fields = 0;
        for (Field field : type.getDeclaredFields()) {
            int modifiers = field.getModifiers();
            if (Modifier.isStatic(modifiers) && !Modifier.isFinal(modifiers)) {
                Check.fails("rule 5: the field " + field.getName() + " is static and not final");
            }
            fields += Modifier.isStatic(modifiers) ? 0 : 1;
        }
        if (fields > 20) {
            Check.fails("rule 11: " + type.getName() + " has " + fields + " fields");
        }
    }

    private static void text(List<String> lines) {
        int start = 0;
        for (int number = 1; number <= lines.size(); number++) {
            String line = lines.get(number - 1);
            for (String word : RULED_OUT) {
                if (line.contains(word)) {
                    Check.fails("Lastroom.java:" + number + " has " + word);
                }
            }
            if (line.startsWith("import ") && !line.equals("import java.util.NoSuchElementException;")) {
                Check.fails("Lastroom.java:" + number + " imports more");
            }
            if (line.isEmpty()) {
                start = number;
            }
            if (number - start > 60) {
                Check.fails("Lastroom.java:" + number + " is of a method that is too long");
            }
        }
    }
}
