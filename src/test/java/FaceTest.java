import java.io.IOException;
import java.lang.reflect.Constructor;
import java.lang.reflect.Field;
import java.lang.reflect.Method;
import java.lang.reflect.Modifier;
import java.nio.file.Files;
import java.nio.file.Path;
import java.util.Set;
import java.util.TreeSet;
import java.util.regex.Matcher;
import java.util.regex.Pattern;

/** The public face, and those rules of LANGUAGE.md that can be seen from outside or by a word. */
public final class FaceTest {
    private static final Checks T = new Checks("FaceTest");
    private static final String[] FACE = {
        "feed(int,int,int,int,int)", "end(int)", "city()", "fault(int)", "house(int,int)", "thing(int,int)", "value(int,int)",
        "paper(int,int)", "price(int)", "net(int)", "steal(int,int,int)", "sell(int,int)", "brings(int)", "strike(int)",
        "lock(int,int)", "night()", "undo()", "anew()", "now(int)", "owner(int)", "chain(int,int)", "rings()", "owns(int)",
        "twice()", "strikes()", "struck()", "trail(int,int)", "went(int)", "lies(int)", "poorest()", "due(int)", "monday()",
        "lacks(int)", "needs(int)", "fails(int)", "later(int,int)", "purse(int,int)", "run()", "hit(int)", "hits(int)",
        "plan(int,int)", "plans(int,int,int)", "change(int,int)", "deal()", "deals(int)", "rests(int)", "rest(int)", "dear()",
        "wrong(int)", "forged(int)", "argued(int)", "drawn(int,int,int)", "luck(int,int,int,int,int)", "rate(int,int)",
        "want(int,int,int)", "count(int)", "image(int)", "back(int)", "row(int,int,int)", "write(int,int,long)",
        "paste(int,int,int,int,int)"};

    public static void main(String[] args) throws IOException {
        face();
        classes();
        source();
        document();
        T.finish();
    }

    private static String signature(Method method) {
        StringBuilder s = new StringBuilder(method.getName()).append('(');
        for (Class<?> type : method.getParameterTypes()) {
            s.append(s.charAt(s.length() - 1) == '(' ? "" : ",").append(type.getName());
        }
        return s.append(')').toString();
    }

    private static void face() {
        Set<String> left = new TreeSet<>(Set.of(FACE));
        T.due("public and final", ReceiptLeft.class.getModifiers() & ~Modifier.SYNCHRONIZED, Modifier.PUBLIC | Modifier.FINAL);
        for (Method method : ReceiptLeft.class.getDeclaredMethods()) {
            if (Modifier.isPublic(method.getModifiers())) {
                T.due(signature(method) + " is of the face", left.remove(signature(method)) ? 1 : 0, 1);
                T.due(signature(method) + " answers an int", method.getReturnType() == int.class ? 1 : 0, 1);
                T.due(signature(method) + " is of an object", Modifier.isStatic(method.getModifiers()) ? 1 : 0, 0);
            } else {
                T.due(signature(method) + " is private", Modifier.isPrivate(method.getModifiers()) ? 1 : 0, 1);
            }
        }
        T.due("missing: " + left, left.size(), 0);
        for (Field field : ReceiptLeft.class.getDeclaredFields()) {
            boolean constant = field.getName().equals("NONE");
            T.due(field.getName(), field.getModifiers() & (Modifier.PUBLIC | Modifier.PRIVATE), constant ? Modifier.PUBLIC : Modifier.PRIVATE);
        }
        Constructor<?>[] made = ReceiptLeft.class.getDeclaredConstructors();
        T.due("constructors", made.length, 1);
        T.due("it is public", Modifier.isPublic(made[0].getModifiers()) ? 1 : 0, 1);
        T.due("it takes nothing", made[0].getParameterCount(), 0);
    }

    private static void classes() {
        Set<String> names = new TreeSet<>();
        for (String signature : FACE) {
            names.add(signature.substring(0, signature.indexOf('(')));
        }
        Class<?>[] inside = ReceiptLeft.class.getDeclaredClasses();
        T.due("at most twelve classes", inside.length < 12 ? 1 : 0, 1);
        for (Class<?> c : inside) {
            T.due(c + " is static", Modifier.isStatic(c.getModifiers()) ? 1 : 0, 1);
            int fields = 0;
            for (Field field : c.getDeclaredFields()) {
                fields += Modifier.isStatic(field.getModifiers()) ? 0 : 1;
            }
            T.due(c + " has some twenty fields: " + fields, fields <= 20 ? 1 : 0, 1);
            for (Method method : c.getDeclaredMethods()) {
                T.due(method + " has no name of the face", names.contains(method.getName()) ? 1 : 0, 0);
                T.due(method + " has at most seven parameters", method.getParameterCount() <= 7 ? 1 : 0, 1);
            }
        }
        for (Method method : ReceiptLeft.class.getDeclaredMethods()) {
            boolean hidden = !Modifier.isPublic(method.getModifiers());
            T.due(method + " has no name of the face", hidden && names.contains(method.getName()) ? 1 : 0, 0);
        }
    }

    private static void source() throws IOException {
        String text = Files.readString(Path.of("src/main/java/ReceiptLeft.java"));
        for (int i = 0; i < text.length(); i++) {
            if (text.charAt(i) > 126) {
                T.due("a sign beyond ASCII at " + i, 1, 0);
            }
        }
        String code = text.replaceAll("(?s)/\\*.*?\\*/", "").replaceAll("//[^\n]*", "");
        Matcher m = Pattern.compile("\\b(throw|throws|try|catch|finally|synchronized|assert|instanceof|var|package|[a-zA-Z]+Exact|hashCode|toString"
            + "|System\\.(?!arraycopy)\\w+|Thread|Random|lambda)\\b|->|::|@").matcher(code);
        while (m.find()) {
            T.due("'" + m.group() + "' in the source", 1, 0);
        }
        m = Pattern.compile("(?m)^import (.*);").matcher(code);
        while (m.find()) {
            T.due("import " + m.group(1), m.group(1).equals("java.util.Arrays") ? 1 : 0, 1);
        }
        int lines = 0;
        for (String line : code.split("\n")) {
            lines = line.matches("(    |        )[a-z].*[({].*\\{") ? 0 : lines + 1;
            if (line.matches("(    |        )\\}")) {
                T.due("a method of " + lines + " lines", lines <= 60 || line.startsWith("    }") ? 1 : 0, 1);
            }
        }
    }

    /** The document's own face is the one written out here, and each of its promises has a method in PromisesTest. */
    private static void document() throws IOException {
        Set<String> left = new TreeSet<>(Set.of(FACE));
        Set<String> methods = new TreeSet<>();
        for (Method method : PromisesTest.class.getDeclaredMethods()) {
            methods.add(method.getName());
        }
        int promises = 0;
        for (String line : Files.readAllLines(Path.of("../shared/DOC.md"))) {
            Matcher m = Pattern.compile("    public int (\\w+)\\((.*)\\);").matcher(line);
            if (m.matches()) {
                String signature = m.group(1) + "(" + m.group(2).replaceAll("(int|long) \\w+", "$1").replace(", ", ",") + ")";
                T.due(signature + " of the document is here", left.remove(signature) ? 1 : 0, 1);
            }
            m = Pattern.compile("## Promise (\\d+): .*").matcher(line);
            if (m.matches()) {
                promises++;
                T.due("promise " + m.group(1) + " by its number", Integer.parseInt(m.group(1)), promises);
                T.due("promise " + promises + " has its method", methods.contains("promise" + promises) ? 1 : 0, 1);
            }
        }
        T.due("not in the document: " + left, left.size(), 0);
        T.due("promises", promises, 62);
    }
}
