import java.lang.reflect.Field;
import java.lang.reflect.Method;
import java.lang.reflect.Modifier;
import java.nio.file.Files;
import java.nio.file.Path;
import java.util.Arrays;
import java.util.Set;
import java.util.TreeSet;
import java.util.regex.Matcher;
import java.util.regex.Pattern;

/** The document's face, and those rules of LANGUAGE.md that can be seen in the class and its source (args[0]). */
public final class FaceTest {
    private static final Check CHECK = new Check();
    private static final String[] FACE = {"int feed(int)", "int end(int)", "int text()", "int fault()", "int rule(int)",
        "int hair(int,int)", "int king(int,int)", "int law(int,int)", "int set(int,int)", "int age(int,int)",
        "int dye(int,int)", "int knot(int,boolean)", "int pay(int,int,int)", "int hour(int)", "long falls(int,int)",
        "long left(int,int,int)", "long mean(int,int)", "long sits(int,int,int)", "long best(int,int,int)",
        "long test(int,int,int)", "int plait(int,int,int)", "int bears(int,int)", "long mend(int,int)",
        "long duel(int,int,int,int)", "long crown(int,int)", "long reads(int,int)", "long laws(int)", "int see(int,int)",
        "int forget(int)", "long likely(int,int,int)", "long guess(int)", "int drift(int,int,int)", "int keep(int)",
        "int back(int)", "int sheet(int,int,int)", "int lay(int,int,int)", "int read(int,int,int,int)", "int torn()",
        "int count(int)"};

    public static void main(String[] args) throws Exception {
        face();
        constants();
        nested();
        source(Files.readString(Path.of(args[0])));
        CHECK.close();
    }

    private static String signature(Method m) {
        StringBuilder text = new StringBuilder(m.getReturnType().getSimpleName()).append(' ').append(m.getName());
        text.append('(');
        for (Class<?> c : m.getParameterTypes()) {
            text.append(text.charAt(text.length() - 1) == '(' ? "" : ",").append(c.getSimpleName());
        }
        return text.append(')').toString();
    }

    private static void face() {
        CHECK.due("the class is public and final", SwordSeat.class.getModifiers(), Modifier.PUBLIC | Modifier.FINAL);
        CHECK.due("constructors", SwordSeat.class.getDeclaredConstructors().length, 1);
        CHECK.due("the public constructor", SwordSeat.class.getConstructors().length, 1);
        Set<String> open = new TreeSet<>();
        for (Method m : SwordSeat.class.getDeclaredMethods()) {
            if (!m.isSynthetic() && !Modifier.isPrivate(m.getModifiers())) {
                open.add(signature(m));
                CHECK.due(m.getName() + " is public alone", m.getModifiers(), Modifier.PUBLIC);
            }
        }
        Set<String> due = new TreeSet<>(Arrays.asList(FACE));
        for (Method m : SwordSeat.class.getDeclaredMethods()) {
            CHECK.holds(m + " bears no name of the face", !Modifier.isPrivate(m.getModifiers()) || !bearsName(m));
        }
        CHECK.holds("the face is " + due + ", not " + open, due.equals(open));
    }

    private static boolean bearsName(Method m) {
        return Arrays.stream(FACE).anyMatch(s -> s.substring(s.indexOf(' ') + 1, s.indexOf('(')).equals(m.getName()));
    }

    private static void constants() {
        CHECK.due("BAD", SwordSeat.BAD, -1);
        CHECK.due("STATE", SwordSeat.STATE, -2);
        CHECK.due("FULL", SwordSeat.FULL, -3);
        CHECK.due("NONE", SwordSeat.NONE, -4);
        int open = 0;
        for (Field f : SwordSeat.class.getDeclaredFields()) {
            open += Modifier.isPrivate(f.getModifiers()) ? 0 : 1;
            CHECK.holds(f.getName() + ": what is static is final",
                !Modifier.isStatic(f.getModifiers()) || Modifier.isFinal(f.getModifiers()));
        }
        CHECK.due("open fields", open, 4);
    }

    private static void nested() {
        CHECK.holds("at most twelve classes", SwordSeat.class.getDeclaredClasses().length < 12);
        for (Class<?> c : SwordSeat.class.getDeclaredClasses()) {
            CHECK.holds(c.getName() + " is static", Modifier.isStatic(c.getModifiers()));
            int fields = 0;
            for (Field f : c.getDeclaredFields()) {
                fields += Modifier.isStatic(f.getModifiers()) ? 0 : 1;
            }
            CHECK.holds(c.getName() + " has at most twenty fields", fields <= 20);
            for (Method m : c.getDeclaredMethods()) {
                CHECK.holds(m + " bears no name of the face", !bearsName(m));
                CHECK.holds(m + " takes at most seven", m.getParameterCount() <= 7);
            }
        }
    }

    private static void source(String text) {
        String bare = text.replaceAll("(?s)/\\*.*?\\*/", " ").replaceAll("//[^\n]*", " ").replaceAll("\"[^\"\n]*\"", "\"\"");
        String[] ruledOut = {"\\bthrow\\b", "\\btry\\b", "\\bcatch\\b", "\\bsynchronized\\b", "\\bassert\\b", "->", "::",
            "\\bObject\\b", "\\bSystem\\.(?!arraycopy)", "Exact\\b", "\\bpackage\\b", "\\bimport\\b", "static \\{",
            "\\bprotected\\b", "\\bdouble\\b", "\\bfloat\\b", "while \\(true\\)", "for \\(;"};
        for (String word : ruledOut) {
            Matcher m = Pattern.compile(word).matcher(bare);
            CHECK.holds("the source has no " + word, !m.find());
        }
        CHECK.holds("plain signs alone", text.chars().allMatch(c -> c == '\n' || c >= 32 && c < 127));
        for (String row : bare.split("\n")) {
            // Rows and objects are made once, as fields or in the constructor, so that no call makes any.
            boolean once = row.contains(" final ") || row.matches("\\s+(images|sheets)\\[k\\] = new .*");
            CHECK.holds("made once: " + row, !row.contains("new ") || once);
        }
        Matcher methods = Pattern.compile("(?m)^( +)(public|private) [^=;\n]*\\) \\{$(?s:.*?)\n\\1\\}$").matcher(text);
        int found = 0;
        while (methods.find()) {
            found++;
            CHECK.holds("a long method: " + methods.group(), methods.group().lines().count() <= 60);
        }
        CHECK.holds("the methods are found", found > FACE.length);
    }
}
