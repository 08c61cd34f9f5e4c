import java.lang.reflect.Field;
import java.lang.reflect.Member;
import java.lang.reflect.Method;
import java.lang.reflect.Modifier;
import java.nio.file.Files;
import java.nio.file.Path;
import java.util.Arrays;
import java.util.Set;
import java.util.TreeSet;
import java.util.regex.Pattern;

/** The document's face, and what of LANGUAGE.md can be seen from outside or in the source's words. */
public final class FaceTest {
    private static final Check CHECK = new Check("FaceTest");
    private static final String[] FACE = {
        "int set(int,int,int)", "int tenant(int,int,int)", "int told(int,int)", "int feed(int)", "int text()",
        "int force(int)", "int reed(int,int)", "int due(int)", "int night()", "int loudest(int)", "int cost(int)",
        "int cheer(int)", "int cart(int)", "int few(int,int)", "int move(int)", "int change(int)",
        "int tells(int,int,int,int)", "int film(int,int)", "int drawn(int)", "long chance(int,int,int)", "int image()",
        "int back()", "int count(int)", "int sheet(int,int,int)", "int cell(int,int,int)",
        "int copy(int,int,int,int,int)", "int tenants(int,int,int,int)", "int taken(int,int)",
        "int NONE", "int BAD", "int STATE", "int FULL", "long NO"};

    public static void main(String[] args) throws Exception {
        constants();
        members();
        names();
        words();
        CHECK.end();
    }

    private static void constants() {
        CHECK.due("NONE", RatedBySighs.NONE, -1);
        CHECK.due("BAD", RatedBySighs.BAD, -2);
        CHECK.due("STATE", RatedBySighs.STATE, -3);
        CHECK.due("FULL", RatedBySighs.FULL, -4);
        CHECK.due("NO", RatedBySighs.NO, -4611686018427387904L);
    }

    private static void members() {
        Class<?> it = RatedBySighs.class;
        CHECK.holds("public and final", Modifier.isPublic(it.getModifiers()) && Modifier.isFinal(it.getModifiers()));
        CHECK.due("constructors", it.getDeclaredConstructors().length, 1);
        Set<String> seen = new TreeSet<>();
        for (Method m : it.getDeclaredMethods()) {
            String types = String.join(",", Arrays.stream(m.getParameterTypes()).map(Class::getName).toList());
            if (isSeen(m)) {
                seen.add(m.getReturnType().getName() + " " + m.getName() + "(" + types + ")");
            }
            CHECK.holds("seven parameters at most: " + m, m.getParameterCount() <= 7);
        }
        for (Field f : it.getDeclaredFields()) {
            if (isSeen(f)) {
                seen.add(f.getType().getName() + " " + f.getName());
            }
        }
        Set<String> due = new TreeSet<>(Arrays.asList(FACE));
        CHECK.holds("the face is " + seen, seen.equals(due));
        CHECK.holds("twelve classes at most", it.getDeclaredClasses().length < 12);
        for (Class<?> c : it.getDeclaredClasses()) {
            CHECK.holds("static: " + c, Modifier.isStatic(c.getModifiers()));
        }
    }

    private static boolean isSeen(Member m) {
        CHECK.holds("public or private: " + m, (m.getModifiers() & (Modifier.PUBLIC | Modifier.PRIVATE)) != 0);
        return Modifier.isPublic(m.getModifiers());
    }

    /** No private method bears the name of a public one. */
    private static void names() {
        Set<String> seen = new TreeSet<>();
        for (Method m : RatedBySighs.class.getMethods()) {
            seen.add(m.getName());
        }
        for (Method m : RatedBySighs.class.getDeclaredMethods()) {
            CHECK.holds("its own name: " + m, Modifier.isPublic(m.getModifiers()) || !seen.contains(m.getName()));
        }
        for (Class<?> c : RatedBySighs.class.getDeclaredClasses()) {
            for (Method m : c.getDeclaredMethods()) {
                CHECK.holds("its own name: " + m, !seen.contains(m.getName()));
            }
        }
    }

    private static void words() throws Exception {
        String source = Files.readString(Path.of("src/main/java/RatedBySighs.java"));
        for (String word : new String[] {"throw", "try", "catch", "synchronized", "assert", "import", "package", "->", "::"}) {
            Pattern p = Pattern.compile(word.matches("[a-z]+") ? "\\b" + word + "\\b" : Pattern.quote(word));
            CHECK.holds("no " + word, !p.matcher(source).find());
        }
        CHECK.holds("signs 1 to 127", source.chars().allMatch(c -> c > 0 && c < 128));
    }
}
