import java.io.IOException;
import java.lang.reflect.Field;
import java.lang.reflect.Method;
import java.lang.reflect.Modifier;
import java.nio.file.Files;
import java.nio.file.Path;
import java.util.ArrayList;
import java.util.Arrays;
import java.util.List;
import java.util.Set;
import java.util.TreeSet;
import java.util.regex.Matcher;
import java.util.regex.Pattern;

/** The face of the class, and those rules of LANGUAGE.md that can be seen from outside or in its text. */
public final class LanguageTest {
    private static final String FACE = """
        public int stand()
        public int draw(int,int)
        public int drawn(int)
        public int ballot(int,int)
        public int rank(int,int)
        public int score(int,int,int)
        public int told(int,int)
        public int is(int,int)
        public int box(int,int)
        public int put(int,int,int)
        public int pour(int,int,int,int,int)
        public int at(int,int)
        public int share(int,int)
        public int weight(int,int)
        public int method(int,int,int,int)
        public int methodOf(int,int)
        public int under(int,int)
        public int start(int)
        public int find(int)
        public int count(int,int,int)
        public int where()
        public int seat(int)
        public int rounds()
        public int round(int,int)
        public long tally(int,int,boolean)
        public int many(int)
        public int finding()
        public int findings(int)
        public long digest()
        """;
    private static final Set<String> CONSTANTS = Set.of("BAD", "FULL", "FINDING", "STATE", "SPENT", "NONE");
    private static final String[] FORBIDDEN = {"\\bthrow\\b", "\\bthrows\\b", "\\btry\\b", "\\bcatch\\b",
        "\\bsynchronized\\b", "\\bassert\\b", "\\bimport\\b", "\\bpackage\\b", "->", "::", "\\bSystem\\b",
        "\\bThread\\b", "\\bequals\\b", "\\bhashCode\\b", "\\btoString\\b", "\\bstatic\\s*\\{", "Exact\\b",
        "\\bwhile\\s*\\(\\s*true", "\\bObject\\b", "\\bvolatile\\b", "\\bnative\\b"};
    private static final Checks CHECKS = new Checks();

    public static void main(String[] args) throws IOException {
        Path root = Path.of(args.length > 0 ? args[0] : ".");
        String source = Files.readString(root.resolve("src/main/java/BallotHouse.java"));
        String code = source.replaceAll("(?s)/\\*.*?\\*/", "").replaceAll("//[^\n]*", "");
        face();
        constants();
        namesOfPrivateMethods();
        sizesOfClasses();
        words(code);
        objectsAreMadeByConstructors(code);
        lengthsOfMethods(source);
        CHECKS.end();
    }

    private static void face() {
        CHECKS.holds("the class is public and final",
            BallotHouse.class.getModifiers() == (Modifier.PUBLIC | Modifier.FINAL));
        Set<String> seen = new TreeSet<>();
        for (Method m : BallotHouse.class.getDeclaredMethods()) {
            if (!Modifier.isPrivate(m.getModifiers())) {
                seen.add(m.toString().replace("BallotHouse.", ""));
            }
        }
        Set<String> want = new TreeSet<>(Arrays.asList(FACE.strip().split("\n")));
        CHECKS.holds("the methods that can be seen are " + seen + ", due are " + want, seen.equals(want));
        CHECKS.due("constructors", BallotHouse.class.getDeclaredConstructors().length, 1);
        CHECKS.holds("the constructor is public",
            BallotHouse.class.getDeclaredConstructors()[0].toString().equals("public BallotHouse()"));
        for (Field f : BallotHouse.class.getDeclaredFields()) {
            boolean isConstant = CONSTANTS.contains(f.getName());
            CHECKS.holds(f + " is as visible as it may be", isConstant
                ? Modifier.isPublic(f.getModifiers()) : Modifier.isPrivate(f.getModifiers()));
        }
    }

    private static void constants() {
        CHECKS.due("BAD", BallotHouse.BAD, -1);
        CHECKS.due("FULL", BallotHouse.FULL, -2);
        CHECKS.due("FINDING", BallotHouse.FINDING, -3);
        CHECKS.due("STATE", BallotHouse.STATE, -4);
        CHECKS.due("SPENT", BallotHouse.SPENT, -6);
        CHECKS.due("NONE", BallotHouse.NONE, -9);
    }

    private static List<Class<?>> classes() {
        List<Class<?>> all = new ArrayList<>(List.of(BallotHouse.class.getDeclaredClasses()));
        all.add(BallotHouse.class);
        return all;
    }

    private static void namesOfPrivateMethods() {
        for (Class<?> c : classes()) {
            for (Method m : c.getDeclaredMethods()) {
                boolean isFace = c == BallotHouse.class && Modifier.isPublic(m.getModifiers());
                CHECKS.holds(m + " bears a name of the face", isFace || !FACE.contains(" " + m.getName() + "("));
            }
        }
    }

    private static void sizesOfClasses() {
        CHECKS.holds("the file has too many classes", classes().size() <= 12);
        for (Class<?> c : classes()) {
            int own = 0;
            for (Field f : c.getDeclaredFields()) {
                boolean isStatic = Modifier.isStatic(f.getModifiers());
                own += isStatic ? 0 : 1;
                CHECKS.holds(f + " is static and not final", !isStatic || Modifier.isFinal(f.getModifiers()));
            }
            CHECKS.holds(c + " has too many fields", own <= 20);
            CHECKS.holds(c + " is not static", c == BallotHouse.class || Modifier.isStatic(c.getModifiers()));
            for (Method m : c.getDeclaredMethods()) {
                CHECKS.holds(m + " takes too many", m.getParameterCount() <= 7);
            }
        }
    }

    private static void words(String code) {
        for (String word : FORBIDDEN) {
            CHECKS.holds("the text has " + word, !Pattern.compile(word).matcher(code).find());
        }
        CHECKS.holds("the text has other characters than 0 to 127", code.chars().allMatch(c -> c < 128));
    }

    /** The room is one for all calls: rows are made in constructors and by fields, nowhere else. */
    private static void objectsAreMadeByConstructors(String code) {
        for (String line : code.split("\n")) {
            if (line.contains("new ") && line.contains("=")) {
                boolean field = line.contains("private final") || line.strip().startsWith("final ");
                boolean constructor = line.startsWith("        ") && !line.startsWith("         ");
                CHECKS.holds("made elsewhere: " + line.strip(), field || constructor);
            } else {
                CHECKS.holds("made elsewhere: " + line.strip(), !line.contains("new "));
            }
        }
    }

    private static void lengthsOfMethods(String source) {
        Matcher m = Pattern.compile("(?m)^( +)(?:[a-z]+ )*[A-Za-z\\[\\]]+ ?[A-Za-z]*\\([^)]*\\) \\{\n").matcher(source);
        int seen = 0;
        while (m.find()) {
            int end = source.indexOf("\n" + m.group(1) + "}\n", m.end() - 1);
            long lines = source.substring(m.start(), end).lines().count();
            CHECKS.holds("too long: " + m.group().strip(), lines <= 60);
            seen++;
        }
        CHECKS.holds("methods are found in the text", seen > 60);
    }
}
