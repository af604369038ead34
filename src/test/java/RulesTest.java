import java.io.IOException;
import java.lang.reflect.Constructor;
import java.lang.reflect.Field;
import java.lang.reflect.Method;
import java.lang.reflect.Modifier;
import java.nio.file.Files;
import java.nio.file.Path;
import java.util.Arrays;
import java.util.List;
import java.util.Random;
import java.util.Set;
import java.util.TreeSet;

/** What of LANGUAGE.md and of the public face can be seen from the class and its source. */
public final class RulesTest {
    private static final Set<String> FACE = new TreeSet<>(List.of(
        "int status()", "int feed(int,int,int,int,int)", "int load(int)", "int fault(int)", "int climber()",
        "boolean route(int,int,int,int,int,int)", "int told(int,int,int)", "int begin(int,int,int)",
        "int reach(int,int,int)", "boolean fall(int,int,boolean)", "boolean out(int,int,boolean)",
        "boolean clock(int)", "int now()", "int tried(int,int)", "int seen(int,int)", "int ready(int)",
        "boolean appeal(int,int,int)", "int of(int,int,int,int,int)", "long key(int,int,int,int)",
        "int rank(int,int,int)", "int advance(int,int)", "int order(int,int)", "int parts(int,int,int)",
        "int choose(int,int,int)"));
    private static final List<String> FORBIDDEN = List.of("throw", "throws", "try", "catch", "finally",
        "synchronized", "assert", "Object", "Exception", "System.out", "protected", "hashCode", "toString",
        "->", "::", "static {", "Exact(", "import java.util.*");

    public static void main(String[] args) throws IOException {
        face();
        source(Files.readString(Path.of("src/main/java/RouteWall.java")));
        anyCallsEnd();
        Check.finish();
    }

    private static String told(Method m) {
        StringBuilder text = new StringBuilder(m.getReturnType().getName()).append(' ').append(m.getName()).append('(');
        for (Class<?> c : m.getParameterTypes()) {
            text.append(text.charAt(text.length() - 1) == '(' ? "" : ",").append(c.getName());
        }
        return text.append(')').toString();
    }

    private static void face() {
        Set<String> open = new TreeSet<>();
        for (Method m : RouteWall.class.getDeclaredMethods()) {
            if (!Modifier.isPrivate(m.getModifiers())) {
                open.add(told(m));
            }
        }
        Check.due("the face is the document's: " + open, open.equals(FACE), true);
        for (Field f : RouteWall.class.getDeclaredFields()) {
            boolean isNone = f.getName().equals("NONE");
            Check.due("field " + f.getName(), isNone ? Modifier.isPublic(f.getModifiers())
                : Modifier.isPrivate(f.getModifiers()), true);
        }
        Constructor<?>[] all = RouteWall.class.getDeclaredConstructors();
        Check.due("constructors", all.length, 1);
        Check.due("a public one", Modifier.isPublic(all[0].getModifiers()) && all[0].getParameterCount() == 0, true);
        Check.due("public and final", Modifier.isPublic(RouteWall.class.getModifiers())
            && Modifier.isFinal(RouteWall.class.getModifiers()), true);
        Class<?>[] inside = RouteWall.class.getDeclaredClasses();
        Check.due("at most twelve classes", inside.length < 12, true);
        for (Class<?> c : inside) {
            Check.due(c + " is static", Modifier.isStatic(c.getModifiers()), true);
            Check.due(c + " is private", Modifier.isPrivate(c.getModifiers()), true);
            Check.due(c + " has at most twenty fields", Arrays.stream(c.getDeclaredFields())
                .filter(f -> !Modifier.isStatic(f.getModifiers())).count() <= 20, true);
            for (Method m : c.getDeclaredMethods()) {
                Check.due(c + " " + m.getName() + " bears no public name",
                    FACE.stream().anyMatch(f -> f.contains(" " + m.getName() + "(")), false);
                Check.due(m + " takes at most seven", m.getParameterCount() <= 7, true);
            }
        }
    }

    private static void source(String source) {
        String code = source.replaceAll("(?s)/\\*.*?\\*/", "").replaceAll("//[^\n]*", "");
        for (String word : FORBIDDEN) {
            String pattern = Character.isLetter(word.charAt(0))
                ? "(?s).*\\b" + java.util.regex.Pattern.quote(word) + "(?![A-Za-z]).*"
                : "(?s).*" + java.util.regex.Pattern.quote(word) + ".*";
            Check.due("the source has " + word, code.matches(pattern), false);
        }
        Check.due("only plain signs", source.chars().allMatch(c -> c == 10 || (c >= 32 && c < 127)), true);
        int begun = -1;
        String[] lines = code.split("\n");
        for (int i = 0; i < lines.length; i++) {
            if (lines[i].matches(" {4}( {4})?[a-z][^;=]*\\) \\{")) {
                begun = i;
            } else if (begun >= 0 && lines[i].matches(" {4}( {4})?\\}")) {
                Check.due("lines of the method at " + (begun + 1), i - begun < 60, true);
                begun = -1;
            } else if (begun >= 0) {
                Check.due("nothing new in the method at " + (begun + 1),
                    lines[i].contains(" new ") && !lines[i].contains("this."), false);
            }
        }
    }

    /** Calls with any numbers at all: what the machine would throw ends the test. */
    private static void anyCallsEnd() {
        int[] some = {Integer.MIN_VALUE, -2, -1, 0, 1, 2, 3, 4, 5, 6, 9, 10, 15, 16, 59, 60, 61, 299, 300, 999, 1000,
            1000000, 1000001, Integer.MAX_VALUE};
        Random dice = new Random(5);
        for (int run = 0; run < 3000; run++) {
            RouteWall x = run % 3 == 0 ? new RouteWall() : Texts.wall("round 5 9 10 0;round 1 1 10 5;ties back;", 16);
            for (int i = 0; i < 512; i++) {
                int[] a = new int[6];
                for (int k = 0; k < 6; k++) {
                    a[k] = dice.nextInt(3) == 0 ? some[dice.nextInt(some.length)] : dice.nextInt(6);
                }
                call(x, dice.nextInt(24), a, dice.nextInt(20));
            }
        }
        Check.due("all calls ended", 1, 1);
    }

    private static void call(RouteWall x, int which, int[] a, int now) {
        switch (which) {
            case 0: x.status(); break;
            case 1: x.feed(a[0], a[1], a[2], a[3], a[4]); break;
            case 2: if (now == 0) { x.load(a[0]); } break;
            case 3: x.fault(a[0]); break;
            case 4: x.climber(); break;
            case 5: x.route(a[0], a[1], a[2], a[3], a[4], a[5]); break;
            case 6: x.told(a[0], a[1], a[2]); break;
            case 7: x.begin(a[0], a[1], x.now() + now); break;
            case 8: x.reach(a[0], a[1], x.now() + now % 3); break;
            case 9: x.fall(a[0], now == 1 ? a[1] : x.now(), a[2] > 2); break;
            case 10: x.out(a[0], now == 1 ? a[1] : x.now(), a[2] > 2); break;
            case 11: x.clock(now == 1 ? a[0] : x.now() + now); break;
            case 12: x.now(); break;
            case 13: x.tried(a[0], a[1]); break;
            case 14: x.seen(a[0], a[1]); break;
            case 15: x.ready(a[0]); break;
            case 16: x.appeal(a[0], a[1], a[2]); break;
            case 17: x.of(a[0], a[1], a[2], a[3], a[4]); break;
            case 18: x.key(a[0], a[1], a[2], a[3]); break;
            case 19: x.rank(a[0], a[1], a[2]); break;
            case 20: x.advance(a[0], a[1]); break;
            case 21: x.order(a[0], a[1]); break;
            case 22: x.parts(a[0], a[1], a[2]); break;
            default: x.choose(a[0], a[1], a[2]); break;
        }
    }
}
