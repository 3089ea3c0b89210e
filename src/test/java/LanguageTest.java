import java.io.IOException;
import java.lang.reflect.Constructor;
import java.lang.reflect.Field;
import java.lang.reflect.Method;
import java.lang.reflect.Modifier;
import java.nio.file.Files;
import java.nio.file.Path;
import java.util.Arrays;
import java.util.HashSet;
import java.util.Set;
import java.util.TreeSet;
import java.util.regex.Matcher;
import java.util.regex.Pattern;

/** What can be seen of ../shared/LANGUAGE.md from outside: the face by reflection, the rest by the source's words. */
public final class LanguageTest {
    private static final String FACE = "plough(int,int,int) furrowIs(int,int) become(int,int) as(int,int) "
        + "answers(int,int) cover(int,int) redraw(int,int) patience(int) feed(long,int) text(int) untell(int) "
        + "law(int,int,int,int) years(int) loose(int) seed(int) talk(int) meaning(int) then(int,int) fewest(int) "
        + "reply(int,int) odds(int,int,int) fits(int) voice(int,int,int) body(int) sheet(int,int,int) "
        + "put(int,int,int) move(int,int,int,int,int) lines(int) judge(int) image() restore() tell(int) check() "
        + "count(int) told(int)";
    private static final String[] REFUSED = {"\\b(throw|throws|try|catch|synchronized|assert|import|package)\\b", "->",
        "::", "Exact\\b", "\\bSystem\\.(?!arraycopy\\b)", "\\bstatic\\s*\\{",
        "\\b(Object|Thread|Random|StringBuffer|HashMap|Exception)\\b",
        "\\b(equals|hashCode|toString|nanoTime|currentTimeMillis)\\b"};
    /** Of the library, what the class may use and has a use for; LANGUAGE.md lists no constants of it. */
    private static final String USED = "Integer.bitCount Math.abs Math.max Math.min System.arraycopy";
    private static final int MOST_METHOD_LINES = 60;
    private static final int MOST_CLASSES = 12;
    private static final int MOST_FIELDS = 20;
    private static final int MOST_PARAMETERS = 7;

    private LanguageTest() {
    }

    public static void main(String[] args) throws IOException {
        checkFace();
        checkInnerClasses();
        String source = Files.readString(Path.of(args[0]));
        checkSigns(source);
        String bare = bare(source);
        for (String words : REFUSED) {
            Matcher m = Pattern.compile(words).matcher(bare);
            Checks.due("rule against " + words, m.find() ? m.start() + 1 : 0, 0);
        }
        checkLibrary(bare);
        checkLengths(bare);
        checkMaking(bare);
        Checks.end();
    }

    private static void good(String what, boolean is) {
        Checks.due(what, is ? 1 : 0, 1);
    }

    private static void checkFace() {
        Class<?> c = FurrowTalk.class;
        good("public and final", Modifier.isPublic(c.getModifiers()) && Modifier.isFinal(c.getModifiers()));
        Set<String> face = new TreeSet<>();
        Set<String> publicNames = new HashSet<>();
        Set<String> privateNames = new HashSet<>();
        for (Method m : c.getDeclaredMethods()) {
            if (m.isSynthetic()) {
                continue;
            }
            if (Modifier.isPublic(m.getModifiers())) {
                good(m.getName() + " is of an object and gives an int",
                    !Modifier.isStatic(m.getModifiers()) && m.getReturnType() == int.class);
                String types = Arrays.toString(m.getParameterTypes()).replaceAll("[\\[\\] ]", "");
                face.add(m.getName() + "(" + types + ")");
                publicNames.add(m.getName());
            } else {
                good(m.getName() + " is private", Modifier.isPrivate(m.getModifiers()));
                privateNames.add(m.getName());
            }
        }
        good("the face is the document's: " + face, face.equals(new TreeSet<>(Arrays.asList(FACE.split(" ")))));
        for (Class<?> inner : c.getDeclaredClasses()) {
            for (Method m : inner.getDeclaredMethods()) {
                privateNames.add(m.getName());
            }
        }
        privateNames.retainAll(publicNames);
        good("no other method bears a name of the face: " + privateNames, privateNames.isEmpty());
        for (Constructor<?> k : c.getDeclaredConstructors()) {
            good("the one constructor", Modifier.isPublic(k.getModifiers()) && k.getParameterCount() == 0);
        }
        for (Field f : c.getDeclaredFields()) {
            good(f.getName() + " is private", Modifier.isPrivate(f.getModifiers()));
        }
    }

    private static void checkInnerClasses() {
        Class<?>[] inner = FurrowTalk.class.getDeclaredClasses();
        good("classes are few", inner.length + 1 <= MOST_CLASSES);
        for (Class<?> c : inner) {
            good(c.getName() + " is static", Modifier.isStatic(c.getModifiers()));
            good(c.getName() + " is not public", !Modifier.isPublic(c.getModifiers()));
            good(c.getName() + " holds no class", c.getDeclaredClasses().length == 0);
        }
        for (int i = -1; i < inner.length; i++) {
            Class<?> c = i < 0 ? FurrowTalk.class : inner[i];
            int fields = 0;
            for (Field f : c.getDeclaredFields()) {
                fields += Modifier.isStatic(f.getModifiers()) ? 0 : 1;
                good(f.getName() + ": what is static is final",
                    !Modifier.isStatic(f.getModifiers()) || Modifier.isFinal(f.getModifiers()));
            }
            good(c.getName() + " has few fields", fields <= MOST_FIELDS);
            for (Method m : c.getDeclaredMethods()) {
                good(m.getName() + " has few parameters", m.getParameterCount() <= MOST_PARAMETERS);
            }
        }
    }

    private static void checkSigns(String source) {
        good("signs are 1 to 127", source.chars().allMatch(s -> s >= 1 && s <= 127));
    }

    private static void checkLibrary(String bare) {
        Set<String> allowed = new HashSet<>(Arrays.asList(USED.split(" ")));
        Matcher m = Pattern.compile("\\b(Integer|Long|Short|Byte|Character|Boolean|Double|Math|System|Arrays|List|"
            + "String|StringBuilder)\\.\\w+").matcher(bare);
        while (m.find()) {
            good("of the library: " + m.group(), allowed.contains(m.group()));
        }
    }

    /** The source without comments, and with nothing between quotes. */
    private static String bare(String source) {
        return source.replaceAll("(?s)/\\*.*?\\*/", " ").replaceAll("//[^\n]*", " ")
            .replaceAll("'(\\\\.|[^'\\\\])'", "' '").replaceAll("\"(\\\\.|[^\"\\\\])*\"", "\"\"");
    }

    /** A method is what stands between a line that opens it and the brace of the same indent. */
    private static void checkLengths(String bare) {
        String[] lines = bare.split("\n");
        for (int i = 0; i < lines.length; i++) {
            if (lines[i].matches("(    |        )[a-z].*\\(.*\\) \\{")) {
                String end = lines[i].replaceAll("\\S.*", "") + "}";
                int j = i;
                while (j < lines.length && !lines[j].equals(end)) {
                    j++;
                }
                good("short: " + lines[i].trim(), j < lines.length && j - i < MOST_METHOD_LINES);
            }
        }
    }

    /** All calls of a run live in one room: so rows and objects are made in constructors and for fields alone. */
    private static void checkMaking(String bare) {
        Pattern opening = Pattern.compile("(    |        )(?:\\w[\\w\\[\\]]* )*(\\w+)\\(.*\\) \\{");
        Pattern making = Pattern.compile("\\bnew\\b|\\.clone\\(|\\.copyOf");
        String method = "";
        String end = "";
        int made = 0;
        for (String line : bare.split("\n")) {
            Matcher opens = opening.matcher(line);
            if (method.isEmpty() && opens.matches()) {
                method = opens.group(2);
                end = opens.group(1) + "}";
            } else if (line.equals(end)) {
                method = "";
            }
            if (making.matcher(line).find()) {
                made++;
                boolean withObject = method.isEmpty() || Character.isUpperCase(method.charAt(0));
                good("made with the object, not by " + method + ": " + line.trim(), withObject);
            }
        }
        good("something is made", made > 0);
    }
}
