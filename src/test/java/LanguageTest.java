import java.io.IOException;
import java.lang.reflect.Constructor;
import java.lang.reflect.Field;
import java.lang.reflect.Method;
import java.lang.reflect.Modifier;
import java.nio.file.Files;
import java.nio.file.Path;
import java.util.HashSet;
import java.util.Map;
import java.util.Set;
import java.util.TreeMap;
import java.util.regex.Matcher;
import java.util.regex.Pattern;

/** The rules of LANGUAGE.md and the face of DOC.md, as far as they can be looked up. */
public final class LanguageTest {
    private static final String FACE =
        "thing:III stretch:III high:I street:II now:I driver:I of:II set:III turn:II as:II slows:III quick:III "
        + "takes:II shaken:II days:I on:II then:II leaves:I tame:II clear:II lower:II kind:II wish:III drives:I "
        + "slowest: feed:II wipe: town: sheet:III write:IIJ copy:IIIII lays:II book:III read:III image: undo: "
        + "tear: count:I status:I";
    private static final String[] BANNED = {
        "throw", "throws", "try", "catch", "finally", "synchronized", "assert", "import", "package", "protected",
        "->", "::", "hashCode", "toString", "Exact", "System\\.(?!arraycopy)", "@", "native", "volatile",
    };

    public static void main(String[] args) throws IOException {
        face();
        String source = Files.readString(Path.of("src/main/java/BumpStreets.java"));
        String code = source.replaceAll("(?s)/\\*.*?\\*/", "").replaceAll("//[^\n]*", "");
        for (String banned : BANNED) {
            String bounds = Character.isLetter(banned.charAt(0)) && banned.length() < 13 ? "\\b" : "";
            boolean has = Pattern.compile(bounds + banned + bounds).matcher(code).find();
            Due.is("banned " + banned, has ? 1 : 0, 0);
        }
        newOnlyInConstructors(code);
        shortMethods(code);
        shallowCalls(code);
        Due.end();
    }

    private static void face() {
        Class<?> c = BumpStreets.class;
        Set<String> due = new HashSet<>(Set.of(FACE.split(" ")));
        Set<String> names = new HashSet<>();
        for (String one : due) {
            names.add(one.substring(0, one.indexOf(':')));
        }
        Due.is("final and public", c.getModifiers() & (Modifier.FINAL | Modifier.PUBLIC), Modifier.FINAL | Modifier.PUBLIC);
        for (Method m : c.getDeclaredMethods()) {
            if (Modifier.isPrivate(m.getModifiers())) {
                Due.is("private " + m.getName(), names.contains(m.getName()) ? 1 : 0, 0);
                continue;
            }
            StringBuilder told = new StringBuilder(m.getName()).append(':');
            for (Class<?> p : m.getParameterTypes()) {
                told.append(p == int.class ? 'I' : p == long.class ? 'J' : '?');
            }
            Due.is("public " + told, due.remove(told.toString()) && Modifier.isPublic(m.getModifiers()) ? 1 : 0, 1);
            Due.is("answer of " + told, m.getReturnType() == (m.getName().equals("write") ? long.class : int.class) ? 1 : 0, 1);
        }
        Due.is("missing of the face: " + due, due.size(), 0);
        for (Field f : c.getDeclaredFields()) {
            Due.is("private field " + f.getName(), Modifier.isPrivate(f.getModifiers()) ? 1 : 0, 1);
        }
        for (Constructor<?> made : c.getDeclaredConstructors()) {
            Due.is("constructor", made.getParameterCount(), 0);
        }
        Due.is("classes", c.getDeclaredClasses().length < 12 ? 1 : 0, 1);
        for (Class<?> inside : c.getDeclaredClasses()) {
            Due.is("static " + inside.getName(), Modifier.isStatic(inside.getModifiers()) ? 1 : 0, 1);
            fields(inside);
        }
        fields(c);
    }

    private static void fields(Class<?> c) {
        int own = 0;
        for (Field f : c.getDeclaredFields()) {
            boolean isStatic = Modifier.isStatic(f.getModifiers());
            own += isStatic ? 0 : 1;
            Due.is("static is final: " + f.getName(), isStatic && !Modifier.isFinal(f.getModifiers()) ? 1 : 0, 0);
        }
        Due.is("fields of " + c.getName(), own <= 20 ? 1 : 0, 1);
    }

    /** What no call makes needs no counting of objects over 512 calls. */
    private static void newOnlyInConstructors(String code) {
        String[] lines = code.split("\n");
        String inside = "";
        Pattern head = Pattern.compile("^ {4,8}(?:public |private |static |final )*(?:\\w+(?:\\[\\])? )?(\\w+)\\(.*\\{$");
        for (String line : lines) {
            Matcher m = head.matcher(line);
            if (m.find()) {
                inside = m.group(1);
            }
            if (line.matches(".*\\bnew\\b.*")) {
                Due.is("new in " + inside, Character.isUpperCase(inside.isEmpty() ? 'x' : inside.charAt(0)) ? 1 : 0, 1);
            }
        }
    }

    private static void shortMethods(String code) {
        int since = 0;
        for (String line : code.split("\n")) {
            since = line.matches("^ {4,8}\\}$") || line.isBlank() ? 0 : since + 1;
            Due.is("lines of a method", since <= 60 ? 1 : 0, 1);
        }
    }

    /** Rule 11: at most eight calls stand open at once, those of the library among them; and none calls itself. */
    private static void shallowCalls(String code) {
        Map<String, Set<String>> calls = new TreeMap<>();
        Pattern head = Pattern.compile("^( {4,8})(?:public |private |static |final )*[\\w\\[\\]]+ (\\w+)\\(([^)]*)\\) \\{$");
        Pattern call = Pattern.compile("\\b(?!if\\b|for\\b|while\\b|switch\\b|return\\b)(\\w+)\\(");
        String name = null;
        String end = "";
        for (String line : code.split("\n")) {
            Matcher m = head.matcher(line);
            if (m.find()) {
                name = m.group(2);
                end = m.group(1) + "}";
                Due.is("one method " + name, calls.put(name, new HashSet<>()) == null ? 1 : 0, 1);
                Due.is("parameters of " + name, m.group(3).split(",").length <= 7 ? 1 : 0, 1);
            } else if (line.equals(end)) {
                name = null;
            } else if (name != null) {
                call.matcher(line).results().map(found -> found.group(1)).forEach(calls.get(name)::add);
            }
        }
        for (String one : calls.keySet()) {
            Due.is("calls under " + one, depth(calls, one, 0) <= 8 ? 1 : 0, 1);
        }
        Due.is("methods are found", calls.size() > 39 ? 1 : 0, 1);
    }

    private static int depth(Map<String, Set<String>> calls, String name, int above) {
        int deepest = 0;
        for (String under : calls.getOrDefault(name, Set.of())) {
            deepest = above > 20 ? 99 : Math.max(deepest, depth(calls, under, above + 1));
        }
        return 1 + deepest;
    }
}
