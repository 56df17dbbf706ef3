import java.lang.reflect.Constructor;
import java.lang.reflect.Field;
import java.lang.reflect.Method;
import java.lang.reflect.Modifier;
import java.nio.file.Files;
import java.nio.file.Path;
import java.util.HashSet;
import java.util.List;
import java.util.Map;
import java.util.Set;
import java.util.TreeMap;
import java.util.TreeSet;
import java.util.regex.Matcher;
import java.util.regex.Pattern;

/** The public face, and those rules of LANGUAGE.md that can be looked for in the source. */
final class FaceTests {
    private static final String FACE = "feed 5 end 1 city 0 fault 1 tosses 3 period 1 turn 0 set 4 swap 3 shift 2 keeps 0"
        + " clash 1 balls 0 lands 2 air 1 ball 4 orbit 3 orbits 0 same 4 crossings 1 suits 1 unsuited 1 wages 2 carries 2"
        + " letter 2 alone 1 soonest 2 way 2 readers 2 misses 3 missed 4 state 2 change 4 changes 5 rows 3 least 4"
        + " exchange 4 backwards 0 ground 2 latest 2 busiest 1 silent 1 gusts 3 years 3 judge 2 takes 2 count 1 keep 1"
        + " back 1 row 3 write 3 paste 5";

    /** What the program uses of what LANGUAGE.md lists. */
    private static final List<String> LIBRARY = List.of("Integer.bitCount", "Math.min", "Math.max", "Math.floorMod",
        "Arrays.fill", "System.arraycopy", "String.length", "String.charAt");

    public static void main(String[] args) throws Exception {
        face();
        source(Files.readString(Path.of("src/main/java/JuggledPost.java")));
        Check.close("FaceTests");
    }

    private static void face() {
        Set<String> due = new TreeSet<>();
        String[] parts = FACE.split(" ");
        List<String> names = List.of(parts);
        for (int i = 0; i < parts.length; i += 2) {
            boolean isLong = List.of("wages", "rows").contains(parts[i]);
            due.add((isLong ? "long " : "int ") + parts[i] + " " + parts[i + 1]);
        }
        Set<String> got = new TreeSet<>();
        for (Method m : JuggledPost.class.getDeclaredMethods()) {
            if (Modifier.isPrivate(m.getModifiers())) {
                Check.holds("no private method is called " + m.getName(), !names.contains(m.getName()));
                continue;
            }
            got.add(m.getReturnType() + " " + m.getName() + " " + m.getParameterCount());
            for (int i = 0; i < m.getParameterCount(); i++) {
                boolean isLong = m.getName().equals("write") && i == 2;
                Check.holds("a parameter of " + m.getName(), m.getParameterTypes()[i] == (isLong ? long.class : int.class));
            }
        }
        Check.holds("the methods are " + due + ", not " + got, due.equals(got));
        Constructor<?>[] made = JuggledPost.class.getDeclaredConstructors();
        Check.holds("one public constructor", made.length == 1 && Modifier.isPublic(made[0].getModifiers()));
        Check.due("NONE", -1, JuggledPost.NONE);
        Check.holds("public and final", JuggledPost.class.getModifiers() == (Modifier.PUBLIC | Modifier.FINAL));
        for (Field f : JuggledPost.class.getDeclaredFields()) {
            Check.holds("field " + f.getName(), Modifier.isPrivate(f.getModifiers()) || f.getName().equals("NONE"));
        }
        for (Class<?> c : JuggledPost.class.getDeclaredClasses()) {
            Check.holds("static " + c, Modifier.isStatic(c.getModifiers()));
            Check.holds("some twenty fields in " + c, c.getDeclaredFields().length <= 24);
            for (Method m : c.getDeclaredMethods()) {
                Check.holds("no method inside is called " + m.getName(), !names.contains(m.getName()));
                Check.holds("at most seven parameters " + m.getName(), m.getParameterCount() <= 7);
            }
        }
        Check.holds("some twelve classes", JuggledPost.class.getDeclaredClasses().length <= 11);
    }

    private static void source(String text) {
        String code = text.replaceAll("(?s)/\\*.*?\\*/", "").replaceAll("//[^\n]*", "").replaceAll("\"[^\"]*\"", "\"\"");
        for (String word : List.of("throw", "try", "catch", "finally", "synchronized", "assert", "package", "protected",
                "double", "float", "hashCode", "toString", "Exact", "->", "::")) {
            Pattern p = word.matches("\\w+") ? Pattern.compile("\\b" + word + "\\b") : Pattern.compile(word);
            Check.holds("no " + word, !p.matcher(code).find());
        }
        Set<String> imports = new HashSet<>();
        Matcher m = Pattern.compile("import ([^;]*);").matcher(code);
        while (m.find()) {
            imports.add(m.group(1));
        }
        Check.holds("imports " + imports, List.of("java.util.Arrays").containsAll(imports));
        // what a run makes is kept small: all is made with the object
        for (String line : code.split("\n")) {
            boolean made = line.contains("final ") || line.contains("images[k] = ");
            Check.holds("made with the object: " + line, !line.matches(".*\\bnew\\b.*") || made);
        }
        methodsAreShort(text);
        libraryIsListed(code);
        Map<String, String> bodies = bodies(code);
        for (String name : bodies.keySet()) {
            divisorsAreLookedAt(name, bodies.get(name));
            Check.holds(name + " goes at most eight calls deep", depth(name, bodies, 0) <= 8);
        }
    }

    /** Constants of the library, too, are none that LANGUAGE.md lists. */
    private static void libraryIsListed(String code) {
        Matcher m = Pattern.compile("\\b(Integer|Long|Math|Arrays|System|String|Character|Byte|Short)\\.(\\w+)").matcher(code);
        while (m.find()) {
            Check.holds(m.group() + " is listed", LIBRARY.contains(m.group()));
        }
    }

    /** Of each method, whose names are all unlike, the lines behind its head. */
    private static Map<String, String> bodies(String code) {
        Map<String, String> found = new TreeMap<>();
        Matcher m = Pattern.compile("(?ms)^( {4}| {8})(?:(?:public|private|static) )*[\\w\\[\\]]+ (\\w+)\\([^)]*\\) \\{$(.*?)^\\1\\}$")
            .matcher(code);
        while (m.find()) {
            Check.holds("one method alone is called " + m.group(2), found.put(m.group(2), m.group(3)) == null);
        }
        Check.holds("methods were found: " + found.size(), found.size() > 150);
        return found;
    }

    /** A divisor is a number, a constant, or something that is compared in the same method. */
    private static void divisorsAreLookedAt(String name, String body) {
        Matcher m = Pattern.compile("[/%] ([\\w.]+\\(?)").matcher(body);
        while (m.find()) {
            String divisor = m.group(1);
            String compared = "(?s).*(\\b" + Pattern.quote(divisor) + " [<>] [01]\\b|i < " + Pattern.quote(divisor) + ";).*";
            boolean fixed = divisor.matches("[1-9][0-9]*|[A-Z_]+");
            Check.holds("the divisor " + divisor + " is looked at in " + name, fixed || body.matches(compared));
        }
    }

    /** The method itself counts; nothing calls itself, so a chain that doesn't end is told as a deep one. */
    private static int depth(String name, Map<String, String> bodies, int above) {
        int deepest = 0;
        if (above > 20) {
            return 1;
        }
        Matcher m = Pattern.compile("([A-Z]\\w*\\.)?\\b(\\w+)\\(").matcher(bodies.get(name));
        while (m.find()) {
            boolean own = m.group(1) == null && bodies.containsKey(m.group(2));
            boolean library = LIBRARY.stream().anyMatch(listed -> listed.endsWith("." + m.group(2)));
            deepest = Math.max(deepest, own ? depth(m.group(2), bodies, above + 1) : library ? 1 : 0);
        }
        return deepest + 1;
    }

    private static void methodsAreShort(String text) {
        int since = 0;
        String[] lines = text.split("\n");
        for (int i = 0; i < lines.length; i++) {
            if (lines[i].matches(" {4,8}\\w.*\\) \\{")) {
                since = i;
            }
            if (lines[i].matches(" {4,8}}")) {
                Check.holds("short: " + lines[since], i - since <= 60 || lines[since].contains("class"));
            }
        }
    }
}
