import java.io.IOException;
import java.lang.reflect.Constructor;
import java.lang.reflect.Field;
import java.lang.reflect.Method;
import java.lang.reflect.Modifier;
import java.nio.file.Files;
import java.nio.file.Path;
import java.util.ArrayList;
import java.util.Arrays;
import java.util.List;
import java.util.Set;
import java.util.TreeSet;
import java.util.regex.Matcher;
import java.util.regex.Pattern;
import java.util.stream.Collectors;

/** The public face of the document, and of LANGUAGE.md what a test can see. */
public final class RulesTest {
    private static final String SOURCE = "src/main/java/FiveStars.java";
    private static final String DOCUMENT = "../shared/DOC.md";
    private static int wrong = 0;

    private static void due(String what, Object got, Object want) {
        if (!got.equals(want)) {
            wrong++;
            System.out.println(what + " is " + got + ", due is " + want);
        }
    }

    private static void none(String what, List<String> found) {
        if (!found.isEmpty()) {
            wrong++;
            System.out.println(what + ": " + found);
        }
    }

    private static Set<String> methodsOfTheDocument() throws IOException {
        Set<String> due = new TreeSet<>();
        Matcher m = Pattern.compile("public int (\\w+)\\(([^)]*)\\);").matcher(Files.readString(Path.of(DOCUMENT)));
        while (m.find()) {
            due.add(m.group(1) + " " + (m.group(2).isEmpty() ? 0 : m.group(2).split(",").length));
        }
        return due;
    }

    private static void face() throws IOException, ReflectiveOperationException {
        Set<String> methods = new TreeSet<>();
        List<String> seen = new ArrayList<>();
        Set<String> publicNames = new TreeSet<>();
        for (Method m : FiveStars.class.getDeclaredMethods()) {
            if (Modifier.isPublic(m.getModifiers())) {
                boolean plain = m.getReturnType() == int.class && !Modifier.isStatic(m.getModifiers())
                    && Arrays.stream(m.getParameterTypes()).allMatch(t -> t == int.class);
                methods.add(m.getName() + " " + (plain ? m.getParameterCount() : -1));
                publicNames.add(m.getName());
            } else if (!Modifier.isPrivate(m.getModifiers())) {
                seen.add(m.getName());
            }
        }
        due("the methods", methods, methodsOfTheDocument());
        due("how many methods", methods.size(), 42);
        none("methods that are neither public nor private", seen);
        Constructor<?>[] made = FiveStars.class.getDeclaredConstructors();
        due("constructors", made.length, 1);
        due("its parameters", made[0].getParameterCount(), 0);
        due("final and public", FiveStars.class.getModifiers(), Modifier.FINAL | Modifier.PUBLIC);
        Set<String> constants = new TreeSet<>();
        for (Field f : FiveStars.class.getDeclaredFields()) {
            if (!Modifier.isPrivate(f.getModifiers())) {
                constants.add(f.getName() + (f.getModifiers() == (Modifier.PUBLIC | Modifier.STATIC | Modifier.FINAL)));
            }
        }
        due("the constants", constants, new TreeSet<>(Arrays.stream(
            "BAD NO FULL NONE NOTHING KIND INDEX SIZE".split(" ")).map(s -> s + "true").toList()));
        constantsOfTheDocument();
        insideClasses(publicNames);
    }

    private static void constantsOfTheDocument() throws IOException, ReflectiveOperationException {
        Matcher row = Pattern.compile("public static final int ([^;]*);").matcher(Files.readString(Path.of(DOCUMENT)));
        due("the document tells constants", row.find(), true);
        String[] told = row.group(1).split(", ");
        due("how many constants", told.length, 8);
        for (String constant : told) {
            String[] parts = constant.split(" = ");
            due(parts[0], FiveStars.class.getField(parts[0]).getInt(null), Integer.parseInt(parts[1]));
        }
    }

    private static void insideClasses(Set<String> publicNames) {
        List<String> found = new ArrayList<>();
        Class<?>[] inside = FiveStars.class.getDeclaredClasses();
        due("at most twelve classes", inside.length <= 11, true);
        List<Class<?>> all = new ArrayList<>(Arrays.asList(inside));
        for (Class<?> c : all) {
            if (!Modifier.isStatic(c.getModifiers()) || Modifier.isPublic(c.getModifiers())) {
                found.add(c.getSimpleName() + " is public or not static");
            }
            for (Method m : c.getDeclaredMethods()) {
                if (publicNames.contains(m.getName())) {
                    found.add(c.getSimpleName() + "." + m.getName() + " bears the name of a public one");
                }
            }
        }
        all.add(FiveStars.class);
        for (Class<?> c : all) {
            long fields = Arrays.stream(c.getDeclaredFields()).filter(f -> !Modifier.isStatic(f.getModifiers())).count();
            if (fields > 20) {
                found.add(c.getSimpleName() + " has " + fields + " fields");
            }
            for (Field f : c.getDeclaredFields()) {
                if (Modifier.isStatic(f.getModifiers()) && !Modifier.isFinal(f.getModifiers())) {
                    found.add(c.getSimpleName() + "." + f.getName() + " is static and not final");
                }
            }
            for (Method m : c.getDeclaredMethods()) {
                boolean isPrivate = Modifier.isPrivate(m.getModifiers());
                if (m.getParameterCount() > 7 || m.isSynthetic() || isPrivate && publicNames.contains(m.getName())) {
                    found.add(c.getSimpleName() + "." + m.getName());
                }
            }
        }
        none("classes inside", found);
    }

    /** The source without comments, texts and signs. */
    private static String bare() throws IOException {
        String s = Files.readString(Path.of(SOURCE));
        s = s.replaceAll("(?s)/\\*.*?\\*/", " ").replaceAll("//[^\n]*", "");
        return s.replaceAll("\"[^\"\n]*\"", "TEXT").replaceAll("'[^'\n]+'", "SIGN");
    }

    private static void source() throws IOException {
        String s = bare();
        List<String> found = new ArrayList<>();
        String banned = "\\b(throw|throws|try|catch|finally|synchronized|assert|record|new\\s+Object|hashCode|toString|equals"
            + "|package|protected|Exact|NaN|Object|Thread|Random|Scanner|float|double|long|Override|var|native|volatile)\\b";
        Matcher m = Pattern.compile(banned + "|->|::|\\binstanceof\\b|Exact\\(").matcher(s);
        while (m.find()) {
            found.add(m.group());
        }
        none("words that the rules leave out", found);
        found.clear();
        m = Pattern.compile("\\b([A-Z]\\w*)\\.(\\w+)\\(").matcher(s);
        Set<String> library = Set.of("Arrays.copyOf", "Arrays.fill", "System.arraycopy", "Math.max", "Math.min", "Math.abs",
            "Integer.bitCount");
        Set<String> own = Arrays.stream(FiveStars.class.getDeclaredClasses()).map(Class::getSimpleName)
            .collect(Collectors.toSet());
        while (m.find()) {
            if (!own.contains(m.group(1)) && !library.contains(m.group(1) + "." + m.group(2))) {
                found.add(m.group());
            }
        }
        none("library", found);
        m = Pattern.compile("import ([^;]*);").matcher(s);
        found.clear();
        while (m.find()) {
            if (!m.group(1).equals("java.util.Arrays")) {
                found.add(m.group(1));
            }
        }
        none("imports", found);
        lengths();
    }

    private static void lengths() throws IOException {
        List<String> found = new ArrayList<>();
        List<String> rows = Files.readAllLines(Path.of(SOURCE));
        for (int i = 0; i < rows.size(); i++) {
            String row = rows.get(i);
            if (row.length() > 130 || row.chars().anyMatch(c -> c < 32 || c > 126)) {
                found.add("row " + (i + 1));
            }
            Matcher m = Pattern.compile("^( {4}| {8})(\\w[\\w \\[\\]]* )?(\\w+)\\([^;]*\\) \\{$").matcher(row);
            if (m.find()) {
                int end = i;
                while (!rows.get(end).equals(m.group(1) + "}")) {
                    end++;
                }
                if (end - i > 59) {
                    found.add(m.group(3) + " has " + (end - i + 1) + " rows");
                }
            }
        }
        none("rows and methods that are too long", found);
    }

    public static void main(String[] args) throws IOException, ReflectiveOperationException {
        face();
        source();
        System.out.println(wrong == 0 ? "the face and the rules hold" : wrong + " rules do not hold");
        System.exit(wrong == 0 ? 0 : 1);
    }
}
