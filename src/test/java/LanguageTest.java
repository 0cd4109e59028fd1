import java.lang.reflect.Constructor;
import java.lang.reflect.Field;
import java.lang.reflect.Method;
import java.lang.reflect.Modifier;
import java.nio.charset.StandardCharsets;
import java.nio.file.Files;
import java.nio.file.Path;
import java.util.ArrayList;
import java.util.List;
import java.util.Set;
import java.util.TreeSet;
import java.util.regex.Matcher;
import java.util.regex.Pattern;

/** What of LANGUAGE.md can be seen in the source and by reflection. */
public final class LanguageTest {
    private static final Path SOURCE = Path.of("src/main/java/TurningMilk.java");
    private static final Set<String> FACE = Set.of("feed", "end", "dairy", "rule", "force", "hand", "jug", "want", "hour",
            "take", "put", "handOn", "go", "meet", "undo", "ahead", "way", "brings", "relay", "match", "rest", "test", "who",
            "probe", "rows", "ice", "seed", "years", "count", "image", "back");

    private static int wrong = 0;

    private static void must(boolean holds, String what) {
        if (!holds) {
            wrong++;
            System.out.println(what);
        }
    }

    private static String withoutComments(String source) {
        return source.replaceAll("(?s)/\\*.*?\\*/", "").replaceAll("//[^\n]*", "");
    }

    private static void checkWords(String code) {
        String[] barred = {"throw", "throws", "try", "catch", "finally", "synchronized", "assert", "record", "var", "double",
            "float", "System\\.out", "System\\.err", "Exact", "protected", "package", "native", "volatile", "Object",
            "hashCode", "toString\\(\\)", "new Random", "Thread", "null"};
        for (String word : barred) {
            must(!Pattern.compile("\\b" + word + "\\b").matcher(code).find(), "the source has " + word);
        }
        must(!code.contains("->") && !code.contains("::"), "a lambda or a method reference");
        must(!Pattern.compile("\"\\s*\\+|\\+\\s*\"").matcher(code).find(), "a text is joined by +");
        must(code.chars().allMatch(c -> c < 128), "a sign above 127");
        Matcher imports = Pattern.compile("import ([^;]+);").matcher(code);
        while (imports.find()) {
            must(imports.group(1).equals("java.util.Arrays"), "import of " + imports.group(1));
        }
    }

    private static void checkMethods(String code) {
        Pattern begin = Pattern.compile("^( {4}| {8})(?:public |private |static |final )*[A-Za-z\\[\\]]+ ?[A-Za-z]*\\(([^)]*)\\) \\{$");
        String[] lines = code.split("\n", -1);
        for (int i = 0; i < lines.length; i++) {
            Matcher m = begin.matcher(lines[i]);
            if (m.matches()) {
                int end = i;
                while (end < lines.length && !lines[end].equals(m.group(1) + "}")) {
                    end++;
                }
                must(end - i <= 60, "a long method: " + lines[i]);
                must(m.group(2).isEmpty() || m.group(2).split(",").length <= 7, "many parameters: " + lines[i]);
            }
        }
    }

    private static List<Class<?>> allClasses() {
        List<Class<?>> all = new ArrayList<>();
        all.add(TurningMilk.class);
        for (Class<?> inner : TurningMilk.class.getDeclaredClasses()) {
            must(Modifier.isStatic(inner.getModifiers()), inner + " is not static");
            must(!Modifier.isPublic(inner.getModifiers()), inner + " is public");
            all.add(inner);
        }
        must(all.size() <= 12, "classes: " + all.size());
        return all;
    }

    private static void checkFields(Class<?> kind) {
        int fields = 0;
        for (Field f : kind.getDeclaredFields()) {
            if (Modifier.isStatic(f.getModifiers())) {
                must(Modifier.isFinal(f.getModifiers()), f + " is static and not final");
            } else {
                fields++;
            }
        }
        must(fields <= 20, kind + " has fields: " + fields);
    }

    private static void checkFace() {
        must(Modifier.isFinal(TurningMilk.class.getModifiers()), "the class is not final");
        Set<String> found = new TreeSet<>();
        for (Method m : TurningMilk.class.getDeclaredMethods()) {
            if (Modifier.isPublic(m.getModifiers())) {
                found.add(m.getName());
                must(m.getReturnType() == int.class, m + " answers no int");
            } else {
                must(Modifier.isPrivate(m.getModifiers()), m + " can be seen");
                must(!FACE.contains(m.getName()), m + " bears the name of a public one");
            }
        }
        must(found.equals(new TreeSet<>(FACE)), "the face is " + found);
        for (Field f : TurningMilk.class.getDeclaredFields()) {
            must(Modifier.isPrivate(f.getModifiers()) || f.getName().equals("NONE"), f + " can be seen");
        }
        Constructor<?>[] makers = TurningMilk.class.getDeclaredConstructors();
        must(makers.length == 1 && makers[0].getParameterCount() == 0 && Modifier.isPublic(makers[0].getModifiers()), "constructors");
    }

    public static void main(String[] args) throws java.io.IOException {
        String code = withoutComments(Files.readString(SOURCE, StandardCharsets.UTF_8));
        checkWords(code);
        checkMethods(code);
        for (Class<?> kind : allClasses()) {
            checkFields(kind);
            for (Method m : kind.getDeclaredMethods()) {
                boolean isInner = kind != TurningMilk.class;
                must(!isInner || !FACE.contains(m.getName()), m + " bears the name of a public one");
            }
        }
        checkFace();
        System.out.println(wrong == 0 ? "the rules that can be seen are kept" : wrong + " rules are not kept");
        if (wrong != 0) {
            System.exit(1);
        }
    }
}
