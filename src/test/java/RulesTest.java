import java.io.IOException;
import java.lang.reflect.Constructor;
import java.lang.reflect.Field;
import java.lang.reflect.Method;
import java.lang.reflect.Modifier;
import java.nio.file.Files;
import java.nio.file.Path;
import java.util.Arrays;
import java.util.Set;
import java.util.TreeSet;
import java.util.regex.Matcher;
import java.util.regex.Pattern;

/** The face of the document, and those rules of LANGUAGE.md that a look at the file or the class can tell. */
public final class RulesTest {
    private static final String FACE = "pocket stud tilt late pays feed end text fault law drop foretold start odds write "
            + "scratch which falls nine above among span need habit goal luck run bet watched house seen shoe image back about";
    private static int wrong = 0;

    public static void main(String[] args) throws IOException {
        String source = Files.readString(Path.of("src/main/java/LeaningWheel.java"));
        String bare = source.replaceAll("(?s)/\\*.*?\\*/", " ").replaceAll("//[^\n]*", " ").replaceAll("\"[^\"]*\"", "\"\"");
        words(bare);
        library(bare);
        face();
        classes();
        methods(source);
        System.out.println(wrong + " breaches of the rules");
        System.exit(wrong == 0 ? 0 : 1);
    }

    private static void look(boolean fine, String rule) {
        if (!fine) {
            wrong++;
            System.out.println("against rule " + rule);
        }
    }

    private static void words(String bare) {
        String[] banned = {"throw", "throws", "try", "catch", "finally", "synchronized", "assert", "package", "native",
            "volatile", "transient", "hashCode", "Exception", "Error"};
        for (String word : banned) {
            look(!Pattern.compile("\\b" + word + "\\b").matcher(bare).find(), "4 or 6: " + word);
        }
        String apart = bare.replaceAll("(\\bcase\\b[^;{}:]*?|\\bdefault\\s*)->", " ");
        look(!apart.contains("->") && !bare.contains("::"), "2: lambda or method reference");
        look(!Pattern.compile("\\bstatic\\s*\\{").matcher(bare).find(), "5: static initialiser");
        look(source7Bit(bare), "4: signs above 127");
        look(!Pattern.compile("\\bfor \\(;|while \\(true\\)").matcher(bare).find(), "9: a loop without an end");
    }

    private static boolean source7Bit(String s) {
        return s.chars().allMatch(ch -> ch < 128);
    }

    private static void library(String bare) {
        Matcher m = Pattern.compile("\\b(Math|Arrays|System|Integer|Long|String|StringBuilder)\\.(\\w+\\b(\\(?))").matcher(bare);
        Set<String> ofArrays = Set.of("System.arraycopy(", "Arrays.copyOf(", "Arrays.copyOfRange(", "Arrays.fill(");
        while (m.find()) {
            // Functions alone: constants such as Integer.MAX_VALUE are none.
            boolean ofNumbers = m.group(1).matches("Math|Integer|Long") && !m.group(2).endsWith("Exact(")
                    && !m.group(3).isEmpty();
            look(ofNumbers || ofArrays.contains(m.group()), "4: " + m.group());
        }
        Set<String> may = Set.of("java.util.Arrays", "java.util.ArrayList", "java.util.List", "java.util.Iterator");
        Matcher imports = Pattern.compile("import ([\\w.*]+);").matcher(bare);
        while (imports.find()) {
            look(may.contains(imports.group(1)), "4: import " + imports.group(1));
        }
    }

    private static void face() {
        look(Modifier.isFinal(LeaningWheel.class.getModifiers()), "1: final");
        Set<String> face = new TreeSet<>(Arrays.asList(FACE.split(" ")));
        Set<String> found = new TreeSet<>();
        for (Method m : LeaningWheel.class.getDeclaredMethods()) {
            if (Modifier.isPublic(m.getModifiers())) {
                found.add(m.getName());
            } else {
                look(Modifier.isPrivate(m.getModifiers()) && !face.contains(m.getName()), "1: " + m.getName());
            }
        }
        look(found.equals(face), "1: the face");
        look(LeaningWheel.class.getDeclaredConstructors().length == 1, "1: one constructor");
        for (Field f : LeaningWheel.class.getDeclaredFields()) {
            look(Modifier.isPrivate(f.getModifiers()) || f.getName().equals("NONE"), "1: " + f.getName());
        }
    }

    private static void classes() {
        Class<?>[] inside = LeaningWheel.class.getDeclaredClasses();
        look(inside.length + 1 <= 14, "11: classes");
        Set<String> face = new TreeSet<>(Arrays.asList(FACE.split(" ")));
        for (Class<?> k : inside) {
            look(Modifier.isStatic(k.getModifiers()), "2: " + k);
            look(!Modifier.isPublic(k.getModifiers()) && !Modifier.isProtected(k.getModifiers()), "1: " + k);
            for (Method m : k.getDeclaredMethods()) {
                boolean named = Modifier.isPrivate(m.getModifiers()) && face.contains(m.getName());
                look(!named, "1: " + m);
                look(m.getParameterCount() <= 7, "11: parameters of " + m);
            }
            for (Constructor<?> made : k.getDeclaredConstructors()) {
                look(made.getParameterCount() <= 7, "11: parameters of " + made);
            }
            fields(k);
        }
        fields(LeaningWheel.class);
    }

    private static void fields(Class<?> k) {
        int fields = 0;
        for (Field f : k.getDeclaredFields()) {
            if (Modifier.isStatic(f.getModifiers())) {
                look(Modifier.isFinal(f.getModifiers()), "5: " + f);
            } else {
                fields++;
            }
        }
        look(fields <= 24, "11: fields of " + k);
    }

    private static void methods(String source) {
        int begun = 0;
        String[] lines = source.split("\n");
        Pattern head = Pattern.compile("^( {4}| {8})(public |private |static |final |abstract )*[\\w\\[\\]<>]+( \\w+)?\\(.*\\{$");
        String method = "";
        for (int i = 0; i < lines.length; i++) {
            if (head.matcher(lines[i]).matches() && !lines[i].trim().matches("(if|for|while|switch|else).*")) {
                begun = i;
                method = lines[i].trim();
            }
            boolean ends = lines[i].equals("    }") || lines[i].equals("        }");
            look(!ends || method.isEmpty() || i - begun < 70, "11: long method " + method);
            method = ends ? "" : method;
        }
    }
}
