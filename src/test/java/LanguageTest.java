import java.io.IOException;
import java.lang.reflect.Constructor;
import java.lang.reflect.Field;
import java.lang.reflect.Method;
import java.lang.reflect.Modifier;
import java.nio.file.Files;
import java.nio.file.Path;
import java.util.ArrayList;
import java.util.HashSet;
import java.util.List;
import java.util.NoSuchElementException;
import java.util.Set;
import java.util.TreeSet;
import java.util.regex.Matcher;
import java.util.regex.Pattern;

/** The face as the document has it, and those rules of LANGUAGE.md that a look at the text can hold. */
public final class LanguageTest {
    private static final String FACE = "feed iiiii i;end i z;town i;fault i;person ii i;owes ii i;story ii i;now i i;why iii i;hear iii i;"
            + "tell iii i;days i i;strike i;struck i;undo i;ring i;ringAt i i;next i;hour i;with i i;prices i i;price i i;wants i i;"
            + "griefs iiiii l;saved iiiii i;sermon iii i;crowd ii i;sold ii i;best i i;talked i;talk ii i;drawn iii i;odds iii i;most i i;"
            + "book i i;booked i i;sentence i;said i i;image i z;restore i z;count i i";
    private static final Pattern METHOD = Pattern.compile(
            "^ +(?:public |private )?(?:static )?[\\w\\[\\]]+ (\\w+)\\(([^)]*)\\)(?: throws \\w+)? \\{$");

    public static void main(String[] args) throws IOException {
        Set<String> names = face();
        text(Files.readString(Path.of("src/main/java/EarTown.java")), names);
        Kit.finish();
    }

    private static String sign(Class<?> type) {
        return type == int.class ? "i" : type == boolean.class ? "z" : type == long.class ? "l" : "?";
    }

    private static Set<String> face() {
        Set<String> due = new TreeSet<>(List.of(FACE.split(";")));
        Set<String> names = new HashSet<>();
        Set<String> found = new TreeSet<>();
        for (Method m : EarTown.class.getDeclaredMethods()) {
            if (Modifier.isPrivate(m.getModifiers())) {
                continue;
            }
            StringBuilder row = new StringBuilder(m.getName()).append(' ');
            for (Class<?> type : m.getParameterTypes()) {
                row.append(sign(type));
            }
            row.append(m.getParameterCount() > 0 ? " " : "").append(sign(m.getReturnType()));
            found.add(row.toString());
            names.add(m.getName());
            Kit.due(m.getName() + " is public and of the object", m.getModifiers(), Modifier.PUBLIC);
            boolean throwing = Set.of("person", "story", "griefs").contains(m.getName());
            Kit.due(m.getName() + " throws", m.getExceptionTypes().length, throwing ? 1 : 0);
            if (throwing) {
                Kit.due("what " + m.getName() + " throws", m.getExceptionTypes()[0] == NoSuchElementException.class, true);
            }
        }
        Kit.due("the methods are " + due + ", found " + found, found.equals(due), true);
        for (Field f : EarTown.class.getDeclaredFields()) {
            boolean none = f.getName().equals("NONE");
            Kit.due(f.getName() + " is private", Modifier.isPrivate(f.getModifiers()), !none);
            Kit.due(f.getName() + " is static and final, or neither static",
                    !Modifier.isStatic(f.getModifiers()) || Modifier.isFinal(f.getModifiers()), true);
        }
        Constructor<?>[] constructors = EarTown.class.getDeclaredConstructors();
        Kit.due("constructors", constructors.length, 1);
        Kit.due("public final class", EarTown.class.getModifiers(), Modifier.PUBLIC | Modifier.FINAL);
        for (Class<?> c : EarTown.class.getDeclaredClasses()) {
            Kit.due(c + " is static", Modifier.isStatic(c.getModifiers()), true);
            Kit.due(c + " has few fields", fieldsOf(c) <= 20, true);
        }
        Kit.due("few fields", fieldsOf(EarTown.class) <= 20, true);
        Kit.due("few classes", EarTown.class.getDeclaredClasses().length <= 11, true);
        return names;
    }

    private static int fieldsOf(Class<?> c) {
        int fields = 0;
        for (Field f : c.getDeclaredFields()) {
            fields += Modifier.isStatic(f.getModifiers()) ? 0 : 1;
        }
        return fields;
    }

    private static void text(String source, Set<String> names) {
        String bare = source.replaceAll("(?s)/\\*.*?\\*/", "").replaceAll("//.*", "").replaceAll("\"[^\"]*\"", "\"\"");
        for (String word : new String[] {"->", "::", "\\btry\\b", "\\bcatch\\b", "\\bfinally\\b", "synchronized", "\\bassert\\b", "Exact\\(",
            "\\bvar\\b", "\\bdouble\\b", "\\bfloat\\b", "System\\.(?!arraycopy)", "Math\\.(?!max|min|abs)", "\\bpackage\\b", "static \\{",
            "\\bprotected\\b", "while \\(true", "for \\(;;", "\\bObject\\b", "equals", "hashCode", "toString", "\" \\+", "\\+ \""}) {
            Matcher m = Pattern.compile(word).matcher(bare);
            Kit.due("no " + word, m.find(), false);
        }
        Matcher imports = Pattern.compile("import ([\\w.*]+);").matcher(bare);
        while (imports.find()) {
            Kit.due("import " + imports.group(1), imports.group(1).equals("java.util.NoSuchElementException"), true);
        }
        methods(source.split("\n"), names);
    }

    private static void methods(String[] lines, Set<String> names) {
        List<String> seen = new ArrayList<>();
        for (int i = 0; i < lines.length; i++) {
            Matcher m = METHOD.matcher(lines[i]);
            boolean constructor = lines[i].contains("public EarTown(");
            if (!m.matches() || constructor || lines[i].contains(" new ") || lines[i].contains("else if")) {
                continue;
            }
            String name = m.group(1);
            seen.add(name);
            String end = lines[i].replaceAll("\\S.*", "") + "}";
            int last = i;
            while (!lines[last].equals(end)) {
                last++;
            }
            Kit.due(name + " is short", last - i <= 60, true);
            Kit.due(name + " has few parameters", m.group(2).split(",").length <= 7, true);
            Kit.due(name + " bears a public name only if it is public", lines[i].contains("public "), names.contains(name));
            for (int k = i; k < last; k++) {
                Kit.due(name + " makes nothing: " + lines[k].trim(), lines[k].matches(".*\\bnew (?!NoSuchElementException).*"), false);
            }
        }
        Kit.due("methods were seen", seen.size() > 100, true);
    }
}
