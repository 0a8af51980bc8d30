import java.lang.reflect.Constructor;
import java.lang.reflect.Field;
import java.lang.reflect.Method;
import java.lang.reflect.Modifier;
import java.nio.charset.StandardCharsets;
import java.nio.file.Files;
import java.nio.file.Path;
import java.util.ArrayList;
import java.util.Arrays;
import java.util.List;
import java.util.Set;
import java.util.TreeSet;
import java.util.regex.Matcher;
import java.util.regex.Pattern;

/** What can be seen from outside of the rules of LANGUAGE.md; it is started in the project's folder. */
public final class LanguageTest {
    private static final Due due = new Due("LanguageTest");
    private static final String SOURCE = "src/main/java/Licenceweave.java";
    private static final String FACE = "Licenceweave() int work(int,int) int maker(int,int,int) int shown(int,int) "
        + "int death(int,int) int use(int,int,int,int) int words(int,int,int,int,int,int) "
        + "int land(int,int,int,int,boolean) int list(int,int,int) int licence(int,int,int,boolean) "
        + "int offer(int,int,boolean) int say(int,int,int,int,int,int) int learn() int hand(int,int,int,int,int,int) "
        + "int back(int,int) int takeBack(int,int,int) int behind(int) int advance(int,int) int cap(int,int) "
        + "int floor(int,int) int sale(int,int,int,int) int undo() int knock() int ofWork(int,int) "
        + "int ofHand(int,int) int end(int,int) boolean isFree(int,int,int) int next(int,int,int) String line(int) "
        + "String typed() int fault() boolean fits(int,int) int joined(int,int) int parts(int,int,int,boolean) "
        + "int may(int,int,int,boolean) String choice(int,int,int,int) String clash(int,int,int) "
        + "String notices(int,int,int) int holds(int,int,int) int ofEntry(int,int) String chain(int,int,int) "
        + "String share(int,int,int,int) int likeness(int,int,int) int wouldMay(int,int,int,int,int) "
        + "int wouldEnd(int,int,int,int) int house(int) boolean isSound() long digest()";
    private static final String[] RULED_OUT = {"\\btry\\b", "\\bcatch\\b", "\\bfinally\\b", "->", "::", "\\bassert\\b",
        "\\bsynchronized\\b", "\\bvar\\b", "Exact\\(", "\\bstatic \\{", "\\.equals\\(", "hashCode", "toString\\(\\) \\{",
        "\\bwhile \\(true\\)", "for \\(;;\\)", "\\bdouble\\b", "\\bfloat\\b", "System\\.(?!arraycopy)", "Thread",
        "Random", "\\.format\\(", "\" \\+", "\\+ \"", "append\\(\\(long\\)", "\\binstanceof\\b"};

    public static void main(String[] args) throws Exception {
        String source = Files.readString(Path.of(SOURCE), StandardCharsets.UTF_8);
        face();
        members();
        imports(source);
        words(source);
        throwsOnly(source);
        methods(source);
        due.end();
    }

    private static String names(Class<?>[] types) {
        List<String> names = new ArrayList<>();
        for (Class<?> type : types) {
            names.add(type.getSimpleName());
        }
        return "(" + String.join(",", names) + ")";
    }

    private static void face() {
        Set<String> face = new TreeSet<>();
        for (Constructor<?> one : Licenceweave.class.getDeclaredConstructors()) {
            face.add("Licenceweave" + names(one.getParameterTypes()));
        }
        Set<String> open = new TreeSet<>();
        Set<String> closed = new TreeSet<>();
        for (Method one : Licenceweave.class.getDeclaredMethods()) {
            if (Modifier.isPublic(one.getModifiers())) {
                face.add(one.getReturnType().getSimpleName() + " " + one.getName() + names(one.getParameterTypes()));
                open.add(one.getName());
                due.is("rule 1: static " + one.getName(), Modifier.isStatic(one.getModifiers()), false);
            } else {
                due.is("rule 1: private " + one.getName(), Modifier.isPrivate(one.getModifiers()), true);
                closed.add(one.getName());
            }
        }
        for (Class<?> inner : Licenceweave.class.getDeclaredClasses()) {
            for (Method one : inner.getDeclaredMethods()) {
                closed.add(one.getName());
            }
        }
        closed.retainAll(open);
        due.is("rule 1: names that are public ones, too", closed.toString(), "[]");
        Set<String> wanted = new TreeSet<>();
        Matcher m = Pattern.compile("(int|boolean|String|long)? ?(\\w+)(\\([^)]*\\))").matcher(FACE);
        while (m.find()) {
            boolean isNew = m.group(2).equals("Licenceweave");
            wanted.add((isNew ? "" : (m.group(1) == null ? "int" : m.group(1)) + " ") + m.group(2) + m.group(3));
        }
        due.is("rule 1: the face", face.toString(), wanted.toString());
        due.is("rule 1: final", Modifier.isFinal(Licenceweave.class.getModifiers()), true);
    }

    private static void members() {
        List<Class<?>> all = new ArrayList<>(Arrays.asList(Licenceweave.class.getDeclaredClasses()));
        for (Class<?> inner : all) {
            int modifiers = inner.getModifiers();
            boolean isHidden = !Modifier.isPublic(modifiers) && !Modifier.isProtected(modifiers);
            due.is("rule 1: " + inner, isHidden && Modifier.isStatic(modifiers), true);
        }
        all.add(Licenceweave.class);
        due.is("rule 11: at most twelve classes", all.size() <= 12, true);
        for (Class<?> one : all) {
            int fields = 0;
            for (Field field : one.getDeclaredFields()) {
                boolean isStatic = Modifier.isStatic(field.getModifiers());
                fields += isStatic ? 0 : 1;
                due.is("rule 5: " + field, !isStatic || Modifier.isFinal(field.getModifiers()), true);
                due.is("rule 1: " + field, one != Licenceweave.class || Modifier.isPrivate(field.getModifiers()), true);
            }
            due.is("rule 11: at most twenty fields in " + one, fields <= 20, true);
            for (Method method : one.getDeclaredMethods()) {
                due.is("rule 11: at most seven parameters of " + method, method.getParameterCount() <= 7, true);
                due.is("rule 4: made by the compiler: " + method, method.isSynthetic(), false);
            }
        }
    }

    private static void imports(String source) {
        Matcher m = Pattern.compile("^import (.*);$", Pattern.MULTILINE).matcher(source);
        while (m.find()) {
            due.is("rule 4: import " + m.group(1), m.group(1).equals("java.util.Arrays"), true);
        }
        due.is("rule 3: signs 1 to 127", source.chars().allMatch(c -> c > 0 && c < 128), true);
        due.is("no package", source.contains("\npackage "), false);
    }

    private static void words(String source) {
        String plain = source.replaceAll("(?s)/\\*.*?\\*/", "").replaceAll("//.*", "");
        for (String one : RULED_OUT) {
            due.is("ruled out: " + one, Pattern.compile(one).matcher(plain).find(), false);
        }
    }

    private static void throwsOnly(String source) {
        Matcher m = Pattern.compile("\\bthrow (.*)").matcher(source);
        while (m.find()) {
            String allowed = "new (IllegalState|IllegalArgument|IndexOutOfBounds)Exception\\((\"[ -~]*\")?\\);";
            due.is("rule 6: " + m.group(1), m.group(1).matches(allowed), true);
        }
    }

    /** By the indentation: a method begins with four or eight blanks and ends with as many and a bracket. */
    private static void methods(String source) {
        String[] lines = source.split("\n");
        Pattern begin = Pattern.compile("^( {4}| {8})[\\w<>\\[\\]][\\w<>\\[\\], ]*\\([^;]*$");
        for (int k = 0; k < lines.length; k++) {
            if (begin.matcher(lines[k]).find() && !lines[k].trim().matches("(if|for|while|switch|return|else)\\b.*")) {
                String blanks = lines[k].substring(0, lines[k].length() - lines[k].stripLeading().length());
                int end = k;
                while (end < lines.length - 1 && !lines[end].equals(blanks + "}")) {
                    end++;
                }
                due.is("rule 11: short: " + lines[k].trim(), end - k < 60, true);
            }
            due.is("a line of 120 signs at most: " + lines[k], lines[k].length() <= 120, true);
        }
    }
}
