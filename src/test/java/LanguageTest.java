import java.io.IOException;
import java.lang.reflect.Field;
import java.lang.reflect.Method;
import java.lang.reflect.Modifier;
import java.nio.file.Files;
import java.nio.file.Path;
import java.util.HashSet;
import java.util.List;
import java.util.Set;
import java.util.regex.Matcher;
import java.util.regex.Pattern;

/** Rules 1, 2, 5, 6, 11 of LANGUAGE.md, as far as they can be seen in the text or by reflection. */
public final class LanguageTest {
    private static final Path PROGRAM = Path.of("src/main/java/TuneSchool.java");
    private static final Path DOCUMENT = Path.of("../shared/DOC.md");
    private static final Due due = new Due();

    public static void main(String[] args) throws IOException {
        String text = Files.readString(PROGRAM).replaceAll("(?s)/\\*.*?\\*/", "").replaceAll("//.*", "");
        words(text);
        face(Files.readString(DOCUMENT));
        classesInside();
        lengthOfMethods(text);
        due.end();
    }

    private static void words(String text) {
        for (String word : List.of("throw", "throws", "try", "catch", "synchronized", "assert", "package", "double",
                "float", "Object", "Random", "Thread", "->", "::", "equals", "hashCode", "toString")) {
            Pattern whole = Pattern.compile(word.matches("\\w+") ? "\\b" + word + "\\b" : Pattern.quote(word));
            if (whole.matcher(text).find()) {
                System.out.println("the program says " + word);
                due.is(0, 1);
            }
        }
        Matcher imports = Pattern.compile("import (.*);").matcher(text);
        while (imports.find()) {
            due.is(1, imports.group(1).equals("java.util.Arrays") ? 1 : 0);
        }
    }

    /** What is public is what "The public face" of the document shows, and nothing of the class itself is wider. */
    private static void face(String document) {
        Set<String> names = new HashSet<>();
        Matcher told = Pattern.compile("public int (\\w+)\\((.*)\\);").matcher(document);
        while (told.find()) {
            names.add(told.group(1) + "/" + (told.group(2).isEmpty() ? 0 : told.group(2).split(",").length));
        }
        due.is(42, names.size());
        Set<String> found = new HashSet<>();
        for (Method method : TuneSchool.class.getDeclaredMethods()) {
            String name = method.getName() + "/" + method.getParameterCount();
            if (Modifier.isPublic(method.getModifiers())) {
                found.add(name);
                due.is(1, method.getReturnType() == int.class && names.contains(name) ? 1 : 0);
            } else {
                due.is(1, Modifier.isPrivate(method.getModifiers()) ? 1 : 0);
            }
            due.is(1, method.getParameterCount() <= 7 ? 1 : 0);
        }
        due.is(1, found.equals(names) ? 1 : 0);
        for (Field field : TuneSchool.class.getDeclaredFields()) {
            boolean shown = field.getName().equals("BAD") || field.getName().equals("NONE");
            due.is(1, shown == Modifier.isPublic(field.getModifiers()) ? 1 : 0);
            due.is(1, shown || Modifier.isPrivate(field.getModifiers()) ? 1 : 0);
        }
        due.is(1, Modifier.isFinal(TuneSchool.class.getModifiers()) ? 1 : 0);
    }

    private static void classesInside() {
        due.is(1, TuneSchool.class.getDeclaredClasses().length <= 12 ? 1 : 0);
        for (Class<?> inside : TuneSchool.class.getDeclaredClasses()) {
            due.is(1, Modifier.isStatic(inside.getModifiers()) ? 1 : 0);
            for (Method method : inside.getDeclaredMethods()) {
                due.is(0, isName(method.getName()) ? 1 : 0);
                due.is(1, method.getParameterCount() <= 7 ? 1 : 0);
            }
            fields(inside);
        }
        fields(TuneSchool.class);
    }

    private static void fields(Class<?> of) {
        int own = 0;
        for (Field field : of.getDeclaredFields()) {
            boolean isStatic = Modifier.isStatic(field.getModifiers());
            due.is(1, !isStatic || Modifier.isFinal(field.getModifiers()) ? 1 : 0);
            own += isStatic ? 0 : 1;
        }
        due.is(1, own <= 20 ? 1 : 0);
    }

    private static boolean isName(String name) {
        for (Method method : TuneSchool.class.getMethods()) {
            if (method.getDeclaringClass() == TuneSchool.class && method.getName().equals(name)) {
                return true;
            }
        }
        return false;
    }

    /** A method begins with a line that ends in "{" behind a ")" and ends at the "}" of the same depth. */
    private static void lengthOfMethods(String text) {
        String[] lines = text.split("\n");
        for (int i = 0; i < lines.length; i++) {
            Matcher begin = Pattern.compile("^( {4}| {8})(?! |if|for|while|switch).*\\) \\{$").matcher(lines[i]);
            if (begin.find()) {
                int j = i;
                while (!lines[j].equals(begin.group(1) + "}")) {
                    j++;
                }
                due.is(1, j - i <= 60 ? 1 : 0);
            }
        }
    }
}
