import java.lang.reflect.Constructor;
import java.lang.reflect.Field;
import java.lang.reflect.Method;
import java.lang.reflect.Modifier;
import java.nio.file.Files;
import java.nio.file.Path;
import java.util.ArrayList;
import java.util.Collections;
import java.util.HashMap;
import java.util.HashSet;
import java.util.List;
import java.util.Map;
import java.util.Set;
import java.util.regex.Matcher;
import java.util.regex.Pattern;

/** What can be looked at of ../shared/LANGUAGE.md, and the face that ../shared/DOC.md prints. */
public final class LanguageTest {
    private static final String[] FORBIDDEN = {
        "throw", "throws", "try", "catch", "synchronized", "assert", "import", "package", "var", "yield", "protected",
        "toString", "hashCode", "System\\.out", "System\\.err", "System\\.exit", "\\w+Exact", "Object", "Thread", "Random"};
    private static final String[] FORBIDDEN_SIGNS = {"->", "::"};
    private static final String LIBRARY = "Integer\\.bitCount|Math\\.(abs|max|min)|System\\.arraycopy";

    public static void main(String[] args) throws Exception {
        String source = Files.readString(Path.of("src/main/java/OneShort.java"));
        String code = source.replaceAll("(?s)/\\*.*?\\*/", " ").replaceAll("//[^\n]*", " ").replaceAll("\"[^\"\n]*\"", "\"\"");
        for (String word : FORBIDDEN) {
            Matcher m = Pattern.compile("\\b" + word + "\\b").matcher(code);
            Check.due("the word " + word, m.find() ? 1 : 0, 0);
        }
        for (String sign : FORBIDDEN_SIGNS) {
            Check.due("the sign " + sign, code.contains(sign) ? 1 : 0, 0);
        }
        face(Files.readString(Path.of("../shared/DOC.md")));
        classesInside();
        methodsAreShort(source);
        libraryIsAllowed(code);
        callsGoEightDeep(code);
        Check.end();
    }

    private static void face(String document) {
        List<String> due = new ArrayList<>();
        String face = document.substring(document.indexOf("public final class OneShort {"), document.indexOf("## Terms"));
        Matcher m = Pattern.compile("public (int|long) (\\w+)\\(([^)]*)\\)").matcher(face);
        while (m.find()) {
            due.add(m.group(1) + " " + m.group(2) + " " + (m.group(3).isEmpty() ? 0 : m.group(3).split(",").length));
        }
        List<String> got = new ArrayList<>();
        for (Method method : OneShort.class.getDeclaredMethods()) {
            if (!Modifier.isPrivate(method.getModifiers())) {
                got.add(method.getReturnType() + " " + method.getName() + " " + method.getParameterCount());
            }
        }
        Collections.sort(due);
        Collections.sort(got);
        Check.due("calls in the document", due.size(), 49);
        Check.due("the face " + got, got.equals(due) ? 1 : 0, 1);
        for (Field field : OneShort.class.getDeclaredFields()) {
            Check.due("private: " + field.getName(), Modifier.isPrivate(field.getModifiers()) ? 1 : 0, 1);
        }
        Constructor<?>[] constructors = OneShort.class.getDeclaredConstructors();
        Check.due("constructors", constructors.length, 1);
        Check.due("public", constructors[0].getModifiers(), Modifier.PUBLIC);
        Check.due("public and final", OneShort.class.getModifiers(), Modifier.PUBLIC | Modifier.FINAL);
    }

    private static void classesInside() {
        List<String> names = new ArrayList<>();
        for (Method method : OneShort.class.getMethods()) {
            if (method.getDeclaringClass() == OneShort.class) {
                names.add(method.getName());
            }
        }
        List<Class<?>> classes = new ArrayList<>(List.of(OneShort.class.getDeclaredClasses()));
        Check.due("classes", classes.size() + 1 > 12 ? 1 : 0, 0);
        noPrivateNameOfTheFace(names);
        staticFieldsAreFinal(OneShort.class);
        for (Class<?> inside : classes) {
            staticFieldsAreFinal(inside);
            Check.due("static: " + inside, Modifier.isStatic(inside.getModifiers()) ? 1 : 0, 1);
            Check.due("fields of " + inside, inside.getDeclaredFields().length > 25 ? 1 : 0, 0);
            for (Method method : inside.getDeclaredMethods()) {
                Check.due("no name of the face: " + method, names.contains(method.getName()) ? 1 : 0, 0);
                Check.due("parameters of " + method, method.getParameterCount() > 7 ? 1 : 0, 0);
            }
        }
    }

    private static void noPrivateNameOfTheFace(List<String> names) {
        for (Method method : OneShort.class.getDeclaredMethods()) {
            boolean isPrivate = Modifier.isPrivate(method.getModifiers());
            Check.due("no name of the face: " + method, isPrivate && names.contains(method.getName()) ? 1 : 0, 0);
        }
    }

    private static void staticFieldsAreFinal(Class<?> one) {
        for (Field field : one.getDeclaredFields()) {
            int modifiers = field.getModifiers();
            Check.due("final: " + field, Modifier.isStatic(modifiers) && !Modifier.isFinal(modifiers) ? 1 : 0, 0);
        }
    }

    private static void libraryIsAllowed(String code) {
        Matcher m = Pattern.compile("\\b(Integer|Long|Math|System|Arrays|String|List)\\.(\\w+)").matcher(code);
        while (m.find()) {
            Check.due("of the library: " + m.group(), m.group().matches(LIBRARY) ? 1 : 0, 1);
        }
    }

    private static void callsGoEightDeep(String code) {
        Map<String, Set<String>> calls = new HashMap<>();
        String method = "";
        for (String line : code.split("\n")) {
            Matcher begin = Pattern.compile(" {4}( {4})?(?:[A-Za-z\\[\\]]+ )+(\\w+)\\([^;]*\\) \\{").matcher(line);
            if (begin.matches()) {
                method = begin.group(2);
                // One of the same name in another class would be taken for this one.
                Check.due("only one is called " + method, calls.containsKey(method) ? 1 : 0, 0);
                calls.put(method, new HashSet<>());
                continue;
            }
            Matcher call = Pattern.compile("(?<!Math\\.|Integer\\.|word\\.)\\b(\\w+)\\(").matcher(line);
            while (calls.containsKey(method) && call.find()) {
                calls.get(method).add(call.group(1));
            }
        }
        Check.due("methods found", calls.size() > 100 ? 1 : 0, 1);
        for (String name : calls.keySet()) {
            Check.due("deeper than eight, or in a ring: " + name, depth(calls, name, 1) > 8 ? 1 : 0, 0);
        }
    }

    private static int depth(Map<String, Set<String>> calls, String name, int above) {
        int most = above;
        for (String called : calls.get(name)) {
            if (above <= 8 && calls.containsKey(called)) {
                most = Math.max(most, depth(calls, called, above + 1));
            }
        }
        return most;
    }

    private static void methodsAreShort(String source) {
        int begin = -1;
        String[] lines = source.split("\n");
        for (int i = 0; i < lines.length; i++) {
            if (lines[i].matches(" {4}( {4})?(public|private|int|long|boolean|void|static|Orchestra|Tape|Sheet)\\b.*\\) \\{")) {
                begin = i;
            } else if (begin >= 0 && lines[i].matches(" {4}( {4})?\\}")) {
                Check.due("over 60 lines: " + lines[begin], i - begin > 60 ? 1 : 0, 0);
                begin = -1;
            }
        }
    }
}
