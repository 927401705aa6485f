import java.io.IOException;
import java.lang.reflect.Constructor;
import java.lang.reflect.Field;
import java.lang.reflect.Method;
import java.lang.reflect.Modifier;
import java.nio.file.Files;
import java.nio.file.Path;
import java.util.Arrays;
import java.util.HashSet;
import java.util.Set;
import java.util.TreeSet;
import java.util.regex.Matcher;
import java.util.regex.Pattern;

/** The face of the document, and what of LANGUAGE.md can be seen in the source without reading it closely. */
final class LanguageTest {
    private static final String[] FORBIDDEN = {"throw", "throws", "try", "catch", "finally", "synchronized", "assert",
        "import", "package", "instanceof", "Exception", "Exact", "->", "::", "static\\s*\\{", "hashCode", "toString",
        "System\\.(?!arraycopy)", "float", "double", "strictfp", "native", "volatile", "transient", "protected"};

    private static final Set<String> LIBRARY = Set.of("Math.abs", "Math.min", "Integer.bitCount", "System.arraycopy");

    private LanguageTest() {
    }

    public static void main(String[] args) throws IOException {
        String document = Files.readString(Path.of("../shared/DOC.md"));
        String source = Files.readString(Path.of("src/main/java/BeamTurnstiles.java"));
        face(document);
        privateNames();
        sizes(source);
        words(source);
        library(source);
        Due.end("LanguageTest");
    }

    private static void face(String document) {
        String block = document.substring(document.indexOf("```java") + 7);
        block = block.substring(0, block.indexOf("```"));
        Set<String> due = new TreeSet<>();
        Matcher method = Pattern.compile("public (int|long|boolean|String) (\\w+)\\((.*?)\\);").matcher(block);
        while (method.find()) {
            String parameters = method.group(3).replaceAll("(\\w+) \\w+", "$1").replace(" ", "");
            due.add(method.group(1) + " " + method.group(2) + "(" + parameters + ")");
        }
        Matcher constants = Pattern.compile("static final int (.*?);").matcher(block);
        while (constants.find()) {
            for (String constant : constants.group(1).split(",")) {
                due.add(constant.trim());
            }
        }
        same("face", openMembers(), due);
        Due.due("final", BeamTurnstiles.class.getModifiers(), Modifier.PUBLIC | Modifier.FINAL);
        Constructor<?>[] constructors = BeamTurnstiles.class.getDeclaredConstructors();
        Due.due("constructors", constructors.length, 1);
        Due.due("public constructor", constructors[0].getModifiers(), Modifier.PUBLIC);
        Due.due("its parameters", constructors[0].getParameterCount(), 0);
    }

    private static Set<String> openMembers() {
        Set<String> open = new TreeSet<>();
        for (Method method : BeamTurnstiles.class.getDeclaredMethods()) {
            if (!Modifier.isPrivate(method.getModifiers())) {
                StringBuilder parameters = new StringBuilder();
                for (Class<?> type : method.getParameterTypes()) {
                    parameters.append(parameters.length() == 0 ? "" : ",").append(type.getName());
                }
                open.add(method.getReturnType().getName() + " " + method.getName() + "(" + parameters + ")");
            }
        }
        for (Field field : BeamTurnstiles.class.getDeclaredFields()) {
            if (!Modifier.isPrivate(field.getModifiers())) {
                open.add(field.getName() + " = " + valueOf(field));
            }
        }
        return open;
    }

    private static String valueOf(Field field) {
        try {
            return String.valueOf(field.get(null));
        } catch (IllegalAccessException e) {
            return "not to be read";
        }
    }

    private static void privateNames() {
        Set<String> open = new HashSet<>();
        for (Method method : BeamTurnstiles.class.getMethods()) {
            open.add(method.getName());
        }
        Set<Class<?>> classes = new HashSet<>(Arrays.asList(BeamTurnstiles.class.getDeclaredClasses()));
        for (Class<?> inside : classes) {
            Due.due("static: " + inside, Modifier.isStatic(inside.getModifiers()) ? 1 : 0, 1);
            Due.due("not public: " + inside, Modifier.isPublic(inside.getModifiers()) ? 1 : 0, 0);
        }
        classes.add(BeamTurnstiles.class);
        for (Class<?> any : classes) {
            for (Method method : any.getDeclaredMethods()) {
                boolean borrowed = !Modifier.isPublic(method.getModifiers()) && open.contains(method.getName());
                Due.due("a name of the face is used again: " + method, borrowed ? 1 : 0, 0);
            }
            for (Field field : any.getDeclaredFields()) {
                boolean loose = Modifier.isStatic(field.getModifiers()) && !Modifier.isFinal(field.getModifiers());
                Due.due("static and not final: " + field, loose ? 1 : 0, 0);
            }
        }
    }

    private static void sizes(String source) {
        Class<?>[] inside = BeamTurnstiles.class.getDeclaredClasses();
        Due.due("at most 12 classes", Math.max(inside.length + 1, 12), 12);
        Set<Class<?>> classes = new HashSet<>(Arrays.asList(inside));
        classes.add(BeamTurnstiles.class);
        for (Class<?> any : classes) {
            Field[] fields = any.getDeclaredFields();
            long own = Arrays.stream(fields).filter(field -> !Modifier.isStatic(field.getModifiers())).count();
            Due.due("at most 20 fields: " + any, Math.max(own, 20), 20);
            for (Method method : any.getDeclaredMethods()) {
                Due.due("at most 7 parameters: " + method, Math.max(method.getParameterCount(), 7), 7);
            }
        }
        // A method ends where its indentation comes back.
        Pattern block = Pattern.compile("(?m)^( {4}| {8})(?! |\\}).*\\) \\{\n((?:\\1 .*\n|\n)*)\\1\\}$");
        Matcher method = block.matcher(source);
        int methods = 0;
        while (method.find()) {
            methods++;
            Due.due("at most 60 lines: " + method.group(), Math.max(method.group(2).lines().count(), 60), 60);
        }
        Due.due("more than 19 methods are found", methods > 19 ? 1 : 0, 1);
    }

    private static void library(String source) {
        Matcher call = Pattern.compile("\\b([A-Z]\\w*)\\.[a-z]\\w*\\(").matcher(withoutComments(source));
        while (call.find()) {
            String name = call.group().substring(0, call.group().length() - 1);
            boolean own = source.contains("class " + call.group(1) + " ");
            Due.due("in the library or of its own: " + name, own || LIBRARY.contains(name) ? 1 : 0, 1);
        }
        for (Class<?> inside : BeamTurnstiles.class.getDeclaredClasses()) {
            for (Field field : inside.getDeclaredFields()) {
                String type = field.getType().getName();
                boolean numbers = type.matches("int|char|boolean|\\[+[ICZ]");
                Due.due("a number, or an array of them: " + field, numbers ? 1 : 0, 1);
            }
        }
    }

    private static String withoutComments(String source) {
        return source.replaceAll("(?s)/\\*.*?\\*/", "").replaceAll("//[^\n]*", "");
    }

    private static void words(String source) {
        String code = withoutComments(source);
        for (String word : FORBIDDEN) {
            String whole = Character.isLetter(word.charAt(0)) ? "\\b" + word : word;
            String end = Character.isLetter(word.charAt(word.length() - 1)) ? "\\b" : "";
            Due.due("used: " + word, Pattern.compile(whole + end).matcher(code).find() ? 1 : 0, 0);
        }
        Due.due("ASCII alone", source.chars().allMatch(c -> c < 128) ? 1 : 0, 1);
    }

    private static void same(String what, Set<String> got, Set<String> want) {
        boolean equal = got.equals(want);
        if (!equal) {
            System.out.println(what + " is " + got + ", due is " + want);
        }
        Due.due(what, equal ? 1 : 0, 1);
    }
}
