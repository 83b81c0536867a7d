import java.lang.reflect.Constructor;
import java.lang.reflect.Field;
import java.lang.reflect.Method;
import java.lang.reflect.Modifier;
import java.nio.file.Files;
import java.nio.file.Path;
import java.util.ArrayList;
import java.util.List;
import java.util.Set;
import java.util.TreeSet;
import java.util.regex.Matcher;
import java.util.regex.Pattern;

// What of LANGUAGE.md can be seen without running the program: its face, the words that it
// may not use, the size of its methods and classes. The path of the program is the argument.
public final class LanguageTest {
    private static final int MOST_LINES = 60, MOST_CLASSES = 12, MOST_FIELDS = 20, MOST_PARAMETERS = 7;
    private static final String[] FACE = {
        "set int int int", "sight int int int", "told int int", "shines int int int", "feed int", "text", "force int",
        "night int", "order int int", "best int", "setting int", "late", "sleep int int", "moon int", "leave int",
        "two int", "cloud", "lists int int", "film int", "drawn int", "chance int int int", "image", "back", "count int",
        "sheet int int int", "cell int int int", "copy int int int int int", "sights int int int int", "taken int int",
    };
    private static int failures = 0;

    public static void main(String[] arguments) throws Exception {
        String path = arguments.length > 0 ? arguments[0] : "src/main/java/AHundredSights.java";
        String source = Files.readString(Path.of(path));
        face();
        classes();
        words(withoutComments(source));
        lengths(source);
        System.out.println(failures == 0 ? "the language is kept to" : failures + " rules broken");
        if (failures != 0) {
            System.exit(1);
        }
    }

    private static void due(boolean so, String what) {
        if (!so) {
            failures++;
            System.out.println("not so: " + what);
        }
    }

    private static void face() {
        Class<?> type = AHundredSights.class;
        due(Modifier.isPublic(type.getModifiers()) && Modifier.isFinal(type.getModifiers()), "the class is public and final");
        Set<String> wanted = new TreeSet<>(List.of(FACE));
        Set<String> found = new TreeSet<>();
        Set<String> publicNames = new TreeSet<>();
        for (Method method : type.getDeclaredMethods()) {
            if (Modifier.isPublic(method.getModifiers())) {
                found.add(signature(method));
                publicNames.add(method.getName());
                due(method.getReturnType() == (method.getName().equals("chance") ? long.class : int.class), "type of " + method);
            } else {
                due(Modifier.isPrivate(method.getModifiers()), "private: " + method);
            }
        }
        due(found.equals(wanted), "the public methods are the document's: " + found);
        for (Class<?> inner : allClasses()) {
            for (Method method : inner.getDeclaredMethods()) {
                boolean isPublicOne = inner == type && Modifier.isPublic(method.getModifiers());
                due(isPublicOne || !publicNames.contains(method.getName()), "no other method has a public one's name: " + method);
            }
        }
        Set<String> constants = new TreeSet<>();
        for (Field field : type.getDeclaredFields()) {
            if (Modifier.isPublic(field.getModifiers())) {
                constants.add(field.getName());
            } else {
                due(Modifier.isPrivate(field.getModifiers()), "private: " + field);
            }
        }
        due(constants.equals(Set.of("NONE", "BAD", "STATE", "FULL", "NO")), "the public constants: " + constants);
        Constructor<?>[] constructors = type.getDeclaredConstructors();
        due(constructors.length == 1 && constructors[0].getParameterCount() == 0, "one constructor");
    }

    private static String signature(Method method) {
        StringBuilder signature = new StringBuilder(method.getName());
        for (Class<?> parameter : method.getParameterTypes()) {
            signature.append(' ').append(parameter.getName());
        }
        return signature.toString();
    }

    private static List<Class<?>> allClasses() {
        List<Class<?>> all = new ArrayList<>();
        all.add(AHundredSights.class);
        for (int i = 0; i < all.size(); i++) {
            all.addAll(List.of(all.get(i).getDeclaredClasses()));
        }
        return all;
    }

    private static void classes() {
        List<Class<?>> all = allClasses();
        due(all.size() <= MOST_CLASSES, "no more than " + MOST_CLASSES + " classes");
        for (Class<?> type : all) {
            due(type == AHundredSights.class || Modifier.isStatic(type.getModifiers()), "static: " + type);
            due(!Modifier.isProtected(type.getModifiers()), "not protected: " + type);
            int fields = 0;
            for (Field field : type.getDeclaredFields()) {
                boolean isStatic = Modifier.isStatic(field.getModifiers());
                due(!isStatic || Modifier.isFinal(field.getModifiers()), "a static field is final: " + field);
                due(!isStatic || Set.of("int", "long", "boolean", "char", "class java.lang.String", "class [I", "class [J",
                    "class [C", "class [B").contains(field.getType().toString()), "the type of a static field: " + field);
                fields += isStatic ? 0 : 1;
            }
            due(fields <= MOST_FIELDS, "no more than " + MOST_FIELDS + " fields: " + type);
            for (Method method : type.getDeclaredMethods()) {
                due(method.getParameterCount() <= MOST_PARAMETERS, "parameters of " + method);
            }
        }
    }

    private static String withoutComments(String source) {
        return source.replaceAll("(?s)/\\*.*?\\*/", " ").replaceAll("//[^\n]*", " ").replaceAll("\"[^\"\n]*\"", "\"\"");
    }

    private static void words(String code) {
        for (String word : new String[] {"throw", "throws", "try", "catch", "finally", "synchronized", "assert", "package",
            "protected", "volatile", "transient", "native", "goto", "equals", "hashCode", "toString", "Object", "System.out",
            "Integer.MIN_VALUE", "Integer.MAX_VALUE", "while (true)", "for (;;)", "static {", "[A-Za-z]+Exact"}) {
            due(!Pattern.compile("(?<![A-Za-z])" + (word.contains("[") ? word : Pattern.quote(word)) + "(?![A-Za-z])")
                .matcher(code).find(), "no " + word);
        }
        due(!code.contains("->") && !code.contains("::"), "no lambda, no method reference");
        due(!code.contains("@"), "no annotation");
        Matcher imports = Pattern.compile("import ([^;]+);").matcher(code);
        while (imports.find()) {
            due(imports.group(1).equals("java.util.Arrays"), "import " + imports.group(1));
        }
        Matcher library = Pattern.compile("\\b(Math|Integer|Long|Arrays|System)\\.(\\w+)").matcher(code);
        while (library.find()) {
            due(Set.of("Math.max", "Math.min", "Math.abs", "Integer.bitCount", "Arrays.fill", "System.arraycopy")
                .contains(library.group()), "library: " + library.group());
        }
        due(code.chars().allMatch(c -> c == 10 || c >= 32 && c < 127), "its signs are plain");
    }

    private static void lengths(String source) {
        String[] lines = source.split("\n");
        int start = -1;
        String end = "";
        for (int i = 0; i < lines.length; i++) {
            if (lines[i].matches(" {4,8}\\S[^;=]*\\) \\{")) {
                start = i;
                end = lines[i].replaceAll("\\S.*", "}");
            } else if (start >= 0 && lines[i].equals(end)) {
                due(i - start < MOST_LINES, "short: " + lines[start].trim());
                start = -1;
            }
            due(lines[i].length() <= 120, "a line of 120 signs at most: " + (i + 1));
        }
    }
}
