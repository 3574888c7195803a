import java.io.IOException;
import java.lang.reflect.Constructor;
import java.lang.reflect.Field;
import java.lang.reflect.Method;
import java.lang.reflect.Modifier;
import java.nio.file.Files;
import java.nio.file.Path;
import java.util.ArrayList;
import java.util.List;
import java.util.Set;
import java.util.TreeSet;
import java.util.regex.Matcher;
import java.util.regex.Pattern;

/** The class has the document's face and no other, and its text keeps to what LANGUAGE.md leaves. */
public final class FaceTest {
    private FaceTest() {
    }

    private static Set<String> toldFace() throws IOException {
        String document = Files.readString(Path.of("../shared/DOC.md"));
        int from = document.indexOf("public final class ObligingPosts");
        String face = document.substring(from, document.indexOf("```", from));
        Set<String> told = new TreeSet<>();
        Matcher m = Pattern.compile("public (int|long) (\\w+)\\(([^)]*)\\)").matcher(face);
        while (m.find()) {
            told.add(m.group(1) + " " + m.group(2) + " " + m.group(3).replaceAll(" \\w+(,|$)", "$1").replace(",", ""));
        }
        return told;
    }

    private static Set<String> builtFace() {
        Set<String> built = new TreeSet<>();
        for (Method method : ObligingPosts.class.getDeclaredMethods()) {
            if (!Modifier.isPrivate(method.getModifiers())) {
                StringBuilder types = new StringBuilder();
                for (Class<?> type : method.getParameterTypes()) {
                    types.append(types.length() > 0 ? " " : "").append(type.getName());
                }
                built.add(method.getReturnType().getName() + " " + method.getName() + " " + types);
            }
        }
        return built;
    }

    private static void noNameTwice() {
        Set<String> faceNames = new TreeSet<>();
        for (Method method : ObligingPosts.class.getMethods()) {
            faceNames.add(method.getName());
        }
        for (Method method : ObligingPosts.class.getDeclaredMethods()) {
            if (!Modifier.isPublic(method.getModifiers())) {
                Due.holds("private name " + method.getName(), !faceNames.contains(method.getName()));
            }
        }
        for (Class<?> inside : ObligingPosts.class.getDeclaredClasses()) {
            Due.holds(inside + " is static", Modifier.isStatic(inside.getModifiers()));
            for (Method method : inside.getDeclaredMethods()) {
                Due.holds("name inside " + method.getName(), !faceNames.contains(method.getName()));
            }
        }
    }

    private static void members() {
        int constants = 0;
        for (Field field : ObligingPosts.class.getDeclaredFields()) {
            boolean isPrivate = Modifier.isPrivate(field.getModifiers());
            constants += isPrivate ? 0 : 1;
            Due.holds("field " + field.getName(), isPrivate || field.getName().equals("NONE"));
        }
        Due.is("constants", constants, 1);
        Constructor<?>[] constructors = ObligingPosts.class.getDeclaredConstructors();
        Due.is("constructors", constructors.length, 1);
        Due.is("numbers of the constructor", constructors[0].getParameterCount(), 0);
        Due.holds("final", Modifier.isFinal(ObligingPosts.class.getModifiers()));
    }

    private static void words() throws IOException {
        String source = Files.readString(Path.of("src/main/java/ObligingPosts.java"));
        String code = source.replaceAll("(?s)/\\*.*?\\*/", "").replaceAll("//[^\n]*", "");
        String refused = "\\b(throw|throws|try|catch|synchronized|assert|float|double|Object|hashCode|System\\.out"
            + "|\\w+Exact|Exception|Thread|Random|protected|package)\\b|->|::|@";
        Matcher m = Pattern.compile(refused).matcher(code);
        Due.holds("a word that LANGUAGE.md refuses", !m.find());
        Matcher imports = Pattern.compile("import [^;]*;").matcher(code);
        while (imports.find()) {
            Due.holds(imports.group(), imports.group().equals("import java.util.Arrays;"));
        }
    }

    private static List<Class<?>> allClasses() {
        List<Class<?>> all = new ArrayList<>(List.of(ObligingPosts.class.getDeclaredClasses()));
        all.add(ObligingPosts.class);
        return all;
    }

    /** Numbers of LANGUAGE.md: classes, fields, static fields, parameters. */
    private static void counts() {
        Due.holds("at most twelve classes", allClasses().size() <= 12);
        for (Class<?> type : allClasses()) {
            int fields = 0;
            for (Field field : type.getDeclaredFields()) {
                boolean isStatic = Modifier.isStatic(field.getModifiers());
                fields += isStatic ? 0 : 1;
                Due.holds("static field " + field, !isStatic || Modifier.isFinal(field.getModifiers()));
            }
            Due.holds("at most twenty fields of " + type, fields <= 20);
            for (Method method : type.getDeclaredMethods()) {
                Due.holds("at most seven parameters of " + method, method.getParameterCount() <= 7);
            }
        }
    }

    /** A method begins with a line that ends in ") {" and ends with a brace below its first sign. */
    private static void lengths() throws IOException {
        List<String> lines = Files.readAllLines(Path.of("src/main/java/ObligingPosts.java"));
        Pattern begins = Pattern.compile("( {4}| {8})(?! )[\\w\\[\\] ]*\\w\\(.*\\) \\{");
        int methods = 0;
        for (int i = 0; i < lines.size(); i++) {
            Matcher m = begins.matcher(lines.get(i));
            if (m.matches() && !lines.get(i).matches(" +(if|for|while|switch) .*")) {
                int length = lines.subList(i, lines.size()).indexOf(m.group(1) + "}") + 1;
                Due.holds("at most sixty lines:" + lines.get(i), length > 0 && length <= 60);
                methods++;
            }
        }
        int built = allClasses().stream().mapToInt(c -> c.getDeclaredMethods().length).sum();
        int constructors = allClasses().stream().mapToInt(c -> c.getDeclaredConstructors().length).sum();
        Due.holds("lengths of all " + built + " methods, seen " + methods,
            methods >= built && methods <= built + constructors);
    }

    private static void library() throws IOException {
        String code = Files.readString(Path.of("src/main/java/ObligingPosts.java"));
        Set<String> allowed = Set.of("Arrays.fill", "System.arraycopy", "Math.max", "Math.min", "Math.abs",
            "Integer.bitCount");
        Matcher m = Pattern.compile("\\b(Arrays|System|Math|Integer|Long|String|List)\\.\\w+(?=\\()").matcher(code);
        while (m.find()) {
            Due.holds("of the library " + m.group(), allowed.contains(m.group()));
        }
    }

    public static void main(String[] args) throws IOException {
        Set<String> told = toldFace();
        Due.is("methods of the document", told.size(), 75);
        Due.holds("face " + told + " is " + builtFace(), told.equals(builtFace()));
        members();
        noNameTwice();
        words();
        counts();
        lengths();
        library();
        Due.close();
    }
}
