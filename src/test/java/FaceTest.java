import java.io.IOException;
import java.lang.reflect.Constructor;
import java.lang.reflect.Field;
import java.lang.reflect.Method;
import java.lang.reflect.Modifier;
import java.nio.file.Files;
import java.nio.file.Path;
import java.util.Set;
import java.util.TreeSet;
import java.util.regex.Matcher;
import java.util.regex.Pattern;

/** The class has the document's face and no other, and its text keeps to what LANGUAGE.md leaves. */
public final class FaceTest {
    private FaceTest() {
    }

    private static Set<String> toldFace() throws IOException {
        String document = Files.readString(Path.of("../shared/DOC.md"));
        int from = document.indexOf("public final class ObligingPosts");
        String face = document.substring(from, document.indexOf("```", from));
        Set<String> told = new TreeSet<>();
        Matcher m = Pattern.compile("public (int|long) (\\w+)\\(([^)]*)\\)").matcher(face);
        while (m.find()) {
            told.add(m.group(1) + " " + m.group(2) + " " + m.group(3).replaceAll(" \\w+(,|$)", "$1").replace(",", ""));
        }
        return told;
    }

    private static Set<String> builtFace() {
        Set<String> built = new TreeSet<>();
        for (Method method : ObligingPosts.class.getDeclaredMethods()) {
            if (!Modifier.isPrivate(method.getModifiers())) {
                StringBuilder types = new StringBuilder();
                for (Class<?> type : method.getParameterTypes()) {
                    types.append(types.length() > 0 ? " " : "").append(type.getName());
                }
                built.add(method.getReturnType().getName() + " " + method.getName() + " " + types);
            }
        }
        return built;
    }

    private static void noNameTwice() {
        Set<String> faceNames = new TreeSet<>();
        for (Method method : ObligingPosts.class.getMethods()) {
            faceNames.add(method.getName());
        }
        for (Method method : ObligingPosts.class.getDeclaredMethods()) {
            if (!Modifier.isPublic(method.getModifiers())) {
                Due.holds("private name " + method.getName(), !faceNames.contains(method.getName()));
            }
        }
        for (Class<?> inside : ObligingPosts.class.getDeclaredClasses()) {
            Due.holds(inside + " is static", Modifier.isStatic(inside.getModifiers()));
            for (Method method : inside.getDeclaredMethods()) {
                Due.holds("name inside " + method.getName(), !faceNames.contains(method.getName()));
            }
        }
    }

    private static void members() {
        int constants = 0;
        for (Field field : ObligingPosts.class.getDeclaredFields()) {
            boolean isPrivate = Modifier.isPrivate(field.getModifiers());
            constants += isPrivate ? 0 : 1;
            Due.holds("field " + field.getName(), isPrivate || field.getName().equals("NONE"));
        }
        Due.is("constants", constants, 1);
        Constructor<?>[] constructors = ObligingPosts.class.getDeclaredConstructors();
        Due.is("constructors", constructors.length, 1);
        Due.is("numbers of the constructor", constructors[0].getParameterCount(), 0);
        Due.holds("final", Modifier.isFinal(ObligingPosts.class.getModifiers()));
    }

    private static void words() throws IOException {
        String source = Files.readString(Path.of("src/main/java/ObligingPosts.java"));
        String code = source.replaceAll("(?s)/\\*.*?\\*/", "").replaceAll("//[^\n]*", "");
        String refused = "\\b(throw|throws|try|catch|synchronized|assert|float|double|Object|hashCode|System\\.out"
            + "|\\w+Exact|Exception|Thread|Random|protected|package)\\b|->|::|@";
        Matcher m = Pattern.compile(refused).matcher(code);
        Due.holds("a word that LANGUAGE.md refuses", !m.find());
        Matcher imports = Pattern.compile("import [^;]*;").matcher(code);
        while (imports.find()) {
            Due.holds(imports.group(), imports.group().equals("import java.util.Arrays;"));
        }
    }

    public static void main(String[] args) throws IOException {
        Set<String> told = toldFace();
        Due.is("methods of the document", told.size(), 75);
        Due.holds("face " + told + " is " + builtFace(), told.equals(builtFace()));
        members();
        noNameTwice();
        words();
        Due.close();
    }
}
