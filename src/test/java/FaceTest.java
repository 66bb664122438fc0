import java.io.IOException;
import java.lang.reflect.Constructor;
import java.lang.reflect.Executable;
import java.lang.reflect.Field;
import java.lang.reflect.Method;
import java.lang.reflect.Modifier;
import java.nio.file.Files;
import java.nio.file.Path;
import java.util.ArrayList;
import java.util.Arrays;
import java.util.HashSet;
import java.util.List;
import java.util.Set;
import java.util.regex.Matcher;
import java.util.regex.Pattern;

/** The face is that of the document, with its types and exceptions, and nothing else can be seen of the class. */
public final class FaceTest {
    private static final Check CHECK = new Check();

    public static void main(String[] args) throws IOException {
        faceIsThatOfTheDocument(Files.readString(Path.of("../shared/DOC.md")));
        nothingElseIsVisible();
        CHECK.end();
    }

    private static void faceIsThatOfTheDocument(String document) {
        int from = document.indexOf("public final class RoyalTree {");
        String face = document.substring(from, document.indexOf("```", from));
        Matcher call = Pattern.compile("public (?:(\\w+) )?(\\w+)\\(([^)]*)\\)(?: throws ([^;]*))?;").matcher(face);
        List<String> due = new ArrayList<>();
        while (call.find()) {
            due.add(call.group(1) + " " + call.group(2) + "(" + typesOf(call.group(3)) + ") " + call.group(4));
        }
        List<String> got = new ArrayList<>();
        for (Constructor<?> made : RoyalTree.class.getConstructors()) {
            got.add("null RoyalTree(" + namesOf(made.getParameterTypes()) + ") " + thrownBy(made));
        }
        for (Method method : RoyalTree.class.getDeclaredMethods()) {
            if (Modifier.isPublic(method.getModifiers())) {
                got.add(method.getReturnType().getSimpleName() + " " + method.getName() + "("
                        + namesOf(method.getParameterTypes()) + ") " + thrownBy(method));
            }
        }
        due.sort(null);
        got.sort(null);
        CHECK.is("the calls of the face", got, due);
        CHECK.is("how many calls the face has", got.size(), 36);
    }

    private static String typesOf(String parameters) {
        List<String> types = new ArrayList<>();
        for (String parameter : parameters.split(", ")) {
            if (!parameter.isEmpty()) {
                types.add(parameter.substring(0, parameter.indexOf(' ')));
            }
        }
        return String.join(",", types);
    }

    private static String namesOf(Class<?>[] types) {
        return String.join(",", Arrays.stream(types).map(Class::getSimpleName).toList());
    }

    private static String thrownBy(Executable call) {
        String thrown = String.join(", ", Arrays.stream(call.getExceptionTypes()).map(Class::getSimpleName).toList());
        return thrown.isEmpty() ? "null" : thrown;
    }

    private static void nothingElseIsVisible() {
        Set<String> publicNames = new HashSet<>();
        for (Method method : RoyalTree.class.getDeclaredMethods()) {
            if (Modifier.isPublic(method.getModifiers())) {
                publicNames.add(method.getName());
            }
        }
        for (Field field : RoyalTree.class.getDeclaredFields()) {
            CHECK.is(field + " is private", Modifier.isPrivate(field.getModifiers()), true);
        }
        for (Class<?> inside : allClasses()) {
            for (Method method : inside.getDeclaredMethods()) {
                boolean ofFace = inside == RoyalTree.class && Modifier.isPublic(method.getModifiers());
                if (!ofFace && !method.isSynthetic()) {
                    CHECK.is(method + " bears a name of the face", publicNames.contains(method.getName()), false);
                    boolean hidden = inside != RoyalTree.class || Modifier.isPrivate(method.getModifiers());
                    CHECK.is(method + " is hidden", hidden, true);
                }
            }
        }
        int modifiers = RoyalTree.class.getModifiers();
        CHECK.is("the class is public and final", Modifier.isPublic(modifiers) && Modifier.isFinal(modifiers), true);
    }

    private static List<Class<?>> allClasses() {
        List<Class<?>> all = new ArrayList<>(List.of(RoyalTree.class.getDeclaredClasses()));
        all.add(RoyalTree.class);
        return all;
    }
}
