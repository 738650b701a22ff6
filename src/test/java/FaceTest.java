import java.io.IOException;
import java.lang.reflect.Constructor;
import java.lang.reflect.Executable;
import java.lang.reflect.Field;
import java.lang.reflect.Method;
import java.lang.reflect.Modifier;
import java.nio.file.Files;
import java.nio.file.Path;
import java.util.ArrayList;
import java.util.Collections;
import java.util.HashSet;
import java.util.List;
import java.util.Set;

/** The class shows the document's face and nothing else. */
public final class FaceTest {
    public static void main(String[] args) throws IOException {
        Checks checks = new Checks("FaceTest");
        Class<?> face = Miceline.class;
        checks.due("modifiers", Modifier.PUBLIC | Modifier.FINAL, face.getModifiers());
        checks.due("public methods", sorted(dueMethods()), sorted(publicMethods(face)));
        Constructor<?>[] made = face.getDeclaredConstructors();
        checks.due("constructors", 1, made.length);
        checks.due("the constructor's parameters", 0, made[0].getParameterCount());
        checks.due("the constructor throws nothing", 0, made[0].getExceptionTypes().length);
        checks.due("the constructor is public", true, Modifier.isPublic(made[0].getModifiers()));
        asWritten(checks);
        allPrivate(checks, face);
        ownNames(checks, face);
        innerClasses(checks, face);
        leftFree(checks, face);
        checks.end();
    }

    private static List<String> dueMethods() throws IOException {
        List<String> texts = new ArrayList<>();
        for (Face.Call call : Face.calls()) {
            if (!call.isConstructor()) {
                String text = call.answer + " " + call.name + "(" + String.join(",", call.types) + ")";
                texts.add(call.thrown.isEmpty() ? text : text + " " + String.join(" ", call.thrown));
            }
        }
        return texts;
    }

    /** The names of parameters, and the order of what is thrown, are those of the document, too. */
    private static void asWritten(Checks checks) throws IOException {
        String program = Files.readString(Path.of("src/main/java/Miceline.java")).replaceAll("\\s+", " ");
        List<Face.Call> calls = Face.calls();
        checks.due("calls of the document", 23, calls.size());
        for (Face.Call call : calls) {
            String thrown = call.thrown.isEmpty() ? "" : " throws " + String.join(", ", call.thrown);
            String due = "public " + call.said + thrown + " {";
            checks.due("the program has: " + due, true, program.contains(due));
        }
    }

    private static void leftFree(Checks checks, Class<?> face) {
        checks.sentence(0, "How the state is held inside the object is free, as are the speed of each call, the text "
                + "of toString and the behaviour of equals and hashCode.");
        for (Class<?> one : withInner(face)) {
            for (Method method : one.getDeclaredMethods()) {
                checks.due(one.getName() + " leaves " + method.getName() + " as it is", true,
                        !List.of("toString", "equals", "hashCode").contains(method.getName()));
            }
        }
        checks.sentence(0, "Use of one object from several threads at once is not promised to be safe.");
        for (Method method : face.getDeclaredMethods()) {
            checks.due(method.getName() + " takes no lock", false, Modifier.isSynchronized(method.getModifiers()));
        }
    }

    private static String sorted(List<String> texts) {
        List<String> copy = new ArrayList<>(texts);
        Collections.sort(copy);
        return String.join("\n", copy);
    }

    private static List<String> publicMethods(Class<?> face) {
        List<String> texts = new ArrayList<>();
        for (Method method : face.getDeclaredMethods()) {
            if (Modifier.isPublic(method.getModifiers())) {
                texts.add(signature(method));
            }
        }
        return texts;
    }

    private static String signature(Method method) {
        StringBuilder text = new StringBuilder(method.getReturnType().getSimpleName());
        text.append(' ').append(method.getName()).append('(');
        text.append(names(method.getParameterTypes(), ",")).append(')');
        String thrown = names(((Executable) method).getExceptionTypes(), " ");
        return thrown.isEmpty() ? text.toString() : text.append(' ').append(thrown).toString();
    }

    private static String names(Class<?>[] types, String between) {
        List<String> texts = new ArrayList<>();
        for (Class<?> type : types) {
            texts.add(type.getSimpleName());
        }
        return String.join(between, texts);
    }

    private static void allPrivate(Checks checks, Class<?> face) {
        for (Method method : face.getDeclaredMethods()) {
            int is = method.getModifiers();
            checks.due(method.getName() + " is public or private", true,
                    Modifier.isPublic(is) || Modifier.isPrivate(is));
        }
        for (Field field : face.getDeclaredFields()) {
            checks.due(field.getName() + " is private", true, Modifier.isPrivate(field.getModifiers()));
            checks.due(field.getName() + " is final, if static", true,
                    !Modifier.isStatic(field.getModifiers()) || Modifier.isFinal(field.getModifiers()));
        }
    }

    private static void ownNames(Checks checks, Class<?> face) {
        Set<String> shown = new HashSet<>();
        for (Method method : face.getDeclaredMethods()) {
            if (Modifier.isPublic(method.getModifiers())) {
                shown.add(method.getName());
            }
        }
        for (Class<?> one : withInner(face)) {
            for (Method method : one.getDeclaredMethods()) {
                boolean isFace = one == face && Modifier.isPublic(method.getModifiers());
                checks.due(one.getName() + "." + method.getName() + " bears a name of its own", true,
                        isFace || !shown.contains(method.getName()));
            }
        }
    }

    private static int fieldsOfObjects(Class<?> one) {
        int count = 0;
        for (Field field : one.getDeclaredFields()) {
            count += Modifier.isStatic(field.getModifiers()) ? 0 : 1;
        }
        return count;
    }

    private static List<Class<?>> withInner(Class<?> face) {
        List<Class<?>> all = new ArrayList<>(List.of(face.getDeclaredClasses()));
        all.add(face);
        return all;
    }

    private static void innerClasses(Checks checks, Class<?> face) {
        for (Class<?> inner : face.getDeclaredClasses()) {
            int is = inner.getModifiers();
            checks.due(inner.getName() + " is static", true, Modifier.isStatic(is));
            checks.due(inner.getName() + " is not shown", true, !Modifier.isPublic(is) && !Modifier.isProtected(is));
        }
        for (Class<?> one : withInner(face)) {
            checks.due(one.getName() + " has at most 20 fields", true, fieldsOfObjects(one) <= 20);
        }
        checks.due("at most 12 classes", true, face.getDeclaredClasses().length < 12);
    }
}
