import java.lang.reflect.Constructor;
import java.lang.reflect.Field;
import java.lang.reflect.Method;
import java.lang.reflect.Modifier;
import java.nio.file.Files;
import java.nio.file.Path;
import java.nio.file.Paths;
import java.util.Arrays;
import java.util.HashMap;
import java.util.HashSet;
import java.util.Map;
import java.util.Set;

/** The public face, and what of LANGUAGE.md a look at the source can tell. */
public final class FaceTest {
    private static final String FACE = "feed(IIIII)I end(I)Z land()I fault()I law(II)I man(II)I place(II)I now(I)I go(II)I "
            + "act(II)I wear(II)I fever(I)I post(II)I rain(I)I days(I)I undo()I words(II)I state(II)I binds(I)I barred(I)I "
            + "lifted(I)I bound(I)I forgets(II)I way(III)I step(I)I meets(II)I boards(III)I posts(II)I posted()I reads(I)I "
            + "surely()I when(III)I clerks(I)I drawn(II)I odds(III)I diary(I)I told(I)I sentence()I said(I)I image(I)Z "
            + "restore(I)Z count(I)I";

    public static void main(String[] args) throws Exception {
        members();
        source();
        Check.end();
    }

    private static void members() {
        Set<String> due = new HashSet<>(Arrays.asList(FACE.split(" ")));
        Set<String> names = new HashSet<>();
        Map<String, Integer> privates = new HashMap<>();
        for (Method method : ReadBound.class.getDeclaredMethods()) {
            StringBuilder text = new StringBuilder(method.getName()).append('(');
            for (Class<?> type : method.getParameterTypes()) {
                text.append(type == int.class ? 'I' : '?');
            }
            text.append(')').append(method.getReturnType() == boolean.class ? 'Z' : method.getReturnType() == int.class ? 'I' : '?');
            if (Modifier.isPrivate(method.getModifiers())) {
                privates.put(method.getName(), 1);
            } else {
                Check.due("public " + text, Modifier.isPublic(method.getModifiers()) && due.remove(text.toString()), true);
                names.add(method.getName());
            }
        }
        Check.due("methods that lack: " + due, due.size(), 0);
        for (Class<?> inside : ReadBound.class.getDeclaredClasses()) {
            Check.due(inside + " is static", Modifier.isStatic(inside.getModifiers()), true);
            Check.due(inside + " is no public one", Modifier.isPublic(inside.getModifiers()), false);
            for (Method method : inside.getDeclaredMethods()) {
                privates.put(method.getName(), 1);
            }
        }
        privates.keySet().retainAll(names);
        Check.due("private methods by public names: " + privates, privates.size(), 0);
        for (Field field : ReadBound.class.getDeclaredFields()) {
            boolean none = field.getName().equals("NONE");
            Check.due(field + " is private", Modifier.isPrivate(field.getModifiers()), !none);
            Check.due(field + " is final if static", !Modifier.isStatic(field.getModifiers()) || Modifier.isFinal(field.getModifiers()), true);
        }
        Constructor<?>[] constructors = ReadBound.class.getDeclaredConstructors();
        Check.due("constructors", constructors.length, 1);
        Check.due("public constructor", Modifier.isPublic(constructors[0].getModifiers()) && constructors[0].getParameterCount() == 0, true);
        Check.due("public final class", Modifier.isPublic(ReadBound.class.getModifiers()) && Modifier.isFinal(ReadBound.class.getModifiers()), true);
        Check.due("NONE", ReadBound.NONE, -1);
    }

    private static void source() throws Exception {
        Path path = Paths.get("src/main/java/ReadBound.java");
        String text = new String(Files.readAllBytes(path), "ISO-8859-1").replaceAll("(?s)/\\*.*?\\*/|//[^\n]*", "");
        for (String never : new String[] {"->", "::", "try", "catch", "finally", "synchronized", "assert ", "instanceof",
            "double", "float", "Exact", "System.out", "static {", "@", "new String", "null", "package "}) {
            Check.due("'" + never + "' in the source", text.contains(never), false);
        }
        for (String line : text.split("\n")) {
            if (line.startsWith("import")) {
                Check.due(line, line.equals("import java.util.NoSuchElementException;"), true);
            }
        }
        // an index is used in the few methods that look at it alone
        String[] lines = text.split("\n");
        int uses = 0;
        for (String line : lines) {
            if (line.matches(".*\\w\\[[^\\]]+\\].*") && !line.contains("new ")) {
                uses++;
            }
        }
        Check.due("lines that use an index", uses <= 14, true);
    }
}
