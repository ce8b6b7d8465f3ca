import java.io.IOException;
import java.lang.reflect.Constructor;
import java.lang.reflect.Field;
import java.lang.reflect.Method;
import java.lang.reflect.Modifier;
import java.nio.file.Files;
import java.nio.file.Path;
import java.util.Set;
import java.util.TreeSet;
import java.util.regex.Matcher;
import java.util.regex.Pattern;

/** The public face of the class, and what LANGUAGE.md rules out of its file. */
public final class FaceTest {
    private static final Due DUE = new Due("FaceTest");
    private static final Set<String> FACE = Set.of("rules", "fold", "hold", "open", "cell", "layers", "at",
            "crease", "feed", "end", "hands", "fault", "sheet", "torque", "rests", "stays", "snap", "ways", "see",
            "look", "orders", "next", "image", "back", "about");

    public static void main(String[] args) throws IOException {
        face();
        insides();
        words();
        DUE.end();
    }

    private static void face() {
        Class<?> c = CreasedPaper.class;
        DUE.is("public and final", Modifier.isPublic(c.getModifiers()) && Modifier.isFinal(c.getModifiers()), true);
        Constructor<?>[] makers = c.getDeclaredConstructors();
        DUE.is("constructors", makers.length, 1);
        Set<String> seen = new TreeSet<>();
        for (Method m : c.getDeclaredMethods()) {
            if (!Modifier.isPrivate(m.getModifiers())) {
                DUE.is(m.getName() + " is public, of the face, and not static",
                        Modifier.isPublic(m.getModifiers()) && !Modifier.isStatic(m.getModifiers())
                                && FACE.contains(m.getName()) && seen.add(m.getName()), true);
                boolean asks = m.getName().equals("rules") || m.getName().equals("look");
                DUE.is(m.getName() + "'s answer", m.getReturnType() == (asks ? boolean.class : int.class), true);
            } else {
                DUE.is(m.getName() + " has a name of its own", FACE.contains(m.getName()), false);
            }
        }
        DUE.is("all of the face", seen.size(), FACE.size());
        for (Field f : c.getDeclaredFields()) {
            boolean none = f.getName().equals("NONE");
            DUE.is(f.getName(), none ? Modifier.isPublic(f.getModifiers()) : Modifier.isPrivate(f.getModifiers()),
                    true);
        }
    }

    private static void insides() {
        Class<?>[] classes = CreasedPaper.class.getDeclaredClasses();
        DUE.is("at most twelve classes", classes.length < 12, true);
        for (Class<?> c : classes) {
            DUE.is(c.getName() + " is static", Modifier.isStatic(c.getModifiers()), true);
            int fields = 0;
            for (Field f : c.getDeclaredFields()) {
                if (Modifier.isStatic(f.getModifiers())) {
                    DUE.is(f.getName() + " is final", Modifier.isFinal(f.getModifiers()), true);
                } else {
                    fields++;
                }
            }
            DUE.is(c.getName() + " has few fields", fields <= 20, true);
            for (Method m : c.getDeclaredMethods()) {
                DUE.is(m.getName() + " has a name of its own", FACE.contains(m.getName()), false);
                DUE.is(m.getName() + " takes at most seven", m.getParameterCount() <= 7, true);
            }
        }
    }

    private static void words() throws IOException {
        String source = Files.readString(Path.of("src/main/java/CreasedPaper.java"));
        String code = source.replaceAll("(?s)/\\*.*?\\*/", " ").replaceAll("//[^\n]*", " ");
        String ruledOut = "\\b(package|throw|throws|try|catch|synchronized|assert|random|currentTimeMillis|"
                + "nanoTime|Thread|File|HashMap|Object|hashCode|native|volatile|transient|var|\\w+Exact)\\b|->|::";
        Matcher m = Pattern.compile(ruledOut).matcher(code);
        while (m.find()) {
            DUE.is("the file has " + m.group(), 1, 0);
        }
        for (int i = 0; i < source.length(); i++) {
            if (source.charAt(i) > 126) {
                DUE.is("a sign at " + i, source.charAt(i), 0);
            }
        }
        DUE.is("texts are not joined by +", Pattern.compile("\"\\s*\\+|\\+\\s*\"").matcher(code).find(), false);
        DUE.is("no import", Pattern.compile("(?m)^import").matcher(code).find(), false);
    }
}
