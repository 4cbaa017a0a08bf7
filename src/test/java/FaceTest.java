import java.lang.reflect.Constructor;
import java.lang.reflect.Executable;
import java.lang.reflect.Field;
import java.lang.reflect.Method;
import java.lang.reflect.Modifier;
import java.nio.file.Files;
import java.nio.file.Path;
import java.util.Arrays;
import java.util.Set;
import java.util.TreeSet;
import java.util.regex.Pattern;

/** The public face, and the rules of LANGUAGE.md that can be seen from outside or in the text. */
public final class FaceTest {
    private static final Check CHECK = new Check();

    private static final Set<String> FACE = Set.of(
        "public MakerOrders()",
        "public int MakerOrders.exp(int,long,int,int)",
        "public int MakerOrders.type(int,int,int)",
        "public int MakerOrders.passed(int,int)",
        "public int MakerOrders.begins(int,int,int)",
        "public int MakerOrders.method(int,int,boolean,int)",
        "public int MakerOrders.act(int,int,int,int,int)",
        "public int MakerOrders.make(int,long,long,long,long)",
        "public int MakerOrders.call(int,int,long)",
        "public long MakerOrders.result()",
        "public int MakerOrders.told(int,int)",
        "public long MakerOrders.field(int,int,int)",
        "public long MakerOrders.capture(int,int,int)",
        "public int MakerOrders.below(int,int)",
        "public int MakerOrders.finds(int,int,int)",
        "public long MakerOrders.logged(int)",
        "public int MakerOrders.logOf(int,int)",
        "public int MakerOrders.count(int)",
        "public int MakerOrders.clear()",
        "public static final int MakerOrders.NONE",
        "public static final int MakerOrders.UNKNOWN",
        "public static final int MakerOrders.OUTSIDE",
        "public static final int MakerOrders.STATE",
        "public static final int MakerOrders.ROOM");

    public static void main(String[] args) throws Exception {
        face();
        names();
        classes();
        text();
        CHECK.end();
    }

    private static void isTrue(String what, boolean holds) {
        CHECK.due(what, holds ? 1 : 0, 1);
    }

    private static void face() {
        Set<String> seen = new TreeSet<>();
        for (Constructor<?> constructor : MakerOrders.class.getDeclaredConstructors()) {
            addIfSeen(seen, constructor.getModifiers(), constructor.toString());
        }
        for (Method method : MakerOrders.class.getDeclaredMethods()) {
            addIfSeen(seen, method.getModifiers(), method.toString());
        }
        for (Field field : MakerOrders.class.getDeclaredFields()) {
            addIfSeen(seen, field.getModifiers(), field.toString());
        }
        for (String member : FACE) {
            isTrue("missing: " + member, seen.contains(member));
        }
        for (String member : seen) {
            isTrue("not of the face: " + member, FACE.contains(member));
        }
        int modifiers = MakerOrders.class.getModifiers();
        isTrue("public", Modifier.isPublic(modifiers));
        isTrue("final", Modifier.isFinal(modifiers));
    }

    private static void addIfSeen(Set<String> seen, int modifiers, String member) {
        if (!Modifier.isPrivate(modifiers)) {
            seen.add(member);
        }
    }

    private static void names() {
        Set<String> publicNames = new TreeSet<>();
        for (Method method : MakerOrders.class.getDeclaredMethods()) {
            if (Modifier.isPublic(method.getModifiers())) {
                publicNames.add(method.getName());
            }
        }
        for (Class<?> owner : withNested()) {
            for (Method method : owner.getDeclaredMethods()) {
                boolean ofTheFace = owner == MakerOrders.class && Modifier.isPublic(method.getModifiers());
                isTrue(method + " bears a public name", ofTheFace || !publicNames.contains(method.getName()));
            }
        }
    }

    private static Class<?>[] withNested() {
        Class<?>[] nested = MakerOrders.class.getDeclaredClasses();
        Class<?>[] all = Arrays.copyOf(nested, nested.length + 1);
        all[nested.length] = MakerOrders.class;
        return all;
    }

    private static void classes() {
        isTrue("at most twelve classes", withNested().length <= 12);
        for (Class<?> owner : withNested()) {
            isTrue(owner + " is static", owner == MakerOrders.class || Modifier.isStatic(owner.getModifiers()));
            int fields = 0;
            for (Field field : owner.getDeclaredFields()) {
                boolean isStatic = Modifier.isStatic(field.getModifiers());
                fields += isStatic ? 0 : 1;
                isTrue(field + " is final", !isStatic || Modifier.isFinal(field.getModifiers()));
            }
            isTrue(owner + " has at most twenty fields", fields <= 20);
            for (Executable member : owner.getDeclaredMethods()) {
                isTrue(member + " has at most seven parameters", member.getParameterCount() <= 7);
            }
        }
    }

    private static void text() throws Exception {
        String source = Files.readString(Path.of("src/main/java/MakerOrders.java"));
        String code = source.replaceAll("(?s)/\\*.*?\\*/", "").replaceAll("//.*", "");
        String[] words = {"throw", "throws", "try", "catch", "synchronized", "assert", "import", "package", "System",
            "Thread", "Random", "Object", "->", "::"};
        for (String word : words) {
            String pattern = Character.isLetter(word.charAt(0)) ? "\\b" + word + "\\b" : Pattern.quote(word);
            isTrue("the text has " + word, !Pattern.compile(pattern).matcher(code).find());
        }
    }
}
