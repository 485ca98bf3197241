import java.lang.reflect.Constructor;
import java.lang.reflect.Field;
import java.lang.reflect.Method;
import java.lang.reflect.Modifier;
import java.nio.file.Files;
import java.nio.file.Path;
import java.util.Arrays;
import java.util.Set;
import java.util.TreeSet;
import java.util.regex.Pattern;

/** The public face, exactly as the document has it, and those rules of LANGUAGE.md that can be seen from outside. */
public final class FaceTest {
    private static final String[] FACE = {
        "int feed(int,int,int,int,int)", "int end(int)", "int packet(int)", "int drop(int)", "int at(int,int)", "int read(int)",
        "int finding(int)", "int kind(int,int)", "long field(int,int,int)", "int place(int,int)", "int carried(int,int,int)",
        "int sum(int,int)", "int repair(int)", "int set(int,int,int)", "long digest(int)", "int gather(int)", "int gathered(int)",
        "int tick(int)", "int track(int)", "int flow(int,int)", "long flowed(int,int)", "int close(int)", "int pool(int,int,int,int)",
        "int change(int,int)", "int turn(int)", "int rules()", "int wrong()", "int verdict(int)", "int why(int)", "long counter(int)",
        "long logged(int)", "long learned(int,int)", "int bucket(int,int,int)", "int has(int)", "long rowAt(int,int)", "long mark(int)",
        "int export()", "int restore()", "int tape(int)", "int told(int)"
    };

    public static void main(String[] args) throws Exception {
        methods();
        constants();
        insideClasses();
        source();
        Wall.finish();
    }

    private static void methods() {
        Set<String> face = new TreeSet<>();
        Set<String> names = new TreeSet<>();
        for (Method m : PacketWall.class.getDeclaredMethods()) {
            if (!Modifier.isPrivate(m.getModifiers())) {
                StringBuilder told = new StringBuilder(m.getReturnType() + " " + m.getName() + "(");
                for (Class<?> type : m.getParameterTypes()) {
                    told.append(told.charAt(told.length() - 1) == '(' ? "" : ",").append(type);
                }
                face.add(told + ")");
                names.add(m.getName());
            }
        }
        Wall.due("the face " + face, face.equals(new TreeSet<>(Arrays.asList(FACE))) ? 1 : 0, 1);
        Constructor<?>[] made = PacketWall.class.getDeclaredConstructors();
        Wall.due("constructors", made.length, 1);
        Wall.due("a public one without parameters", Modifier.isPublic(made[0].getModifiers()) ? made[0].getParameterCount() : 9, 0);
        for (Class<?> inside : PacketWall.class.getDeclaredClasses()) {
            for (Method m : inside.getDeclaredMethods()) {
                Wall.due("a method in " + inside + " with a public name: " + m.getName(), names.contains(m.getName()) ? 1 : 0, 0);
                Wall.due("parameters of " + m, m.getParameterCount() > 7 ? 1 : 0, 0);
            }
        }
        for (Method m : PacketWall.class.getDeclaredMethods()) {
            boolean hidden = Modifier.isPrivate(m.getModifiers());
            Wall.due("a private method with a public name: " + m, hidden && names.contains(m.getName()) ? 1 : 0, 0);
        }
    }

    private static void constants() throws IllegalAccessException {
        String[] names = {"NONE", "UNKNOWN", "OUTSIDE", "STATE", "ROOM", "NOT_BEGUN", "REFUSED", "OUT"};
        int shown = 0;
        for (Field f : PacketWall.class.getDeclaredFields()) {
            if (!Modifier.isPrivate(f.getModifiers())) {
                shown++;
                int at = Arrays.asList(names).indexOf(f.getName());
                Wall.due("constant " + f.getName(), f.getInt(null), -1 - at);
                Wall.due("it is public, static, final", f.getModifiers(), Modifier.PUBLIC | Modifier.STATIC | Modifier.FINAL);
            }
        }
        Wall.due("constants", shown, names.length);
        Wall.due("the class is final", Modifier.isFinal(PacketWall.class.getModifiers()) ? 1 : 0, 1);
    }

    private static void insideClasses() {
        Class<?>[] inside = PacketWall.class.getDeclaredClasses();
        Wall.due("at most eleven classes inside", inside.length > 11 ? inside.length : 11, 11);
        for (Class<?> c : inside) {
            Wall.due(c + " is static", Modifier.isStatic(c.getModifiers()) ? 1 : 0, 1);
            int fields = 0;
            for (Field f : c.getDeclaredFields()) {
                fields += Modifier.isStatic(f.getModifiers()) ? 0 : 1;
                boolean loose = Modifier.isStatic(f.getModifiers()) && !Modifier.isFinal(f.getModifiers());
                Wall.due("static state " + f, loose ? 1 : 0, 0);
            }
            Wall.due(c + " has at most twenty fields", Math.max(fields, 20), 20);
        }
    }

    private static void source() throws Exception {
        String text = Files.readString(Path.of("src/main/java/PacketWall.java"));
        String bare = text.replaceAll("(?s)/\\*.*?\\*/", " ").replaceAll("//[^\n]*", " ").replaceAll("\"[^\"\n]*\"", "\"\"");
        String[] banned = {"\\bthrow\\b", "\\btry\\b", "\\bcatch\\b", "\\bsynchronized\\b", "\\bassert\\b", "\\bimport\\b", "\\bpackage\\b",
            "->", "::", "\\bprotected\\b", "Exact\\b", "\\bequals\\b", "\\bhashCode\\b", "\"\" *\\+", "\\+ *\"\"", "\\bthrows\\b"};
        for (String word : banned) {
            Wall.due("rule of LANGUAGE.md: " + word, Pattern.compile(word).matcher(bare).find() ? 1 : 0, 0);
        }
        for (int i = 0; i < text.length(); i++) {
            Wall.due("a character above 126 at " + i, text.charAt(i) > 126 ? 1 : 0, 0);
        }
    }
}
