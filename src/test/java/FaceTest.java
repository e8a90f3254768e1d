import java.lang.reflect.Constructor;
import java.lang.reflect.Field;
import java.lang.reflect.Method;
import java.lang.reflect.Modifier;
import java.util.Set;
import java.util.TreeSet;

/** The public face is the document's, and nothing else of the class can be seen (rule 1 of LANGUAGE.md). */
public final class FaceTest {
    private static final String[] FACE = {
        "public static final int CallWalker.BAD", "public static final int CallWalker.FULL",
        "public static final int CallWalker.OUT", "public CallWalker()",
        "public int CallWalker.step(int,int,int,int)", "public int CallWalker.empty(int,int)",
        "public int CallWalker.guard(int,boolean)", "public int CallWalker.fund(int,long)",
        "public int CallWalker.run(int,int,long,int)", "public long CallWalker.given()",
        "public int CallWalker.told(int)", "public long CallWalker.leaf(int,int)",
        "public long CallWalker.balance(int)", "public int CallWalker.events()",
        "public int CallWalker.event(int,int)",
        "public long CallWalker.value(int) throws java.lang.IndexOutOfBoundsException"
    };

    public static void main(String[] args) {
        Checks checks = new Checks();
        Set<String> due = new TreeSet<>(Set.of(FACE));
        Set<String> seen = new TreeSet<>();
        for (Field field : CallWalker.class.getDeclaredFields()) {
            note(seen, field.getModifiers(), field.toString());
        }
        for (Constructor<?> made : CallWalker.class.getDeclaredConstructors()) {
            note(seen, made.getModifiers(), made.toString());
        }
        Set<String> open = new TreeSet<>();
        Set<String> hidden = new TreeSet<>();
        for (Method method : CallWalker.class.getDeclaredMethods()) {
            note(seen, method.getModifiers(), method.toString());
            (Modifier.isPublic(method.getModifiers()) ? open : hidden).add(method.getName());
        }
        for (String line : due) {
            checks.same("is there: " + line, seen.contains(line) ? 1 : 0, 1);
        }
        for (String line : seen) {
            checks.same("belongs there: " + line, due.contains(line) ? 1 : 0, 1);
        }
        for (String name : hidden) {
            checks.same("is a public name too: " + name, open.contains(name) ? 1 : 0, 0);
        }
        checks.same("final", Modifier.isFinal(CallWalker.class.getModifiers()) ? 1 : 0, 1);
        for (Class<?> inside : CallWalker.class.getDeclaredClasses()) {
            int open2 = inside.getModifiers() & (Modifier.PUBLIC | Modifier.PROTECTED);
            checks.same("hidden: " + inside.getName(), open2, 0);
        }
        checks.same("BAD", CallWalker.BAD, -1);
        checks.same("FULL", CallWalker.FULL, -2);
        checks.same("OUT", CallWalker.OUT, -3);
        checks.end();
    }

    private static void note(Set<String> seen, int modifiers, String line) {
        if (!Modifier.isPrivate(modifiers)) {
            seen.add(line);
        }
    }
}
