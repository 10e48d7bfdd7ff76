import java.lang.reflect.Constructor;
import java.lang.reflect.Field;
import java.lang.reflect.Method;
import java.lang.reflect.Modifier;
import java.util.Set;
import java.util.TreeSet;

/** The public face, and the rules of LANGUAGE.md on it that can be seen from the class. */
public final class FaceTest {
    public static void main(String[] args) {
        Checks c = new Checks("FaceTest");
        Class<?> face = DoorActs.class;
        c.due("public", Modifier.isPublic(face.getModifiers()), true);
        c.due("final", Modifier.isFinal(face.getModifiers()), true);
        constants(c);
        fields(c, face);
        methods(c, face);
        Constructor<?>[] constructors = face.getDeclaredConstructors();
        c.due("one constructor", constructors.length, 1);
        c.due("it is public", Modifier.isPublic(constructors[0].getModifiers()), true);
        c.due("it has no parameters", constructors[0].getParameterCount(), 0);
        for (Class<?> inside : face.getDeclaredClasses()) {
            int m = inside.getModifiers();
            c.due(inside + " is not seen", Modifier.isPublic(m) || Modifier.isProtected(m), false);
            c.due(inside + " is static", Modifier.isStatic(m), true);
        }
        c.end();
    }

    private static void constants(Checks c) {
        c.due("UNKNOWN", DoorActs.UNKNOWN, -11);
        c.due("OUTSIDE", DoorActs.OUTSIDE, -12);
        c.due("STATE", DoorActs.STATE, -13);
        c.due("ROOM", DoorActs.ROOM, -14);
        c.due("WHO", DoorActs.WHO, -21);
        c.due("PROOF", DoorActs.PROOF, -22);
        c.due("CASH", DoorActs.CASH, -23);
    }

    private static void fields(Checks c, Class<?> face) {
        Set<String> names = Set.of("UNKNOWN", "OUTSIDE", "STATE", "ROOM", "WHO", "PROOF", "CASH");
        int seen = 0;
        for (Field field : face.getDeclaredFields()) {
            int m = field.getModifiers();
            if (names.contains(field.getName())) {
                seen++;
                c.due(field + " is a public constant", m, Modifier.PUBLIC | Modifier.STATIC | Modifier.FINAL);
            } else {
                c.due(field + " is private", Modifier.isPrivate(m), true);
            }
            c.due(field + " is final if static", Modifier.isStatic(m) && !Modifier.isFinal(m), false);
        }
        c.due("all constants", seen, names.size());
    }

    private static void methods(Checks c, Class<?> face) {
        Set<String> want = new TreeSet<>(Set.of(
            "public int DoorActs.item(int,int)",
            "public int DoorActs.consent(int,int,int)",
            "public int DoorActs.act(int,int,int,int,int,long)",
            "public int DoorActs.join(int)",
            "public int DoorActs.clash(int,int)",
            "public boolean DoorActs.cut(int,boolean)",
            "public int DoorActs.tries(int)",
            "public int DoorActs.tick(long)",
            "public int DoorActs.slip(int,int)",
            "public int DoorActs.cash(int,long)",
            "public int DoorActs.state(int)"));
        Set<String> publicNames = new TreeSet<>();
        Set<String> privateNames = new TreeSet<>();
        for (Method method : face.getDeclaredMethods()) {
            if (Modifier.isPrivate(method.getModifiers())) {
                privateNames.add(method.getName());
            } else {
                publicNames.add(method.getName());
                c.due(method + " is of the face", want.remove(method.toString()), true);
            }
        }
        c.due("methods that lack: " + want, want.size(), 0);
        for (String name : privateNames) {
            c.due(name + " is not the name of a public one", publicNames.contains(name), false);
        }
    }
}
