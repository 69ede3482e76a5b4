import java.lang.reflect.Constructor;
import java.lang.reflect.Field;
import java.lang.reflect.Method;
import java.lang.reflect.Modifier;
import java.util.TreeSet;

/** The face: the document's members and no other that can be seen. */
public final class FaceTest {
    private static final String[] FACE = {
        "int feed(int int int int int)", "int beach(int)", "int fault()", "int where()", "int person(int int)",
        "int post(int int)", "int time(int int)", "int sinkers()", "int first()", "int under(int)", "int lost(int)",
        "int worstMinute()", "int reached()", "int nearest(int)", "int cover()", "int covers()", "int bestPost()",
        "int bestPlace(int)", "int limitFor()", "int alone(int)", "int aloneAt(int int)", "int aloneFree(int)",
        "int bestAlone()", "int seats()", "int seatOf(int)", "int company(int)", "long odds(int boolean)",
        "int likeliest()", "long among(int boolean)", "int suspects()", "int flag(int)", "int teach()", "int hears(int)",
        "int looks(int boolean boolean boolean)", "int rests(int)", "int rest(int)", "long safe(boolean)",
        "long sinking(int boolean)", "long mean(boolean)", "int afternoons(int int int)", "int worst(int int)",
        "boolean man(int)", "boolean leave(int)", "int seat(int int)", "int minute(int)", "int lift(int)",
        "boolean undo()", "int image()", "boolean back(int)", "int led(int)", "int size(int)", "int trouble()"};

    private FaceTest() {
    }

    public static void main(String[] args) {
        Class<?> face = ShoreGuards.class;
        Check.due("public and final", face.getModifiers() & 0xffff, Modifier.PUBLIC | Modifier.FINAL);
        TreeSet<String> due = new TreeSet<>(java.util.Arrays.asList(FACE));
        TreeSet<String> seen = new TreeSet<>();
        TreeSet<String> publicNames = new TreeSet<>();
        for (Method m : face.getDeclaredMethods()) {
            if (!Modifier.isPrivate(m.getModifiers()) && !m.isSynthetic()) {
                seen.add(signature(m));
                publicNames.add(m.getName());
                Check.due(m.getName() + " is public and no static", m.getModifiers(), Modifier.PUBLIC);
            }
        }
        if (!seen.equals(due)) {
            System.out.println("the face is " + seen);
        }
        Check.due("the document's methods", seen.equals(due), true);
        for (Method m : face.getDeclaredMethods()) {
            Check.due(m.getName() + " is private and named as a public one",
                Modifier.isPrivate(m.getModifiers()) && publicNames.contains(m.getName()), false);
        }
        for (Field f : face.getDeclaredFields()) {
            boolean isNone = f.getName().equals("NONE");
            Check.due(f.getName() + " can be seen", !Modifier.isPrivate(f.getModifiers()), isNone);
        }
        Constructor<?>[] made = face.getDeclaredConstructors();
        Check.due("constructors", made.length, 1);
        Check.due("constructor's parameters", made[0].getParameterCount(), 0);
        for (Class<?> inside : face.getDeclaredClasses()) {
            Check.due(inside + " is static", Modifier.isStatic(inside.getModifiers()), true);
            Check.due(inside + " isn't public", Modifier.isPublic(inside.getModifiers()), false);
            for (Method m : inside.getDeclaredMethods()) {
                Check.due(inside + " has " + m.getName() + ", named as a public one", publicNames.contains(m.getName()), false);
            }
        }
        Check.finish();
    }

    private static String signature(Method m) {
        StringBuilder text = new StringBuilder(m.getReturnType() + " " + m.getName() + "(");
        for (int i = 0; i < m.getParameterCount(); i++) {
            text.append(i == 0 ? "" : " ").append(m.getParameterTypes()[i]);
        }
        return text.append(")").toString();
    }
}
