import java.lang.reflect.Constructor;
import java.lang.reflect.Field;
import java.lang.reflect.Method;
import java.lang.reflect.Modifier;
import java.util.Arrays;
import java.util.Set;
import java.util.TreeSet;

/** The public face, and rule 1 of LANGUAGE.md: nothing beside it can be seen. */
public final class FaceTest {
    private static final String[] FACE = {"int letter(int)", "int blank()", "int fault()", "int disk()", "int set(int,int)",
        "int harm(int,int)", "int format(boolean)", "int of(int,int)", "int place(int)", "int as(int,int)", "int read(int)",
        "int write(int)", "int pending(int)", "int runs(int)", "int ticks(int,int)", "int rate(int,int)", "long mean()",
        "int skew(int)", "int count(int)", "long digest()"};

    public static void main(String[] args) {
        Due due = new Due();
        constants(due);
        members(due);
        nestedClasses(due);
        due.end();
    }

    private static void constants(Due due) {
        due.is("NONE", SlippedPlaces.NONE, -1);
        due.is("UNKNOWN", SlippedPlaces.UNKNOWN, -1001);
        due.is("OUTSIDE", SlippedPlaces.OUTSIDE, -1002);
        due.is("STATE", SlippedPlaces.STATE, -1003);
        due.is("FULL", SlippedPlaces.FULL, -1004);
        Set<String> seen = new TreeSet<>();
        for (Field f : SlippedPlaces.class.getDeclaredFields()) {
            if (!Modifier.isPrivate(f.getModifiers())) {
                seen.add(f.getName());
                due.holds(f + " is an int that stays", f.getType() == int.class && Modifier.isPublic(f.getModifiers())
                    && Modifier.isStatic(f.getModifiers()) && Modifier.isFinal(f.getModifiers()));
            }
        }
        due.holds("no field beside the constants is seen: " + seen,
            seen.equals(new TreeSet<>(Arrays.asList("NONE", "UNKNOWN", "OUTSIDE", "STATE", "FULL"))));
    }

    private static void members(Due due) {
        due.holds("public and final", Modifier.isPublic(SlippedPlaces.class.getModifiers())
            && Modifier.isFinal(SlippedPlaces.class.getModifiers()));
        Constructor<?>[] constructors = SlippedPlaces.class.getDeclaredConstructors();
        due.holds("one public constructor", constructors.length == 1 && constructors[0].getParameterCount() == 0
            && Modifier.isPublic(constructors[0].getModifiers()));
        Set<String> seen = new TreeSet<>();
        Set<String> names = new TreeSet<>();
        for (Method m : SlippedPlaces.class.getDeclaredMethods()) {
            if (!Modifier.isPrivate(m.getModifiers())) {
                String all = m.toGenericString();
                seen.add(all.replace("public ", "").replace("SlippedPlaces.", ""));
                names.add(m.getName());
                due.holds(all + " is public", Modifier.isPublic(m.getModifiers()));
            }
        }
        due.holds("the methods of the document, no others: " + seen, seen.equals(new TreeSet<>(Arrays.asList(FACE))));
        for (Method m : SlippedPlaces.class.getDeclaredMethods()) {
            due.holds(m + " has a name of its own", !Modifier.isPrivate(m.getModifiers()) || !names.contains(m.getName()));
        }
    }

    private static void nestedClasses(Due due) {
        Class<?>[] nested = SlippedPlaces.class.getDeclaredClasses();
        due.holds("at most twelve classes", nested.length < 12);
        for (Class<?> c : nested) {
            due.holds(c + " is static and not seen", Modifier.isStatic(c.getModifiers())
                && !Modifier.isPublic(c.getModifiers()) && !Modifier.isProtected(c.getModifiers()));
            due.holds(c + " has some twenty fields at most", c.getDeclaredFields().length <= 20);
        }
    }
}
