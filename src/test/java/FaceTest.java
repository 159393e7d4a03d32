import java.lang.reflect.Constructor;
import java.lang.reflect.Field;
import java.lang.reflect.Method;
import java.lang.reflect.Modifier;
import java.util.Set;
import java.util.TreeSet;

/** The public face of the document, and nothing beside it that is not private (LANGUAGE.md, rule 1). */
public final class FaceTest {
    private static final String METHODS = "int alike(int,int); int clear(); int copy(int,int,int,int,int,int,int); "
            + "int count(int); int deep(int); int distances(int); int entered(); int fall(int,int); int get(int,int,int); "
            + "int odd(int); int pack(int); int product(int,int); int put(int,int,int,int); int row(int,int,int); "
            + "int same(int,int,int,int); int share(int,int,int,int); int table(int,int); int told(int,int,int); "
            + "int total(int); int turned(int); int word(int); double real(int,int,int); ";

    public static void main(String[] args) {
        Due.is("the class is public and final", NestTables.class.getModifiers(), Modifier.PUBLIC | Modifier.FINAL);
        Due.text("the methods that are not private", join(openMethods()), join(Set.of(METHODS.split("; "))));
        Due.text("the fields that are not private", join(openFields()),
                join(Set.of("int NONE", "int OUTSIDE", "int ROOM", "int STATE", "int UNKNOWN")));
        Constructor<?>[] made = NestTables.class.getDeclaredConstructors();
        Due.is("constructors", made.length, 1);
        Due.is("the constructor is public", made[0].getModifiers(), Modifier.PUBLIC);
        Due.is("the constructor's parameters", made[0].getParameterCount(), 0);
        Due.is("UNKNOWN", NestTables.UNKNOWN, -1000001);
        Due.is("OUTSIDE", NestTables.OUTSIDE, -1000002);
        Due.is("STATE", NestTables.STATE, -1000003);
        Due.is("ROOM", NestTables.ROOM, -1000004);
        Due.is("NONE", NestTables.NONE, -1000009);
        Due.end();
    }

    private static Set<String> openMethods() {
        Set<String> found = new TreeSet<>();
        for (Method m : NestTables.class.getDeclaredMethods()) {
            if (!Modifier.isPrivate(m.getModifiers())) {
                StringBuilder types = new StringBuilder();
                for (Class<?> type : m.getParameterTypes()) {
                    types.append(types.length() == 0 ? "" : ",").append(type);
                }
                String odd = m.getModifiers() == Modifier.PUBLIC ? "" : Modifier.toString(m.getModifiers()) + " ";
                found.add(odd + m.getReturnType() + " " + m.getName() + "(" + types + ")");
            }
        }
        return found;
    }

    private static Set<String> openFields() {
        Set<String> found = new TreeSet<>();
        int constant = Modifier.PUBLIC | Modifier.STATIC | Modifier.FINAL;
        for (Field f : NestTables.class.getDeclaredFields()) {
            if (!Modifier.isPrivate(f.getModifiers())) {
                String odd = f.getModifiers() == constant ? "" : Modifier.toString(f.getModifiers()) + " ";
                found.add(odd + f.getType() + " " + f.getName());
            }
        }
        return found;
    }

    private static String join(Set<String> names) {
        return String.join("; ", new TreeSet<>(names));
    }
}
