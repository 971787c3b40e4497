import java.lang.reflect.Constructor;
import java.lang.reflect.Field;
import java.lang.reflect.Method;
import java.lang.reflect.Modifier;
import java.util.ArrayList;
import java.util.Collections;
import java.util.HashSet;
import java.util.List;
import java.util.Set;

/** The public face, and the rules of the language about members and static fields. */
final class FaceTest {
    private static final List<String> FACE = List.of(
            "void begin(int, int, int, int, int, boolean) throws IllegalArgumentException",
            "void set(int, int, int) throws IllegalArgumentException, IllegalStateException",
            "void fill(int, int, int) throws IllegalStateException",
            "void split() throws IllegalStateException",
            "void join(int) throws IllegalArgumentException, IllegalStateException",
            "int at(int, int) throws IllegalArgumentException, IllegalStateException",
            "float real(int, int) throws IllegalArgumentException, IllegalStateException",
            "int edge(int, int, int) throws IllegalArgumentException",
            "int band(int, int, int, int) throws IllegalArgumentException, IllegalStateException",
            "float bandReal(int, int, int, int) throws IllegalArgumentException, IllegalStateException",
            "void put(int, int, int, int, float) throws IllegalArgumentException, IllegalStateException",
            "int sum()");

    public static void main(String[] args) {
        Expect expect = new Expect();
        int mods = PlaneSplitter.class.getModifiers();
        expect.isTrue("the class is public and final", Modifier.isPublic(mods) && Modifier.isFinal(mods));
        methods(expect);
        constructors(expect);
        fields(expect, PlaneSplitter.class);
        for (Class<?> inside : PlaneSplitter.class.getDeclaredClasses()) {
            expect.isTrue(inside + " is static", Modifier.isStatic(inside.getModifiers()));
            expect.isTrue(inside + " is not public", !Modifier.isPublic(inside.getModifiers()));
            fields(expect, inside);
        }
        expect.end();
    }

    private static void methods(Expect expect) {
        List<String> got = new ArrayList<>();
        Set<String> hidden = new HashSet<>();
        Set<String> open = new HashSet<>();
        for (Method m : PlaneSplitter.class.getDeclaredMethods()) {
            if (Modifier.isPrivate(m.getModifiers())) {
                hidden.add(m.getName());
            } else {
                open.add(m.getName());
                got.add(told(m));
                expect.isTrue(m + " is public", Modifier.isPublic(m.getModifiers()));
                expect.isTrue(m + " is of an object", !Modifier.isStatic(m.getModifiers()));
            }
        }
        List<String> due = new ArrayList<>(FACE);
        Collections.sort(due);
        Collections.sort(got);
        expect.isTrue("the methods " + got, got.equals(due));
        expect.isTrue("no private method has a public one's name", Collections.disjoint(hidden, open));
    }

    private static String told(Method m) {
        String told = m.getReturnType() + " " + m.getName() + "(" + names(m.getParameterTypes()) + ")";
        return m.getExceptionTypes().length == 0 ? told : told + " throws " + names(m.getExceptionTypes());
    }

    private static String names(Class<?>[] types) {
        List<String> names = new ArrayList<>();
        for (Class<?> type : types) {
            names.add(type.getSimpleName());
        }
        return String.join(", ", names);
    }

    private static void constructors(Expect expect) {
        Constructor<?>[] all = PlaneSplitter.class.getDeclaredConstructors();
        expect.equal("constructors", all.length, 1);
        expect.equal("its parameters", all[0].getParameterCount(), 0);
        expect.equal("its exceptions", all[0].getExceptionTypes().length, 0);
        expect.isTrue("it is public", Modifier.isPublic(all[0].getModifiers()));
    }

    private static void fields(Expect expect, Class<?> of) {
        for (Field f : of.getDeclaredFields()) {
            expect.isTrue(f + " is private", Modifier.isPrivate(f.getModifiers()));
            if (Modifier.isStatic(f.getModifiers())) {
                expect.isTrue(f + " is final", Modifier.isFinal(f.getModifiers()));
                expect.isTrue(f + " is an int", f.getType() == int.class);
            }
        }
    }
}
