import java.lang.reflect.Constructor;
import java.lang.reflect.Field;
import java.lang.reflect.Method;
import java.lang.reflect.Modifier;
import java.util.ArrayList;
import java.util.Arrays;
import java.util.Collections;
import java.util.List;

/** The public face is the document's, no more and no less (LANGUAGE.md, rules 1, 2 and 5). */
public final class FaceTest {
    private static final Due due = new Due("FaceTest");

    public static void main(String[] args) throws IllegalAccessException {
        Class<?> c = MoveMakers.class;
        due.holds("public and final", Modifier.isPublic(c.getModifiers()) && Modifier.isFinal(c.getModifiers()));
        methods(c);
        fields(c);
        Constructor<?>[] constructors = c.getDeclaredConstructors();
        due.is("constructors", constructors.length, 1);
        due.holds("a public one", Modifier.isPublic(constructors[0].getModifiers()));
        due.is("its parameters", constructors[0].getParameterCount(), 0);
        for (Class<?> inside : c.getDeclaredClasses()) {
            int modifiers = inside.getModifiers();
            due.holds(inside + " is static", Modifier.isStatic(modifiers));
            due.holds(inside + " is hidden", !Modifier.isPublic(modifiers) && !Modifier.isProtected(modifiers));
            for (Field field : inside.getDeclaredFields()) {
                int kinds = field.getModifiers();
                due.holds(field + " is final", !Modifier.isStatic(kinds) || Modifier.isFinal(kinds));
            }
        }
        due.end();
    }

    private static void methods(Class<?> c) {
        List<String> want = new ArrayList<>(List.of("object(int,int,int)", "enlist(int,int)", "pin(int,boolean)",
            "objectAt(int,int)", "listed(int,int)", "source(int,int,int)", "shares(int,int,int)", "many(int)",
            "move(int,int,int)", "drawn(int,long)", "does(int,int)", "undo()", "judge(int)", "digest()",
            "count(int)", "clear()"));
        List<String> got = new ArrayList<>();
        List<String> hidden = new ArrayList<>();
        for (Method method : c.getDeclaredMethods()) {
            int modifiers = method.getModifiers();
            if (Modifier.isPrivate(modifiers)) {
                hidden.add(method.getName());
                continue;
            }
            due.holds(method + " is public", Modifier.isPublic(modifiers) && !Modifier.isStatic(modifiers));
            due.holds(method + " answers an int", method.getReturnType() == int.class);
            String parameters = String.join(",", Arrays.stream(method.getParameterTypes()).map(Class::getName).toList());
            got.add(method.getName() + "(" + parameters + ")");
        }
        Collections.sort(want);
        Collections.sort(got);
        due.holds("methods " + got, got.equals(want));
        for (String name : want) {
            due.holds("no hidden " + name, !hidden.contains(name.substring(0, name.indexOf('('))));
        }
    }

    private static void fields(Class<?> c) throws IllegalAccessException {
        List<String> got = new ArrayList<>();
        for (Field field : c.getDeclaredFields()) {
            int modifiers = field.getModifiers();
            due.holds(field + " is final", !Modifier.isStatic(modifiers) || Modifier.isFinal(modifiers));
            if (!Modifier.isPrivate(modifiers)) {
                due.holds(field + " is a constant", Modifier.isStatic(modifiers) && Modifier.isPublic(modifiers));
                got.add(field.getName() + "=" + field.getInt(null));
            }
        }
        Collections.sort(got);
        due.holds("constants " + got, got.equals(List.of("NONE=-109", "OUTSIDE=-102", "ROOM=-104", "STATE=-103", "UNKNOWN=-101")));
    }
}
