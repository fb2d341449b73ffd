import java.lang.reflect.Constructor;
import java.lang.reflect.Field;
import java.lang.reflect.Method;
import java.lang.reflect.Modifier;
import java.util.Arrays;
import java.util.Set;
import java.util.TreeSet;
import java.util.stream.Collectors;

/** The class has the document's public face, and nothing more. */
public final class FaceTest {
    private static final String I = "IndexOutOfBoundsException";
    private static final String A = "IllegalArgumentException";
    private static final String S = "IllegalStateException";

    public static void main(String[] args) {
        Check.is("public and final", true,
                () -> Modifier.isPublic(TidePost.class.getModifiers()) && Modifier.isFinal(TidePost.class.getModifiers()));
        Check.is("methods", due(), FaceTest::face);
        Check.is("one public constructor without parameters", "1 public 0", () -> {
            Constructor<?>[] all = TidePost.class.getDeclaredConstructors();
            return all.length + " " + Modifier.toString(all[0].getModifiers()) + " " + all[0].getParameterCount();
        });
        Check.is("no field to be seen", true, () -> {
            boolean hidden = true;
            for (Field field : TidePost.class.getDeclaredFields()) {
                hidden &= Modifier.isPrivate(field.getModifiers());
            }
            return hidden;
        });
        Check.is("no private method with a public one's name", true, FaceTest::noNameTwice);
        Check.end();
    }

    private static String face() {
        TreeSet<String> methods = new TreeSet<>();
        for (Method method : TidePost.class.getDeclaredMethods()) {
            if (!Modifier.isPrivate(method.getModifiers())) {
                methods.add(Modifier.toString(method.getModifiers()) + " " + method.getReturnType() + " " + method.getName()
                        + names(method.getParameterTypes()) + names(method.getExceptionTypes()));
            }
        }
        return methods.toString();
    }

    private static String names(Class<?>[] types) {
        return Arrays.stream(types).map(Class::getSimpleName).collect(Collectors.joining(",", "(", ")"));
    }

    private static boolean noNameTwice() {
        Set<String> shown = new TreeSet<>();
        for (Method method : TidePost.class.getDeclaredMethods()) {
            if (Modifier.isPublic(method.getModifiers())) {
                shown.add(method.getName());
            }
        }
        boolean fine = true;
        for (Method method : TidePost.class.getDeclaredMethods()) {
            fine &= Modifier.isPublic(method.getModifiers()) || !shown.contains(method.getName());
        }
        for (Class<?> inside : TidePost.class.getDeclaredClasses()) {
            fine &= Modifier.isStatic(inside.getModifiers()) && !Modifier.isPublic(inside.getModifiers());
            for (Method method : inside.getDeclaredMethods()) {
                fine &= !shown.contains(method.getName());
            }
        }
        return fine;
    }

    private static String due() {
        TreeSet<String> due = new TreeSet<>();
        add(due, "int addNode", "", S);
        add(due, "int addLink", "int,int,int,int", I + "," + A + "," + S);
        add(due, "int turn", "int", I);
        add(due, "int lose", "int,int,int", I + "," + A);
        add(due, "int call", "int,int,int", I + "," + A + "," + S);
        add(due, "int give", "int,int,int", I + "," + A + "," + S);
        add(due, "int close", "int", I + "," + S);
        add(due, "int read", "int,int", I + "," + A + "," + S);
        add(due, "int pass", "int", A);
        for (String name : new String[] {"clock", "nodes", "links", "lost", "underWay", "connections"}) {
            add(due, "int " + name, "", "");
        }
        add(due, "boolean isUp", "int", I);
        for (String name : new String[] {"distance", "nextLink", "queued", "flying", "flown"}) {
            add(due, "int " + name, "int,int", I);
        }
        for (String name : new String[] {"stateOf", "given", "base", "next", "window", "threshold", "room", "like", "recover",
            "round", "swing", "timeout", "timer", "measured", "tries", "sentAgain", "wanted", "readable", "hasRead"}) {
            add(due, "int " + name, "int", I);
        }
        add(due, "boolean holds", "int,int", I);
        add(due, "double meanWindow", "", "");
        add(due, "int ticksUntil", "int,int,int", I + "," + A);
        add(due, "int lostIn", "int", A);
        add(due, "int distanceWithout", "int,int,int", I);
        add(due, "long digest", "", "");
        return due.toString();
    }

    private static void add(Set<String> due, String method, String parameters, String exceptions) {
        due.add("public " + method + "(" + parameters + ")(" + exceptions + ")");
    }
}
