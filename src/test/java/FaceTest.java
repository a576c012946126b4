import java.lang.reflect.Constructor;
import java.lang.reflect.Field;
import java.lang.reflect.Method;
import java.lang.reflect.Modifier;
import java.util.Arrays;
import java.util.Set;
import java.util.TreeSet;
import java.util.stream.Collectors;

/** The class shows the document's face and nothing else (LANGUAGE.md, rules 1 and 5). */
public final class FaceTest {
    private static final Set<String> FACE = Set.of(
        "int wagon(int,long,int,int) IllegalArgumentException,IllegalStateException",
        "int pattern(int,int) IllegalArgumentException,IllegalStateException",
        "int box(int,long,int,int,long) IllegalArgumentException,IllegalStateException",
        "boolean rule(int,int,int) ",
        "boolean cut(long) ",
        "boolean out(int,boolean) ",
        "int plan() ",
        "int at(int,int) IndexOutOfBoundsException,NoSuchElementException",
        "long load(int,int) IndexOutOfBoundsException,NoSuchElementException",
        "long axle(int,int) IndexOutOfBoundsException,NoSuchElementException,ArithmeticException",
        "int standby(int) NoSuchElementException",
        "int refused(int) IndexOutOfBoundsException",
        "boolean together(int,int) IndexOutOfBoundsException",
        "int count(int) ");
    private static final Check check = new Check();

    public static void main(String[] args) {
        int kind = TrainLoads.class.getModifiers();
        check.due("class is public and final", Modifier.isPublic(kind) && Modifier.isFinal(kind), true);
        constructors();
        methods();
        fields();
        classesInside();
        check.end("FaceTest");
    }

    private static void constructors() {
        Constructor<?>[] all = TrainLoads.class.getDeclaredConstructors();
        check.due("constructors", all.length, 1);
        check.due("constructor is public, without parameters",
            Modifier.isPublic(all[0].getModifiers()) && all[0].getParameterCount() == 0, true);
    }

    private static void methods() {
        Set<String> seen = new TreeSet<>();
        Set<String> names = new TreeSet<>();
        for (Method method : TrainLoads.class.getDeclaredMethods()) {
            if (!Modifier.isPrivate(method.getModifiers())) {
                check.due(method.getName() + " is public and no static",
                    Modifier.isPublic(method.getModifiers()) && !Modifier.isStatic(method.getModifiers()), true);
                seen.add(method.getReturnType() + " " + method.getName()
                    + "(" + names(method.getParameterTypes()) + ") " + names(method.getExceptionTypes()));
                names.add(method.getName());
            }
        }
        check.dueText("public methods", seen.toString(), new TreeSet<>(FACE).toString());
        for (Class<?> owner : withInside()) {
            for (Method method : owner.getDeclaredMethods()) {
                boolean isHidden = owner != TrainLoads.class || Modifier.isPrivate(method.getModifiers());
                check.due(owner.getSimpleName() + "." + method.getName() + " takes a name of the face",
                    isHidden && names.contains(method.getName()), false);
            }
        }
    }

    private static Class<?>[] withInside() {
        Class<?>[] inside = TrainLoads.class.getDeclaredClasses();
        Class<?>[] all = Arrays.copyOf(inside, inside.length + 1);
        all[inside.length] = TrainLoads.class;
        return all;
    }

    private static String names(Class<?>[] types) {
        return Arrays.stream(types).map(Class::getSimpleName).collect(Collectors.joining(","));
    }

    private static void fields() {
        for (Class<?> owner : withInside()) {
            int changing = 0;
            for (Field field : owner.getDeclaredFields()) {
                int kind = field.getModifiers();
                String name = owner.getSimpleName() + "." + field.getName();
                boolean isFace = owner == TrainLoads.class && field.getName().equals("NONE");
                check.due(name + " is private", Modifier.isPrivate(kind), !isFace);
                check.due(name + " is no static that changes",
                    Modifier.isStatic(kind) && !Modifier.isFinal(kind), false);
                changing += Modifier.isStatic(kind) ? 0 : 1;
            }
            check.due(owner.getSimpleName() + " has at most twenty fields", changing <= 20, true);
        }
        check.due("NONE", TrainLoads.NONE, -1);
    }

    private static void classesInside() {
        for (Class<?> inside : TrainLoads.class.getDeclaredClasses()) {
            int kind = inside.getModifiers();
            check.due(inside.getSimpleName() + " is static and hidden",
                Modifier.isStatic(kind) && !Modifier.isPublic(kind) && !Modifier.isProtected(kind), true);
        }
    }
}
