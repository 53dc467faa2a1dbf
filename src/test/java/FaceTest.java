import java.lang.reflect.Constructor;
import java.lang.reflect.Field;
import java.lang.reflect.Method;
import java.lang.reflect.Modifier;
import java.util.ArrayList;
import java.util.Arrays;
import java.util.Collections;
import java.util.HashSet;
import java.util.List;
import java.util.Set;

/** The public face: the members that the document lists, with their exceptions, and no other. */
public final class FaceTest {
    private static final String[] FACE = {
        "int act(int) IllegalArgumentException IllegalStateException",
        "int addDoor(int,int,int,int,int) IndexOutOfBoundsException IllegalArgumentException IllegalStateException",
        "int addMonster(int,int,int,int) IndexOutOfBoundsException IllegalArgumentException IllegalStateException",
        "int addTorch(int,int,int) IndexOutOfBoundsException IllegalArgumentException IllegalStateException",
        "int begin(int,int) IllegalArgumentException",
        "int border(int,int,int) IndexOutOfBoundsException IllegalArgumentException",
        "int cell(int,int,int) IndexOutOfBoundsException IllegalArgumentException",
        "int clearActions()",
        "int door(int,int) IndexOutOfBoundsException IllegalArgumentException",
        "int hearers(int,int,int) IndexOutOfBoundsException IllegalArgumentException",
        "int monster(int,int) IndexOutOfBoundsException IllegalArgumentException",
        "int nextStep(int) IndexOutOfBoundsException",
        "int placeHero(int,int,int,int) IndexOutOfBoundsException IllegalArgumentException",
        "int quiet(int,int) IndexOutOfBoundsException",
        "int reason(int) IllegalArgumentException",
        "int runActions()",
        "int safeTimes(int) IllegalArgumentException",
        "int setDoor(int,int) IndexOutOfBoundsException IllegalArgumentException",
        "int setTrap(int,int) IndexOutOfBoundsException IllegalStateException",
        "int setWall(int,int,int,boolean) IndexOutOfBoundsException IllegalArgumentException IllegalStateException",
        "int soundCost(int,int,int,int) IndexOutOfBoundsException",
        "int torch(int,int) IndexOutOfBoundsException IllegalArgumentException",
        "int trap(int,int) IndexOutOfBoundsException IllegalArgumentException",
        "int type(int) IllegalArgumentException IllegalStateException",
        "int undo() IllegalStateException",
        "int way(int,int,int) IndexOutOfBoundsException",
        "int whole(int) IllegalArgumentException",
        "long digest()",
    };

    private static String describe(Method method) {
        List<String> parameters = new ArrayList<>();
        for (Class<?> parameter : method.getParameterTypes()) {
            parameters.add(parameter.getSimpleName());
        }
        StringBuilder text = new StringBuilder();
        text.append(method.getReturnType().getSimpleName()).append(' ').append(method.getName());
        text.append('(').append(String.join(",", parameters)).append(')');
        for (Class<?> exception : method.getExceptionTypes()) {
            text.append(' ').append(exception.getSimpleName());
        }
        return text.toString();
    }

    private static void checkMethods() {
        List<String> publicOnes = new ArrayList<>();
        Set<String> publicNames = new HashSet<>();
        List<Method> others = new ArrayList<>();
        for (Method method : EchoDungeon.class.getDeclaredMethods()) {
            if (Modifier.isPublic(method.getModifiers()) && !Modifier.isStatic(method.getModifiers())) {
                publicOnes.add(describe(method));
                publicNames.add(method.getName());
            } else {
                others.add(method);
                Check.same(method + " is private", Modifier.isPrivate(method.getModifiers()) ? 1 : 0, 1);
            }
        }
        for (Class<?> inside : EchoDungeon.class.getDeclaredClasses()) {
            others.addAll(Arrays.asList(inside.getDeclaredMethods()));
        }
        Collections.sort(publicOnes);
        if (!publicOnes.equals(Arrays.asList(FACE))) {
            Check.same("the public methods " + publicOnes, 1, 0);
        }
        for (Method method : others) {
            Check.same(method + " has a public one's name", publicNames.contains(method.getName()) ? 1 : 0, 0);
        }
    }

    private static void checkFields() throws IllegalAccessException {
        for (Field field : EchoDungeon.class.getDeclaredFields()) {
            boolean isNone = field.getName().equals("NONE");
            boolean isPrivate = Modifier.isPrivate(field.getModifiers());
            Check.same(field + " is private", isPrivate ? 1 : 0, isNone ? 0 : 1);
            if (Modifier.isStatic(field.getModifiers())) {
                Check.same(field + " is final", Modifier.isFinal(field.getModifiers()) ? 1 : 0, 1);
            }
            if (isNone) {
                Check.same("NONE", field.getInt(null), -1);
                Check.same("the type of NONE is int", field.getType() == int.class ? 1 : 0, 1);
                Check.same("NONE is public", Modifier.isPublic(field.getModifiers()) ? 1 : 0, 1);
            }
        }
    }

    public static void main(String[] args) throws IllegalAccessException {
        int modifiers = EchoDungeon.class.getModifiers();
        Check.same("the class is public", Modifier.isPublic(modifiers) ? 1 : 0, 1);
        Check.same("the class is final", Modifier.isFinal(modifiers) ? 1 : 0, 1);
        Constructor<?>[] constructors = EchoDungeon.class.getDeclaredConstructors();
        Check.same("constructors", constructors.length, 1);
        Check.same("parameters of the constructor", constructors[0].getParameterCount(), 0);
        Check.same("the constructor is public", Modifier.isPublic(constructors[0].getModifiers()) ? 1 : 0, 1);
        Check.same("NONE", EchoDungeon.NONE, -1);
        checkMethods();
        checkFields();
        Check.finish();
    }
}
