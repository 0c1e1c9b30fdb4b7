import java.lang.reflect.Constructor;
import java.lang.reflect.Field;
import java.lang.reflect.InvocationTargetException;
import java.lang.reflect.Method;
import java.lang.reflect.Modifier;
import java.util.Arrays;
import java.util.Comparator;
import java.util.NoSuchElementException;
import java.util.Random;
import java.util.Set;
import java.util.TreeSet;

/** The face is the document's and no more; wild calls throw nothing but look's exception. */
public final class FaceTest {
    private static final Set<String> FACE = new TreeSet<>(Arrays.asList(
        "int village(int,int,int,int)", "int spring(int,int,int)", "int tanker(int,int,int)",
        "boolean way(int,int,int)", "int feed(long,long,long)", "int text()", "int want(int)",
        "int plan(int)", "int planned(int)", "int days(int)", "int foretold(int)", "int bore(int,int,int)",
        "int best(int)", "boolean drill(int,int)", "int dip(int,int,int,int)", "int isShort(int)",
        "int share(int)", "int look(int,int)", "int flows(int,int)", "int goes(int,int)", "int count(int)"));
    private static final int[] EDGES = {Integer.MIN_VALUE, Integer.MIN_VALUE + 1, -2, -1, 0, 1, 2, 3, 4, 5, 6,
        9, 10, 11, 12, 13, 30, 100, 399, 1000, 2000, 5000, 9999, 20000, Integer.MAX_VALUE - 1, Integer.MAX_VALUE};

    public static void main(String[] args) throws ReflectiveOperationException {
        members();
        wildCalls();
        Check.end();
    }

    private static void members() throws ReflectiveOperationException {
        Set<String> found = new TreeSet<>();
        for (Method method : WaterCarts.class.getDeclaredMethods()) {
            if (!Modifier.isPrivate(method.getModifiers())) {
                Check.due(method + " is plain public", method.getModifiers(), Modifier.PUBLIC);
                found.add(signature(method));
            }
        }
        for (Method method : WaterCarts.class.getDeclaredMethods()) {
            boolean open = FACE.stream().anyMatch(face -> face.contains(" " + method.getName() + "("));
            Check.due(method + " is private under a name of the face",
                open && Modifier.isPrivate(method.getModifiers()), false);
        }
        Check.due("the face is as in the document: " + found, found.equals(FACE), true);
        for (Field field : WaterCarts.class.getDeclaredFields()) {
            boolean visible = !Modifier.isPrivate(field.getModifiers());
            Check.due(field + " is visible", visible, field.getName().equals("NONE"));
        }
        int constant = Modifier.PUBLIC | Modifier.STATIC | Modifier.FINAL;
        Check.due("NONE is a constant", WaterCarts.class.getDeclaredField("NONE").getModifiers(), constant);
        Constructor<?>[] constructors = WaterCarts.class.getDeclaredConstructors();
        Check.due("one constructor", constructors.length, 1);
        Check.due("it is public", constructors[0].getModifiers(), Modifier.PUBLIC);
        Check.due("the class is public and final", WaterCarts.class.getModifiers(), Modifier.PUBLIC | Modifier.FINAL);
        for (Class<?> inside : WaterCarts.class.getDeclaredClasses()) {
            Check.due(inside + " is static", Modifier.isStatic(inside.getModifiers()), true);
            Check.due(inside + " is public", Modifier.isPublic(inside.getModifiers()), false);
        }
    }

    private static String signature(Method method) {
        StringBuilder text = new StringBuilder();
        text.append(method.getReturnType()).append(' ').append(method.getName()).append('(');
        for (Class<?> type : method.getParameterTypes()) {
            text.append(text.charAt(text.length() - 1) == '(' ? "" : ",").append(type);
        }
        return text.append(')').toString();
    }

    private static void wildCalls() throws ReflectiveOperationException {
        Method[] methods = Arrays.stream(WaterCarts.class.getDeclaredMethods())
            .filter(m -> Modifier.isPublic(m.getModifiers())).toArray(Method[]::new);
        Arrays.sort(methods, Comparator.comparing(Method::getName));
        Random random = new Random(7);
        for (int run = 0; run < 400; run++) {
            WaterCarts x = new WaterCarts();
            boolean tame = run % 2 == 0;
            for (int call = 0; call < 512; call++) {
                wildCall(x, methods[random.nextInt(methods.length)], random, tame);
            }
        }
    }

    private static void wildCall(WaterCarts x, Method method, Random random, boolean tame)
        throws ReflectiveOperationException {
        Object[] arguments = new Object[method.getParameterCount()];
        for (int i = 0; i < arguments.length; i++) {
            boolean small = tame && random.nextInt(8) > 0;
            int edge = small ? 1 + random.nextInt(3) : EDGES[random.nextInt(EDGES.length)];
            if (method.getParameterTypes()[i] == long.class) {
                arguments[i] = random.nextBoolean() ? random.nextLong() : Check.eight("head 1 when (day<2)and 3;", random.nextInt(18));
            } else {
                arguments[i] = edge;
            }
        }
        String call = method.getName() + Arrays.toString(arguments);
        try {
            method.invoke(x, arguments);
        } catch (InvocationTargetException e) {
            boolean allowed = method.getName().equals("look") && e.getCause().getClass() == NoSuchElementException.class;
            Check.due(call + " may throw " + e.getCause(), allowed, true);
        }
    }
}
