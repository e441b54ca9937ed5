import java.lang.reflect.InvocationTargetException;
import java.lang.reflect.Method;
import java.lang.reflect.Modifier;
import java.util.ArrayList;
import java.util.Comparator;
import java.util.List;
import java.util.Random;

/**
 * Whatever is called, in whatever state, with whatever numbers: a call throws nothing but what its promise says,
 * and that by a throw statement, not by a row that is asked for a wrong index (LANGUAGE.md, rules 6 and 7). What a
 * call answers behind the 512th is free, but that still holds there.
 */
public final class AnyCallTest {
    private static final int OBJECTS = 300;
    private static final int CALLS = 1200;
    private static final int[] EDGES = {
        Integer.MIN_VALUE, Integer.MIN_VALUE + 1, -10000001, -10000000, -100001, -100000, -65, -64, -17, -16, -15,
        23, 24, 25, 63, 64, 99, 100, 101, 199, 200, 201, 100000, 100001, 10000000, 10000001,
        Integer.MAX_VALUE - 1, Integer.MAX_VALUE,
    };

    private static int wrong = 0;
    private static int thrown = 0;

    public static void main(String[] args) throws IllegalAccessException {
        List<Method> face = face();
        for (int object = 0; object < OBJECTS; object++) {
            Random chance = new Random(object);
            RingPieces x = new RingPieces(number(chance));
            for (int call = 0; call < CALLS; call++) {
                make(x, face.get(chance.nextInt(face.size())), chance);
            }
        }
        boolean asDue = wrong == 0 && thrown > 0;
        System.out.println(asDue ? "nothing else is thrown"
            : wrong + " calls threw what is not due, " + thrown + " what is");
        if (!asDue) {
            System.exit(1);
        }
    }

    private static List<Method> face() {
        List<Method> found = new ArrayList<>();
        for (Method m : RingPieces.class.getDeclaredMethods()) {
            if (Modifier.isPublic(m.getModifiers())) {
                found.add(m);
            }
        }
        // Java tells them in no order, but the runs have to be the same ones always.
        found.sort(Comparator.comparing(Method::getName));
        return found;
    }

    private static int number(Random chance) {
        return chance.nextInt(6) == 0 ? EDGES[chance.nextInt(EDGES.length)] : chance.nextInt(20) - 2;
    }

    private static void make(RingPieces x, Method method, Random chance) throws IllegalAccessException {
        Object[] given = new Object[method.getParameterCount()];
        for (int i = 0; i < given.length; i++) {
            boolean asksNumber = method.getParameterTypes()[i] == int.class;
            given[i] = asksNumber ? (Object) number(chance) : (Object) (chance.nextInt(3) > 0);
        }
        try {
            method.invoke(x, given);
        } catch (InvocationTargetException e) {
            judge(method, given, e.getCause());
        }
    }

    private static void judge(Method method, Object[] given, Throwable got) {
        boolean may = method.getExceptionTypes().length > 0;
        boolean byStatement = got.getMessage() != null && !got.getMessage().startsWith("Index ");
        if (may && got.getClass() == ArrayIndexOutOfBoundsException.class && byStatement) {
            thrown++;
            return;
        }
        wrong++;
        if (wrong < 20) {
            System.out.println(method.getName() + List.of(given) + " threw " + got);
        }
    }
}
