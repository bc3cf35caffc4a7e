import java.lang.reflect.InvocationTargetException;
import java.lang.reflect.Method;
import java.util.ArrayList;
import java.util.List;
import java.util.NoSuchElementException;
import java.util.Random;

/** Any arguments in any state: nothing is thrown but what row() promises. */
public final class WildTest {
    private static final int[] ODD = {Integer.MIN_VALUE, Integer.MAX_VALUE, -3, -2, -1, 0, 1, 2, 7, 8, 9, 60, 99, 100, 101};

    public static void main(String[] args) throws IllegalAccessException {
        List<Method> calls = new ArrayList<>();
        for (Method m : RowTypes.class.getDeclaredMethods()) {
            if (java.lang.reflect.Modifier.isPublic(m.getModifiers())) {
                calls.add(m);
            }
        }
        int wrong = 0;
        Random random = new Random(5);
        for (int run = 0; run < 1500 && wrong < 5; run++) {
            RowTypes x = new RowTypes();
            Maker maker = new Maker(run);
            for (int i = 0; i < 512; i++) {
                if (random.nextInt(6) == 0) {
                    tell(x, maker, random);
                }
                wrong += call(x, calls.get(random.nextInt(calls.size())), random);
            }
        }
        System.out.println(wrong == 0 ? "nothing is thrown" : wrong + " calls threw");
        if (wrong != 0) {
            System.exit(1);
        }
    }

    private static void tell(RowTypes x, Maker maker, Random random) {
        int what = random.nextInt(4);
        Talk.tell(x, what == 0 ? maker.type(0).concat("") : maker.expression(Math.max(0, x.count(0)), 100));
        if (what == 1) {
            x.infers();
        } else if (what == 2) {
            x.defines();
        } else if (what == 0) {
            x.fits(random.nextInt(5) - 2);
        }
    }

    private static int call(RowTypes x, Method m, Random random) throws IllegalAccessException {
        Object[] given = new Object[m.getParameterCount()];
        for (int i = 0; i < given.length; i++) {
            int how = random.nextInt(3);
            given[i] = how == 0 ? random.nextInt() : how == 1 ? ODD[random.nextInt(ODD.length)] : random.nextInt(5) - 2;
        }
        try {
            m.invoke(x, given);
            return 0;
        } catch (InvocationTargetException e) {
            if (m.getName().equals("row") && e.getCause() instanceof NoSuchElementException) {
                return 0;
            }
            System.out.println(m.getName() + " threw " + e.getCause());
            return 1;
        }
    }
}
