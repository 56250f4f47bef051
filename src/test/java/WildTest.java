import java.lang.reflect.InvocationTargetException;
import java.lang.reflect.Method;
import java.lang.reflect.Modifier;
import java.util.Arrays;
import java.util.Comparator;
import java.util.Random;

/** Whatever the numbers are and in whatever order the calls come, none of them throws. */
public final class WildTest {
    private static final int[] ODD = {Integer.MIN_VALUE, Integer.MIN_VALUE + 1, -65536, -2, -1, 0, 1, 2, 3, 5, 6, 7, 9, 10,
        16, 30, 31, 32, 33, 63, 64, 65, 255, 728, 729, 730, 1300, 99999, 1 << 30, Integer.MAX_VALUE - 1, Integer.MAX_VALUE};

    public static void main(String[] args) throws IllegalAccessException {
        Method[] all = StoneTrust.class.getDeclaredMethods();
        Arrays.sort(all, Comparator.comparing(Method::getName));
        for (int run = 0; run < 300; run++) {
            Random dice = new Random(run);
            StoneTrust x = new StoneTrust();
            for (int call = 0; call < 512; call++) {
                if (call % 100 == 20) {
                    x.end(0);
                    Feeder.read(x, VillageMaker.make(dice));
                }
                Method m = all[dice.nextInt(all.length)];
                if (Modifier.isPublic(m.getModifiers())) {
                    invoke(x, m, dice, run);
                }
            }
        }
        Check.end();
    }

    private static void invoke(StoneTrust x, Method m, Random dice, int run) throws IllegalAccessException {
        Object[] with = new Object[m.getParameterCount()];
        for (int i = 0; i < with.length; i++) {
            boolean isInt = m.getParameterTypes()[i] == int.class;
            int odd = ODD[dice.nextInt(ODD.length)];
            with[i] = isInt ? (Object) (dice.nextInt(3) == 0 ? odd : dice.nextInt(8)) : (Object) dice.nextBoolean();
        }
        boolean ended = true;
        try {
            m.invoke(x, with);
        } catch (InvocationTargetException thrown) {
            ended = false;
            System.out.println(thrown.getCause());
        }
        Check.same("run " + run + ": " + m.getName() + Arrays.toString(with) + " ends", ended, true);
    }
}
