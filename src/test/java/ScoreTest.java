import java.lang.reflect.Constructor;
import java.lang.reflect.Field;
import java.lang.reflect.Method;
import java.math.BigInteger;
import java.util.Random;

/**
 * Sums, products and comparisons of the exact scores, from within, where no question that a test could ask comes to: at
 * the bounds of what a part of a number holds. It is tied to how scores are held: to be written anew if that changes.
 */
public final class ScoreTest {
    private static final Check CHECK = new Check("ScoreTest");
    private static final BigInteger BASE = BigInteger.valueOf(1_000_000_000);
    private static final int LIMBS = 6;

    public static void main(String[] args) throws ReflectiveOperationException {
        CHECK.section(6, "SCORE of a DOCUMENT that MATCHES, an exact fraction");
        sums();
        products();
        orders();
        digits();
        CHECK.end();
    }

    private static Object score(BigInteger value) throws ReflectiveOperationException {
        Constructor<?> made = Class.forName("Searchcluster$Score").getDeclaredConstructor();
        made.setAccessible(true);
        Object score = made.newInstance();
        BigInteger rest = value;
        for (int i = 0; i < LIMBS; i++) {
            limbs(score)[i] = rest.mod(BASE).intValue();
            rest = rest.divide(BASE);
        }
        return score;
    }

    private static int[] limbs(Object score) throws ReflectiveOperationException {
        Field field = score.getClass().getDeclaredField("limbs");
        field.setAccessible(true);
        return (int[]) field.get(score);
    }

    private static BigInteger valueOf(Object score) throws ReflectiveOperationException {
        BigInteger value = BigInteger.ZERO;
        for (int i = LIMBS - 1; i >= 0; i--) {
            int limb = limbs(score)[i];
            CHECK.is("a part that is in its range", limb >= 0 && limb < 1_000_000_000, true);
            value = value.multiply(BASE).add(BigInteger.valueOf(limb));
        }
        return value;
    }

    private static Object call(Object score, String name, Object argument) throws ReflectiveOperationException {
        for (Method method : score.getClass().getDeclaredMethods()) {
            if (method.getName().equals(name)) {
                method.setAccessible(true);
                return method.invoke(score, argument);
            }
        }
        throw new NoSuchMethodException(name);
    }

    private static BigInteger power(int limb) {
        return BASE.pow(limb);
    }

    private static void sum(BigInteger a, BigInteger b) throws ReflectiveOperationException {
        Object score = score(a);
        call(score, "plus", score(b));
        CHECK.is(a + " + " + b, valueOf(score), a.add(b));
    }

    private static void sums() throws ReflectiveOperationException {
        for (int limb = 0; limb < LIMBS - 1; limb++) {
            BigInteger one = power(limb);
            BigInteger most = power(limb + 1).subtract(one);
            sum(one, most);
            sum(most, one);
            sum(most, most);
            sum(most.subtract(one), one);
            sum(most, one.add(one));
            sum(power(limb + 1).divide(BigInteger.TWO), power(limb + 1).divide(BigInteger.TWO));
            sum(power(limb + 1).subtract(BigInteger.ONE), BigInteger.ONE);
        }
    }

    private static void products() throws ReflectiveOperationException {
        Random random = new Random(1);
        for (int i = 0; i < 200; i++) {
            BigInteger value = new BigInteger(1 + random.nextInt(140), random);
            int factor = 1 + random.nextInt(1_200_000);
            Object score = score(value);
            call(score, "times", factor);
            CHECK.is(value + " * " + factor, valueOf(score), value.multiply(BigInteger.valueOf(factor)));
            call(score, "over", factor);
            CHECK.is("and back", valueOf(score), value);
            call(score, "over", 1);
            CHECK.is("by one", valueOf(score), value);
        }
    }

    private static void order(BigInteger a, BigInteger b) throws ReflectiveOperationException {
        CHECK.is(a + " and " + b, Integer.signum((Integer) call(score(a), "compareWith", score(b))), a.compareTo(b));
    }

    private static void orders() throws ReflectiveOperationException {
        BigInteger most = power(LIMBS).subtract(BigInteger.ONE);
        for (int limb = 0; limb < LIMBS; limb++) {
            order(power(limb), BigInteger.ZERO);
            order(BigInteger.ZERO, power(limb));
            order(most, most.subtract(power(limb)));
            order(most.subtract(power(limb)), most);
            order(power(limb), power(limb).subtract(BigInteger.ONE));
            order(power(limb), power(limb));
        }
    }

    private static void digits() throws ReflectiveOperationException {
        for (int limb = 0; limb < LIMBS; limb++) {
            for (BigInteger value : new BigInteger[] {power(limb), power(limb).subtract(BigInteger.ONE), power(limb).add(BigInteger.TEN),
                power(limb).multiply(BigInteger.valueOf(123_456_789)).add(BigInteger.valueOf(7)), power(limb).multiply(BigInteger.TEN)}) {
                StringBuilder out = new StringBuilder();
                call(score(value), "tellDigits", out);
                CHECK.is("digits", out.toString(), value.toString());
            }
        }
    }
}
