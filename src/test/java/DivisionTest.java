import java.lang.reflect.Constructor;
import java.lang.reflect.Field;
import java.lang.reflect.Method;
import java.math.BigInteger;
import java.util.Random;

/**
 * "NUMBERS are fractions, exact, whatever their size": the numbers inside, with digits at which a division guesses
 * wrong. No game is known that leads there (one division in 2 to the 30th does), so this looks inside.
 */
public final class DivisionTest {
    private static final int[] DIGITS = {0, 0, 1, 2, 0x3fffffff, 0x40000000, 0x40000001, 0x7ffffffe, 0x7fffffff};
    private static final int MOST = 12;

    private static Class<?> bigClass;
    private static Class<?> dividerClass;

    public static void main(String[] args) throws Exception {
        bigClass = Class.forName("BestReplies$Big");
        dividerClass = Class.forName("BestReplies$Divider");
        Random random = new Random(31);
        Object divider = make(dividerClass);
        for (int i = 0; i < 200000 && Check.isAllAsDue(); i++) {
            BigInteger number = number(random, MOST);
            BigInteger divisor = number(random, 1 + random.nextInt(MOST));
            if (divisor.signum() != 0) {
                divide(divider, number, divisor);
            }
        }
        for (int i = 0; i < 20000 && Check.isAllAsDue(); i++) {
            sums(number(random, MOST), number(random, MOST));
            product(number(random, 6), number(random, 6));
        }
        for (int i = 0; i < 2000 && Check.isAllAsDue(); i++) {
            BigInteger factor = number(random, 3).abs().add(BigInteger.ONE);
            BigInteger below = number(random, 8).abs().add(BigInteger.ONE);
            common(divider, number(random, 8).multiply(factor), below.multiply(factor));
        }
        Check.finish();
    }

    private static void divide(Object divider, BigInteger number, BigInteger divisor) throws Exception {
        Object left = big(number);
        Object quotient = big(BigInteger.TEN);
        call(divider, "divide", left, big(divisor), quotient);
        BigInteger[] due = number.divideAndRemainder(divisor);
        Check.due(number + " by " + divisor, value(quotient), due[0]);
        Check.due(number + " left by " + divisor, value(left), due[1]);
    }

    private static void sums(BigInteger a, BigInteger b) throws Exception {
        Object sum = big(a);
        call(sum, "add", big(b));
        Check.due(a + " + " + b, value(sum), a.add(b));
        call(sum, "subtract", big(a));
        Check.due("less " + a, value(sum), b);
        Check.due("order", call(big(a), "compareWith", big(b)), a.compareTo(b));
        Check.due("order with itself", call(big(a), "compareWith", big(a)), 0);
    }

    private static void product(BigInteger a, BigInteger b) throws Exception {
        Object made = big(BigInteger.TEN);
        call(made, "setProduct", big(a), big(b));
        Check.due(a + " * " + b, value(made), a.multiply(b));
    }

    private static void common(Object divider, BigInteger a, BigInteger b) throws Exception {
        Object above = big(a);
        Object below = big(b);
        call(divider, "findCommon", above, below);
        call(divider, "divideByCommon", above);
        call(divider, "divideByCommon", below);
        BigInteger common = a.gcd(b);
        Check.due(a + " in least terms", value(above), a.divide(common));
        Check.due(b + " in least terms", value(below), b.divide(common));
    }

    private static BigInteger number(Random random, int most) {
        BigInteger made = BigInteger.ZERO;
        int count = random.nextInt(most + 1);
        boolean isEdgy = random.nextInt(4) != 0;
        for (int i = 0; i < count; i++) {
            int digit = isEdgy ? DIGITS[random.nextInt(DIGITS.length)] : random.nextInt() & 0x7fffffff;
            made = made.shiftLeft(31).or(BigInteger.valueOf(digit));
        }
        return random.nextInt(3) == 0 ? made.negate() : made;
    }

    private static Object make(Class<?> of) throws Exception {
        Constructor<?> constructor = of.getDeclaredConstructor();
        constructor.setAccessible(true);
        return constructor.newInstance();
    }

    private static Object big(BigInteger number) throws Exception {
        Object made = make(bigClass);
        int[] limbs = (int[]) field("limbs").get(made);
        BigInteger left = number.abs();
        int length = 0;
        while (left.signum() != 0) {
            limbs[length++] = left.intValue() & 0x7fffffff;
            left = left.shiftRight(31);
        }
        field("length").setInt(made, length);
        field("signum").setInt(made, number.signum());
        return made;
    }

    private static BigInteger value(Object big) throws Exception {
        int[] limbs = (int[]) field("limbs").get(big);
        int length = field("length").getInt(big);
        BigInteger made = BigInteger.ZERO;
        for (int i = length - 1; i >= 0; i--) {
            made = made.shiftLeft(31).or(BigInteger.valueOf(limbs[i]));
        }
        Check.due("no top digit 0", length == 0 || limbs[length - 1] != 0, true);
        Check.due("0 has no sign", (field("signum").getInt(big) == 0) == (length == 0), true);
        return field("signum").getInt(big) < 0 ? made.negate() : made;
    }

    private static Field field(String name) throws Exception {
        Field field = bigClass.getDeclaredField(name);
        field.setAccessible(true);
        return field;
    }

    private static Object call(Object on, String name, Object... with) throws Exception {
        Class<?>[] types = new Class<?>[with.length];
        java.util.Arrays.fill(types, bigClass);
        Method method = on.getClass().getDeclaredMethod(name, types);
        method.setAccessible(true);
        return method.invoke(on, with);
    }
}
