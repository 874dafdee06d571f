import java.lang.reflect.InvocationTargetException;
import java.lang.reflect.Method;
import java.lang.reflect.Modifier;

/** Every call with the oddest numbers, in many states: none may throw, none refused may change anything. */
public final class NeverThrowsTest {
    private static final int[] ODD = {
        Integer.MIN_VALUE, Integer.MIN_VALUE + 1, -41, -7, -1, 0, 1, 5, 6, 7, 13, 31, 32, 33, 41, 63, 64,
        Integer.MAX_VALUE - 1, Integer.MAX_VALUE
    };
    // An object is good for 512 calls: some 60 for its state, and nine for each round.
    private static final int ROUNDS = 50;
    private static final String[] COURTS = {
        "", "k63 b0000", "k21 b2015l0060p1021m2631g1763r2015", "k00 r2963 m2563 g0963 l0863"
    };

    public static void main(String[] args) throws IllegalAccessException {
        int calls = 0;
        for (Method call : BearWitness.class.getDeclaredMethods()) {
            if (!Modifier.isPublic(call.getModifiers())) continue;
            calls++;
            for (String court : COURTS) tryAll(call, court);
        }
        Due.is("public calls", calls, 43 - 1);
        Due.end("NeverThrowsTest");
    }

    private static BearWitness inState(String court) {
        BearWitness x = new BearWitness();
        Due.write(x, 0, court);
        x.court(0);
        x.row(0, 0);
        x.row(1, 40);
        Due.row(x, 2, 0, 2, 1, 1);
        x.row(3, 17);
        x.text(1, 60);
        x.text(2, 0);
        x.turn(0);
        x.keep(1);
        x.lots(20, 77);
        x.lots(19, 78);
        return x;
    }

    private static void tryAll(Method call, String court) throws IllegalAccessException {
        int n = call.getParameterCount();
        int rounds = 1;
        for (int d = 0; d < n; d++) rounds *= n > 3 ? 5 : ODD.length;
        BearWitness x = null;
        for (int round = 0; round < rounds; round++) {
            if (round % ROUNDS == 0) x = inState(court);
            Object[] with = new Object[n];
            StringBuilder told = new StringBuilder(call.getName());
            int rest = round;
            for (int d = 0; d < n; d++) {
                int size = n > 3 ? 5 : ODD.length;
                with[d] = n > 3 ? ODD[(rest % size * 4 + d) % ODD.length] : ODD[rest % size];
                told.append(' ').append(with[d]);
                rest /= size;
            }
            tryOne(call, x, with, told.append(" by \"").append(court).append('"').toString());
        }
    }

    private static void tryOne(Method call, BearWitness x, Object[] with, String told)
            throws IllegalAccessException {
        long before = x.digest();
        int asked = x.asked();
        long upper = x.upper();
        long lower = x.lower();
        try {
            long answer = ((Number) call.invoke(x, with)).longValue();
            boolean value = "asked upper lower digest".contains(call.getName());
            if (value || answer > -1 || answer == BearWitness.NONE && !call.getName().equals("fault")) return;
            Due.is(told + ", refused: digest()", x.digest(), before);
            Due.is(told + ", refused: asked()", x.asked(), asked);
            Due.is(told + ", refused: upper()", x.upper(), upper);
            Due.is(told + ", refused: lower()", x.lower(), lower);
        } catch (InvocationTargetException e) {
            Due.is(told + " threw " + e.getCause(), 1, 0);
        }
    }
}
