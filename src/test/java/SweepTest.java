import java.lang.reflect.Method;
import java.lang.reflect.Modifier;
import java.util.ArrayList;
import java.util.List;

/** No call throws, whatever its numbers are and whatever state the object is in; refusals change nothing. */
public final class SweepTest {
    private static final Check check = new Check("SweepTest");
    private static final int[] NUMBERS = {0, 1, -1, 2, 3, -2, 5, 12, 59, 60, 61, 255, 999, 1000,
        Integer.MAX_VALUE, Integer.MIN_VALUE};
    private static long seed = 7;

    public static void main(String[] args) throws Exception {
        List<Method> face = new ArrayList<>();
        for (Method m : DrumSlits.class.getDeclaredMethods()) {
            if (Modifier.isPublic(m.getModifiers())) {
                face.add(m);
            }
        }
        face.sort((a, b) -> a.getName().compareTo(b.getName()));
        for (int run = 0; run < 300; run++) {
            calls(face, run);
        }
        check.end();
    }

    private static int next(int bound) {
        seed = seed * 6364136223846793005L + 1442695040888963407L;
        return (int) ((seed >>> 33) % bound);
    }

    private static void calls(List<Method> face, int run) throws Exception {
        DrumSlits x = Check.strips(run % 2 == 0 ? "0000;1-11;2222" : "", run % 3 == 0 ? "00" : "123-");
        for (int i = 0; i < 200; i++) {
            Method m = face.get(next(face.size()));
            Object[] numbers = new Object[m.getParameterCount()];
            for (int n = 0; n < numbers.length; n++) {
                numbers[n] = NUMBERS[next(i % 2 == 0 ? NUMBERS.length : 4)];
            }
            long before = i % 20 == 0 ? x.digest() : 0;
            long told = ((Number) m.invoke(x, numbers)).longValue();
            if (i % 20 == 0 && isRefusal(m, told)) {
                check.same("digest behind a refusal of " + m.getName(), x.digest(), before);
            }
        }
        check.same("run " + run + " ended", 1, 1);
    }

    private static boolean isRefusal(Method m, long told) {
        if (m.getName().equals("net") || m.getName().equals("digest")) {
            return false;
        }
        return told <= -2 && told >= -15 || told == Integer.MIN_VALUE || told == Check.BAD_LONG;
    }
}
