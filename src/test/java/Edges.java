import java.lang.reflect.InvocationTargetException;
import java.lang.reflect.Method;
import java.lang.reflect.Modifier;
import java.util.TreeMap;
import java.util.function.Supplier;
import java.util.regex.Matcher;
import java.util.regex.Pattern;

/**
 * Runs the edges of the document: each is a method of its own, whose name begins with the promise (or the part
 * of the Terms) that it is for and goes on with the case.
 */
final class Edges {
    static final int NONE = -6, UNKNOWN = -1, OUTSIDE = -2, STATE = -3, FULL = -4, NO = -5;
    static final int LEAST = Integer.MIN_VALUE, MOST = Integer.MAX_VALUE;

    private static final Pattern CASE = Pattern.compile("(promise|terms)(\\d+)[A-Z]\\w*");

    interface Call {
        long of(LongAgoDraws x);
    }

    interface CallWith {
        long of(LongAgoDraws x, int number);
    }

    private Edges() {
    }

    /** All edges of a test, and whether each of the promises (or parts of the Terms) told has one. */
    static void run(Class<?> test, String word, int first, int last) throws IllegalAccessException {
        TreeMap<String, Method> cases = new TreeMap<>();
        boolean[] has = new boolean[last + 1];
        for (Method method : test.getDeclaredMethods()) {
            Matcher name = CASE.matcher(method.getName());
            if (isCase(method) && name.matches()) {
                cases.put(method.getName(), method);
                int number = Integer.parseInt(name.group(2));
                Due.isTrue(method.getName() + " belongs here", name.group(1).equals(word) && number <= last);
                has[Math.min(number, last)] |= number <= last;
            }
        }
        for (int number = first; number <= last; number++) {
            Due.isTrue("there is an edge of " + word + " " + number, has[number]);
        }
        for (Method method : cases.values()) {
            runOne(method);
        }
        System.out.println(test.getSimpleName() + ": " + cases.size() + " edges");
        Due.end(test.getSimpleName());
    }

    static boolean isCase(Method method) {
        return Modifier.isStatic(method.getModifiers()) && CASE.matcher(method.getName()).matches();
    }

    private static void runOne(Method method) throws IllegalAccessException {
        int before = Due.asked();
        Due.title(method.getName() + ": ");
        try {
            method.setAccessible(true);
            method.invoke(null);
        } catch (InvocationTargetException thrown) {
            Due.isTrue("it does not throw " + thrown.getCause(), false);
        }
        Due.isTrue("it asks something", Due.asked() > before);
        Due.title("");
    }

    /** The call is refused with this answer, and the object is as one on which it was never made. */
    static void refused(Supplier<LongAgoDraws> bench, long answer, Call call) {
        LongAgoDraws x = bench.get();
        Due.is("the call", call.of(x), answer);
        Due.isTrue("a refused call changes nothing", portrait(x).equals(portrait(bench.get())));
    }

    static void refused(Supplier<LongAgoDraws> bench, long answer, CallWith call, int... numbers) {
        for (int number : numbers) {
            LongAgoDraws x = bench.get();
            Due.is("the call with " + number, call.of(x, number), answer);
            Due.isTrue("refused with " + number + " it changes nothing",
                portrait(x).equals(portrait(bench.get())));
        }
    }

    /** A number that is no PLACE's, in each way: the call is UNKNOWN. */
    static void unknown(Supplier<LongAgoDraws> bench, CallWith call) {
        refused(bench, UNKNOWN, call, -1, bench.get().told(0), 24, LEAST, MOST);
    }

    /** All that can be asked without changing anything. Of 24 PLACES it takes some 350 of the 512 calls. */
    static String portrait(LongAgoDraws x) {
        StringBuilder text = new StringBuilder();
        for (int what = 0; what <= 7; what++) {
            text.append(x.told(what)).append(' ');
        }
        text.append(x.good()).append(' ').append(x.met());
        int places = x.told(0);
        for (int p = 0; p < places; p++) {
            text.append('\n').append(p).append(':');
            for (int what = 0; what <= 15; what = what == 3 ? 10 : what + 1) {
                text.append(' ').append(x.about(p, what));
            }
            text.append(' ').append(x.at(p)).append(' ').append(x.drawn(p));
            text.append(' ').append(x.highest(p)).append(' ').append(x.lowest(p));
        }
        return text.toString();
    }

    /** THE STATE AT HAND as one number, PLACE 0 being its first digit. */
    static long atHand(LongAgoDraws x) {
        long digits = 0;
        int places = x.told(0);
        for (int p = 0; p < places; p++) {
            digits = digits * 10 + x.at(p);
        }
        return digits;
    }

    /** What is DRAWN as one number, PLACE 0 being its first digit. */
    static long drawn(LongAgoDraws x) {
        long digits = 0;
        int places = x.told(0);
        for (int p = 0; p < places; p++) {
            digits = digits * 10 + x.drawn(p);
        }
        return digits;
    }
}
