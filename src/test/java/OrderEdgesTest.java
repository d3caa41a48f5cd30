import java.lang.reflect.InvocationTargetException;
import java.lang.reflect.Method;
import java.util.ArrayList;
import java.util.Arrays;
import java.util.List;

/** Which of bad, missing, REFUSED and FULL comes first; and numbers far out of range, in every place. */
public final class OrderEdgesTest {
    private static final int[] WILD = {Integer.MIN_VALUE, Integer.MIN_VALUE + 1, -1, 0, 1, 7, Integer.MAX_VALUE - 1, Integer.MAX_VALUE};

    public static void main(String[] args) {
        badBeforeFull();
        badBeforeMissing();
        badBeforeRefused();
        missingBeforeBadInCrash();
        missingBeforeRefused();
        refusedBeforeMissingInRange();
        wildNumbers();
        Due.exit();
    }

    private static void badBeforeFull() {
        Due.part("they come in this order: bad, FULL");
        CouncilStore x = Due.led(2);
        for (int i = 0; i < 4; i++) {
            Due.when(x, "k", 0, 0, 0);
        }
        for (int i = 0; i < 6; i++) {
            x.lease(0, 1, false);
            x.lease(1, 1, false);
        }
        for (int i = 0; i < 16; i++) {
            Due.read(x, 0, "k");
        }
        Due.dueRefused(x, "when, what", Due.BAD, () -> Due.when(x, "k", 4, 0, 0));
        Due.dueRefused(x, "when, how", Due.BAD, () -> Due.when(x, "k", 0, 4, 0));
        Due.dueRefused(x, "when, KEY", Due.BAD, () -> Due.when(x, "", 0, 0, 0));
        Due.dueRefused(x, "put, LEASE", Due.BAD, () -> Due.put(x, "k", "", 100));
        Due.dueRefused(x, "put, KEY", Due.BAD, () -> Due.put(x, "", "", 0));
        Due.dueRefused(x, "erase, END", Due.BAD, () -> Due.erase(x, "k", "e".repeat(65)));
        Due.dueRefused(x, "lease, LEASE", Due.BAD, () -> x.lease(1, 0, true));
        Due.dueRefused(x, "lease, ARGUMENTS", Due.BAD, () -> {
            Due.give(x, "k");
            x.lease(1, 1, true);
        });
        Due.dueRefused(x, "read, KEY", Due.BAD, () -> Due.read(x, 0, ""));
        Due.dueRefused(x, "read, FULL", Due.FULL, () -> Due.read(x, 0, "k"));
    }

    private static void badBeforeMissing() {
        Due.part("they come in this order: bad, missing");
        CouncilStore x = Due.led(3);
        x.crash(2, 0);
        for (int node : new int[] {-1, 2, 3}) {
            Due.dueRefused(x, "read", Due.BAD, () -> Due.read(x, node, ""));
            Due.dueRefused(x, "read", Due.BAD, () -> x.read(node));
            Due.dueRefused(x, "answer", Due.BAD, () -> x.answer(node, 0, 4));
            Due.dueRefused(x, "pair, what", Due.BAD, () -> Due.pair(x, node, "k", 0, 6));
            Due.dueRefused(x, "pair, REVISION", Due.BAD, () -> Due.pair(x, node, "k", -1, 0));
            Due.dueRefused(x, "pair, KEY", Due.BAD, () -> Due.pair(x, node, "", 0, 0));
            Due.dueRefused(x, "range, what", Due.BAD, () -> Due.range(x, node, "k", "", 0, 4, 0, 0));
            Due.dueRefused(x, "range, REVISION", Due.BAD, () -> Due.range(x, node, "k", "", -1, 0, 0, 0));
            Due.dueRefused(x, "range, KEY", Due.BAD, () -> Due.range(x, node, "", "", 0, 0, 0, 0));
            Due.dueRefused(x, "event", Due.BAD, () -> x.event(node, 1, 4, 0, 0));
            Due.dueRefused(x, "outcome", Due.BAD, () -> x.outcome(node, 1, 3));
            if (node != 2) {
                Due.dueRefused(x, "told", Due.BAD, () -> x.told(node, 15));
            }
        }
        Due.dueRefused(x, "message", Due.BAD, () -> x.message(0, 9));
        Due.dueRefused(x, "no PAIR", Due.BAD, () -> Due.range(x, 0, "k", "", 0, 4, 9, 9));
    }

    private static void badBeforeRefused() {
        Due.part("they come in this order: bad, REFUSED");
        CouncilStore x = Due.led(3);
        Due.dueRefused(x, "read of a follower", Due.BAD, () -> Due.read(x, 1, ""));
        Due.dueRefused(x, "pair, what", Due.BAD, () -> Due.pair(x, 0, "k", 9, 6));
        Due.dueRefused(x, "pair, KEY", Due.BAD, () -> Due.pair(x, 0, "", 9, 0));
        Due.dueRefused(x, "range, what", Due.BAD, () -> Due.range(x, 0, "k", "", 9, 4, 0, 0));
        Due.dueRefused(x, "range, END", Due.BAD, () -> Due.range(x, 0, "k", "e".repeat(65), 9, 0, 0, 0));
        Due.put(x, "k", "", 0);
        Due.done(x, 0, 3);
        Due.put(x, "k", "", 0);
        Due.done(x, 0, 3);
        x.compact(0, 2);
        Due.dueRefused(x, "event, what", Due.BAD, () -> x.event(0, 1, 4, 0, 0));
        Due.dueRefused(x, "event, REFUSED", Due.REFUSED, () -> x.event(0, 1, 3, 0, 0));
    }

    private static void missingBeforeBadInCrash() {
        Due.part("crash: missing, before");
        CouncilStore x = Due.led(2);
        x.crash(1, 0);
        for (int node : new int[] {-1, 1, 2}) {
            Due.dueRefused(x, "crash " + node, Due.MISSING, () -> x.crash(node, -1));
            Due.dueRefused(x, "crash " + node, Due.MISSING, () -> x.crash(node, 1));
        }
        Due.dueRefused(x, "bad", Due.BAD, () -> x.crash(0, 1));
    }

    private static void missingBeforeRefused() {
        Due.part("they come in this order: missing, REFUSED");
        CouncilStore x = Due.led(3);
        x.crash(2, 0);
        for (int node : new int[] {-1, 2, 3}) {
            Due.dueRefused(x, "propose", Due.MISSING, () -> x.propose(node));
            Due.dueRefused(x, "rise", Due.MISSING, () -> x.rise(node));
            Due.dueRefused(x, "beat", Due.MISSING, () -> x.beat(node));
            Due.dueRefused(x, "snapshot", Due.MISSING, () -> x.snapshot(node));
            Due.dueRefused(x, "read", Due.MISSING, () -> Due.read(x, node, "k"));
            Due.dueRefused(x, "pair", Due.MISSING, () -> Due.pair(x, node, "k", 9, 0));
            Due.dueRefused(x, "range", Due.MISSING, () -> Due.range(x, node, "k", "", 9, 0, 0, 0));
            Due.dueRefused(x, "compact", Due.MISSING, () -> x.compact(node, -1));
            Due.dueRefused(x, "compact", Due.MISSING, () -> x.compact(node, 9));
        }
        Due.put(x, "k", "", 0);
        Due.done(x, 0, 3);
        Due.put(x, "k", "", 0);
        Due.done(x, 0, 3);
        x.compact(0, 2);
        Due.dueRefused(x, "event of REVISION 0", Due.MISSING, () -> x.event(0, 0, 0, 0, 0));
        Due.dueRefused(x, "event of REVISION 3", Due.MISSING, () -> x.event(0, 3, 0, 0, 0));
    }

    private static void refusedBeforeMissingInRange() {
        Due.part("of a REVISION that is REFUSED nothing is looked for");
        CouncilStore x = Due.led(1);
        Due.put(x, "k", "", 0);
        Due.done(x, 0, 1);
        Due.put(x, "k", "", 0);
        Due.done(x, 0, 1);
        x.compact(0, 2);
        Due.dueRefused(x, "range", Due.REFUSED, () -> Due.range(x, 0, "none", "", 1, 1, 0, 0));
        Due.dueRefused(x, "event", Due.REFUSED, () -> x.event(0, 1, 1, 9, 0));
        Due.dueRefused(x, "range", Due.MISSING, () -> Due.range(x, 0, "none", "", 2, 1, 0, 0));
        Due.dueRefused(x, "event", Due.MISSING, () -> x.event(0, 2, 1, 9, 0));
    }

    /** Whatever numbers come, in whatever state: an answer, or a throw that the face names. */
    private static void wildNumbers() {
        for (Method call : CouncilStore.class.getDeclaredMethods()) {
            if (!java.lang.reflect.Modifier.isPublic(call.getModifiers())) {
                continue;
            }
            Due.part(call.getName() + " of numbers out of range");
            int places = call.getParameterCount();
            // a call with many numbers takes fewer of each, or it takes too long
            int values = places >= 5 ? 5 : WILD.length;
            int[] at = new int[places];
            do {
                tryAll(call, at);
            } while (next(at, values));
        }
    }

    private static boolean next(int[] at, int values) {
        for (int i = 0; i < at.length; i++) {
            at[i]++;
            if (at[i] < values) {
                return true;
            }
            at[i] = 0;
        }
        return false;
    }

    private static void tryAll(Method call, int[] at) {
        Object[] given = new Object[at.length];
        for (int i = 0; i < at.length; i++) {
            int wild = at.length >= 5 ? WILD[at[i] * 7 / 4] : WILD[at[i]];
            given[i] = call.getParameterTypes()[i] == boolean.class ? (Object) (wild < 0) : (Object) wild;
        }
        for (CouncilStore x : states(at.length >= 5)) {
            try {
                call.invoke(x, given);
            } catch (InvocationTargetException e) {
                boolean named = Arrays.asList(call.getExceptionTypes()).contains(e.getCause().getClass());
                Due.due(Arrays.toString(given) + " threw " + e.getCause(), named && Due.isThrownByTheClass(e.getCause()) ? 1 : 0, 1);
            } catch (IllegalAccessException e) {
                Due.due("access", 0, 1);
            }
        }
    }

    private static List<CouncilStore> states(boolean few) {
        List<CouncilStore> states = new ArrayList<>();
        CouncilStore x = Due.led(3);
        Due.put(x, "k", "v", 0);
        Due.done(x, 0, 3);
        Due.read(x, 0, "k");
        x.propose(0);
        x.crash(2, 0);
        Due.give(x, "k", "l");
        states.add(x);
        if (!few) {
            states.add(new CouncilStore());
            CouncilStore y = Due.led(1);
            y.snapshot(0);
            Due.give(y, "k");
            states.add(y);
        }
        return states;
    }
}
