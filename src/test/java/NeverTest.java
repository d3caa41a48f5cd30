import java.lang.reflect.Field;
import java.util.List;

/**
 * What must never be can't be brought about by any calls, so that it's counted at all is only seen
 * when what the class remembers of the first ones is changed by hand.
 */
public final class NeverTest {
    public static void main(String[] args) throws ReflectiveOperationException {
        leaderOfATerm();
        entryOfAnIndex();
        readBelowAsOf();
        Due.exit();
    }

    private static Object remembered(CouncilStore x, String name) throws ReflectiveOperationException {
        Field field = CouncilStore.class.getDeclaredField(name);
        field.setAccessible(true);
        return field.get(x);
    }

    @SuppressWarnings("unchecked")
    private static List<Integer> list(CouncilStore x, String name) throws ReflectiveOperationException {
        return (List<Integer>) remembered(x, name);
    }

    private static void leaderOfATerm() throws ReflectiveOperationException {
        Due.part("counted are leaders of a TERM other than the first one");
        CouncilStore x = Due.led(1);
        Due.due("the first of TERM 1", list(x, "firstLeaders").get(1), 0);
        list(x, "firstLeaders").add(5);
        list(x, "firstLeaders").add(0);
        for (int term = 2; term <= 4; term++) {
            Due.restart(x, 0, 0);
            x.rise(0);
            x.sync(0);
            Due.due("TERM", x.told(0, 1), term);
            Due.due("counted", x.count(6), 1);
        }
        x.nodes(1);
        Due.due("anew", x.count(6), 0);
    }

    private static void entryOfAnIndex() throws ReflectiveOperationException {
        Due.part("ENTRIES applied by a node that aren't the ones that were first applied with that INDEX by any");
        CouncilStore x = Due.led(3);
        List<Integer> first = list(x, "firstApplied");
        first.set(0, first.get(0) + 1);
        Due.done(x, 0, 3);
        Due.due("those of INDEX 2 are the same", x.count(6), 0);
        for (int node = 1; node <= 2; node++) {
            Due.restart(x, node, 0);
            Due.beatOut(x, 0, 3);
            Due.due("one of INDEX 1 by " + node, x.count(6), node);
        }
    }

    private static void readBelowAsOf() throws ReflectiveOperationException {
        Due.part("READS that are done with a COMMIT below their AS OF");
        CouncilStore x = Due.led(1);
        Field greatest = CouncilStore.class.getDeclaredField("greatestCommit");
        greatest.setAccessible(true);
        Due.due("the greatest COMMIT that any node has had", greatest.getInt(x), 1);
        for (int commit = 0; commit <= 3; commit++) {
            greatest.setInt(x, commit);
            Due.read(x, 0, "k");
            Due.due("AS OF " + commit, x.count(6), Math.max(0, commit - 1));
        }
        greatestOfAny();
    }

    /** It's the follower's that counts, too, and what one that's DOWN has had. */
    private static void greatestOfAny() throws ReflectiveOperationException {
        CouncilStore x = Due.led(3);
        Due.done(x, 0, 3);
        x.snapshot(0);
        x.sync(0);
        Due.restart(x, 0, 0);
        Due.elect(x, 1, 2);
        Due.settle(x, 3);
        x.crash(1, 0);
        Due.due("COMMIT of 0", x.told(0, 6), 2);
        Field greatest = CouncilStore.class.getDeclaredField("greatestCommit");
        greatest.setAccessible(true);
        Due.due("what 1 had", greatest.getInt(x), 3);
    }
}
