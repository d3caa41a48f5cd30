import java.lang.management.ManagementFactory;

/** The limits of the document, and the room that a run may take. */
public final class LimitsTest {
    private static final int ASK = 1;
    private static final int ANSWER = 2;

    public static void main(String[] args) {
        madeByPropose();
        madeByRise();
        madeByDeliver();
        madeBytes();
        bytesThatCount();
        pairs();
        room();
        Due.exit();
    }

    /** Node 0 leads, and so many are made, its EMPTY one among them. */
    private static CouncilStore withMade(int nodes, int made) {
        CouncilStore x = Due.led(nodes);
        for (int i = 2; i <= made; i++) {
            x.propose(0);
        }
        Due.due("made", x.count(5), made);
        return x;
    }

    private static void madeByPropose() {
        Due.part("At most 1500 COMMANDS and EMPTY ENTRIES are made in all: propose");
        CouncilStore x = withMade(1, 1498);
        Due.due("propose", x.propose(0), 1499);
        Due.due("propose", x.propose(0), 1500);
        x.lease(1, 1, false);
        for (int i = 0; i < 2; i++) {
            Due.dueRefused(x, "1501", Due.FULL, () -> x.propose(0));
        }
        x.forget();
        Due.dueRefused(x, "an EMPTY one, too", Due.FULL, () -> x.propose(0));
        Due.due("made", x.count(5), 1500);
        Due.dueRefused(x, "missing comes before", Due.MISSING, () -> x.propose(1));
        Due.restart(x, 0, 0);
        Due.dueRefused(x, "REFUSED comes before", Due.REFUSED, () -> x.propose(0));
    }

    private static void madeByRise() {
        Due.part("At most 1500 COMMANDS and EMPTY ENTRIES are made in all: rise of one that's alone");
        for (int made = 1498; made <= 1500; made++) {
            CouncilStore x = withMade(1, made);
            Due.restart(x, 0, 0);
            if (made < 1500) {
                x.rise(0);
                Due.due("it leads", x.told(0, 3), 2);
                Due.due("made", x.count(5), made + 1);
                Due.dueRefused(x, "REFUSED comes before", Due.REFUSED, () -> x.rise(0));
            } else {
                Due.dueRefused(x, "rise", Due.FULL, () -> x.rise(0));
                Due.dueRefused(x, "missing comes before", Due.MISSING, () -> x.rise(1));
            }
        }
        CouncilStore y = withMade(2, 1500);
        Due.restart(y, 0, 0);
        y.rise(0);
        Due.due("one that isn't alone makes none", y.told(0, 3), 1);
        y.nodes(1);
        y.rise(0);
        Due.due("anew", y.count(5), 1);
    }

    private static void madeByDeliver() {
        Due.part("To be leader would make too many ENTRIES: FULL");
        for (int made = 1498; made <= 1500; made++) {
            CouncilStore x = withMade(2, made);
            Due.restart(x, 0, 0);
            x.rise(0);
            Due.syncAndBring(x, ASK, 0, 1);
            x.sync(1);
            int at = Due.find(x, ANSWER, 1, 0);
            if (made < 1500) {
                x.deliver(at, true);
                Due.due("it leads", x.told(0, 3), 2);
                Due.due("made", x.count(5), made + 1);
                x.deliver(at, true);
                Due.due("it leads already", x.count(5), made + 1);
                continue;
            }
            Due.dueRefused(x, "go", Due.FULL, () -> x.deliver(at, false));
            Due.dueRefused(x, "stay", Due.FULL, () -> x.deliver(at, true));
            Due.dueRefused(x, "missing comes before", Due.MISSING, () -> x.deliver(at + 1, false));
            x.rise(0);
            x.deliver(at, true);
            Due.due("a vote of an older TERM makes none", x.told(0, 3), 1);
            x.crash(0, 0);
            x.deliver(at, false);
            Due.due("nor does one that's DOWN", x.count(2), at);
        }
        oneVoteOfTwo();
    }

    /** The first vote of four makes no leader yet, so it isn't FULL; the second would. */
    private static void oneVoteOfTwo() {
        CouncilStore x = withMade(4, 1500);
        Due.restart(x, 0, 0);
        x.rise(0);
        x.sync(0);
        for (int voter = 1; voter <= 2; voter++) {
            Due.bring(x, ASK, 0, voter);
            x.sync(voter);
        }
        x.deliver(Due.find(x, ANSWER, 1, 0), true);
        x.deliver(Due.find(x, ANSWER, 1, 0), false);
        Due.due("a candidate stays", x.told(0, 3), 1);
        int at = Due.find(x, ANSWER, 2, 0);
        Due.dueRefused(x, "the third of four", Due.FULL, () -> x.deliver(at, false));
        x.nodes(4);
        Due.due("anew", x.count(5), 0);
    }

    /** A leader, and COMMANDS with so many bytes are made. */
    private static CouncilStore withMadeBytes(int bytes) {
        CouncilStore x = Due.led(1);
        for (int left = bytes; left > 0; left -= 960) {
            addBytes(x, Math.min(960, left));
            x.propose(0);
        }
        return x;
    }

    /** STEPS with so many bytes, in both branches, 960 at most. */
    private static void addBytes(CouncilStore x, int bytes) {
        int step = 0;
        for (int left = bytes; left > 0; left -= 96) {
            int key = Math.min(32, left);
            Due.give(x, "k".repeat(key), "v".repeat(Math.min(64, left - key)));
            if (step % 3 == 0) {
                x.erase(step & 1);
            } else {
                x.put(step & 1, 0);
            }
            step++;
        }
    }

    private static void madeBytes() {
        Due.part("At most 1500 are made in all, with 40000 bytes");
        for (int bytes = 39998; bytes <= 40000; bytes++) {
            CouncilStore x = withMadeBytes(bytes);
            int room = 40000 - bytes;
            int last = x.told(0, 5);
            addBytes(x, room + 1);
            Due.dueRefused(x, "one byte too many", Due.FULL, () -> x.propose(0));
            x.forget();
            addBytes(x, room);
            Due.due("the last bytes", x.propose(0), last + 1);
            addBytes(x, 1);
            Due.dueRefused(x, "none is left", Due.FULL, () -> x.propose(0));
            x.forget();
            x.lease(1, 1, false);
            Due.due("without bytes", x.propose(0), last + 2);
            Due.due("EMPTY", x.propose(0), last + 3);
            x.nodes(1);
            x.rise(0);
            addBytes(x, 1);
            Due.due("anew", x.propose(0), 2);
        }
    }

    private static void bytesThatCount() {
        Due.part("with 40000 bytes: of CONDITIONS, THEN and ELSE");
        CouncilStore x = withMadeBytes(39999);
        Due.when(x, "kk", 0, 0, 0);
        Due.dueRefused(x, "a CONDITION of 2", Due.FULL, () -> x.propose(0));
        x.forget();
        for (int branch = 0; branch <= 1; branch++) {
            Due.give(x, "k", "v");
            x.put(branch, 0);
            Due.dueRefused(x, "a PUT of 1 and 1", Due.FULL, () -> x.propose(0));
            x.forget();
            Due.give(x, "k", "e");
            x.erase(branch);
            Due.dueRefused(x, "a DELETE of 1 and 1", Due.FULL, () -> x.propose(0));
            x.forget();
            Due.give(x, "k", "");
            x.put(branch, 0);
            Due.when(x, "k", 0, 0, 0);
            Due.dueRefused(x, "a PUT of 1, a CONDITION of 1", Due.FULL, () -> x.propose(0));
            x.forget();
        }
        int last = x.told(0, 5);
        Due.when(x, "k", 0, 0, 0);
        Due.due("a CONDITION of 1", x.propose(0), last + 1);
    }

    private static CouncilStore withPairs(int pairs) {
        CouncilStore x = Due.led(1);
        for (int i = 0; i < pairs; i++) {
            Due.put(x, "k" + (char) i, "", 0);
            x.propose(0);
        }
        x.sync(0);
        Due.due("PAIRS", x.told(0, 11), pairs);
        return x;
    }

    private static void pairs() {
        Due.part("a STORE has at most 200 PAIRS (a COMMAND that would leave more is BARRED)");
        for (int pairs = 198; pairs <= 200; pairs++) {
            for (int more = 1; more <= 3; more++) {
                CouncilStore x = withPairs(pairs);
                for (int i = 0; i < more; i++) {
                    Due.put(x, "l" + i, "", 0);
                }
                boolean fits = pairs + more <= 200;
                dueDone(x, fits ? 1 : 2, fits ? pairs + more : pairs, fits ? pairs + 1 : pairs);
            }
        }
        whatWouldBeLeft();
    }

    /** Only what is left counts, not what was there in between. */
    private static void whatWouldBeLeft() {
        CouncilStore x = withPairs(200);
        Due.put(x, "k" + (char) 7, "", 0);
        dueDone(x, 1, 200, 201);
        Due.put(x, "l", "", 0);
        Due.put(x, "m", "", 0);
        Due.erase(x, "k", "k" + (char) 2);
        dueDone(x, 1, 200, 202);
        Due.put(x, "n", "", 0);
        Due.erase(x, "n", "");
        dueDone(x, 1, 200, 203);
        Due.when(x, "none", 0, 3, 0);
        Due.give(x, "n", "");
        x.put(0, 0);
        dueDone(x, 2, 200, 203);
        Due.erase(x, "l", "");
        dueDone(x, 1, 199, 204);
        Due.put(x, "n", "", 0);
        dueDone(x, 1, 200, 205);
        Due.due("an earlier one", Due.range(x, 0, "\0", "\0", 100, 0, 0, 0), 100);
    }

    private static void dueDone(CouncilStore x, int kind, int pairs, int revision) {
        int index = Due.done(x, 0, 1);
        Due.due("OUTCOME", x.outcome(0, index, 0), kind);
        Due.due("PAIRS", x.told(0, 11), pairs);
        Due.due("REVISION", x.told(0, 8), revision);
    }

    /** An element takes a byte at least, an object 16: below 7 million bytes neither count is reached. */
    private static void room() {
        Due.part("room");
        applyAgain();
        applyAgain();
        long bytes = allocatedBy(LimitsTest::applyAgain);
        Due.due("bytes of applying again and again, over the bound", (int) Math.max(0, bytes - 7000000), 0);
        beatSeven();
        bytes = allocatedBy(LimitsTest::beatSeven);
        Due.due("bytes of seven nodes' MESSAGES, over the bound", (int) Math.max(0, bytes - 7000000), 0);
        snapshots();
        bytes = allocatedBy(LimitsTest::snapshots);
        Due.due("bytes of SNAPSHOTS, over the bound", (int) Math.max(0, bytes - 7000000), 0);
        bytes = allocatedBy(LimitsTest::nodesAgain);
        Due.due("bytes of nodes anew, over the bound", (int) Math.max(0, bytes - 7000000), 0);
    }

    private static long allocatedBy(Runnable run) {
        com.sun.management.ThreadMXBean threads = (com.sun.management.ThreadMXBean) ManagementFactory.getThreadMXBean();
        long before = threads.getThreadAllocatedBytes(Thread.currentThread().getId());
        run.run();
        return threads.getThreadAllocatedBytes(Thread.currentThread().getId()) - before;
    }

    /** Four calls a PAIR, and six PAIRS a COMMAND: there's no cheaper way. */
    private static void putPairs(CouncilStore x, int pairs) {
        for (int i = 0; i < pairs; i++) {
            x.feed(i << 24, 0, 0, 0, 0);
            x.end(19);
            x.end(0);
            x.put(1, 0);
            if (i % 6 == 5) {
                x.propose(0);
            }
        }
    }

    /** Half the calls put PAIRS, the others fall and rise, so that all is applied anew. */
    private static void applyAgain() {
        CouncilStore x = Due.council(1);
        x.rise(0);
        putPairs(x, 60);
        x.sync(0);
        for (int i = 0; i < 62; i++) {
            x.crash(0, 0);
            x.start(0);
            x.rise(0);
            x.sync(0);
        }
    }

    private static void beatSeven() {
        CouncilStore x = Due.council(7);
        x.rise(0);
        Due.settle(x, 7);
        for (int i = 0; i < 400; i++) {
            x.propose(0);
        }
        x.sync(0);
    }

    private static void snapshots() {
        CouncilStore x = Due.council(1);
        x.rise(0);
        putPairs(x, 54);
        for (int i = 0; i < 90; i++) {
            x.propose(0);
            x.sync(0);
            x.snapshot(0);
        }
    }

    private static void nodesAgain() {
        CouncilStore x = new CouncilStore();
        for (int i = 0; i < 512; i++) {
            x.nodes(7);
        }
    }
}
