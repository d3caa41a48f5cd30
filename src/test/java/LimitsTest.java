import java.lang.management.ManagementFactory;

/** The limits of the document, and the room that a run may take. */
public final class LimitsTest {
    private static final int ASK = 1;
    private static final int ANSWER = 2;

    public static void main(String[] args) {
        madeInAll();
        madeByDeliver();
        madeBytes();
        pairs();
        room();
        Due.exit();
    }

    private static void madeInAll() {
        Due.part("1500 are made");
        CouncilStore x = Due.led(1);
        for (int i = 2; i <= 1500; i++) {
            Due.due("propose", x.propose(0), i);
        }
        x.lease(1, 1, false);
        Due.dueThrows("1501", Due.FULL, () -> x.propose(0));
        Due.due("DRAFT stays", x.count(4), 1);
        Due.due("made", x.count(5), 1500);
        Due.due("LAST", x.told(0, 5), 1500);
        x.crash(0, 0);
        x.start(0);
        Due.dueThrows("a leader's EMPTY one", Due.FULL, () -> x.rise(0));
        Due.dueTold(x, 0, 0, 1, 0, 0, -1, 1, 0, 0, 0, 0, 0);
        x.nodes(1);
        x.rise(0);
        Due.due("anew", x.count(5), 1);
    }

    private static void madeByDeliver() {
        Due.part("1500 are made, and a vote comes");
        CouncilStore x = Due.led(2);
        for (int i = 2; i <= 1500; i++) {
            x.propose(0);
        }
        Due.restart(x, 0, 0);
        x.rise(0);
        Due.syncAndBring(x, ASK, 0, 1);
        x.sync(1);
        int at = Due.find(x, ANSWER, 1, 0);
        Due.dueThrows("leave", Due.FULL, () -> x.deliver(at, false));
        Due.dueThrows("stay", Due.FULL, () -> x.deliver(at, true));
        Due.due("a candidate stays", x.told(0, 3), 1);
        Due.due("the MESSAGE stays", x.count(2), at + 1);
        x.crash(0, 0);
        x.deliver(at, false);
        Due.due("to one that's DOWN", x.count(2), at);
    }

    private static void madeBytes() {
        Due.part("40000 bytes are made");
        CouncilStore x = Due.led(1);
        for (int i = 0; i < 41; i++) {
            for (int k = 0; k < 10; k++) {
                Due.give(x, "k".repeat(32), "v".repeat(64));
                x.put(k & 1, 0);
            }
            x.propose(0);
        }
        bytesMore(x, 640);
        Due.due("39360 and 640", x.propose(0), 43);
        Due.when(x, "k", 0, 0, 0);
        Due.dueThrows("40001", Due.FULL, () -> x.propose(0));
        Due.due("DRAFT stays", x.count(4), 1);
        x.forget();
        x.lease(1, 1, false);
        Due.due("without bytes", x.propose(0), 44);
        x.nodes(1);
        x.rise(0);
        Due.when(x, "k", 0, 0, 0);
        Due.due("anew", x.propose(0), 2);
    }

    private static void bytesMore(CouncilStore x, int bytes) {
        for (int left = bytes; left > 0; left -= 80) {
            Due.give(x, "k".repeat(16), "v".repeat(64));
            if (left % 160 == 0) {
                x.erase(0);
            } else {
                x.put(1, 0);
            }
        }
    }

    private static void pairs() {
        Due.part("200 PAIRS");
        CouncilStore x = Due.led(1);
        for (int i = 0; i < 199; i++) {
            Due.put(x, "k" + (char) i, "", 0);
            x.propose(0);
        }
        x.sync(0);
        Due.due("PAIRS", x.told(0, 11), 199);
        Due.put(x, "l", "", 0);
        Due.put(x, "m", "", 0);
        dueDone(x, 2, 199);
        Due.put(x, "l", "", 0);
        Due.put(x, "m", "", 0);
        Due.erase(x, "l", "");
        dueDone(x, 1, 200);
        Due.put(x, "m", "", 0);
        dueDone(x, 1, 200);
        Due.put(x, "n", "", 0);
        dueDone(x, 2, 200);
        Due.due("an earlier one", Due.range(x, 0, "\0", "\0", 100, 0, 0, 0), 100);
    }

    private static void dueDone(CouncilStore x, int kind, int pairs) {
        int index = Due.done(x, 0, 1);
        Due.due("OUTCOME", x.outcome(0, index, 0), kind);
        Due.due("PAIRS", x.told(0, 11), pairs);
    }

    /** An element takes a byte at least, an object 16: below 7 million bytes neither count is reached. */
    private static void room() {
        Due.part("room");
        applyAgain();
        applyAgain();
        long bytes = allocatedBy(LimitsTest::applyAgain);
        Due.due("bytes of applying again and again, over the bound", (int) Math.max(0, bytes - 7000000), 0);
        beatSeven();
        bytes = allocatedBy(LimitsTest::beatSeven);
        Due.due("bytes of seven nodes' MESSAGES, over the bound", (int) Math.max(0, bytes - 7000000), 0);
        snapshots();
        bytes = allocatedBy(LimitsTest::snapshots);
        Due.due("bytes of SNAPSHOTS, over the bound", (int) Math.max(0, bytes - 7000000), 0);
        bytes = allocatedBy(LimitsTest::nodesAgain);
        Due.due("bytes of nodes anew, over the bound", (int) Math.max(0, bytes - 7000000), 0);
    }

    private static long allocatedBy(Runnable run) {
        com.sun.management.ThreadMXBean threads = (com.sun.management.ThreadMXBean) ManagementFactory.getThreadMXBean();
        long before = threads.getThreadAllocatedBytes(Thread.currentThread().getId());
        run.run();
        return threads.getThreadAllocatedBytes(Thread.currentThread().getId()) - before;
    }

    /** Four calls a PAIR, and six PAIRS a COMMAND: there's no cheaper way. */
    private static void putPairs(CouncilStore x, int pairs) {
        for (int i = 0; i < pairs; i++) {
            x.feed(i << 24, 0, 0, 0, 0);
            x.end(19);
            x.end(0);
            x.put(1, 0);
            if (i % 6 == 5) {
                x.propose(0);
            }
        }
    }

    /** Half the calls put PAIRS, the others fall and rise, so that all is applied anew. */
    private static void applyAgain() {
        CouncilStore x = Due.council(1);
        x.rise(0);
        putPairs(x, 60);
        x.sync(0);
        for (int i = 0; i < 62; i++) {
            x.crash(0, 0);
            x.start(0);
            x.rise(0);
            x.sync(0);
        }
    }

    private static void beatSeven() {
        CouncilStore x = Due.council(7);
        x.rise(0);
        Due.settle(x, 7);
        for (int i = 0; i < 400; i++) {
            x.propose(0);
        }
        x.sync(0);
    }

    private static void snapshots() {
        CouncilStore x = Due.council(1);
        x.rise(0);
        putPairs(x, 54);
        for (int i = 0; i < 90; i++) {
            x.propose(0);
            x.sync(0);
            x.snapshot(0);
        }
    }

    private static void nodesAgain() {
        CouncilStore x = new CouncilStore();
        for (int i = 0; i < 512; i++) {
            x.nodes(7);
        }
    }
}
