/** Promises 19 to 25: READS, PAIRS, RANGES, HISTORY, COMPACT, OUTCOMES; and how COMMANDS are applied. */
public final class StoreTest {
    private static final int APPEND = 3;
    private static final int TAKEN = 4;

    public static void main(String[] args) {
        applying();
        leases();
        barred();
        promise19();
        promise20();
        promise21();
        promise22();
        promise23();
        promise24();
        promise25();
        Due.exit();
    }

    private static void dueOutcome(CouncilStore x, int index, int kind, int revision, int deleted) {
        Due.due("outcome(" + index + ", 0)", x.outcome(0, index, 0), kind);
        Due.due("outcome(" + index + ", 1)", x.outcome(0, index, 1), revision);
        Due.due("outcome(" + index + ", 2)", x.outcome(0, index, 2), deleted);
    }

    /** CREATED, CHANGED, VERSION, LEASE and the VALUE's length. */
    private static void duePair(CouncilStore x, String key, int revision, int... want) {
        Due.due(key + " is there at " + revision, Due.pair(x, 0, key, revision, 0), want.length == 0 ? 0 : 1);
        for (int what = 1; what <= 5; what++) {
            Due.due(key + " at " + revision + ", " + what, Due.pair(x, 0, key, revision, what), want.length == 0 ? 0 : want[what - 1]);
        }
    }

    private static void applying() {
        Due.part("applying");
        CouncilStore x = Due.led(1);
        Due.put(x, "k", "one", 0);
        Due.put(x, "k", "three", 0);
        dueOutcome(x, Due.done(x, 0, 1), 1, 1, 0);
        duePair(x, "k", 0, 1, 1, 2, 0, 5);
        Due.put(x, "k", "", 0);
        dueOutcome(x, Due.done(x, 0, 1), 1, 2, 0);
        duePair(x, "k", 0, 1, 2, 3, 0, 0);
        Due.erase(x, "k", "");
        Due.put(x, "k", "x", 0);
        dueOutcome(x, Due.done(x, 0, 1), 1, 3, 1);
        duePair(x, "k", 0, 3, 3, 1, 0, 1);
        Due.put(x, "new", "x", 0);
        Due.erase(x, "new", "");
        dueOutcome(x, Due.done(x, 0, 1), 1, 4, 1);
        Due.due("nothing is otherwise", x.event(0, 4, 0, 0, 0), 0);
        Due.erase(x, "nothing", "o");
        dueOutcome(x, Due.done(x, 0, 1), 1, 4, 0);
        Due.when(x, "k", 2, 0, 7);
        Due.put(x, "then", "x", 0);
        dueOutcome(x, Due.done(x, 0, 1), 0, 4, 0);
        dueOutcome(x, Due.done(x, 0, 1), 1, 4, 0);
        Due.due("PAIRS", x.told(0, 11), 1);
    }

    private static void leases() {
        Due.part("leases");
        CouncilStore x = Due.led(1);
        x.lease(1, 99, false);
        x.lease(1, 1, false);
        dueOutcome(x, Due.done(x, 0, 1), 1, 0, 0);
        Due.due("LEASES", x.told(0, 14), 2);
        Due.put(x, "a", "", 99);
        Due.put(x, "b", "", 1);
        Due.put(x, "c", "", 99);
        Due.put(x, "d", "", 99);
        dueOutcome(x, Due.done(x, 0, 1), 1, 1, 0);
        Due.put(x, "c", "", 1);
        Due.put(x, "d", "", 0);
        Due.done(x, 0, 1);
        duePair(x, "c", 0, 1, 2, 2, 1, 0);
        duePair(x, "d", 0, 1, 2, 2, 0, 0);
        x.lease(1, 1, true);
        dueOutcome(x, Due.done(x, 0, 1), 1, 3, 2);
        duePair(x, "a", 0, 1, 1, 1, 99, 0);
        duePair(x, "b", 0);
        duePair(x, "c", 0);
        duePair(x, "d", 0, 1, 2, 2, 0, 0);
        Due.due("LEASES", x.told(0, 14), 1);
        x.lease(1, 1, false);
        Due.put(x, "e", "", 1);
        x.lease(1, 1, true);
        x.lease(1, 1, false);
        dueOutcome(x, Due.done(x, 0, 1), 1, 4, 1);
        Due.due("LEASES", x.told(0, 14), 2);
        x.lease(1, 1, true);
        dueOutcome(x, Due.done(x, 0, 1), 1, 4, 0);
    }

    private static void barred() {
        Due.part("BARRED");
        CouncilStore x = Due.led(1);
        x.lease(1, 3, false);
        Due.put(x, "k", "", 3);
        Due.done(x, 0, 1);
        Due.put(x, "l", "", 0);
        Due.erase(x, "k", "");
        x.lease(1, 5, false);
        Due.put(x, "m", "", 4);
        dueOutcome(x, Due.done(x, 0, 1), 2, 1, 0);
        Due.due("PAIRS", x.told(0, 11), 1);
        Due.due("LEASES", x.told(0, 14), 1);
        Due.due("REVISION", x.told(0, 8), 1);
        duePair(x, "k", 0, 1, 1, 1, 3, 0);
        x.lease(1, 3, false);
        dueOutcome(x, Due.done(x, 0, 1), 2, 1, 0);
        x.lease(1, 4, true);
        dueOutcome(x, Due.done(x, 0, 1), 2, 1, 0);
        x.lease(1, 3, true);
        Due.put(x, "k", "", 3);
        dueOutcome(x, Due.done(x, 0, 1), 2, 1, 0);
        Due.due("LEASES", x.told(0, 14), 1);
        Due.when(x, "k", 2, 0, 1);
        x.lease(1, 7, false);
        x.lease(0, 4, true);
        dueOutcome(x, Due.done(x, 0, 1), 1, 1, 0);
        Due.when(x, "k", 2, 0, 2);
        x.lease(0, 4, true);
        dueOutcome(x, Due.done(x, 0, 1), 2, 1, 0);
    }

    private static void promise19() {
        Due.part("promise 19");
        CouncilStore x = Due.led(3);
        Due.dueThrows("no KEY", Due.BAD, () -> x.read(0));
        Due.dueThrows("an empty KEY", Due.BAD, () -> Due.read(x, 0, ""));
        Due.dueThrows("33 bytes", Due.BAD, () -> Due.read(x, 0, "k".repeat(33)));
        Due.give(x, "k", "l");
        Due.dueThrows("two", Due.BAD, () -> x.read(0));
        Due.dueThrows("bad comes before", Due.BAD, () -> x.read(9));
        Due.dueThrows("no such node", Due.MISSING, () -> Due.read(x, 3, "k"));
        Due.dueThrows("no such node", Due.MISSING, () -> Due.read(x, -1, "k"));
        Due.dueThrows("a follower", Due.REFUSED, () -> Due.read(x, 1, "k"));
        Due.due("first", Due.read(x, 0, "k"), 0);
        Due.due("ROUND", x.message(0, 7), 1);
        Due.due("second", Due.read(x, 0, "k"), 1);
        Due.due("ROUND", x.message(2, 7), 2);
        Due.due("waiting", x.told(0, 12), 2);
        for (int i = 2; i < 16; i++) {
            Due.read(x, 0, "k");
        }
        Due.due("NET", x.count(2), 32);
        Due.dueThrows("16 wait", Due.FULL, () -> Due.read(x, 0, "k"));
        Due.due("nothing was sent", x.count(2), 32);
        Due.due("ARGUMENTS are gone", x.count(1), 0);
        Due.settle(x, 3);
        Due.due("all done", x.told(0, 12), 0);
        Due.due("room again", Due.read(x, 0, "k"), 16);
        x.crash(0, 0);
        Due.dueThrows("DOWN", Due.MISSING, () -> Due.read(x, 0, "k"));
        commitOfItsTerm();
        alone();
        numbersBeginAnew();
    }

    private static void commitOfItsTerm() {
        CouncilStore x = Due.led(3);
        Due.restart(x, 0, 0);
        Due.elect(x, 0, 1);
        Due.dueThrows("COMMIT is 0", Due.REFUSED, () -> Due.read(x, 0, "k"));
        Due.elect(x, 1, 2);
        Due.due("COMMIT of TERM 1", x.told(1, 6), 1);
        Due.dueThrows("COMMIT of TERM 1", Due.REFUSED, () -> Due.read(x, 1, "k"));
        Due.settle(x, 3);
        Due.due("COMMIT of its TERM", Due.read(x, 1, "k"), 0);
        x.snapshot(1);
        Due.due("as a SNAPSHOT, too", Due.read(x, 1, "k"), 1);
    }

    private static void alone() {
        CouncilStore x = Due.led(1);
        Due.put(x, "k", "v", 0);
        x.propose(0);
        Due.due("read", Due.read(x, 0, "k"), 0);
        Due.due("done at once, before the sync", x.answer(0, 0, 0), 0);
        x.sync(0);
        Due.due("read", Due.read(x, 0, "k"), 1);
        Due.due("done at once, after it", x.answer(0, 1, 0), 1);
        Due.due("waiting", x.told(0, 12), 0);
    }

    private static void numbersBeginAnew() {
        CouncilStore x = Due.led(3);
        Due.read(x, 0, "k");
        Due.read(x, 0, "k");
        Due.settle(x, 3);
        Due.due("done", x.answer(0, 1, 0), 0);
        Due.stand(x, 1, 0);
        x.deliver(0, false);
        Due.due("no leader", x.told(0, 3), 0);
        Due.dueThrows("READS are gone", Due.MISSING, () -> x.answer(0, 1, 0));
        Due.settle(x, 3);
        Due.elect(x, 0, 2);
        Due.dueThrows("READS are gone", Due.MISSING, () -> x.answer(0, 0, 0));
        Due.settle(x, 3);
        Due.due("from 0 again", Due.read(x, 0, "k"), 0);
        Due.due("ROUND from 1 again", x.message(0, 7), 1);
        Due.due("nobody has confirmed it yet", x.told(0, 12), 1);
    }

    private static void promise20() {
        Due.part("promise 20");
        CouncilStore x = Due.led(3);
        Due.put(x, "a", "v", 0);
        Due.done(x, 0, 3);
        Due.put(x, "k", "v", 0);
        Due.done(x, 0, 3);
        Due.put(x, "k", "v", 0);
        Due.done(x, 0, 3);
        Due.erase(x, "a", "");
        Due.done(x, 0, 3);
        Due.read(x, 0, "k");
        Due.read(x, 0, "a");
        Due.dueThrows("not done", Due.MISSING, () -> x.answer(0, 0, 0));
        Due.dueThrows("bad comes before", Due.BAD, () -> x.answer(0, 0, 4));
        Due.dueThrows("bad comes before", Due.BAD, () -> x.answer(7, 0, -1));
        Due.bring(x, APPEND, 0, 1);
        Due.bring(x, TAKEN, 1, 0);
        Due.due("ROUND 1 is done", x.answer(0, 0, 0), 1);
        Due.dueThrows("ROUND 2 isn't", Due.MISSING, () -> x.answer(0, 1, 0));
        Due.bring(x, APPEND, 0, 1);
        Due.bring(x, TAKEN, 1, 0);
        int[] found = {1, 3, 2, 4};
        int[] none = {0, 0, 0, 4};
        for (int what = 0; what < 4; what++) {
            Due.due("k, " + what, x.answer(0, 0, what), found[what]);
            Due.due("a, " + what, x.answer(0, 1, what), none[what]);
        }
        Due.dueThrows("answer(2)", Due.MISSING, () -> x.answer(0, 2, 0));
        Due.dueThrows("answer(-1)", Due.MISSING, () -> x.answer(0, -1, 0));
        Due.dueThrows("a follower", Due.MISSING, () -> x.answer(1, 0, 0));
        Due.dueThrows("no such node", Due.MISSING, () -> x.answer(3, 0, 0));
        Due.put(x, "k", "v", 0);
        Due.done(x, 0, 3);
        Due.due("as it was then", x.answer(0, 0, 2), 2);
        Due.due("as it was then", x.answer(0, 0, 3), 4);
        x.crash(0, 0);
        Due.dueThrows("DOWN", Due.MISSING, () -> x.answer(0, 0, 0));
        confirmedByMore();
        answeredWhenDone();
    }

    private static void confirmedByMore() {
        CouncilStore x = Due.led(4);
        Due.read(x, 0, "k");
        Due.read(x, 0, "k");
        Due.bring(x, APPEND, 0, 1);
        x.deliver(Due.find(x, TAKEN, 1, 0), true);
        x.deliver(Due.find(x, TAKEN, 1, 0), false);
        Due.due("two of four", x.told(0, 12), 2);
        Due.bring(x, APPEND, 0, 3);
        Due.bring(x, APPEND, 0, 3);
        x.lose(Due.find(x, TAKEN, 3, 0));
        Due.bring(x, TAKEN, 3, 0);
        Due.due("ROUND 2 confirms 1, too", x.told(0, 12), 1);
        Due.bring(x, APPEND, 0, 2);
        Due.bring(x, TAKEN, 2, 0);
        Due.due("ROUND 1 not 2", x.told(0, 12), 1);
        Due.bring(x, APPEND, 0, 2);
        Due.bring(x, TAKEN, 2, 0);
        Due.due("done", x.told(0, 12), 0);
    }

    /** The very TAKEN that makes an ENTRY COMMIT makes the READ see it. */
    private static void answeredWhenDone() {
        CouncilStore x = Due.led(3);
        Due.put(x, "k", "v", 0);
        x.propose(0);
        x.sync(0);
        Due.loseAll(x);
        Due.read(x, 0, "k");
        Due.bring(x, APPEND, 0, 1);
        Due.syncAndBring(x, TAKEN, 1, 0);
        Due.due("done", x.answer(0, 0, 0), 1);
        Due.due("REVISION", x.answer(0, 0, 3), 1);
        Due.due("what must never be", x.count(6), 0);
        noConfirms();
    }

    /** A no confirms a ROUND as well. */
    private static void noConfirms() {
        CouncilStore x = Due.led(3);
        x.propose(0);
        x.propose(0);
        x.sync(0);
        Due.restart(x, 0, 0);
        Due.elect(x, 0, 2);
        x.sync(0);
        x.lose(0);
        for (int left = 20; left > 0 && x.told(0, 6) < 4; left--) {
            x.deliver(0, false);
            x.sync(2);
        }
        Due.due("COMMIT", x.told(0, 6), 4);
        Due.loseAll(x);
        Due.read(x, 0, "k");
        Due.bring(x, APPEND, 0, 1);
        x.sync(1);
        Due.due("a no", x.message(Due.find(x, TAKEN, 1, 0), 5), 0);
        Due.due("with the ROUND", x.message(Due.find(x, TAKEN, 1, 0), 7), 1);
        Due.bring(x, TAKEN, 1, 0);
        Due.due("done", x.told(0, 12), 0);
    }

    private static void promise21() {
        Due.part("promise 21");
        CouncilStore x = Due.led(3);
        history(x, 3);
        Due.dueThrows("what -1", Due.BAD, () -> Due.pair(x, 0, "k", 0, -1));
        Due.dueThrows("what 6", Due.BAD, () -> Due.pair(x, 0, "k", 0, 6));
        Due.dueThrows("REVISION -1", Due.BAD, () -> Due.pair(x, 0, "k", -1, 0));
        Due.dueThrows("bad comes before", Due.BAD, () -> Due.pair(x, 9, "k", -1, 0));
        Due.dueThrows("no KEY", Due.BAD, () -> x.pair(0, 0, 0));
        Due.dueThrows("an empty KEY", Due.BAD, () -> Due.pair(x, 0, "", 0, 0));
        Due.give(x, "k", "");
        Due.dueThrows("two", Due.BAD, () -> x.pair(0, 0, 0));
        Due.dueThrows("no such node", Due.MISSING, () -> Due.pair(x, 3, "k", 0, 0));
        Due.dueThrows("no such node", Due.MISSING, () -> Due.pair(x, -1, "k", 0, 0));
        Due.dueThrows("missing comes before", Due.MISSING, () -> Due.pair(x, 3, "k", 99, 0));
        Due.dueThrows("above the latest", Due.REFUSED, () -> Due.pair(x, 0, "k", 6, 0));
        duePair(x, "k", 1, 1, 1, 1, 0, 1);
        duePair(x, "k", 2, 1, 2, 2, 9, 2);
        duePair(x, "k", 3);
        duePair(x, "k", 4, 4, 4, 1, 0, 3);
        duePair(x, "k", 5, 4, 4, 1, 0, 3);
        duePair(x, "k", 0, 4, 4, 1, 0, 3);
        duePair(x, "l", 1);
        duePair(x, "l", 2, 2, 2, 1, 0, 0);
        duePair(x, "l", 5);
        Due.due("a follower's", Due.pair(x, 2, "k", 2, 4), 9);
        x.crash(0, 0);
        Due.dueThrows("DOWN", Due.MISSING, () -> Due.pair(x, 0, "k", 0, 0));
    }

    /** k put, k again (LEASE 9) with l and a, k revoked, k anew, a to m deleted but k. */
    private static void history(CouncilStore x, int nodes) {
        Due.put(x, "k", "1", 0);
        Due.done(x, 0, nodes);
        x.lease(1, 9, false);
        Due.put(x, "l", "", 0);
        Due.put(x, "k", "22", 9);
        Due.put(x, "a", "\u0080\u00ff", 0);
        Due.done(x, 0, nodes);
        x.lease(1, 9, true);
        Due.done(x, 0, nodes);
        Due.put(x, "k", "333", 0);
        Due.done(x, 0, nodes);
        Due.erase(x, "a", "k");
        Due.erase(x, "k\0", "\0");
        Due.done(x, 0, nodes);
    }

    private static void promise22() {
        Due.part("promise 22");
        CouncilStore x = Due.led(1);
        history(x, 1);
        Due.dueThrows("what -1", Due.BAD, () -> Due.range(x, 0, "k", "", 0, -1, 0, 0));
        Due.dueThrows("what 4", Due.BAD, () -> Due.range(x, 0, "k", "", 0, 4, 0, 0));
        Due.dueThrows("REVISION -1", Due.BAD, () -> Due.range(x, 0, "k", "", -1, 0, 0, 0));
        Due.dueThrows("bad comes before", Due.BAD, () -> Due.range(x, 9, "", "", 0, 0, 0, 0));
        Due.dueThrows("END of 65", Due.BAD, () -> Due.range(x, 0, "k", "e".repeat(65), 0, 0, 0, 0));
        Due.give(x, "k");
        Due.dueThrows("no END", Due.BAD, () -> x.range(0, 0, 0, 0, 0));
        Due.dueThrows("no such node", Due.MISSING, () -> Due.range(x, 1, "k", "", 0, 0, 0, 0));
        Due.dueThrows("above the latest", Due.REFUSED, () -> Due.range(x, 0, "k", "", 6, 1, 99, 0));
        int[] sizes = {1, 1, 3, 2, 3, 1};
        for (int revision = 0; revision <= 5; revision++) {
            Due.due("all at " + revision, Due.range(x, 0, "\0", "\0", revision, 0, -1, -1), sizes[revision]);
        }
        Due.due("k at 2", Due.range(x, 0, "k", "", 2, 0, 0, 0), 1);
        Due.due("a to k at 2", Due.range(x, 0, "a", "k", 2, 0, 0, 0), 1);
        Due.due("a to l at 2", Due.range(x, 0, "a", "l", 2, 0, 0, 0), 2);
        Due.due("k on at 2", Due.range(x, 0, "k", "\0", 2, 0, 0, 0), 2);
        Due.due("l to a at 2", Due.range(x, 0, "l", "a", 2, 0, 0, 0), 0);
        int[] keys = {'a', 'k', 'l'};
        for (int i = 0; i < 3; i++) {
            Due.due("length", Due.range(x, 0, "a", "z", 2, 1, i, -1), 1);
            Due.due("byte", Due.range(x, 0, "a", "z", 2, 2, i, 0), keys[i]);
        }
        Due.due("from k on", Due.range(x, 0, "k", "z", 2, 2, 0, 0), 'k');
        Due.due("a byte of a VALUE", Due.range(x, 0, "a", "", 2, 3, 0, 0), 128);
        Due.due("a byte of a VALUE", Due.range(x, 0, "a", "", 2, 3, 0, 1), 255);
        Due.dueThrows("k 1 of a KEY", Due.MISSING, () -> Due.range(x, 0, "a", "z", 2, 2, 0, 1));
        Due.dueThrows("k -1 of a KEY", Due.MISSING, () -> Due.range(x, 0, "a", "z", 2, 2, 0, -1));
        Due.dueThrows("k 2 of a VALUE", Due.MISSING, () -> Due.range(x, 0, "a", "z", 2, 3, 0, 2));
        Due.dueThrows("k 0 of an empty VALUE", Due.MISSING, () -> Due.range(x, 0, "l", "", 2, 3, 0, 0));
        Due.dueThrows("PAIR 3", Due.MISSING, () -> Due.range(x, 0, "a", "z", 2, 1, 3, 0));
        Due.dueThrows("PAIR -1", Due.MISSING, () -> Due.range(x, 0, "a", "z", 2, 1, -1, 0));
        x.compact(0, 3);
        Due.dueThrows("before COMPACT", Due.REFUSED, () -> Due.range(x, 0, "a", "z", 2, 2, 9, 9));
        Due.due("at COMPACT", Due.range(x, 0, "a", "z", 3, 0, 0, 0), 2);
        x.crash(0, 0);
        Due.dueThrows("DOWN", Due.MISSING, () -> Due.range(x, 0, "a", "z", 0, 0, 0, 0));
    }

    private static void promise23() {
        Due.part("promise 23");
        CouncilStore x = Due.led(1);
        history(x, 1);
        Due.dueThrows("what -1", Due.BAD, () -> x.event(0, 1, -1, 0, 0));
        Due.dueThrows("what 4", Due.BAD, () -> x.event(0, 1, 4, 0, 0));
        Due.dueThrows("bad comes before", Due.BAD, () -> x.event(9, 99, 4, 0, 0));
        Due.dueThrows("REVISION 0", Due.MISSING, () -> x.event(0, 0, 0, 0, 0));
        Due.dueThrows("REVISION 6", Due.MISSING, () -> x.event(0, 6, 0, 0, 0));
        Due.dueThrows("no such node", Due.MISSING, () -> x.event(1, 1, 0, 0, 0));
        dueEvents(x, 1, "k", 0);
        dueEvents(x, 2, "akl", 0, 0, 0);
        dueEvents(x, 3, "k", 1);
        dueEvents(x, 4, "k", 0);
        dueEvents(x, 5, "al", 1, 1);
        Due.dueThrows("KEY 3", Due.MISSING, () -> x.event(0, 2, 1, 3, 0));
        Due.dueThrows("KEY -1", Due.MISSING, () -> x.event(0, 2, 2, -1, 0));
        Due.dueThrows("byte 1", Due.MISSING, () -> x.event(0, 2, 3, 0, 1));
        Due.dueThrows("byte -1", Due.MISSING, () -> x.event(0, 2, 3, 0, -1));
        Due.put(x, "\u00ff\u00fe", "", 0);
        Due.erase(x, "k", "");
        Due.put(x, "k", "333", 0);
        Due.done(x, 0, 1);
        Due.due("deleted and put: otherwise", x.event(0, 6, 0, 0, 0), 2);
        Due.due("not deleted", x.event(0, 6, 1, 0, 0), 0);
        Due.due("length", x.event(0, 6, 2, 1, 0), 2);
        Due.due("byte", x.event(0, 6, 3, 1, 1), 254);
        x.compact(0, 2);
        Due.dueThrows("before COMPACT", Due.REFUSED, () -> x.event(0, 1, 1, 9, 9));
        Due.dueThrows("missing comes before", Due.MISSING, () -> x.event(0, 0, 0, 0, 0));
        Due.due("at COMPACT", x.event(0, 2, 0, 0, 0), 3);
        x.crash(0, 0);
        Due.dueThrows("DOWN", Due.MISSING, () -> x.event(0, 1, 0, 0, 0));
    }

    private static void dueEvents(CouncilStore x, int revision, String keys, int... deleted) {
        Due.due("KEYS of " + revision, x.event(0, revision, 0, 99, 99), keys.length());
        for (int i = 0; i < keys.length(); i++) {
            Due.due("KEY " + i + " of " + revision, x.event(0, revision, 1, i, 99), deleted[i]);
            Due.due("KEY " + i + " of " + revision, x.event(0, revision, 2, i, 99), 1);
            Due.due("KEY " + i + " of " + revision, x.event(0, revision, 3, i, 0), keys.charAt(i));
        }
    }

    private static void promise24() {
        Due.part("promise 24");
        CouncilStore x = Due.led(3);
        history(x, 3);
        Due.dueThrows("no such node", Due.MISSING, () -> x.compact(3, 1));
        Due.dueThrows("missing comes before", Due.MISSING, () -> x.compact(-1, 99));
        Due.dueThrows("above the latest", Due.REFUSED, () -> x.compact(0, 6));
        Due.dueThrows("below 0", Due.REFUSED, () -> x.compact(0, -1));
        x.compact(0, 0);
        x.compact(0, 3);
        Due.dueThrows("below", Due.REFUSED, () -> x.compact(0, 2));
        x.compact(0, 3);
        Due.dueThrows("before COMPACT", Due.REFUSED, () -> Due.pair(x, 0, "k", 2, 0));
        Due.due("at COMPACT", Due.pair(x, 0, "l", 3, 0), 1);
        Due.due("the latest", Due.pair(x, 0, "k", 0, 0), 1);
        Due.due("another's", Due.pair(x, 1, "k", 2, 0), 1);
        x.compact(0, 5);
        Due.due("the latest", Due.pair(x, 0, "k", 0, 0), 1);
        x.snapshot(0);
        x.sync(0);
        Due.dueThrows("still", Due.REFUSED, () -> Due.pair(x, 0, "k", 2, 0));
        Due.restart(x, 0, 0);
        Due.due("not in SNAPSHOTS", Due.pair(x, 0, "k", 2, 0), 1);
        Due.due("not in SNAPSHOTS", x.event(0, 2, 0, 0, 0), 3);
        x.crash(1, 0);
        Due.dueThrows("DOWN", Due.MISSING, () -> x.compact(1, 0));
    }

    private static void promise25() {
        Due.part("promise 25");
        CouncilStore x = Due.led(3);
        Due.dueThrows("what -1", Due.BAD, () -> x.outcome(0, 1, -1));
        Due.dueThrows("what 3", Due.BAD, () -> x.outcome(0, 1, 3));
        Due.dueThrows("bad comes before", Due.BAD, () -> x.outcome(9, 99, 3));
        Due.dueThrows("no such node", Due.MISSING, () -> x.outcome(3, 1, 0));
        Due.dueThrows("INDEX 0", Due.MISSING, () -> x.outcome(0, 0, 0));
        Due.dueThrows("INDEX -1", Due.MISSING, () -> x.outcome(0, -1, 0));
        Due.dueThrows("INDEX 2", Due.MISSING, () -> x.outcome(0, 2, 0));
        dueOutcome(x, 1, 1, 0, 0);
        Due.put(x, "k", "", 0);
        x.propose(0);
        Due.dueThrows("not applied", Due.MISSING, () -> x.outcome(0, 2, 0));
        Due.settle(x, 3);
        dueOutcome(x, 2, 1, 1, 0);
        Due.dueThrows("not applied by 1", Due.MISSING, () -> x.outcome(1, 2, 0));
        Due.beatOut(x, 0, 3);
        Due.due("applied by 1", x.outcome(1, 2, 1), 1);
        x.snapshot(1);
        x.sync(1);
        Due.due("still", x.outcome(1, 2, 1), 1);
        Due.restart(x, 1, 0);
        Due.dueThrows("since its start", Due.MISSING, () -> x.outcome(1, 2, 0));
        Due.erase(x, "k", "");
        Due.done(x, 0, 3);
        Due.due("since its start", x.outcome(1, 3, 2), 1);
        Due.due("since its start", x.outcome(1, 3, 1), 2);
        x.crash(1, 0);
        Due.dueThrows("DOWN", Due.MISSING, () -> x.outcome(1, 3, 0));
    }
}
