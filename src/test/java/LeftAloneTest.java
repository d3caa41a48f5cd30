/** What calls leave as it was: INPUT, ARGUMENTS and DRAFT where they have no part in it, and other objects. */
public final class LeftAloneTest {
    private static final int ASK = 1;
    private static final int ANSWER = 2;
    private static final int APPEND = 3;
    private static final int TAKEN = 4;
    private static final String ROW = "ABCDEFGHIJKLMNOPQRST";

    public static void main(String[] args) {
        rowsStay();
        rowsStayWhenRefused();
        draftStays();
        newObjectBesideAnother();
        rowsOfTwo();
        callsOnAnother();
        firstOnesOfTwo();
        Due.exit();
    }

    /** INPUT has ROW, ARGUMENTS are a KEY and a VALUE. */
    private static void giveRows(CouncilStore x) {
        Due.give(x, "key", "value");
        Due.due("feed", x.feed(0x41424344, 0x45464748, 0x494a4b4c, 0x4d4e4f50, 0x51525354), 20);
    }

    private static void dueCounts(CouncilStore x, String after, int clauses) {
        Due.due("INPUT after " + after, x.count(0), 20);
        Due.due("ARGUMENTS after " + after, x.count(1), 2);
        Due.due("DRAFT after " + after, x.count(4), clauses);
    }

    /** Byte by byte; node 0 is alone. */
    private static void dueRows(CouncilStore x) {
        x.put(1, 0);
        x.end(0);
        x.end(0);
        x.put(1, 0);
        int index = x.propose(0);
        x.sync(0);
        Due.due("both are KEYS", x.outcome(0, index, 0), 1);
        Due.due("INPUT was a KEY", Due.pair(x, 0, ROW, 0, 0), 1);
        Due.due("the KEY", Due.pair(x, 0, "key", 0, 0), 1);
        for (int k = 0; k < 5; k++) {
            Due.due("byte " + k + " of the VALUE", Due.range(x, 0, "key", "", 0, 3, 0, k), "value".charAt(k));
        }
    }

    private static void rowsStay() {
        Due.part("A call with [ ] takes all ARGUMENTS: the others take none, and leave INPUT");
        CouncilStore x = new CouncilStore();
        giveRows(x);
        x.nodes(3);
        dueCounts(x, "nodes", 0);
        x.rise(0);
        x.sync(0);
        Due.bring(x, ASK, 0, 1);
        x.sync(1);
        dueCounts(x, "rise, sync, deliver", 0);
        Due.bring(x, ANSWER, 1, 0);
        Due.due("INDEX", x.propose(0), 2);
        x.beat(0);
        dueCounts(x, "propose, beat", 0);
        Due.settle(x, 3);
        Due.due("BASE", x.snapshot(0), 2);
        x.compact(0, 0);
        dueCounts(x, "snapshot, compact", 0);
        Due.due("outcome", x.outcome(0, 2, 0), 1);
        Due.due("told", x.told(0, 3), 2);
        x.beat(0);
        x.sync(0);
        Due.due("message", x.message(0, 0), APPEND);
        x.lose(0);
        x.forget();
        dueCounts(x, "outcome, told, message, lose, forget", 0);
        x.crash(2, 0);
        dueCounts(x, "crash", 0);
        x.start(2);
        dueCounts(x, "start", 0);
        x.nodes(1);
        x.rise(0);
        x.sync(0);
        dueRows(x);
        Due.read(x, 0, "key");
        giveRows(x);
        Due.due("answer", x.answer(0, 0, 0), 1);
        dueCounts(x, "answer", 0);
        Due.due("event", x.event(0, 1, 0, 0, 0), 2);
        Due.due("event", x.event(0, 1, 3, 0, 0), 'A');
        dueCounts(x, "event", 0);
    }

    private static void rowsStayWhenRefused() {
        Due.part("A refused call changes nothing: calls without [ ] leave INPUT and ARGUMENTS");
        CouncilStore x = Due.led(1);
        giveRows(x);
        Due.dueRefused(x, "nodes", Due.BAD, () -> x.nodes(8));
        Due.dueRefused(x, "end", Due.BAD, () -> x.end(20));
        Due.dueRefused(x, "propose", Due.MISSING, () -> x.propose(1));
        Due.dueRefused(x, "rise", Due.REFUSED, () -> x.rise(0));
        Due.dueRefused(x, "beat", Due.MISSING, () -> x.beat(-1));
        Due.dueRefused(x, "sync", Due.MISSING, () -> x.sync(1));
        Due.dueRefused(x, "crash", Due.BAD, () -> x.crash(0, 1));
        Due.dueRefused(x, "start", Due.MISSING, () -> x.start(0));
        Due.dueRefused(x, "deliver", Due.MISSING, () -> x.deliver(0, false));
        Due.dueRefused(x, "lose", Due.MISSING, () -> x.lose(0));
        Due.dueRefused(x, "snapshot", Due.MISSING, () -> x.snapshot(1));
        Due.dueRefused(x, "answer", Due.MISSING, () -> x.answer(0, 0, 0));
        Due.dueRefused(x, "answer", Due.BAD, () -> x.answer(0, 0, 4));
        Due.dueRefused(x, "event", Due.MISSING, () -> x.event(0, 1, 0, 0, 0));
        Due.dueRefused(x, "event", Due.BAD, () -> x.event(0, 1, 4, 0, 0));
        Due.dueRefused(x, "compact", Due.REFUSED, () -> x.compact(0, 1));
        Due.dueRefused(x, "outcome", Due.MISSING, () -> x.outcome(0, 2, 0));
        Due.dueRefused(x, "message", Due.MISSING, () -> x.message(0, 0));
        Due.dueRefused(x, "told", Due.BAD, () -> x.told(0, 15));
        x.snapshot(0);
        Due.dueRefused(x, "snapshot", Due.REFUSED, () -> x.snapshot(0));
        dueCounts(x, "all of them", 0);
        dueRows(x);
    }

    /** DRAFT is nobody's but the object's: only nodes, propose and forget make it empty. */
    private static void draftStays() {
        Due.part("DRAFT becomes a COMMAND; DRAFT is empty: else it stays");
        CouncilStore x = Due.led(2);
        Due.when(x, "k", 2, 0, 0);
        Due.put(x, "k", "v", 0);
        x.lease(0, 7, false);
        giveRows(x);
        x.snapshot(0);
        x.beat(0);
        Due.settle(x, 2);
        dueCounts(x, "snapshot, beat, sync, deliver", 3);
        Due.restart(x, 0, 0);
        dueCounts(x, "crash and start of the leader", 3);
        x.crash(1, 0);
        Due.dueRefused(x, "propose", Due.REFUSED, () -> x.propose(0));
        Due.dueRefused(x, "propose", Due.MISSING, () -> x.propose(1));
        dueCounts(x, "a propose that is refused", 3);
        x.end(0);
        Due.dueThrows("a pair that takes both", Due.BAD, () -> x.pair(0, 0, 0));
        x.start(1);
        x.rise(0);
        Due.settle(x, 2);
        Due.due("the PAIR", Due.pair(x, 0, "k", 0, 0), 0);
        Due.read(x, 0, "k");
        Due.due("DRAFT after read and pair", x.count(4), 3);
        int index = Due.done(x, 0, 2);
        Due.due("DRAFT", x.count(4), 0);
        for (int node = 0; node < 2; node++) {
            Due.due("its CONDITION held", x.outcome(node, index, 0), 1);
            Due.due("its THEN was done", Due.pair(x, node, "k", 0, 5), 1);
            Due.due("its ELSE wasn't", x.told(node, 14), 0);
        }
    }

    private static void newObjectBesideAnother() {
        Due.part("CouncilStore(): No nodes, whatever another object has");
        CouncilStore x = Due.led(3);
        Due.when(x, "k", 0, 0, 0);
        giveRows(x);
        x.beat(0);
        String before = Due.all(x);
        CouncilStore y = new CouncilStore();
        Due.dueThrows("told", Due.MISSING, () -> y.told(0, 0));
        Due.dueThrows("rise", Due.MISSING, () -> y.rise(0));
        for (int what = 0; what <= 6; what++) {
            Due.due("count " + what, y.count(what), 0);
        }
        Due.dueSame("the other is as it was", Due.all(x), before);
    }

    /** Bytes of one must not come out of the other. */
    private static void rowsOfTwo() {
        Due.part("All memory is the class's own rows: INPUT and ARGUMENTS of two objects");
        CouncilStore x = Due.led(1);
        CouncilStore y = Due.led(1);
        x.feed(0x61616161, 0, 0, 0, 0);
        y.feed(0x62626262, 0, 0, 0, 0);
        x.end(16);
        y.end(16);
        x.feed(0x63636363, 0, 0, 0, 0);
        y.feed(0x64646464, 0x64646464, 0, 0, 0);
        y.end(12);
        x.end(16);
        x.put(1, 0);
        Due.due("DRAFT of the other", y.count(4), 0);
        y.put(1, 0);
        x.propose(0);
        y.propose(0);
        x.sync(0);
        y.sync(0);
        dueOnly(x, "aaaa", "cccc");
        dueOnly(y, "bbbb", "dddddddd");
    }

    private static void dueOnly(CouncilStore x, String key, String value) {
        Due.due("PAIRS", x.told(0, 11), 1);
        Due.due("the VALUE of " + key, Due.pair(x, 0, key, 0, 5), value.length());
        for (int k = 0; k < value.length(); k++) {
            Due.due("byte " + k, Due.range(x, 0, key, "", 0, 3, 0, k), value.charAt(k));
        }
    }

    /** Both do the same; then one goes on, and the other is as it was. */
    private static void callsOnAnother() {
        Due.part("All memory is the class's own rows: calls on one object leave another");
        CouncilStore x = Due.council(7);
        CouncilStore y = Due.council(7);
        x.rise(0);
        Due.settle(x, 7);
        y.rise(0);
        Due.settle(y, 7);
        Due.put(x, "k", "v", 0);
        Due.done(x, 0, 7);
        Due.put(y, "k", "v", 0);
        Due.done(y, 0, 7);
        Due.dueSame("both are the same", Due.all(x), Due.all(y));
        String before = Due.all(y);
        x.lease(1, 3, false);
        Due.put(x, "k", "w", 3);
        Due.done(x, 0, 7);
        x.compact(0, 2);
        x.snapshot(0);
        Due.read(x, 0, "k");
        x.crash(6, 0);
        for (int i = 0; i < 34; i++) {
            x.beat(0);
        }
        x.sync(0);
        Due.due("lost of the one", x.count(3) > 0 ? 1 : 0, 1);
        Due.dueSame("the other", Due.all(y), before);
        Due.due("READ of the other", Due.read(y, 0, "k"), 0);
        Due.dueMessage(y, 0, APPEND, 0, 1, 1, 2, 1, 0, 1, 2);
        Due.bring(y, APPEND, 0, 6);
        Due.due("its own ROUND", y.message(Due.find(y, TAKEN, 6, 0), 7), 1);
        x.nodes(2);
        Due.due("the other's node", y.told(6, 6), 2);
        Due.due("the other's PAIR", Due.pair(y, 6, "k", 1, 2), 1);
    }

    /** Each has its own first leader of TERM 1, first ENTRY of INDEX 1, and greatest COMMIT. */
    private static void firstOnesOfTwo() {
        Due.part("What must never be: each object has its own first ones");
        CouncilStore x = Due.council(3);
        CouncilStore y = Due.council(3);
        CouncilStore z = Due.council(1);
        x.rise(0);
        Due.settle(x, 3);
        for (int i = 0; i < 5; i++) {
            Due.done(x, 0, 3);
        }
        y.rise(1);
        Due.settle(y, 3);
        Due.beatOut(y, 1, 3);
        Due.read(y, 1, "k");
        Due.settle(y, 3);
        z.rise(0);
        Due.restart(z, 0, 0);
        z.rise(0);
        z.sync(0);
        Due.read(z, 0, "k");
        Due.due("a READ of the second", y.answer(1, 0, 0), 0);
        Due.due("the first", x.count(6), 0);
        Due.due("the second", y.count(6), 0);
        Due.due("the third", z.count(6), 0);
        Due.due("made by the third", z.count(5), 2);
    }
}
