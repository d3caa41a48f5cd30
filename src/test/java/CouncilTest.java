/** Promises 9, 11 to 15, 17, 18, 26 and 27: what nodes do, their DISKS, NET. */
public final class CouncilTest {
    private static final int ASK = 1;
    private static final int ANSWER = 2;
    private static final int APPEND = 3;
    private static final int TAKEN = 4;

    public static void main(String[] args) {
        promise9();
        promise11();
        promise12();
        promise13();
        promise14();
        promise15();
        promise17();
        promise18();
        promise26();
        promise27();
        Due.exit();
    }

    private static void promise9() {
        Due.part("promise 9");
        CouncilStore x = Due.led(3);
        Due.put(x, "k", "v", 0);
        Due.dueThrows("no such node", Due.MISSING, () -> x.propose(3));
        Due.dueThrows("no such node", Due.MISSING, () -> x.propose(-1));
        Due.dueThrows("a follower", Due.REFUSED, () -> x.propose(1));
        x.rise(2);
        Due.dueThrows("a candidate", Due.REFUSED, () -> x.propose(2));
        Due.due("DRAFT stays", x.count(4), 1);
        Due.due("propose", x.propose(0), 2);
        Due.due("DRAFT is empty", x.count(4), 0);
        Due.due("an EMPTY one", x.propose(0), 3);
        Due.due("RECORDS", x.told(0, 10), 2);
        Due.due("OUTBOX", x.told(0, 9), 4);
        x.sync(0);
        Due.dueMessage(x, 0, APPEND, 0, 1, 1, 1, 1, 1, 0, 1);
        Due.dueMessage(x, 1, APPEND, 0, 2, 1, 1, 1, 1, 0, 1);
        Due.dueMessage(x, 2, APPEND, 0, 1, 1, 1, 1, 2, 0, 1);
        Due.dueMessage(x, 3, APPEND, 0, 2, 1, 1, 1, 2, 0, 1);
        x.crash(0, 0);
        Due.dueThrows("DOWN", Due.MISSING, () -> x.propose(0));
        atMostFourEntries();
    }

    private static void atMostFourEntries() {
        CouncilStore x = Due.led(2);
        for (int i = 0; i < 6; i++) {
            x.propose(0);
        }
        x.sync(0);
        Due.due("3 of 3", x.message(2, 6), 3);
        Due.due("4 of 4", x.message(3, 6), 4);
        Due.due("4 of 5", x.message(4, 6), 4);
        Due.due("4 of 6", x.message(5, 6), 4);
        x.deliver(5, false);
        Due.due("LAST", x.told(1, 5), 5);
        Due.loseAll(x);
        Due.syncAndBring(x, TAKEN, 1, 0);
        Due.dueMessage(x, 0, APPEND, 0, 1, 1, 5, 1, 2, 0, 5);
    }

    private static void promise11() {
        Due.part("promise 11");
        CouncilStore x = Due.council(3);
        Due.dueThrows("no such node", Due.MISSING, () -> x.rise(3));
        Due.dueThrows("no such node", Due.MISSING, () -> x.rise(-1));
        x.rise(1);
        Due.dueTold(x, 1, 0, 1, 1, 1, -1, 0, 0, 0, 0, 2, 1);
        Due.due("NET waits", x.count(2), 0);
        x.sync(1);
        Due.dueMessage(x, 0, ASK, 1, 0, 1, 0, 0, 0, 0, 0);
        Due.dueMessage(x, 1, ASK, 1, 2, 1, 0, 0, 0, 0, 0);
        x.rise(1);
        Due.due("a candidate rises again", x.told(1, 1), 2);
        x.crash(2, 0);
        Due.dueThrows("DOWN", Due.MISSING, () -> x.rise(2));
        alone();
        afterALeader();
        oldVotesDontCount();
    }

    private static void alone() {
        CouncilStore x = Due.council(1);
        x.rise(0);
        Due.dueTold(x, 0, 0, 1, 0, 2, 0, 1, 0, 0, 0, 0, 2);
        Due.dueThrows("a leader", Due.REFUSED, () -> x.rise(0));
        Due.due("made", x.count(5), 1);
        Due.restart(x, 0, 0);
        x.rise(0);
        Due.due("TERM 1 again", x.told(0, 1), 1);
        Due.due("the same leads in it", x.count(6), 0);
        CouncilStore y = Due.council(2);
        y.rise(0);
        Due.due("one of two isn't alone", y.told(0, 3), 1);
    }

    private static void afterALeader() {
        CouncilStore x = Due.led(3);
        Due.dueThrows("a leader", Due.REFUSED, () -> x.rise(0));
        Due.due("TERM", x.told(0, 1), 1);
        Due.due("LEADER", x.told(1, 4), 0);
        x.rise(1);
        Due.dueTold(x, 1, 0, 2, 1, 1, -1, 1);
        x.sync(1);
        Due.dueMessage(x, 0, ASK, 1, 0, 2, 1, 1, 0, 0, 0);
    }

    private static void oldVotesDontCount() {
        CouncilStore x = Due.council(5);
        x.rise(0);
        Due.syncAndBring(x, ASK, 0, 1);
        Due.syncAndBring(x, ANSWER, 1, 0);
        Due.loseAll(x);
        x.rise(0);
        Due.syncAndBring(x, ASK, 0, 2);
        Due.syncAndBring(x, ANSWER, 2, 0);
        Due.due("one vote of TERM 1, one of TERM 2", x.told(0, 3), 1);
        Due.bring(x, ASK, 0, 3);
        Due.syncAndBring(x, ANSWER, 3, 0);
        Due.due("two of TERM 2", x.told(0, 3), 2);
    }

    private static void promise12() {
        Due.part("promise 12");
        CouncilStore x = Due.led(3);
        Due.dueThrows("a follower", Due.REFUSED, () -> x.beat(1));
        Due.dueThrows("no such node", Due.MISSING, () -> x.beat(3));
        Due.dueThrows("no such node", Due.MISSING, () -> x.beat(-1));
        x.beat(0);
        Due.due("straight to NET", x.count(2), 2);
        Due.dueMessage(x, 0, APPEND, 0, 1, 1, 1, 1, 0, 0, 1);
        Due.dueMessage(x, 1, APPEND, 0, 2, 1, 1, 1, 0, 0, 1);
        x.rise(1);
        Due.dueThrows("a candidate", Due.REFUSED, () -> x.beat(1));
        x.crash(0, 0);
        Due.dueThrows("DOWN", Due.MISSING, () -> x.beat(0));
        x.start(0);
        Due.dueThrows("no leader any more", Due.REFUSED, () -> x.beat(0));
    }

    private static void promise13() {
        Due.part("promise 13");
        CouncilStore x = Due.council(3);
        Due.dueThrows("no such node", Due.MISSING, () -> x.sync(3));
        Due.dueThrows("no such node", Due.MISSING, () -> x.sync(-1));
        Due.due("nothing", x.sync(0), 0);
        x.rise(0);
        x.rise(0);
        Due.due("sync", x.sync(0), 4);
        Due.due("RECORDS", x.told(0, 10), 0);
        Due.due("OUTBOX", x.told(0, 9), 0);
        Due.due("in order", x.message(0, 3), 1);
        Due.due("in order", x.message(3, 3), 2);
        Due.due("again", x.sync(0), 0);
        x.crash(0, 0);
        Due.dueThrows("DOWN", Due.MISSING, () -> x.sync(0));
        Due.due("TERM stays", x.told(0, 1), 2);
        CouncilStore y = Due.council(1);
        y.rise(0);
        Due.due("COMMIT waits", y.told(0, 6), 0);
        y.sync(0);
        Due.due("COMMIT is looked for", y.told(0, 6), 1);
        ownMatch();
        netIsFull();
    }

    /** What the leader hasn't synced isn't its own MATCH. */
    private static void ownMatch() {
        CouncilStore x = Due.led(2);
        x.propose(0);
        x.sync(0);
        x.propose(0);
        Due.bring(x, APPEND, 0, 1);
        Due.syncAndBring(x, TAKEN, 1, 0);
        Due.due("COMMIT", x.told(0, 6), 2);
        x.sync(0);
        Due.due("COMMIT", x.told(0, 6), 2);
        Due.bring(x, APPEND, 0, 1);
        Due.syncAndBring(x, TAKEN, 1, 0);
        Due.due("COMMIT", x.told(0, 6), 3);
    }

    private static void netIsFull() {
        CouncilStore x = Due.led(7);
        for (int i = 0; i < 33; i++) {
            x.beat(0);
        }
        Due.due("NET", x.count(2), 198);
        x.propose(0);
        Due.due("two of six", x.sync(0), 2);
        Due.due("NET", x.count(2), 200);
        Due.due("lost", x.count(3), 4);
        x.beat(0);
        Due.due("lost", x.count(3), 10);
        x.deliver(0, true);
        Due.due("no room for TAKEN", x.count(3), 11);
        x.deliver(0, false);
        Due.due("room for TAKEN", x.count(3), 11);
        Due.dueMessage(x, 199, TAKEN, 1, 0, 1, 1, 1);
        x.lose(5);
        Due.due("lose isn't counted", x.count(3), 11);
        Due.due("NET", x.count(2), 199);
    }

    private static void promise14() {
        Due.part("promise 14");
        CouncilStore x = Due.led(1);
        x.propose(0);
        x.propose(0);
        x.propose(0);
        Due.dueThrows("keep 4 of 3", Due.BAD, () -> x.crash(0, 4));
        Due.dueThrows("keep -1", Due.BAD, () -> x.crash(0, -1));
        Due.dueThrows("missing comes before", Due.MISSING, () -> x.crash(1, -1));
        Due.dueThrows("no such node", Due.MISSING, () -> x.crash(-1, 0));
        Due.due("RECORDS", x.told(0, 10), 3);
        x.crash(0, 2);
        Due.dueTold(x, 0, 1, 1, 0, 0, -1, 3, 0, 0, 0, 0, 0, 0, 0, 1, 0);
        Due.dueThrows("DOWN", Due.MISSING, () -> x.crash(0, -1));
        x.start(0);
        Due.due("as if synced", x.told(0, 10), 0);
        x.crash(0, 0);
        Due.due("LAST stays", x.told(0, 5), 3);
        termAndVote();
        entriesComeBack();
        snapshotIsLost();
    }

    private static void termAndVote() {
        CouncilStore x = Due.council(2);
        x.rise(0);
        x.rise(0);
        x.crash(0, 1);
        Due.due("TERM", x.told(0, 1), 1);
        Due.due("VOTE", x.told(0, 2), 0);
        x.start(0);
        x.rise(0);
        Due.due("OUTBOX is gone", x.sync(0), 1);
        x.deliver(0, false);
        Due.due("TERM, then VOTE", x.told(1, 10), 2);
        x.crash(1, 1);
        Due.due("TERM", x.told(1, 1), 2);
        Due.due("VOTE", x.told(1, 2), -1);
        x.start(1);
        Due.due("no ANSWER", x.sync(1), 0);
    }

    /** What an ENTRY not synced had put aside is there again without it. */
    private static void entriesComeBack() {
        CouncilStore x = Due.led(3);
        x.propose(0);
        x.propose(0);
        x.sync(0);
        x.crash(0, 0);
        Due.elect(x, 1, 2);
        x.sync(1);
        x.start(0);
        Due.bring(x, APPEND, 1, 0);
        Due.due("LAST", x.told(0, 5), 2);
        Due.due("LASTTERM", x.told(0, 13), 2);
        Due.due("TERM, then the ENTRY", x.told(0, 10), 2);
        x.crash(0, 1);
        Due.due("LAST", x.told(0, 5), 3);
        Due.due("LASTTERM", x.told(0, 13), 1);
        Due.due("TERM", x.told(0, 1), 2);
    }

    private static void snapshotIsLost() {
        CouncilStore x = Due.led(1);
        Due.put(x, "k", "v", 0);
        Due.done(x, 0, 1);
        x.snapshot(0);
        x.propose(0);
        x.crash(0, 0);
        Due.dueTold(x, 0, 1, 1, 0, 0, -1, 2, 0, 0);
        x.start(0);
        Due.due("COMMIT is BASE", x.told(0, 6), 0);
        x.rise(0);
        x.sync(0);
        Due.due("applied anew", Due.pair(x, 0, "k", 0, 0), 1);
        x.snapshot(0);
        x.propose(0);
        x.crash(0, 1);
        Due.dueTold(x, 0, 1, 2, 0, 0, -1, 3, 0, 3);
        x.start(0);
        Due.due("COMMIT is BASE", x.told(0, 6), 3);
        Due.due("the STORE of it", Due.pair(x, 0, "k", 0, 0), 1);
    }

    private static void promise15() {
        Due.part("promise 15");
        CouncilStore x = Due.led(3);
        Due.dueThrows("not DOWN", Due.MISSING, () -> x.start(0));
        Due.dueThrows("no such node", Due.MISSING, () -> x.start(3));
        Due.dueThrows("no such node", Due.MISSING, () -> x.start(-1));
        x.lease(1, 4, false);
        Due.put(x, "k", "v", 4);
        Due.done(x, 0, 3);
        Due.restart(x, 0, 0);
        Due.dueTold(x, 0, 0, 1, 0, 0, -1, 2, 0, 0, 0, 0, 0, 0, 0, 1, 0);
        Due.dueThrows("OUTCOMES are gone", Due.MISSING, () -> x.outcome(0, 1, 0));
        Due.dueThrows("not DOWN", Due.MISSING, () -> x.start(0));
        x.snapshot(1);
        x.sync(1);
        Due.restart(x, 1, 0);
        Due.dueTold(x, 1, 0, 1, 0, 0, -1, 2, 2, 2, 1, 0, 0, 1, 0, 1, 1);
    }

    private static void promise17() {
        Due.part("promise 17");
        CouncilStore x = Due.led(3);
        Due.dueThrows("none", Due.MISSING, () -> x.lose(0));
        x.beat(0);
        Due.dueThrows("lose(2)", Due.MISSING, () -> x.lose(2));
        Due.dueThrows("lose(-1)", Due.MISSING, () -> x.lose(-1));
        x.lose(0);
        Due.due("NET", x.count(2), 1);
        Due.due("the other stays", x.message(0, 2), 2);
        Due.due("not lost as too many", x.count(3), 0);
    }

    private static void promise18() {
        Due.part("promise 18");
        CouncilStore x = Due.led(3);
        Due.dueThrows("no such node", Due.MISSING, () -> x.snapshot(3));
        Due.dueThrows("no such node", Due.MISSING, () -> x.snapshot(-1));
        Due.put(x, "k", "v", 0);
        Due.done(x, 0, 3);
        x.propose(0);
        x.sync(0);
        Due.due("snapshot", x.snapshot(0), 2);
        Due.dueTold(x, 0, 0, 1, 0, 2, 0, 3, 2, 2, 1, 0, 1, 1, 0, 1, 0);
        Due.dueThrows("COMMIT is BASE", Due.REFUSED, () -> x.snapshot(0));
        Due.due("OUTCOMES stay", x.outcome(0, 2, 1), 1);
        Due.due("a follower, too", x.snapshot(1), 2);
        Due.due("LASTTERM is BASETERM", x.told(1, 13), 1);
        x.sync(1);
        x.crash(1, 0);
        Due.dueThrows("DOWN", Due.MISSING, () -> x.snapshot(1));
        Due.dueTold(x, 1, 1, 1, 0, 0, -1, 2, 0, 2);
        CouncilStore y = Due.council(1);
        Due.dueThrows("COMMIT 0 is BASE", Due.REFUSED, () -> y.snapshot(0));
        snapshotsDontChange();
    }

    /** A SNAPSHOT is that of COMMIT then, whatever is applied later. */
    private static void snapshotsDontChange() {
        CouncilStore x = Due.led(1);
        x.lease(1, 2, false);
        Due.put(x, "k", "v", 2);
        Due.done(x, 0, 1);
        x.snapshot(0);
        x.sync(0);
        x.lease(1, 2, true);
        Due.put(x, "l", "v", 0);
        Due.done(x, 0, 1);
        Due.due("REVISION", x.told(0, 8), 2);
        Due.restart(x, 0, 0);
        Due.due("k", Due.pair(x, 0, "k", 0, 4), 2);
        Due.due("l", Due.pair(x, 0, "l", 0, 0), 0);
        Due.due("REVISION", x.told(0, 8), 1);
        Due.due("LEASES", x.told(0, 14), 1);
        x.rise(0);
        x.sync(0);
        Due.due("applied on it", Due.pair(x, 0, "l", 0, 1), 2);
        Due.due("deleted", Due.pair(x, 0, "k", 0, 0), 0);
        Due.due("LEASES", x.told(0, 14), 0);
    }

    private static void promise26() {
        Due.part("promise 26");
        CouncilStore x = Due.led(3);
        x.beat(0);
        Due.dueThrows("what -1", Due.BAD, () -> x.message(0, -1));
        Due.dueThrows("what 9", Due.BAD, () -> x.message(0, 9));
        Due.dueThrows("bad comes before", Due.BAD, () -> x.message(9, 9));
        Due.dueThrows("message(2)", Due.MISSING, () -> x.message(2, 0));
        Due.dueThrows("message(-1)", Due.MISSING, () -> x.message(-1, 0));
        Due.loseAll(x);
        Due.read(x, 0, "k");
        Due.read(x, 0, "k");
        Due.dueMessage(x, 3, APPEND, 0, 2, 1, 1, 1, 0, 2, 1);
        Due.bring(x, APPEND, 0, 2);
        Due.bring(x, APPEND, 0, 2);
        Due.dueMessage(x, 2, TAKEN, 2, 0, 1, 1, 1, 0, 1, 0);
        Due.dueMessage(x, 3, TAKEN, 2, 0, 1, 1, 1, 0, 2, 0);
    }

    private static void promise27() {
        Due.part("promise 27");
        CouncilStore x = Due.led(3);
        Due.dueThrows("what -1", Due.BAD, () -> x.told(0, -1));
        Due.dueThrows("what 15", Due.BAD, () -> x.told(0, 15));
        Due.dueThrows("bad comes before", Due.BAD, () -> x.told(9, 15));
        Due.dueThrows("no such node", Due.MISSING, () -> x.told(3, 0));
        Due.dueThrows("no such node", Due.MISSING, () -> x.told(-1, 0));
        x.lease(1, 1, false);
        x.lease(1, 2, false);
        x.lease(1, 3, false);
        Due.put(x, "k", "v", 0);
        Due.put(x, "l", "v", 0);
        Due.done(x, 0, 3);
        Due.put(x, "l", "v", 0);
        Due.done(x, 0, 3);
        x.snapshot(0);
        x.sync(0);
        Due.read(x, 0, "k");
        x.propose(0);
        x.propose(0);
        Due.dueTold(x, 0, 0, 1, 0, 2, 0, 5, 3, 3, 2, 4, 2, 2, 1, 1, 3);
        Due.dueTold(x, 1, 0, 1, 0, 0, 0, 3, 3, 0, 2, 0, 0, 2, 0, 1, 3);
        x.crash(0, 1);
        Due.dueTold(x, 0, 1, 1, 0, 0, -1, 4, 0, 3, 0, 0, 0, 0, 0, 1, 0);
        x.rise(1);
        x.rise(1);
        Due.dueTold(x, 1, 0, 3, 1, 1, -1, 3, 3, 0, 2, 4, 2, 2, 0, 1, 3);
    }
}
