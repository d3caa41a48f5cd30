/** Promise 16: deliver, and what each sort of MESSAGE does. */
public final class MessagesTest {
    private static final int ASK = 1;
    private static final int ANSWER = 2;
    private static final int APPEND = 3;
    private static final int TAKEN = 4;
    private static final int STATE = 5;

    public static void main(String[] args) {
        promise16();
        asks();
        olderLogs();
        olderTerm();
        answers();
        votesThatDontCount();
        appends();
        candidateFollows();
        prevIsAbove();
        prevDiffers();
        otherEntryAtOne();
        prevBelowBase();
        commitIsTheLesser();
        doubledAppend();
        takens();
        oldNo();
        matchBeginsAnew();
        states();
        entriesBehindStay();
        entriesGo();
        stateOfOldTerm();
        commitNeedsItsTerm();
        Due.exit();
    }

    private static void promise16() {
        Due.part("deliver");
        CouncilStore x = Due.council(3);
        Due.dueThrows("none", Due.MISSING, () -> x.deliver(0, false));
        x.rise(0);
        x.sync(0);
        Due.dueThrows("deliver(2)", Due.MISSING, () -> x.deliver(2, false));
        Due.dueThrows("deliver(-1)", Due.MISSING, () -> x.deliver(-1, true));
        x.deliver(1, true);
        Due.due("it stays", x.count(2), 2);
        Due.due("delivered", x.told(2, 2), 0);
        x.deliver(1, false);
        Due.due("it goes", x.count(2), 1);
        Due.due("the other stays", x.message(0, 2), 1);
        Due.due("two ANSWERS wait", x.told(2, 9), 2);
        x.crash(1, 0);
        x.deliver(0, true);
        Due.due("nothing happens", x.told(1, 1), 0);
        Due.due("it stays", x.count(2), 1);
        x.deliver(0, false);
        Due.due("it goes", x.count(2), 0);
        x.start(1);
        Due.due("nothing happened", x.told(1, 1), 0);
    }

    private static void asks() {
        Due.part("ASK");
        CouncilStore x = Due.council(3);
        x.rise(0);
        Due.syncAndBring(x, ASK, 0, 2);
        Due.dueTold(x, 2, 0, 1, 0, 0, -1, 0, 0, 0, 0, 1, 2);
        x.sync(2);
        Due.dueMessage(x, 1, ANSWER, 2, 0, 1, 0, 1, 0, 0, 0);
        Due.loseAll(x);
        x.rise(1);
        Due.syncAndBring(x, ASK, 1, 2);
        Due.due("VOTE is another's", x.told(2, 2), 0);
        Due.dueMessage(x, 1, ANSWER, 2, 1, 1, 0, 0, 0, 0, 0);
        Due.due("no RECORD", x.told(2, 10), 0);
        Due.loseAll(x);
        x.rise(1);
        x.sync(1);
        x.deliver(1, true);
        x.sync(2);
        x.deliver(1, false);
        Due.dueMessage(x, 2, ANSWER, 2, 1, 2, 0, 1, 0, 0, 0);
        Due.due("a VOTE stands", x.told(2, 10), 0);
        Due.bring(x, ASK, 1, 0);
        Due.dueTold(x, 0, 0, 2, 1, 0, -1);
    }

    /** (LASTTERM, LAST): node 0 has (1, 2), node 1 has (1, 1), node 2 has (1, 1), then a later TERM. */
    private static void olderLogs() {
        Due.part("ASK with an older LOG");
        CouncilStore x = Due.led(3);
        x.propose(0);
        x.sync(0);
        Due.loseAll(x);
        Due.restart(x, 0, 0);
        dueVote(x, 1, 0, false);
        dueVote(x, 0, 1, true);
        dueVote(x, 1, 2, true);
        Due.elect(x, 2, 1);
        x.sync(2);
        Due.loseAll(x);
        Due.restart(x, 2, 0);
        dueVote(x, 0, 2, false);
        dueVote(x, 2, 0, true);
        dueVote(x, 1, 2, false);
        longerLogOfAnOlderTerm();
    }

    private static void longerLogOfAnOlderTerm() {
        CouncilStore x = Due.led(3);
        Due.elect(x, 1, 2);
        x.sync(1);
        Due.loseAll(x);
        x.propose(0);
        x.propose(0);
        x.sync(0);
        Due.due("LAST of 0", x.told(0, 5), 3);
        Due.due("LAST of 1", x.told(1, 5), 2);
        Due.restart(x, 0, 0);
        Due.restart(x, 1, 0);
        dueVote(x, 0, 1, false);
        dueVote(x, 1, 0, true);
    }

    private static void dueVote(CouncilStore x, int asker, int asked, boolean want) {
        Due.stand(x, asker, asked);
        Due.bring(x, ASK, asker, asked);
        Due.due("VOTE of " + asked + " when " + asker + " asks", x.told(asked, 2), want ? asker : -1);
        Due.loseAll(x);
        x.sync(asked);
        Due.dueMessage(x, 0, ANSWER, asked, asker, x.told(asker, 1), 0, want ? 1 : 0, 0, 0, 0);
        Due.loseAll(x);
    }

    private static void olderTerm() {
        Due.part("ASK of an older TERM");
        CouncilStore x = Due.council(3);
        x.rise(0);
        x.rise(1);
        x.rise(1);
        x.sync(0);
        x.sync(1);
        Due.loseAll(x);
        x.rise(0);
        x.rise(1);
        x.sync(1);
        Due.loseAll(x);
        Due.syncAndBring(x, ASK, 0, 1);
        Due.dueMessage(x, 1, ANSWER, 1, 0, 3, 0, 0, 0, 0, 0);
        Due.bring(x, ANSWER, 1, 0);
        Due.dueTold(x, 0, 0, 3, -1, 0, -1, 0, 0, 0, 0, 0, 1);
        CouncilStore y = Due.council(2);
        y.rise(0);
        y.sync(0);
        Due.restart(y, 1, 0);
        y.deliver(0, true);
        y.rise(1);
        y.sync(1);
        Due.loseLike(y, ANSWER);
        y.deliver(0, false);
        Due.due("VOTE is its own", y.told(1, 2), 1);
        Due.dueMessage(y, 1, ANSWER, 1, 0, 2, 0, 0, 0, 0, 0);
    }

    private static void answers() {
        Due.part("ANSWER");
        CouncilStore x = Due.council(5);
        x.rise(0);
        Due.syncAndBring(x, ASK, 0, 1);
        x.sync(1);
        x.deliver(Due.find(x, ANSWER, 1, 0), true);
        x.deliver(Due.find(x, ANSWER, 1, 0), true);
        Due.due("a node counts once", x.told(0, 3), 1);
        Due.bring(x, ASK, 0, 2);
        Due.syncAndBring(x, ANSWER, 2, 0);
        Due.dueTold(x, 0, 0, 1, 0, 2, 0, 1, 0, 0, 0, 4, 1);
        Due.due("made", x.count(5), 1);
        x.deliver(Due.find(x, ANSWER, 1, 0), true);
        Due.due("a leader counts no more", x.told(0, 5), 1);
        Due.loseAll(x);
        x.sync(0);
        for (int i = 0; i < 4; i++) {
            Due.dueMessage(x, i, APPEND, 0, i + 1, 1, 0, 0, 1, 0, 0);
        }
        CouncilStore y = Due.council(4);
        y.rise(0);
        Due.syncAndBring(y, ASK, 0, 1);
        Due.syncAndBring(y, ANSWER, 1, 0);
        Due.due("two of four", y.told(0, 3), 1);
        Due.bring(y, ASK, 0, 2);
        Due.syncAndBring(y, ANSWER, 2, 0);
        Due.due("three of four", y.told(0, 3), 2);
    }

    private static void votesThatDontCount() {
        CouncilStore x = Due.council(2);
        x.rise(0);
        x.rise(1);
        x.sync(0);
        x.sync(1);
        Due.bring(x, ASK, 0, 1);
        Due.bring(x, ANSWER, 1, 0);
        Due.due("a no isn't a vote", x.told(0, 3), 1);
        CouncilStore y = Due.council(2);
        y.rise(0);
        Due.syncAndBring(y, ASK, 0, 1);
        y.sync(1);
        y.rise(0);
        y.deliver(0, true);
        Due.due("a vote of an older TERM", y.told(0, 3), 1);
        Due.restart(y, 0, 0);
        y.deliver(0, true);
        Due.due("a follower counts none", y.told(0, 3), 0);
        CouncilStore z = Due.council(3);
        z.rise(0);
        Due.syncAndBring(z, ASK, 0, 1);
        z.sync(1);
        Due.bring(z, ASK, 0, 2);
        z.sync(2);
        z.rise(0);
        z.sync(0);
        Due.bring(z, ANSWER, 1, 0);
        Due.bring(z, ANSWER, 2, 0);
        Due.due("votes of TERM 1 for TERM 2", z.told(0, 3), 1);
    }

    private static void appends() {
        Due.part("APPEND");
        CouncilStore x = Due.led(3);
        Due.put(x, "k", "v", 0);
        x.propose(0);
        x.sync(0);
        x.rise(1);
        Due.bring(x, APPEND, 0, 1);
        Due.due("TERM below: a candidate stays", x.told(1, 3), 1);
        Due.due("LAST", x.told(1, 5), 1);
        Due.bring(x, APPEND, 0, 2);
        Due.due("RECORD", x.told(2, 10), 1);
        Due.due("COMMIT", x.told(2, 6), 1);
        x.sync(1);
        Due.dueMessage(x, 0, ASK, 1, 0, 2, 1, 1, 0, 0, 0);
        Due.dueMessage(x, 2, TAKEN, 1, 0, 2, 0, 0, 0, 0, 0);
        Due.loseAll(x);
        x.sync(2);
        Due.dueMessage(x, 0, TAKEN, 2, 0, 1, 2, 1, 0, 0, 0);
        x.deliver(0, false);
        Due.due("COMMIT of the leader", x.told(0, 6), 2);
        x.beat(0);
        Due.bring(x, APPEND, 0, 2);
        Due.due("COMMIT of the follower", x.told(2, 6), 2);
        Due.due("it's applied", Due.pair(x, 2, "k", 0, 0), 1);
        Due.loseAll(x);
        x.rise(1);
        Due.syncAndBring(x, ASK, 1, 0);
        Due.dueTold(x, 0, 0, 3, -1, 0, -1);
    }

    private static void candidateFollows() {
        CouncilStore x = Due.council(3);
        x.rise(1);
        Due.elect(x, 0, 2);
        Due.due("1 is a candidate of that TERM", x.told(1, 1), x.told(0, 1));
        x.sync(0);
        Due.bring(x, APPEND, 0, 1);
        Due.due("ROLE", x.told(1, 3), 0);
        Due.due("LEADER", x.told(1, 4), 0);
        Due.due("VOTE stays", x.told(1, 2), 1);
        Due.due("LAST", x.told(1, 5), 1);
    }

    /** Node 1 lacks what node 0 has; its LAST is where to go on. */
    private static void prevIsAbove() {
        Due.part("APPEND with PREV above LAST");
        CouncilStore x = Due.led(3);
        for (int i = 0; i < 5; i++) {
            x.propose(0);
        }
        x.sync(0);
        Due.restart(x, 0, 0);
        Due.elect(x, 0, 2);
        x.sync(0);
        Due.dueMessage(x, 0, APPEND, 0, 1, 2, 6, 1, 1, 0, 0);
        Due.bring(x, APPEND, 0, 1);
        Due.due("LAST stays", x.told(1, 5), 1);
        Due.due("LEADER", x.told(1, 4), 0);
        x.sync(1);
        Due.dueMessage(x, 1, TAKEN, 1, 0, 2, 1, 0, 0, 0, 0);
        x.deliver(1, false);
        Due.dueMessage(x, 1, APPEND, 0, 1, 2, 1, 1, 4, 0, 0);
    }

    /** Node 0 has 1, 1, 1; the leader 1 has 1, 2, 2, 3: PREV is there, with another TERM. */
    private static void prevDiffers() {
        Due.part("APPEND with another TERM at PREV");
        CouncilStore x = Due.led(3);
        x.propose(0);
        x.propose(0);
        x.sync(0);
        x.crash(0, 0);
        Due.elect(x, 1, 2);
        x.propose(1);
        x.sync(1);
        x.start(0);
        Due.restart(x, 1, 0);
        Due.elect(x, 1, 2);
        int term = x.told(1, 1);
        x.sync(1);
        Due.dueMessage(x, 0, APPEND, 1, 0, term, 3, 2, 1, 0, 0);
        Due.bring(x, APPEND, 1, 0);
        x.sync(0);
        Due.dueMessage(x, 1, TAKEN, 0, 1, term, 2, 0, 0, 0, 0);
        x.deliver(1, false);
        Due.dueMessage(x, 1, APPEND, 1, 0, term, 2, 2, 2, 0, 0);
        x.deliver(1, false);
        Due.dueMessage(x, 1, TAKEN, 0, 1, term, 1, 0, 0, 0, 0);
        x.deliver(1, false);
        Due.dueMessage(x, 1, APPEND, 1, 0, term, 1, 1, 3, 0, 0);
        x.deliver(1, false);
        Due.due("RECORDS", x.told(0, 10), 3);
        Due.due("LAST", x.told(0, 5), 4);
        Due.due("LASTTERM", x.told(0, 13), term);
        x.crash(0, 1);
        Due.due("those behind went", x.told(0, 5), 2);
        Due.due("LASTTERM", x.told(0, 13), 2);
    }

    private static void otherEntryAtOne() {
        CouncilStore x = Due.council(3);
        Due.elect(x, 0, 2);
        x.sync(0);
        Due.loseAll(x);
        Due.due("LASTTERM", x.told(0, 13), 1);
        Due.elect(x, 1, 2);
        x.sync(1);
        Due.bring(x, APPEND, 1, 0);
        Due.due("LAST", x.told(0, 5), 1);
        Due.due("LASTTERM", x.told(0, 13), x.told(1, 1));
    }

    private static void prevBelowBase() {
        Due.part("APPEND with PREV below BASE");
        CouncilStore x = Due.led(3);
        x.propose(0);
        x.propose(0);
        x.sync(0);
        Due.due("an APPEND of both", x.message(3, 6), 2);
        x.deliver(3, true);
        Due.syncAndBring(x, TAKEN, 2, 0);
        x.propose(0);
        x.sync(0);
        int last = x.count(2) - 1;
        Due.dueMessage(x, last, APPEND, 0, 2, 1, 3, 1, 1, 0, 3);
        x.deliver(last, false);
        Due.due("COMMIT of 2", x.told(2, 6), 3);
        x.sync(2);
        x.snapshot(2);
        x.sync(2);
        x.deliver(3, true);
        Due.due("not above BASE: nothing", x.told(2, 10), 0);
        Due.due("LAST", x.told(2, 5), 4);
        Due.dueMessage(x, x.count(2) - 1, TAKEN, 2, 0, 1, 3, 1, 0, 0, 0);
        Due.due("COMMIT", x.told(2, 6), 3);
    }

    private static void commitIsTheLesser() {
        Due.part("COMMIT of a follower");
        CouncilStore x = Due.led(3);
        for (int i = 0; i < 6; i++) {
            x.propose(0);
        }
        x.sync(0);
        while (x.count(2) > 0) {
            x.lose(0);
            x.deliver(0, false);
        }
        x.sync(2);
        for (int left = 20; left > 0 && x.told(0, 6) < 7; left--) {
            x.deliver(0, false);
            x.sync(2);
        }
        Due.due("COMMIT of the leader", x.told(0, 6), 7);
        Due.due("COMMIT of 1", x.told(1, 6), 1);
        Due.loseAll(x);
        x.beat(0);
        Due.bring(x, APPEND, 0, 1);
        Due.due("PREV and the number of ENTRIES", x.told(1, 6), 5);
        Due.due("LAST", x.told(1, 5), 5);
        Due.loseAll(x);
        Due.syncAndBring(x, TAKEN, 1, 0);
        Due.bring(x, APPEND, 0, 1);
        Due.due("the sender's", x.told(1, 6), 7);
    }

    private static void doubledAppend() {
        Due.part("APPEND twice");
        CouncilStore x = Due.led(2);
        x.propose(0);
        x.sync(0);
        x.deliver(0, true);
        x.sync(1);
        x.deliver(0, true);
        Due.due("no RECORD", x.told(1, 10), 0);
        Due.due("straight to NET", x.count(2), 3);
        x.deliver(2, false);
        x.propose(0);
        x.sync(0);
        x.deliver(2, false);
        Due.due("LAST", x.told(1, 5), 3);
        Due.due("COMMIT", x.told(1, 6), 2);
        x.deliver(0, false);
        Due.due("an old one takes nothing away", x.told(1, 5), 3);
        Due.due("COMMIT isn't less", x.told(1, 6), 2);
    }

    private static void takens() {
        Due.part("TAKEN");
        CouncilStore x = Due.led(3);
        x.propose(0);
        x.sync(0);
        x.lose(1);
        x.deliver(0, false);
        x.propose(0);
        x.sync(0);
        x.sync(1);
        Due.dueMessage(x, 2, TAKEN, 1, 0, 1, 2, 1, 0, 0, 0);
        x.deliver(2, true);
        Due.due("COMMIT", x.told(0, 6), 2);
        Due.dueMessage(x, 3, APPEND, 0, 1, 1, 2, 1, 1, 0, 2);
        x.deliver(3, false);
        x.sync(1);
        x.deliver(3, false);
        Due.due("COMMIT", x.told(0, 6), 3);
        Due.due("nothing more to send", x.count(2), 3);
        x.propose(0);
        x.sync(0);
        int size = x.count(2);
        x.deliver(2, true);
        Due.due("an old TAKEN sends nothing", x.count(2), size);
        x.beat(0);
        Due.due("NEXT isn't less", x.message(size, 4), 3);
        Due.restart(x, 0, 0);
        x.deliver(2, true);
        Due.due("a follower does nothing", x.told(0, 6), 0);
        Due.due("a follower sends nothing", x.count(2), size + 2);
    }

    /** A no never takes NEXT below what is known to match. */
    private static void oldNo() {
        Due.part("TAKEN no");
        CouncilStore x = Due.led(2);
        x.propose(0);
        x.propose(0);
        x.sync(0);
        Due.restart(x, 0, 0);
        Due.loseAll(x);
        x.rise(0);
        Due.syncAndBring(x, ASK, 0, 1);
        Due.syncAndBring(x, ANSWER, 1, 0);
        x.sync(0);
        Due.dueMessage(x, 0, APPEND, 0, 1, 2, 3, 1, 1, 0, 0);
        x.deliver(0, false);
        Due.dueMessage(x, 0, TAKEN, 1, 0, 2, 1, 0, 0, 0, 0);
        x.deliver(0, true);
        Due.dueMessage(x, 1, APPEND, 0, 1, 2, 1, 1, 3, 0, 0);
        x.deliver(1, false);
        x.sync(1);
        x.deliver(1, false);
        Due.due("COMMIT", x.told(0, 6), 4);
        x.deliver(0, true);
        Due.dueMessage(x, 1, APPEND, 0, 1, 2, 4, 2, 0, 0, 4);
        x.lose(1);
        Due.restart(x, 0, 0);
        x.rise(0);
        Due.syncAndBring(x, ASK, 0, 1);
        Due.syncAndBring(x, ANSWER, 1, 0);
        x.sync(0);
        int size = x.count(2);
        x.deliver(0, true);
        Due.due("a no of an older TERM", x.count(2), size);
    }

    /** Node 1 took 2 and 3 of node 0, then another 2 of node 2: when node 0 leads again, MATCH of it is 0. */
    private static void matchBeginsAnew() {
        CouncilStore x = Due.led(5);
        x.propose(0);
        x.propose(0);
        x.sync(0);
        x.deliver(4, false);
        Due.due("both", x.told(1, 5), 3);
        Due.syncAndBring(x, TAKEN, 1, 0);
        Due.due("COMMIT", x.told(0, 6), 1);
        Due.stand(x, 2, 0);
        leadWith(x, 2, 3, 4);
        x.sync(2);
        Due.bring(x, APPEND, 2, 0);
        Due.bring(x, APPEND, 2, 1);
        Due.syncAndBring(x, TAKEN, 0, 2);
        x.sync(1);
        x.propose(2);
        x.propose(2);
        x.sync(2);
        Due.loseLike(x, TAKEN);
        while (x.told(0, 5) < 4) {
            Due.bring(x, APPEND, 2, 0);
        }
        x.sync(0);
        Due.due("LAST of 1", x.told(1, 5), 2);
        Due.stand(x, 0, 2);
        leadWith(x, 0, 3, 4);
        x.sync(0);
        Due.dueMessage(x, Due.find(x, APPEND, 0, 1), APPEND, 0, 1, 3, 4, 2, 1, 0, 1);
        Due.bring(x, APPEND, 0, 1);
        Due.loseLike(x, APPEND);
        Due.syncAndBring(x, TAKEN, 1, 0);
        Due.dueMessage(x, Due.find(x, APPEND, 0, 1), APPEND, 0, 1, 3, 2, 2, 3, 0, 1);
    }

    private static void leadWith(CouncilStore x, int node, int first, int second) {
        Due.bring(x, ASK, node, first);
        Due.bring(x, ASK, node, second);
        Due.syncAndBring(x, ANSWER, first, node);
        Due.syncAndBring(x, ANSWER, second, node);
        Due.due("it leads", x.told(node, 3), 2);
        Due.loseAll(x);
    }

    private static void states() {
        Due.part("STATE");
        CouncilStore x = Due.led(3);
        x.crash(2, 0);
        x.lease(1, 8, false);
        Due.put(x, "k", "v", 8);
        Due.done(x, 0, 2);
        Due.put(x, "l", "v", 0);
        Due.done(x, 0, 2);
        x.snapshot(0);
        x.sync(0);
        x.start(2);
        x.beat(0);
        Due.dueMessage(x, 1, STATE, 0, 2, 1, 3, 1, 0, 0, 0);
        x.deliver(1, true);
        Due.dueTold(x, 2, 0, 1, 0, 0, 0, 3, 3, 3, 2, 1, 1, 2, 0, 1, 1);
        Due.due("the STORE", Due.pair(x, 2, "k", 0, 4), 8);
        Due.due("HISTORY", x.event(2, 1, 0, 0, 0), 1);
        Due.due("HISTORY", Due.pair(x, 2, "l", 1, 0), 0);
        Due.dueThrows("OUTCOMES are gone", Due.MISSING, () -> x.outcome(2, 3, 0));
        x.sync(2);
        Due.dueMessage(x, 2, TAKEN, 2, 0, 1, 3, 1, 0, 0, 0);
        x.compact(2, 2);
        x.deliver(1, true);
        Due.due("BASE not above COMMIT: no RECORD", x.told(2, 10), 0);
        Due.dueThrows("COMPACT stays", Due.REFUSED, () -> x.event(2, 1, 0, 0, 0));
        Due.dueMessage(x, 3, TAKEN, 2, 0, 1, 3, 1, 0, 0, 0);
        x.propose(0);
        x.sync(0);
        x.deliver(3, false);
        int last = x.count(2) - 1;
        Due.dueMessage(x, last, APPEND, 0, 2, 1, 3, 1, 1, 0, 3);
        x.deliver(last, false);
        Due.due("LAST", x.told(2, 5), 4);
        Due.due("of a STATE ROUND comes back", roundOfState(), 1);
    }

    private static int roundOfState() {
        CouncilStore x = Due.led(3);
        x.crash(2, 0);
        Due.done(x, 0, 2);
        x.snapshot(0);
        x.sync(0);
        x.start(2);
        Due.read(x, 0, "k");
        Due.due("ROUND", x.message(1, 7), 1);
        Due.bring(x, STATE, 0, 2);
        Due.syncAndBring(x, TAKEN, 2, 0);
        Due.due("the READ is done", x.answer(0, 0, 0), 0);
        Due.bring(x, APPEND, 0, 1);
        return x.message(Due.find(x, TAKEN, 1, 0), 7);
    }

    /** Node 2 has ENTRIES 1 to 3 and COMMIT 1 when the SNAPSHOT of 2 comes. */
    private static void entriesBehindStay() {
        Due.part("STATE, and ENTRIES behind it");
        for (int keep = 2; keep <= 3; keep++) {
            CouncilStore x = Due.led(3);
            Due.put(x, "k", "v", 0);
            x.propose(0);
            x.propose(0);
            x.sync(0);
            x.deliver(0, false);
            Due.syncAndBring(x, TAKEN, 1, 0);
            Due.due("snapshot", x.snapshot(0), 2);
            x.sync(0);
            x.beat(0);
            x.lose(0);
            Due.due("both ENTRIES", x.message(Due.find(x, APPEND, 0, 2), 6), 2);
            Due.bring(x, APPEND, 0, 2);
            Due.dueTold(x, 2, 0, 1, 0, 0, 0, 3, 1, 0, 0, 1, 2);
            Due.bring(x, STATE, 0, 2);
            Due.dueTold(x, 2, 0, 1, 0, 0, 0, 3, 2, 2, 1, 2, 3, 1);
            x.crash(2, keep);
            Due.dueTold(x, 2, 1, 1, 0, 0, -1, 3, 0, keep == 3 ? 2 : 0);
        }
    }

    /** Node 0's LOG has another TERM where the SNAPSHOT ends. */
    private static void entriesGo() {
        Due.part("STATE over another LOG");
        CouncilStore x = Due.led(3);
        x.propose(0);
        x.propose(0);
        x.sync(0);
        x.crash(0, 0);
        Due.elect(x, 1, 2);
        int term = x.told(1, 1);
        Due.settle(x, 3);
        Due.due("COMMIT of 1", x.told(1, 6), 2);
        x.snapshot(1);
        x.sync(1);
        x.start(0);
        x.beat(1);
        Due.dueMessage(x, 0, STATE, 1, 0, term, 2, term, 0, 0, 0);
        x.deliver(0, false);
        Due.dueTold(x, 0, 0, term, -1, 0, 1, 2, 2, 2);
        Due.due("LASTTERM", x.told(0, 13), term);
        Due.due("TERM, then the SNAPSHOT", x.told(0, 10), 2);
        x.crash(0, 1);
        Due.dueTold(x, 0, 1, term, -1, 0, -1, 3, 0, 0);
    }

    private static void stateOfOldTerm() {
        Due.part("STATE of an older TERM");
        CouncilStore x = Due.led(3);
        x.crash(2, 0);
        Due.done(x, 0, 2);
        x.snapshot(0);
        x.sync(0);
        x.start(2);
        x.beat(0);
        x.rise(2);
        x.sync(2);
        Due.bring(x, STATE, 0, 2);
        Due.due("nothing is taken", x.told(2, 7), 0);
        Due.due("a candidate stays", x.told(2, 3), 1);
        Due.dueMessage(x, x.count(2) - 1, TAKEN, 2, 0, 2, 0, 0, 0, 0, 0);
    }

    /** An ENTRY of an older TERM is COMMIT only with one of the leader's own. */
    private static void commitNeedsItsTerm() {
        Due.part("COMMIT of a leader");
        CouncilStore x = Due.led(3);
        for (int i = 0; i < 5; i++) {
            x.propose(0);
        }
        x.sync(0);
        Due.restart(x, 0, 0);
        Due.elect(x, 0, 2);
        x.sync(0);
        Due.bring(x, APPEND, 0, 1);
        Due.syncAndBring(x, TAKEN, 1, 0);
        Due.bring(x, APPEND, 0, 1);
        x.sync(1);
        Due.bring(x, TAKEN, 1, 0);
        Due.due("5 is everywhere it needs to be", x.told(1, 5), 5);
        Due.due("but not of its TERM", x.told(0, 6), 0);
        Due.bring(x, APPEND, 0, 1);
        Due.syncAndBring(x, TAKEN, 1, 0);
        Due.due("with its own", x.told(0, 6), 7);
    }
}
