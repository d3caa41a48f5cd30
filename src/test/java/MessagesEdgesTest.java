/** The edges of MESSAGES and READS: promises 16, 19 and 20, and what each sort does. */
public final class MessagesEdgesTest {
    private static final int ASK = 1;
    private static final int ANSWER = 2;
    private static final int APPEND = 3;
    private static final int TAKEN = 4;
    private static final int STATE = 5;
    private static final int MIN = Integer.MIN_VALUE;
    private static final int MAX = Integer.MAX_VALUE;

    public static void main(String[] args) {
        deliverNumbers();
        deliverStays();
        deliverToDown();
        termAbove();
        voteOfAnother();
        askOfAnotherTerm();
        lastNotBelow();
        lastTermNotBelow();
        moreThanHalfGrant();
        grantedOnce();
        grantedOfThatTerm();
        appendOfTermBelow();
        appendOfTermAbove();
        prevAboveLast();
        anotherTermAtPrev();
        prevAtBase();
        entriesNotAboveBase();
        entriesThatAreThere();
        anotherEntryAtOne();
        fourEntries();
        commitOfSender();
        commitIfMore();
        roundIfAbove();
        matchIfMore();
        nextNotAboveLast();
        indexNotBelowNext();
        noGoesBack();
        lateNoGoesForth();
        takenOfAnotherTerm();
        stateOfTermBelow();
        stateNotAboveCommit();
        stateAboveCommit();
        entriesBehindState();
        nextNotAboveBase();
        matchOfNone();
        moreThanHalfMatch();
        ofItsOwnTerm();
        moreThanHalfConfirm();
        laterRoundConfirms();
        lookedAtByReadAndTakenAlone();
        sixteenWait();
        readByALeader();
        commitHasItsTerm();
        readNodes();
        answerNumbers();
        answerWhat();
        readsAreGone();
        neverIsNever();
        Due.exit();
    }

    private static void deliverNumbers() {
        Due.part("deliver: MESSAGE number i of NET (from 0). Not there: missing");
        CouncilStore x = Due.council(4);
        Due.dueRefused(x, "of none", Due.MISSING, () -> x.deliver(0, false));
        Due.dueRefused(x, "of none", Due.MISSING, () -> x.deliver(0, true));
        x.rise(0);
        x.sync(0);
        for (int i : new int[] {-1, 3, 4, MIN, MAX}) {
            Due.dueRefused(x, "deliver " + i, Due.MISSING, () -> x.deliver(i, false));
            Due.dueRefused(x, "deliver " + i, Due.MISSING, () -> x.deliver(i, true));
        }
        x.deliver(2, false);
        Due.due("the last", x.told(3, 1), 1);
        x.deliver(0, false);
        Due.due("the first", x.told(1, 1), 1);
        Due.due("the one between stays", x.message(0, 2), 2);
        Due.due("it wasn't brought", x.told(2, 1), 0);
    }

    private static void deliverStays() {
        Due.part("deliver: goes (but if stay), and is delivered");
        CouncilStore x = Due.council(3);
        x.rise(0);
        x.sync(0);
        x.deliver(0, true);
        Due.due("NET", x.count(2), 2);
        Due.due("delivered", x.told(1, 9), 1);
        x.deliver(0, true);
        Due.due("NET", x.count(2), 2);
        Due.due("delivered again", x.told(1, 9), 2);
        x.deliver(0, false);
        Due.due("NET", x.count(2), 1);
        Due.due("delivered again", x.told(1, 9), 3);
        Due.due("the other stays", x.message(0, 2), 2);
    }

    private static void deliverToDown() {
        Due.part("the one it's for is DOWN: nothing");
        CouncilStore x = Due.council(2);
        x.rise(0);
        x.sync(0);
        x.crash(1, 0);
        x.deliver(0, true);
        Due.due("NET", x.count(2), 1);
        Due.dueTold(x, 1, 1, 0, -1, 0, -1, 0);
        x.deliver(0, false);
        Due.due("NET", x.count(2), 0);
        Due.dueTold(x, 1, 1, 0, -1, 0, -1, 0);
        x.start(1);
        Due.dueTold(x, 1, 0, 0, -1, 0, -1, 0, 0, 0, 0, 0, 0);
    }

    /** Node 0 asks in TERM 2; node 1 is a candidate of TERM 1, 2 or 3. */
    private static void termAbove() {
        Due.part("TERM above its own: TERM is that, VOTE -1 (a RECORD), ROLE follower, LEADER -1");
        for (int own = 1; own <= 3; own++) {
            CouncilStore x = Due.council(3);
            x.rise(0);
            x.rise(0);
            x.sync(0);
            for (int i = 0; i < own; i++) {
                x.rise(1);
            }
            x.sync(1);
            Due.loseLike(x, ANSWER);
            x.deliver(2, false);
            Due.due("TERM", x.told(1, 1), Math.max(2, own));
            Due.due("VOTE", x.told(1, 2), own == 1 ? 0 : 1);
            Due.due("ROLE", x.told(1, 3), own == 1 ? 0 : 1);
            Due.due("RECORDS", x.told(1, 10), own == 1 ? 2 : 0);
        }
        CouncilStore y = Due.led(3);
        y.propose(0);
        y.sync(0);
        Due.loseAll(y);
        Due.stand(y, 1, 0);
        Due.bring(y, ASK, 1, 0);
        Due.dueTold(y, 0, 0, 2, -1, 0, -1, 2, 1, 0, 0, 1, 1);
    }

    private static void voteOfAnother() {
        Due.part("ASK: VOTE is -1 or the sender; if VOTE was -1: it's the sender (a RECORD)");
        CouncilStore x = Due.council(3);
        x.rise(0);
        x.rise(1);
        x.sync(0);
        x.sync(1);
        int fromZero = Due.find(x, ASK, 0, 2);
        x.deliver(fromZero, true);
        Due.due("VOTE was -1", x.told(2, 2), 0);
        Due.due("TERM, then VOTE", x.told(2, 10), 2);
        x.sync(2);
        x.deliver(fromZero, true);
        Due.due("VOTE is the sender: no RECORD", x.told(2, 10), 0);
        Due.bring(x, ASK, 1, 2);
        Due.due("VOTE is another: it stays", x.told(2, 2), 0);
        Due.due("no RECORD", x.told(2, 10), 0);
        int[] granted = {1, 1, 0};
        for (int i = 0; i < 3; i++) {
            Due.dueMessage(x, 3 + i, ANSWER, 2, i == 2 ? 1 : 0, 1, 0, granted[i], 0, 0, 0);
        }
        Due.bring(x, ASK, 0, 1);
        Due.due("VOTE is itself", x.told(1, 2), 1);
    }

    /** The first such MESSAGE in NET that has the number there; what: as message says it. */
    private static int find(CouncilStore x, int sort, int from, int to, int what, int number) {
        for (int i = 0; i < x.count(2); i++) {
            boolean same = x.message(i, 0) == sort && x.message(i, 1) == from && x.message(i, 2) == to;
            if (same && x.message(i, what) == number) {
                return i;
            }
        }
        Due.due("a MESSAGE of sort " + sort + " from " + from + " for " + to + " with " + number, 0, 1);
        return 0;
    }

    /** An APPEND with so many ENTRIES. */
    private static void bringEntries(CouncilStore x, int from, int to, int entries) {
        x.deliver(find(x, APPEND, from, to, 6, entries), true);
        x.sync(to);
    }

    private static void bringTaken(CouncilStore x, int from, int to, int index) {
        x.deliver(find(x, TAKEN, from, to, 4, index), false);
    }

    private static void propose(CouncilStore x, int node, int times) {
        for (int i = 0; i < times; i++) {
            x.propose(node);
        }
        x.sync(node);
    }

    private static void dueLastMessage(CouncilStore x, int... want) {
        Due.dueMessage(x, x.count(2) - 1, want);
    }

    /** Node 2 has TERM 3 and no VOTE, by the ANSWER of one that is ahead, when ASKS of TERM 2 and 3 come. */
    private static void askOfAnotherTerm() {
        Due.part("ASK: granted if the message's TERM is its own");
        CouncilStore x = Due.council(3);
        x.rise(2);
        for (int i = 0; i < 3; i++) {
            x.rise(1);
            x.rise(0);
        }
        x.sync(2);
        x.sync(1);
        x.sync(0);
        Due.bring(x, ASK, 2, 1);
        Due.bring(x, ANSWER, 1, 2);
        Due.dueTold(x, 2, 0, 3, -1, 0, -1);
        x.sync(2);
        x.deliver(find(x, ASK, 0, 2, 3, 2), false);
        Due.due("TERM 2: no VOTE", x.told(2, 2), -1);
        dueLastMessage(x, ANSWER, 2, 0, 3, 0, 0, 0, 0, 0);
        x.deliver(find(x, ASK, 0, 2, 3, 3), false);
        Due.due("TERM 3: VOTE", x.told(2, 2), 0);
        x.sync(2);
        dueLastMessage(x, ANSWER, 2, 0, 3, 0, 1, 0, 0, 0);
    }

    /** One of seven, whose LOG is empty, leads in that TERM by the votes of 4, 5 and 6, and has four ENTRIES; NET has its APPENDS. */
    private static void leadWithFour(CouncilStore x, int leader, int term) {
        for (int left = 10; left > 0 && x.told(leader, 1) < term - 1; left--) {
            x.rise(leader);
        }
        x.sync(leader);
        Due.loseAll(x);
        x.rise(leader);
        x.sync(leader);
        for (int voter = 4; voter <= 6; voter++) {
            Due.bring(x, ASK, leader, voter);
            Due.syncAndBring(x, ANSWER, voter, leader);
        }
        Due.due("it leads", x.told(leader, 3), 2);
        Due.loseAll(x);
        propose(x, leader, 3);
    }

    private static void dueVote(CouncilStore x, int asker, int asked, boolean want) {
        Due.stand(x, asker, asked);
        Due.bring(x, ASK, asker, asked);
        Due.due("VOTE", x.told(asked, 2), want ? asker : -1);
        x.sync(asked);
        dueLastMessage(x, ANSWER, asked, asker, x.told(asker, 1), 0, want ? 1 : 0, 0, 0, 0);
    }

    private static void lastNotBelow() {
        Due.part("ASK: (LASTTERM, LAST) of the message aren't below its own: LASTTERM is the same");
        for (int last = 1; last <= 3; last++) {
            CouncilStore x = Due.council(7);
            leadWithFour(x, 2, 1);
            bringEntries(x, 2, 0, 2);
            bringEntries(x, 2, 1, last);
            Due.due("LAST of the one that's asked", x.told(0, 5), 2);
            Due.due("LAST of the one that asks", x.told(1, 5), last);
            dueVote(x, 1, 0, last >= 2);
        }
        CouncilStore y = Due.council(2);
        dueVote(y, 1, 0, true);
    }

    private static void lastTermNotBelow() {
        Due.part("ASK: (LASTTERM, LAST) of the message aren't below its own: LASTTERM is another");
        for (int last = 1; last <= 3; last++) {
            for (int asker = 0; asker <= 1; asker++) {
                CouncilStore x = Due.council(7);
                leadWithFour(x, 2, 1);
                bringEntries(x, 2, 0, asker == 0 ? last : 2);
                leadWithFour(x, 3, 2);
                bringEntries(x, 3, 1, asker == 1 ? last : 2);
                Due.due("LASTTERM of 0", x.told(0, 13), 1);
                Due.due("LASTTERM of 1", x.told(1, 13), 2);
                dueVote(x, asker, 1 - asker, asker == 1);
            }
        }
    }

    private static void moreThanHalfGrant() {
        Due.part("ANSWER: more than N / 2: it's leader");
        for (int n = 2; n <= 7; n++) {
            CouncilStore x = Due.council(n);
            x.rise(0);
            x.sync(0);
            for (int voter = 1; voter < n; voter++) {
                Due.bring(x, ASK, 0, voter);
                Due.syncAndBring(x, ANSWER, voter, 0);
                Due.due(voter + 1 + " of " + n, x.told(0, 3), voter + 1 > n / 2 ? 2 : 1);
            }
            Due.due("once", x.count(5), 1);
        }
    }

    private static void grantedOnce() {
        Due.part("ANSWER: granted or not: counts the nodes that granted (itself, too)");
        CouncilStore x = Due.council(5);
        x.rise(0);
        x.rise(2);
        x.rise(3);
        for (int node : new int[] {0, 2, 3}) {
            x.sync(node);
        }
        for (int asked = 1; asked <= 3; asked++) {
            Due.bring(x, ASK, 0, asked);
            x.sync(asked);
        }
        Due.bring(x, ANSWER, 2, 0);
        Due.bring(x, ANSWER, 3, 0);
        Due.due("two that didn't grant", x.told(0, 3), 1);
        int at = Due.find(x, ANSWER, 1, 0);
        x.deliver(at, true);
        x.deliver(at, true);
        x.deliver(at, true);
        Due.due("one that granted, three times", x.told(0, 3), 1);
        Due.bring(x, ASK, 0, 4);
        Due.syncAndBring(x, ANSWER, 4, 0);
        Due.due("a third node", x.told(0, 3), 2);
    }

    private static void grantedOfThatTerm() {
        Due.part("ANSWER: a candidate with that TERM");
        CouncilStore x = Due.council(2);
        x.rise(0);
        Due.syncAndBring(x, ASK, 0, 1);
        x.sync(1);
        x.rise(0);
        x.deliver(0, true);
        Due.due("TERM below", x.told(0, 3), 1);
        x.crash(0, 0);
        x.start(0);
        Due.due("TERM 1 again", x.told(0, 1), 1);
        x.deliver(0, true);
        Due.due("no candidate", x.told(0, 3), 0);
        x.rise(0);
        x.sync(0);
        Due.bring(x, ASK, 0, 1);
        x.sync(1);
        x.deliver(find(x, ANSWER, 1, 0, 3, 2), true);
        Due.due("that TERM", x.told(0, 3), 2);
        x.deliver(find(x, ANSWER, 1, 0, 3, 2), true);
        Due.due("a leader already", x.count(5), 1);
    }

    private static void appendOfTermBelow() {
        Due.part("APPEND: TERM below its own: it sends TAKEN (no, 0, 0)");
        CouncilStore x = Due.led(3);
        Due.read(x, 0, "k");
        x.propose(0);
        x.sync(0);
        x.rise(1);
        x.sync(1);
        x.deliver(find(x, APPEND, 0, 1, 6, 1), false);
        Due.dueTold(x, 1, 0, 2, 1, 1, -1, 1, 1, 0, 0, 0, 0);
        dueLastMessage(x, TAKEN, 1, 0, 2, 0, 0, 0, 0, 0);
        x.deliver(find(x, APPEND, 0, 2, 6, 1), false);
        x.sync(2);
        Due.dueTold(x, 2, 0, 1, 0, 0, 0, 2, 1, 0, 0, 0, 0);
        dueLastMessage(x, TAKEN, 2, 0, 1, 2, 1, 0, 1, 0);
    }

    private static void appendOfTermAbove() {
        Due.part("APPEND: Else ROLE is follower, LEADER the sender");
        CouncilStore x = Due.led(3);
        Due.elect(x, 2, 1);
        x.sync(2);
        Due.due("0 leads still", x.told(0, 3), 2);
        Due.bring(x, APPEND, 2, 0);
        Due.dueTold(x, 0, 0, 2, -1, 0, 2, 2);
        CouncilStore y = Due.council(3);
        y.rise(1);
        Due.elect(y, 0, 2);
        Due.due("a candidate of that TERM", y.told(1, 1), y.told(0, 1));
        y.sync(0);
        Due.bring(y, APPEND, 0, 1);
        Due.dueTold(y, 1, 0, 1, 1, 0, 0, 1);
    }

    /** Node 1 has ENTRY 1; the leader goes on from 1, 2 or 3. */
    private static void prevAboveLast() {
        Due.part("APPEND: PREV above LAST: TAKEN (no, the lesser of PREV - 1 and LAST, ROUND)");
        for (int prev = 1; prev <= 3; prev++) {
            CouncilStore x = Due.led(3);
            propose(x, 0, prev - 1);
            Due.restart(x, 0, 0);
            Due.elect(x, 0, 2);
            x.sync(0);
            Due.dueMessage(x, 0, APPEND, 0, 1, 2, prev, 1, 1, 0, 0);
            Due.bring(x, APPEND, 0, 1);
            Due.due("LAST", x.told(1, 5), prev == 1 ? 2 : 1);
            Due.due("LEADER", x.told(1, 4), 0);
            x.sync(1);
            dueLastMessage(x, TAKEN, 1, 0, 2, prev == 1 ? 2 : 1, prev == 1 ? 1 : 0, 0, 0, 0);
        }
    }

    /** Node 0 has TERMS 1, 1, 1, the leader 1 has 1, 2, 2, 3; with BASE 1 or without. */
    private static void anotherTermAtPrev() {
        Due.part("APPEND: PREV not below BASE with another TERM there: TAKEN (no, the lesser of PREV - 1 and LAST, ROUND)");
        for (int base = 0; base <= 1; base++) {
            CouncilStore x = Due.led(3);
            if (base == 1) {
                x.snapshot(0);
            }
            propose(x, 0, 2);
            x.crash(0, 0);
            Due.elect(x, 1, 2);
            propose(x, 1, 1);
            x.start(0);
            Due.restart(x, 1, 0);
            Due.elect(x, 1, 2);
            x.sync(1);
            for (int prev = 3; prev >= 1; prev--) {
                Due.due("BASE", x.told(0, 7), base);
                Due.due("PREV", x.message(Due.find(x, APPEND, 1, 0), 4), prev);
                Due.bring(x, APPEND, 1, 0);
                x.sync(0);
                dueLastMessage(x, TAKEN, 0, 1, x.told(1, 1), prev == 1 ? 4 : prev - 1, prev == 1 ? 1 : 0, 0, 0, 0);
                Due.due("LAST", x.told(0, 5), prev == 1 ? 4 : 3);
                Due.bring(x, TAKEN, 0, 1);
            }
        }
    }

    /** Node 2 has BASE 2 and ENTRY 3 when APPENDS without ENTRIES come, from 1, 2 and 3 on. */
    private static void prevAtBase() {
        Due.part("APPEND: PREV below BASE, at it, behind it");
        CouncilStore x = Due.led(3);
        x.beat(0);
        for (int index = 2; index <= 3; index++) {
            propose(x, 0, 1);
            bringEntries(x, 0, 2, 1);
            Due.loseLike(x, TAKEN);
            x.deliver(find(x, APPEND, 0, 2, 6, 1), false);
            Due.bring(x, TAKEN, 2, 0);
            x.beat(0);
        }
        Due.dueTold(x, 2, 0, 1, 0, 0, 0, 3, 2, 0);
        x.snapshot(2);
        x.sync(2);
        for (int prev = 1; prev <= 3; prev++) {
            int at = find(x, APPEND, 0, 2, 4, prev);
            Due.due("no ENTRIES", x.message(at, 6), 0);
            x.deliver(at, false);
            Due.due("LAST", x.told(2, 5), 3);
            Due.due("COMMIT", x.told(2, 6), prev == 3 ? 3 : 2);
            dueLastMessage(x, TAKEN, 2, 0, 1, prev, 1, 0, 0, 0);
        }
    }

    /** APPENDS of ENTRIES 2, 2 and 3, 2 to 4 are in NET, for 1 and 2; COMMIT is 3, and STATE of it is for 2, with ROUND 1. */
    private static CouncilStore withState() {
        CouncilStore x = Due.led(3);
        propose(x, 0, 3);
        bringEntries(x, 0, 1, 2);
        bringTaken(x, 1, 0, 3);
        Due.due("COMMIT", x.told(0, 6), 3);
        x.snapshot(0);
        x.sync(0);
        Due.read(x, 0, "k");
        Due.dueMessage(x, Due.find(x, STATE, 0, 2), STATE, 0, 2, 1, 3, 1, 0, 1, 0);
        return x;
    }

    private static void bringState(CouncilStore x) {
        x.deliver(Due.find(x, STATE, 0, 2), true);
    }

    private static void entriesNotAboveBase() {
        Due.part("APPEND: for each ENTRY, INDEX i: i not above BASE: nothing; else it's added (a RECORD)");
        CouncilStore x = withState();
        bringState(x);
        x.sync(2);
        Due.due("BASE", x.told(2, 7), 3);
        for (int entries = 1; entries <= 3; entries++) {
            x.deliver(find(x, APPEND, 0, 2, 6, entries), false);
            Due.due("RECORDS", x.told(2, 10), entries == 3 ? 1 : 0);
            Due.due("LAST", x.told(2, 5), entries == 3 ? 4 : 3);
            Due.due("COMMIT", x.told(2, 6), 3);
            x.sync(2);
            dueLastMessage(x, TAKEN, 2, 0, 1, 1 + entries, 1, 0, 0, 0);
        }
    }

    private static void entriesThatAreThere() {
        Due.part("APPEND: the LOG has one of that TERM there: nothing; else it's added (a RECORD)");
        CouncilStore x = Due.led(2);
        propose(x, 0, 3);
        int[] entries = {2, 1, 2, 3, 2};
        int[] records = {2, 0, 0, 1, 0};
        int[] last = {3, 3, 3, 4, 4};
        for (int i = 0; i < entries.length; i++) {
            x.deliver(find(x, APPEND, 0, 1, 6, entries[i]), true);
            Due.due("RECORDS", x.told(1, 10), records[i]);
            Due.due("LAST", x.told(1, 5), last[i]);
            x.sync(1);
        }
    }

    private static void anotherEntryAtOne() {
        Due.part("an ENTRY that's added (those from its INDEX on go before): the first of all");
        CouncilStore x = Due.council(3);
        Due.elect(x, 0, 2);
        propose(x, 0, 1);
        Due.loseAll(x);
        Due.due("LAST before", x.told(0, 5), 2);
        Due.elect(x, 1, 2);
        x.sync(1);
        Due.bring(x, APPEND, 1, 0);
        Due.due("LAST", x.told(0, 5), 1);
        Due.due("LASTTERM", x.told(0, 13), 2);
    }

    private static void fourEntries() {
        Due.part("the first 4 ENTRIES from NEXT on, or as many as there are");
        int[] want = {0, 1, 2, 3, 4, 4, 4};
        for (int more = 0; more < want.length; more++) {
            CouncilStore x = Due.led(2);
            propose(x, 0, more);
            Due.loseAll(x);
            x.beat(0);
            Due.dueMessage(x, 0, APPEND, 0, 1, 1, 1, 1, want[more], 0, 1);
            x.deliver(0, false);
            Due.due("LAST", x.told(1, 5), 1 + want[more]);
            x.sync(1);
            Due.bring(x, TAKEN, 1, 0);
            Due.due("the others come next", x.count(2), more > 4 ? 1 : 0);
            if (more > 4) {
                Due.dueMessage(x, 0, APPEND, 0, 1, 1, 5, 1, more - 4, 0, 5);
            }
        }
    }

    /** Node 2 has ENTRY 1 alone, the leader 0 and node 1 have all up to commit. */
    private static CouncilStore withCommit(int commit) {
        CouncilStore x = Due.led(3);
        for (int i = 2; i <= commit; i++) {
            propose(x, 0, 1);
            x.lose(1);
            x.deliver(0, false);
            x.sync(1);
            x.deliver(0, false);
        }
        Due.due("COMMIT of the leader", x.told(0, 6), commit);
        return x;
    }

    private static void commitOfSender() {
        Due.part("APPEND: Then COMMIT is the lesser of the sender's and PREV and the number of ENTRIES");
        for (int commit = 4; commit <= 7; commit++) {
            CouncilStore x = withCommit(commit);
            x.beat(0);
            Due.bring(x, APPEND, 0, 2);
            Due.due("PREV and the number of ENTRIES", x.told(2, 5), Math.min(5, commit));
            Due.due("COMMIT", x.told(2, 6), Math.min(5, commit));
        }
        CouncilStore y = withCommit(3);
        propose(y, 0, 1);
        Due.loseAll(y);
        y.beat(0);
        Due.bring(y, APPEND, 0, 2);
        Due.due("PREV and the number of ENTRIES", y.told(2, 5), 4);
        Due.due("the sender's", y.told(2, 6), 3);
        lateAppendToALongerLog();
    }

    /** The APPEND of 2 to 5 comes again when node 2 has 7 ENTRIES, of which it knows no COMMIT. */
    private static void lateAppendToALongerLog() {
        CouncilStore x = withCommit(7);
        x.beat(0);
        x.deliver(find(x, APPEND, 0, 2, 4, 1), true);
        Due.syncAndBring(x, TAKEN, 2, 0);
        x.deliver(find(x, APPEND, 0, 2, 4, 5), false);
        x.sync(2);
        Due.restart(x, 2, 0);
        Due.due("LAST", x.told(2, 5), 7);
        Due.due("COMMIT", x.told(2, 6), 0);
        x.deliver(find(x, APPEND, 0, 2, 4, 1), false);
        Due.due("not the sender's, not LAST", x.told(2, 6), 5);
        Due.due("LAST", x.told(2, 5), 7);
    }

    private static void commitIfMore() {
        Due.part("APPEND: COMMIT is, if that's more");
        CouncilStore x = Due.led(2);
        x.beat(0);
        propose(x, 0, 1);
        bringEntries(x, 0, 1, 1);
        Due.bring(x, TAKEN, 1, 0);
        x.beat(0);
        x.deliver(find(x, APPEND, 0, 1, 8, 2), false);
        Due.due("COMMIT", x.told(1, 6), 2);
        x.deliver(find(x, APPEND, 0, 1, 8, 1), false);
        Due.due("a late one", x.told(1, 6), 2);
        Due.due("LAST", x.told(1, 5), 2);
    }

    /** Node 1 confirms ROUND 2, then a late TAKEN of ROUND 1 comes; then node 2 confirms ROUND 2. */
    private static void roundIfAbove() {
        Due.part("TAKEN: the sender has confirmed the ROUND, if it's above what it confirmed");
        CouncilStore x = Due.led(5);
        Due.read(x, 0, "k");
        Due.read(x, 0, "k");
        for (int round = 1; round <= 2; round++) {
            x.deliver(find(x, APPEND, 0, 1, 7, round), false);
            x.deliver(find(x, APPEND, 0, 2, 7, round), false);
        }
        x.deliver(find(x, TAKEN, 1, 0, 7, 2), false);
        x.deliver(find(x, TAKEN, 1, 0, 7, 1), false);
        Due.due("two of five", x.told(0, 12), 2);
        x.deliver(find(x, TAKEN, 2, 0, 7, 2), false);
        Due.due("three of five", x.told(0, 12), 0);
    }

    private static void matchIfMore() {
        Due.part("TAKEN: MATCH of it is i, if that's more");
        CouncilStore x = Due.led(5);
        propose(x, 0, 2);
        bringEntries(x, 0, 1, 1);
        bringEntries(x, 0, 1, 2);
        bringEntries(x, 0, 2, 2);
        bringTaken(x, 1, 0, 3);
        bringTaken(x, 1, 0, 2);
        Due.due("two of five", x.told(0, 6), 1);
        bringTaken(x, 2, 0, 3);
        Due.due("three of five", x.told(0, 6), 3);
    }

    /** The leader has ENTRIES up to 2, 3 or 4 when node 1 has taken 2. */
    private static void nextNotAboveLast() {
        Due.part("TAKEN: if NEXT isn't above LAST, APPEND to it");
        for (int last = 2; last <= 4; last++) {
            CouncilStore x = Due.led(2);
            propose(x, 0, last - 1);
            bringEntries(x, 0, 1, 1);
            Due.loseLike(x, APPEND);
            Due.bring(x, TAKEN, 1, 0);
            Due.due("APPENDS", x.count(2), last == 2 ? 0 : 1);
            if (last > 2) {
                Due.dueMessage(x, 0, APPEND, 0, 1, 1, 2, 1, last - 2, 0, 2);
            }
        }
    }

    /** Node 1 has taken 3 of 4; what comes late tells of 2, what comes again of 3. */
    private static void indexNotBelowNext() {
        Due.part("TAKEN: if i isn't below NEXT - 1, APPEND to it");
        CouncilStore x = Due.led(2);
        propose(x, 0, 3);
        bringEntries(x, 0, 1, 1);
        bringEntries(x, 0, 1, 2);
        Due.loseLike(x, APPEND);
        x.deliver(find(x, TAKEN, 1, 0, 4, 3), true);
        Due.due("3: NEXT is 4", x.count(2), 3);
        dueLastMessage(x, APPEND, 0, 1, 1, 3, 1, 1, 0, 3);
        x.deliver(find(x, TAKEN, 1, 0, 4, 2), true);
        Due.due("2: below", x.count(2), 3);
        x.deliver(find(x, TAKEN, 1, 0, 4, 3), true);
        Due.due("3: not below", x.count(2), 4);
        dueLastMessage(x, APPEND, 0, 1, 1, 3, 1, 1, 0, 3);
    }

    private static void noGoesBack() {
        Due.part("TAKEN: No: NEXT is the greater of MATCH + 1 and i + 1; APPEND to it");
        CouncilStore x = Due.led(2);
        propose(x, 0, 2);
        Due.restart(x, 0, 0);
        Due.loseAll(x);
        x.rise(0);
        Due.syncAndBring(x, ASK, 0, 1);
        Due.syncAndBring(x, ANSWER, 1, 0);
        x.sync(0);
        Due.dueMessage(x, 0, APPEND, 0, 1, 2, 3, 1, 1, 0, 0);
        x.deliver(0, false);
        Due.dueMessage(x, 0, TAKEN, 1, 0, 2, 1, 0, 0, 0, 0);
        x.deliver(0, true);
        dueLastMessage(x, APPEND, 0, 1, 2, 1, 1, 3, 0, 0);
        x.deliver(0, true);
        dueLastMessage(x, APPEND, 0, 1, 2, 1, 1, 3, 0, 0);
        Due.bring(x, APPEND, 0, 1);
        x.sync(1);
        x.deliver(find(x, TAKEN, 1, 0, 4, 4), false);
        x.deliver(0, true);
        dueLastMessage(x, APPEND, 0, 1, 2, 4, 2, 0, 0, 4);
        propose(x, 0, 1);
        dueLastMessage(x, APPEND, 0, 1, 2, 4, 2, 1, 0, 4);
    }

    /** Node 0 has 2 to 5 of TERM 1; node 1, of a later TERM, goes back one by one, until its first no comes again. */
    private static void lateNoGoesForth() {
        Due.part("TAKEN: No: NEXT is the greater of MATCH + 1 and i + 1, though that's more than it was");
        CouncilStore x = Due.led(3);
        propose(x, 0, 4);
        Due.elect(x, 1, 2);
        propose(x, 1, 5);
        Due.restart(x, 1, 0);
        Due.elect(x, 1, 2);
        int term = x.told(1, 1);
        x.sync(1);
        Due.bring(x, APPEND, 1, 0);
        x.sync(0);
        x.deliver(find(x, TAKEN, 0, 1, 4, 5), true);
        dueLastMessage(x, APPEND, 1, 0, term, 5, 2, 3, 0, 0);
        Due.bring(x, APPEND, 1, 0);
        x.deliver(find(x, TAKEN, 0, 1, 4, 4), false);
        dueLastMessage(x, APPEND, 1, 0, term, 4, 2, 4, 0, 0);
        x.deliver(find(x, TAKEN, 0, 1, 4, 5), false);
        dueLastMessage(x, APPEND, 1, 0, term, 5, 2, 3, 0, 0);
        x.beat(1);
        Due.due("PREV of the next", x.message(find(x, APPEND, 1, 0, 4, 5), 4), 5);
    }

    /** TAKEN of TERM 1 comes to the leader of TERM 2, one of TERM 2 makes the leader of TERM 1 a follower. */
    private static void takenOfAnotherTerm() {
        Due.part("TAKEN: a leader with that TERM");
        CouncilStore x = Due.led(2);
        propose(x, 0, 1);
        bringEntries(x, 0, 1, 1);
        Due.loseLike(x, APPEND);
        Due.restart(x, 0, 0);
        x.deliver(0, true);
        Due.due("a follower", x.told(0, 6), 0);
        x.rise(0);
        x.deliver(0, true);
        Due.due("a candidate", x.told(0, 6), 0);
        x.sync(0);
        Due.bring(x, ASK, 0, 1);
        Due.syncAndBring(x, ANSWER, 1, 0);
        propose(x, 0, 1);
        Due.loseLike(x, APPEND);
        x.deliver(0, true);
        Due.due("TERM below: COMMIT", x.told(0, 6), 0);
        Due.due("TERM below: nothing is sent", x.count(2), 1);
        x.beat(0);
        Due.due("TERM below: NEXT stays", x.message(1, 4), 2);
        CouncilStore y = Due.led(2);
        y.beat(0);
        y.rise(1);
        y.sync(1);
        y.deliver(0, false);
        Due.bring(y, TAKEN, 1, 0);
        Due.dueTold(y, 0, 0, 2, -1, 0, -1);
    }

    private static void stateOfTermBelow() {
        Due.part("STATE: TERM below its own: TAKEN (no, 0, 0)");
        CouncilStore x = withState();
        x.rise(2);
        x.sync(2);
        bringState(x);
        Due.dueTold(x, 2, 0, 2, 2, 1, -1, 1, 1, 0, 0, 0, 0);
        dueLastMessage(x, TAKEN, 2, 0, 2, 0, 0, 0, 0, 0);
        CouncilStore y = withState();
        bringState(y);
        Due.dueTold(y, 2, 0, 1, 0, 0, 0, 3, 3, 3);
        CouncilStore z = withState();
        Due.restart(z, 2, 0);
        bringState(z);
        Due.due("LEADER the sender", z.told(2, 4), 0);
    }

    /** COMMIT of node 2 is 3 or 4, its own BASE 0, then that of COMMIT, when STATE of BASE 3 comes. */
    private static void stateNotAboveCommit() {
        Due.part("STATE: BASE of the message not above COMMIT: TAKEN (yes, its BASE, ROUND)");
        for (int commit = 3; commit <= 4; commit++) {
            CouncilStore x = withState();
            bringEntries(x, 0, 2, commit - 1);
            bringTaken(x, 2, 0, commit);
            x.beat(0);
            x.deliver(x.count(2) - 1, false);
            x.sync(2);
            Due.due("COMMIT", x.told(2, 6), commit);
            dueNotTaken(x, 0);
            x.snapshot(2);
            x.sync(2);
            dueNotTaken(x, commit);
            Due.restart(x, 2, 0);
            Due.due("LEADER", x.told(2, 4), -1);
            bringState(x);
            Due.due("LEADER the sender", x.told(2, 4), 0);
            Due.due("COMMIT", x.told(2, 6), commit);
        }
    }

    private static void dueNotTaken(CouncilStore x, int base) {
        int commit = x.told(2, 6);
        bringState(x);
        Due.dueTold(x, 2, 0, 1, 0, 0, 0, 4, commit, base, 0, 0, 0);
        dueLastMessage(x, TAKEN, 2, 0, 1, 3, 1, 0, 1, 0);
        Due.due("OUTCOMES stay", x.outcome(2, 1, 0), 1);
    }

    /** COMMIT of node 2 is 2, the BASE that comes is 3. */
    private static void stateAboveCommit() {
        Due.part("STATE: Else it has that SNAPSHOT (a RECORD); COMMIT is BASE; TAKEN (yes, BASE, ROUND)");
        CouncilStore x = Due.led(3);
        Due.done(x, 0, 3);
        Due.put(x, "k", "v", 0);
        propose(x, 0, 1);
        Due.bring(x, APPEND, 0, 1);
        Due.syncAndBring(x, TAKEN, 1, 0);
        Due.loseAll(x);
        x.snapshot(0);
        x.sync(0);
        x.beat(0);
        Due.due("COMMIT", x.told(2, 6), 2);
        Due.dueMessage(x, 1, STATE, 0, 2, 1, 3, 1, 0, 0, 0);
        x.deliver(1, false);
        Due.dueTold(x, 2, 0, 1, 0, 0, 0, 3, 3, 3, 1, 1, 1, 1, 0, 1, 0);
        Due.due("the STORE of it", Due.pair(x, 2, "k", 0, 1), 1);
        x.sync(2);
        dueLastMessage(x, TAKEN, 2, 0, 1, 3, 1, 0, 0, 0);
    }

    /** Node 2 has so many ENTRIES from 2 on when STATE of BASE 3 comes. */
    private static void entriesBehindState() {
        Due.part("STATE: ENTRIES behind it stay, if the LOG has one with that INDEX and TERM, else all go");
        for (int entries = 0; entries <= 3; entries++) {
            CouncilStore x = withState();
            if (entries > 0) {
                bringEntries(x, 0, 2, entries);
            }
            Due.due("LAST before", x.told(2, 5), 1 + entries);
            bringState(x);
            Due.due("LAST", x.told(2, 5), entries == 3 ? 4 : 3);
            Due.due("BASE", x.told(2, 7), 3);
            Due.due("COMMIT", x.told(2, 6), 3);
            Due.due("a RECORD", x.told(2, 10), 1);
            x.crash(2, 0);
            Due.due("LAST without it", x.told(2, 5), 1 + entries);
            Due.due("BASE without it", x.told(2, 7), 0);
        }
        anotherTermAtState();
    }

    /** Node 0 has TERMS 1, 1, 1, 1, the SNAPSHOT of 1 ends with TERM 2 at 2. */
    private static void anotherTermAtState() {
        CouncilStore x = Due.led(3);
        propose(x, 0, 3);
        x.crash(0, 0);
        Due.elect(x, 1, 2);
        Due.settle(x, 3);
        x.snapshot(1);
        x.sync(1);
        x.start(0);
        x.beat(1);
        Due.bring(x, STATE, 1, 0);
        Due.due("all go", x.told(0, 5), 2);
        Due.due("LASTTERM", x.told(0, 13), 2);
    }

    /** The leader's BASE is 3; NEXT of node 1 is 4, of node 2 it's 2, 3 or 4. */
    private static void nextNotAboveBase() {
        Due.part("APPEND to a node: NEXT not above BASE: STATE; else APPEND with PREV = NEXT - 1");
        for (int next = 2; next <= 4; next++) {
            CouncilStore x = Due.led(3);
            propose(x, 0, 2);
            bringEntries(x, 0, 1, 2);
            bringTaken(x, 1, 0, 3);
            if (next > 2) {
                bringEntries(x, 0, 2, next - 2);
                bringTaken(x, 2, 0, next - 1);
            }
            x.snapshot(0);
            x.sync(0);
            Due.loseAll(x);
            x.beat(0);
            Due.dueMessage(x, 0, APPEND, 0, 1, 1, 3, 1, 0, 0, 3);
            if (next == 4) {
                Due.dueMessage(x, 1, APPEND, 0, 2, 1, 3, 1, 0, 0, 3);
            } else {
                Due.dueMessage(x, 1, STATE, 0, 2, 1, 3, 1, 0, 0, 0);
            }
        }
    }

    /** Node 2 has nothing; the leader goes on from 2, so its no tells of 0. */
    private static void matchOfNone() {
        Due.part("To be leader: for all others NEXT is LAST + 1, MATCH 0");
        CouncilStore x = Due.council(3);
        Due.elect(x, 0, 1);
        propose(x, 0, 1);
        Due.restart(x, 0, 0);
        Due.elect(x, 0, 1);
        x.sync(0);
        Due.dueMessage(x, Due.find(x, APPEND, 0, 2), APPEND, 0, 2, 2, 2, 1, 1, 0, 0);
        Due.bring(x, APPEND, 0, 2);
        x.sync(2);
        dueLastMessage(x, TAKEN, 2, 0, 2, 0, 0, 0, 0, 0);
        Due.bring(x, TAKEN, 2, 0);
        dueLastMessage(x, APPEND, 0, 2, 2, 0, 0, 3, 0, 0);
    }

    private static void moreThanHalfMatch() {
        Due.part("COMMIT is looked for: that more than N / 2 nodes' MATCH isn't below");
        for (int n = 1; n <= 7; n++) {
            CouncilStore x = Due.led(n);
            propose(x, 0, 1);
            Due.due("1 of " + n, x.told(0, 6), n == 1 ? 2 : 1);
            for (int node = 1; node < n; node++) {
                Due.bring(x, APPEND, 0, node);
                Due.syncAndBring(x, TAKEN, node, 0);
                Due.due(node + 1 + " of " + n, x.told(0, 6), node + 1 > n / 2 ? 2 : 1);
            }
        }
    }

    /** Two of three have ENTRIES 2 to 5 of TERM 1; 6 is the leader's own. */
    private static void ofItsOwnTerm() {
        Due.part("COMMIT is looked for: the greatest INDEX with its own TERM; it's COMMIT, if that's more");
        CouncilStore x = Due.led(3);
        propose(x, 0, 4);
        Due.restart(x, 0, 0);
        Due.elect(x, 0, 2);
        x.sync(0);
        Due.bring(x, APPEND, 0, 1);
        Due.syncAndBring(x, TAKEN, 1, 0);
        Due.bring(x, APPEND, 0, 1);
        x.sync(1);
        Due.due("LAST of 1", x.told(1, 5), 5);
        Due.bring(x, TAKEN, 1, 0);
        Due.due("COMMIT", x.told(0, 6), 0);
        Due.bring(x, APPEND, 0, 1);
        Due.syncAndBring(x, TAKEN, 1, 0);
        Due.due("COMMIT of its own", x.told(0, 6), 6);
        Due.due("Applying goes on up to COMMIT", x.outcome(0, 5, 0), 1);
        x.sync(0);
        Due.due("not less", x.told(0, 6), 6);
    }

    private static void moreThanHalfConfirm() {
        Due.part("READS: Done when more than N / 2 nodes (itself, too) have confirmed that ROUND");
        for (int n = 1; n <= 7; n++) {
            CouncilStore x = Due.led(n);
            Due.read(x, 0, "k");
            Due.due("1 of " + n, x.told(0, 12), n == 1 ? 0 : 1);
            for (int node = 1; node < n; node++) {
                boolean done = node > n / 2;
                if (!done) {
                    Due.dueRefused(x, "not done", Due.MISSING, () -> x.answer(0, 0, 0));
                }
                Due.bring(x, APPEND, 0, node);
                Due.bring(x, TAKEN, node, 0);
                Due.due(node + 1 + " of " + n, x.told(0, 12), node + 1 > n / 2 ? 0 : 1);
            }
            Due.due("done", x.answer(0, 0, 0), 0);
        }
    }

    private static void laterRoundConfirms() {
        Due.part("READS: confirmed that ROUND or a later one");
        for (int round = 1; round <= 3; round++) {
            CouncilStore x = Due.led(3);
            for (int i = 0; i < 3; i++) {
                Due.due("number", Due.read(x, 0, "k"), i);
            }
            x.deliver(find(x, APPEND, 0, 1, 7, round), false);
            Due.bring(x, TAKEN, 1, 0);
            Due.due("that wait", x.told(0, 12), 3 - round);
            Due.due("the last that's done", x.answer(0, round - 1, 0), 0);
            int next = round;
            Due.dueRefused(x, "the next", Due.MISSING, () -> x.answer(0, next, 0));
        }
        CouncilStore y = Due.led(3);
        y.beat(0);
        Due.read(y, 0, "k");
        y.deliver(find(y, APPEND, 0, 1, 7, 0), false);
        Due.bring(y, TAKEN, 1, 0);
        Due.due("an earlier one doesn't", y.told(0, 12), 1);
    }

    /** Two of three would do; nothing but a TAKEN brings the second. */
    private static void lookedAtByReadAndTakenAlone() {
        Due.part("READS are looked at: by read and TAKEN; the answer is what the STORE has then");
        CouncilStore x = Due.led(3);
        Due.read(x, 0, "k");
        Due.loseAll(x);
        Due.put(x, "k", "v", 0);
        propose(x, 0, 1);
        x.beat(0);
        x.snapshot(0);
        x.sync(0);
        Due.due("waits after propose, sync, beat and snapshot", x.told(0, 12), 1);
        Due.due("ROUND", x.message(find(x, APPEND, 0, 1, 6, 1), 7), 1);
        bringEntries(x, 0, 1, 1);
        Due.due("waits while the TAKEN is on its way", x.told(0, 12), 1);
        Due.dueThrows("answer", Due.MISSING, () -> x.answer(0, 0, 0));
        bringTaken(x, 1, 0, 2);
        Due.due("done", x.told(0, 12), 0);
        Due.due("with what that TAKEN brought to COMMIT", x.answer(0, 0, 0), 1);
        Due.due("REVISION then", x.answer(0, 0, 3), 1);
        Due.put(x, "k", "w", 0);
        Due.done(x, 0, 3);
        Due.due("the STORE goes on", Due.pair(x, 0, "k", 0, 3), 2);
        Due.due("the answer doesn't", x.answer(0, 0, 2), 1);
        Due.due("nor its REVISION", x.answer(0, 0, 3), 1);
    }

    private static void sixteenWait() {
        Due.part("read: 16 wait: FULL");
        CouncilStore x = Due.led(3);
        for (int i = 0; i < 16; i++) {
            Due.due("number", Due.read(x, 0, "k"), i);
            Due.due("that wait", x.told(0, 12), i + 1);
        }
        Due.dueRefused(x, "a 17th", Due.FULL, () -> Due.read(x, 0, "k"));
        x.deliver(find(x, APPEND, 0, 1, 7, 1), false);
        Due.bring(x, TAKEN, 1, 0);
        Due.due("one is done", x.told(0, 12), 15);
        Due.due("room again", Due.read(x, 0, "k"), 16);
        Due.due("its ROUND", x.message(x.count(2) - 1, 7), 17);
        Due.dueRefused(x, "16 wait again", Due.FULL, () -> Due.read(x, 0, "k"));
    }

    private static void readByALeader() {
        Due.part("read: A READ of the leader's (else REFUSED)");
        CouncilStore x = Due.led(3);
        x.rise(2);
        Due.dueRefused(x, "a follower", Due.REFUSED, () -> Due.read(x, 1, "k"));
        Due.dueRefused(x, "a candidate", Due.REFUSED, () -> Due.read(x, 2, "k"));
        Due.due("a leader", Due.read(x, 0, "k"), 0);
        Due.due("APPEND to all others", x.count(2), 2);
    }

    private static void commitHasItsTerm() {
        Due.part("read: if COMMIT has its TERM (else REFUSED)");
        CouncilStore x = Due.council(1);
        x.rise(0);
        Due.dueRefused(x, "COMMIT is 0", Due.REFUSED, () -> Due.read(x, 0, "k"));
        x.sync(0);
        Due.due("COMMIT is its own", Due.read(x, 0, "k"), 0);
        x.snapshot(0);
        Due.due("COMMIT is BASE", Due.read(x, 0, "k"), 1);
        x.sync(0);
        Due.restart(x, 0, 0);
        x.rise(0);
        Due.due("COMMIT", x.told(0, 6), 1);
        Due.dueRefused(x, "COMMIT is BASE, of TERM 1", Due.REFUSED, () -> Due.read(x, 0, "k"));
        x.sync(0);
        Due.due("of TERM 2", Due.read(x, 0, "k"), 0);
        CouncilStore y = Due.led(3);
        Due.elect(y, 1, 2);
        Due.due("COMMIT", y.told(1, 6), 1);
        Due.dueRefused(y, "COMMIT is of TERM 1", Due.REFUSED, () -> Due.read(y, 1, "k"));
    }

    private static void readNodes() {
        Due.part("read: No such node, or DOWN: missing");
        CouncilStore x = Due.led(3);
        x.crash(2, 0);
        for (int node : new int[] {-1, 2, 3, MIN, MAX}) {
            Due.dueRefused(x, "read " + node, Due.MISSING, () -> Due.read(x, node, "k"));
        }
        Due.due("0", Due.read(x, 0, "k"), 0);
    }

    private static void answerNumbers() {
        Due.part("answer: Not done, or not there: missing");
        CouncilStore x = Due.led(3);
        Due.dueRefused(x, "none", Due.MISSING, () -> x.answer(0, 0, 0));
        for (int i = 0; i < 3; i++) {
            Due.read(x, 0, "k");
        }
        x.deliver(find(x, APPEND, 0, 1, 7, 2), false);
        Due.bring(x, TAKEN, 1, 0);
        Due.due("0", x.answer(0, 0, 0), 0);
        Due.due("1", x.answer(0, 1, 0), 0);
        Due.dueRefused(x, "2 isn't done", Due.MISSING, () -> x.answer(0, 2, 0));
        for (int i : new int[] {-1, 3, 4, MIN, MAX}) {
            Due.dueRefused(x, "READ " + i, Due.MISSING, () -> x.answer(0, i, 0));
        }
        x.crash(2, 0);
        for (int node : new int[] {-1, 1, 2, 3, MIN, MAX}) {
            Due.dueRefused(x, "node " + node, Due.MISSING, () -> x.answer(node, 0, 0));
        }
    }

    private static void answerWhat() {
        Due.part("answer: 1 if there was a PAIR, else 0 (what 0), CHANGED (1), VERSION (2), REVISION (3) then; another what: bad, before");
        CouncilStore x = Due.led(1);
        Due.put(x, "k", "", 0);
        Due.put(x, "k", "", 0);
        Due.done(x, 0, 1);
        Due.put(x, "k", "", 0);
        Due.done(x, 0, 1);
        for (int i = 0; i < 3; i++) {
            Due.put(x, "l", "", 0);
            Due.done(x, 0, 1);
        }
        Due.read(x, 0, "k");
        Due.read(x, 0, "m");
        Due.put(x, "k", "", 0);
        Due.put(x, "m", "", 0);
        Due.done(x, 0, 1);
        int[] there = {1, 2, 3, 5};
        for (int what = 0; what <= 3; what++) {
            Due.due("k, " + what, x.answer(0, 0, what), there[what]);
        }
        for (int what = 0; what <= 2; what++) {
            Due.due("m, " + what, x.answer(0, 1, what), 0);
        }
        for (int what : new int[] {-1, 4, MIN, MAX}) {
            Due.dueRefused(x, "what " + what, Due.BAD, () -> x.answer(0, 0, what));
            Due.dueRefused(x, "before a READ that is missing", Due.BAD, () -> x.answer(0, 9, what));
            Due.dueRefused(x, "before a node that is missing", Due.BAD, () -> x.answer(9, 0, what));
        }
    }

    private static void readsAreGone() {
        Due.part("READS: gone when ROLE isn't leader any more; its number: 0, 1, .. from when it's leader");
        CouncilStore x = Due.led(3);
        Due.read(x, 0, "k");
        Due.settle(x, 3);
        Due.read(x, 0, "k");
        Due.loseAll(x);
        Due.due("done", x.answer(0, 0, 0), 0);
        Due.due("waits", x.told(0, 12), 1);
        Due.stand(x, 1, 0);
        Due.bring(x, ASK, 1, 0);
        Due.due("no leader", x.told(0, 3), 0);
        Due.due("none waits", x.told(0, 12), 0);
        Due.dueRefused(x, "gone", Due.MISSING, () -> x.answer(0, 0, 0));
        x.sync(0);
        Due.elect(x, 0, 2);
        Due.settle(x, 3);
        Due.dueRefused(x, "gone", Due.MISSING, () -> x.answer(0, 0, 0));
        Due.due("from 0 again", Due.read(x, 0, "k"), 0);
        Due.due("ROUND 1 again", x.message(0, 7), 1);
    }

    /** All that is counted comes near: a TERM is led twice, ENTRIES are applied again, READS are done at their AS OF. */
    private static void neverIsNever() {
        Due.part("What must never be: counted are leaders of a TERM other than the first one, ENTRIES .., READS ..");
        CouncilStore x = Due.led(3);
        for (int i = 0; i < 3; i++) {
            Due.put(x, "k", "v", 0);
            Due.done(x, 0, 3);
            Due.read(x, 0, "k");
            Due.settle(x, 3);
            Due.due("done at its AS OF", x.answer(0, i, 3), i + 1);
        }
        for (int node = 1; node <= 2; node++) {
            Due.restart(x, node, 0);
            Due.beatOut(x, 0, 3);
            Due.due("applied again", x.outcome(node, 4, 1), 3);
        }
        Due.elect(x, 1, 2);
        Due.settle(x, 3);
        Due.read(x, 1, "k");
        Due.settle(x, 3);
        Due.due("done by another leader", x.answer(1, 0, 0), 1);
        Due.due("what must never be", x.count(6), 0);
        CouncilStore y = Due.council(1);
        y.rise(0);
        Due.restart(y, 0, 0);
        y.rise(0);
        y.sync(0);
        Due.due("the same one leads TERM 1 again", y.told(0, 1), 1);
        Due.due("what must never be", y.count(6), 0);
    }
}
