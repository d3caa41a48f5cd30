/** The edges of nodes, DISK and NET: promises 1, 2, 9, 11 to 15, 17, 18 and 26 to 28. */
public final class NodesEdgesTest {
    private static final int ASK = 1;
    private static final int APPEND = 3;
    private static final int TAKEN = 4;
    private static final int STATE = 5;
    private static final int MIN = Integer.MIN_VALUE;
    private static final int MAX = Integer.MAX_VALUE;

    public static void main(String[] args) {
        calls512();
        noNodes();
        oneToSeven();
        refusedNodes();
        withNothing();
        madeAnew();
        neverAnew();
        proposeByALeader();
        proposeNodes();
        proposeMakesDraftEmpty();
        riseByNoLeader();
        riseNodes();
        riseAlone();
        beatByALeader();
        beatNodes();
        syncNodes();
        syncAnswers();
        syncCommits();
        sendsWhileNotSynced();
        everySortWaits();
        asWhenItWasSent();
        keepOfNone();
        keepOfSome();
        keepIsBad();
        crashNodes();
        crashLosesAllElse();
        crashBringsBack();
        startNodes();
        startWithWhatIsOnDisk();
        netIsFull();
        netIsFullBySync();
        netIsFullByDeliver();
        lostMessages();
        snapshotOfCommit();
        snapshotNodes();
        entriesUpToBaseAreGone();
        laterSnapshot();
        messageNumbers();
        messageWhat();
        messageElseZero();
        toldNodes();
        toldWhat();
        toldOfDown();
        counts();
        Due.exit();
    }

    private static void calls512() {
        Due.part("An object is used for at most 512 calls after it has been made");
        CouncilStore x = new CouncilStore();
        x.nodes(7);
        for (int call = 2; call <= 511; call++) {
            x.rise(6);
        }
        Due.due("the 512th call", x.told(6, 1), 510);
        CouncilStore y = new CouncilStore();
        y.nodes(1);
        y.rise(0);
        for (int call = 3; call <= 510; call++) {
            y.propose(0);
        }
        y.sync(0);
        Due.due("the 512th call", y.outcome(0, 509, 0), 1);
    }

    private static void noNodes() {
        Due.part("CouncilStore(): No nodes");
        CouncilStore x = new CouncilStore();
        for (int node : new int[] {-1, 0, 1, 6, 7, MIN, MAX}) {
            dueMissing(x, node);
            Due.dueRefused(x, "told", Due.MISSING, () -> x.told(node, 0));
            Due.dueRefused(x, "start", Due.MISSING, () -> x.start(node));
        }
        Due.dueRefused(x, "deliver", Due.MISSING, () -> x.deliver(0, false));
        Due.dueRefused(x, "lose", Due.MISSING, () -> x.lose(0));
        Due.dueRefused(x, "message", Due.MISSING, () -> x.message(0, 0));
        for (int what = 0; what <= 6; what++) {
            Due.due("count(" + what + ")", x.count(what), 0);
        }
        Due.when(x, "k", 0, 0, 0);
        Due.due("DRAFT needs none", x.count(4), 1);
    }

    /** No call that needs a node that is up takes this one. */
    private static void dueMissing(CouncilStore x, int node) {
        Due.dueRefused(x, "propose " + node, Due.MISSING, () -> x.propose(node));
        Due.dueRefused(x, "rise " + node, Due.MISSING, () -> x.rise(node));
        Due.dueRefused(x, "beat " + node, Due.MISSING, () -> x.beat(node));
        Due.dueRefused(x, "sync " + node, Due.MISSING, () -> x.sync(node));
        Due.dueRefused(x, "crash " + node, Due.MISSING, () -> x.crash(node, 0));
        Due.dueRefused(x, "snapshot " + node, Due.MISSING, () -> x.snapshot(node));
        Due.dueRefused(x, "read " + node, Due.MISSING, () -> Due.read(x, node, "k"));
        Due.dueRefused(x, "answer " + node, Due.MISSING, () -> x.answer(node, 0, 0));
        Due.dueRefused(x, "pair " + node, Due.MISSING, () -> Due.pair(x, node, "k", 0, 0));
        Due.dueRefused(x, "range " + node, Due.MISSING, () -> Due.range(x, node, "k", "", 0, 0, 0, 0));
        Due.dueRefused(x, "event " + node, Due.MISSING, () -> x.event(node, 1, 0, 0, 0));
        Due.dueRefused(x, "compact " + node, Due.MISSING, () -> x.compact(node, 0));
        Due.dueRefused(x, "outcome " + node, Due.MISSING, () -> x.outcome(node, 1, 0));
    }

    private static void oneToSeven() {
        Due.part("nodes: There are n nodes (1 .. 7; else bad)");
        for (int n : new int[] {0, 8, -1, 9, MIN, MAX}) {
            CouncilStore x = new CouncilStore();
            Due.dueRefused(x, "nodes(" + n + ")", Due.BAD, () -> x.nodes(n));
        }
        for (int n = 1; n <= 7; n++) {
            CouncilStore x = Due.council(n);
            for (int node = 0; node < n; node++) {
                Due.due("told(" + node + ")", x.told(node, 0), 0);
            }
            dueMissing(x, n);
            dueMissing(x, -1);
            x.rise(n - 1);
            Due.due("the last rises", x.told(n - 1, 3), n == 1 ? 2 : 1);
            Due.due("ASK to all others", x.told(n - 1, 9), n - 1);
        }
    }

    private static void refusedNodes() {
        Due.part("A refused call changes nothing: nodes");
        CouncilStore x = Due.led(3);
        x.propose(0);
        x.lease(1, 1, false);
        x.beat(0);
        x.crash(2, 0);
        for (int n : new int[] {0, 8, MIN, MAX}) {
            Due.dueRefused(x, "nodes(" + n + ")", Due.BAD, () -> x.nodes(n));
        }
    }

    /** All that can be otherwise is otherwise before; nodes that are no more come back with nothing, too. */
    private static void withNothing() {
        Due.part("nodes: not DOWN, with nothing; NET, DRAFT are empty");
        CouncilStore x = Due.led(3);
        x.lease(1, 1, false);
        Due.put(x, "k", "v", 1);
        Due.done(x, 0, 3);
        x.snapshot(1);
        x.snapshot(2);
        x.sync(2);
        x.beat(0);
        Due.read(x, 0, "k");
        x.propose(0);
        x.crash(2, 0);
        x.lease(0, 1, false);
        x.compact(0, 1);
        x.nodes(1);
        Due.dueTold(x, 0, 0, 0, -1, 0, -1, 0, 0, 0, 0, 0, 0, 0, 0, 0, 0);
        x.rise(0);
        x.lease(1, 1, true);
        x.propose(0);
        x.sync(0);
        Due.due("OUTCOME of INDEX 2 now", x.outcome(0, 2, 0), 2);
        Due.due("REVISION then", x.outcome(0, 2, 1), 0);
        x.nodes(7);
        for (int node = 0; node < 7; node++) {
            Due.dueTold(x, node, 0, 0, -1, 0, -1, 0, 0, 0, 0, 0, 0, 0, 0, 0, 0);
            int at = node;
            Due.dueRefused(x, "OUTCOMES", Due.MISSING, () -> x.outcome(at, 1, 0));
            Due.dueRefused(x, "READS", Due.MISSING, () -> x.answer(at, 0, 0));
            x.compact(node, 0);
            Due.restart(x, node, 0);
            Due.dueTold(x, node, 0, 0, -1, 0, -1, 0, 0, 0, 0, 0, 0, 0, 0, 0, 0);
        }
        Due.due("NET", x.count(2), 0);
        Due.due("DRAFT", x.count(4), 0);
    }

    private static void madeAnew() {
        Due.part("nodes: what was made in all, MESSAGES lost, what must never be: 0");
        CouncilStore x = Due.led(7);
        for (int i = 0; i < 34; i++) {
            x.beat(0);
        }
        Due.due("made", x.count(5), 1);
        Due.due("lost", x.count(3), 4);
        x.feed(0, 0, 0, 0, 0);
        x.end(0);
        x.feed(0, 0, 0, 0, 0);
        x.nodes(7);
        int[] want = {20, 1, 0, 0, 0, 0, 0};
        for (int what = 0; what <= 6; what++) {
            Due.due("count(" + what + ")", x.count(what), want[what]);
        }
    }

    /** Who led TERM 1, what was applied as ENTRY 1 and the greatest COMMIT are forgotten. */
    private static void neverAnew() {
        Due.part("nodes: what must never be: 0, and what came before isn't looked at any more");
        CouncilStore x = Due.council(3);
        Due.elect(x, 0, 1);
        Due.restart(x, 0, 0);
        Due.elect(x, 0, 1);
        Due.settle(x, 3);
        Due.done(x, 0, 3);
        Due.due("COMMIT before", x.told(0, 6), 2);
        Due.due("ENTRY 1 is the second that was made", x.count(5), 3);
        x.nodes(3);
        x.rise(1);
        Due.settle(x, 3);
        Due.due("another leads TERM 1", x.told(1, 3), 2);
        Due.read(x, 1, "k");
        Due.settle(x, 3);
        Due.due("a READ is done with COMMIT 1", x.answer(1, 0, 0), 0);
        Due.due("what must never be", x.count(6), 0);
    }

    /** Node 0 leads, node 1 follows, node 2 is a candidate. */
    private static CouncilStore threeRoles() {
        CouncilStore x = Due.led(3);
        x.rise(2);
        Due.due("leader", x.told(0, 3), 2);
        Due.due("follower", x.told(1, 3), 0);
        Due.due("candidate", x.told(2, 3), 1);
        return x;
    }

    private static void proposeByALeader() {
        Due.part("propose: if it's a leader (else REFUSED)");
        CouncilStore x = threeRoles();
        x.lease(1, 1, false);
        Due.dueRefused(x, "a follower", Due.REFUSED, () -> x.propose(1));
        Due.dueRefused(x, "a candidate", Due.REFUSED, () -> x.propose(2));
        Due.due("a leader", x.propose(0), 2);
        Due.due("the next", x.propose(0), 3);
        CouncilStore y = Due.council(1);
        Due.dueRefused(y, "alone, but no leader", Due.REFUSED, () -> y.propose(0));
    }

    private static void proposeNodes() {
        Due.part("propose: No such node, or DOWN: missing");
        CouncilStore x = Due.led(3);
        x.crash(2, 0);
        x.lease(1, 1, false);
        for (int node : new int[] {-1, 2, 3, MIN, MAX}) {
            Due.dueRefused(x, "propose " + node, Due.MISSING, () -> x.propose(node));
        }
        Due.due("0", x.propose(0), 2);
    }

    private static void proposeMakesDraftEmpty() {
        Due.part("propose: DRAFT becomes a COMMAND, and is empty then; APPEND to all others, in order");
        for (int n = 1; n <= 7; n++) {
            CouncilStore x = Due.led(n);
            x.lease(1, 1, false);
            x.propose(0);
            Due.due("DRAFT", x.count(4), 0);
            Due.due("made", x.count(5), 2);
            Due.due("a RECORD", x.told(0, 10), 1);
            Due.due("APPENDS", x.sync(0), n - 1);
            for (int i = 0; i < n - 1; i++) {
                Due.dueMessage(x, i, APPEND, 0, i + 1, 1, 1, 1, 1, 0, 1);
            }
        }
    }

    private static void riseByNoLeader() {
        Due.part("rise: The node, no leader (else REFUSED)");
        CouncilStore x = threeRoles();
        Due.dueRefused(x, "a leader", Due.REFUSED, () -> x.rise(0));
        x.rise(1);
        Due.dueTold(x, 1, 0, 2, 1, 1, -1);
        x.rise(2);
        Due.dueTold(x, 2, 0, 3, 2, 1, -1);
        Due.due("a RECORD each", x.told(2, 10), 2);
        CouncilStore y = Due.led(1);
        Due.dueRefused(y, "a leader that's alone", Due.REFUSED, () -> y.rise(0));
    }

    private static void riseNodes() {
        Due.part("rise: No such node, or DOWN: missing");
        CouncilStore x = Due.council(3);
        x.crash(1, 0);
        for (int node : new int[] {-1, 1, 3, MIN, MAX}) {
            Due.dueRefused(x, "rise " + node, Due.MISSING, () -> x.rise(node));
        }
        x.rise(0);
        x.rise(2);
        Due.due("TERM", x.told(2, 1), 1);
    }

    private static void riseAlone() {
        Due.part("rise: ASK to all others, in order; if it's alone, it's leader");
        CouncilStore x = Due.council(1);
        x.rise(0);
        Due.dueTold(x, 0, 0, 1, 0, 2, 0, 1, 0, 0, 0, 0, 2);
        for (int n = 2; n <= 7; n++) {
            CouncilStore y = Due.council(n);
            y.rise(1);
            Due.dueTold(y, 1, 0, 1, 1, 1, -1, 0, 0, 0, 0, n - 1, 1);
            Due.due("sync", y.sync(1), n - 1);
            for (int i = 0; i < n - 1; i++) {
                Due.dueMessage(y, i, ASK, 1, i == 0 ? 0 : i + 1, 1, 0, 0, 0, 0, 0);
            }
        }
    }

    private static void beatByALeader() {
        Due.part("beat: A leader (else REFUSED): APPEND to all others, in order");
        CouncilStore x = threeRoles();
        Due.dueRefused(x, "a follower", Due.REFUSED, () -> x.beat(1));
        Due.dueRefused(x, "a candidate", Due.REFUSED, () -> x.beat(2));
        x.beat(0);
        Due.due("APPENDS", x.count(2), 2);
        CouncilStore y = Due.led(1);
        y.beat(0);
        Due.due("no others", y.count(2), 0);
    }

    private static void beatNodes() {
        Due.part("beat: No such node, or DOWN: missing");
        CouncilStore x = Due.led(3);
        x.crash(2, 0);
        for (int node : new int[] {-1, 2, 3, MIN, MAX}) {
            Due.dueRefused(x, "beat " + node, Due.MISSING, () -> x.beat(node));
        }
        x.beat(0);
        Due.due("one that's DOWN is sent to, too", x.count(2), 2);
    }

    private static void syncNodes() {
        Due.part("sync: No such node, or DOWN: missing");
        CouncilStore x = Due.council(3);
        x.rise(0);
        x.crash(1, 0);
        for (int node : new int[] {-1, 1, 3, MIN, MAX}) {
            Due.dueRefused(x, "sync " + node, Due.MISSING, () -> x.sync(node));
        }
        Due.due("0", x.sync(0), 2);
    }

    private static void syncAnswers() {
        Due.part("sync: all is synced, and OUTBOX goes to NET, in order. Answers how many MESSAGES are in NET more");
        CouncilStore x = Due.council(3);
        Due.due("nothing to sync", x.sync(0), 0);
        x.rise(0);
        x.rise(0);
        x.rise(0);
        Due.due("three times two", x.sync(0), 6);
        Due.due("all is synced", x.told(0, 10), 0);
        Due.due("OUTBOX", x.told(0, 9), 0);
        for (int i = 0; i < 6; i++) {
            Due.due("TERM of " + i, x.message(i, 3), 1 + i / 2);
            Due.due("for of " + i, x.message(i, 2), 1 + i % 2);
        }
        Due.due("nothing more", x.sync(0), 0);
        Due.due("NET", x.count(2), 6);
        x.crash(0, 0);
        Due.due("it stays", x.told(0, 1), 3);
    }

    private static void syncCommits() {
        Due.part("sync: for a leader COMMIT is looked for then; a leader's own MATCH is LAST as of its latest sync, 0 at first");
        CouncilStore x = Due.council(1);
        x.rise(0);
        Due.due("0 at first", x.told(0, 6), 0);
        x.sync(0);
        Due.due("1 is synced", x.told(0, 6), 1);
        x.propose(0);
        x.propose(0);
        Due.due("LAST", x.told(0, 5), 3);
        Due.due("as of its latest sync", x.told(0, 6), 1);
        x.sync(0);
        Due.due("3 is synced", x.told(0, 6), 3);
        CouncilStore y = Due.council(1);
        y.rise(0);
        y.sync(0);
        Due.restart(y, 0, 0);
        y.sync(0);
        Due.due("for no leader it isn't", y.told(0, 6), 0);
        CouncilStore z = Due.led(2);
        z.propose(0);
        z.sync(0);
        Due.due("one of two", z.told(0, 6), 1);
    }

    private static void sendsWhileNotSynced() {
        Due.part("A message that a node sends while something isn't synced waits in its OUTBOX");
        CouncilStore x = Due.led(2);
        x.beat(0);
        Due.due("all is synced: NET", x.count(2), 1);
        Due.due("OUTBOX", x.told(0, 9), 0);
        x.snapshot(0);
        x.beat(0);
        Due.due("a SNAPSHOT isn't: NET", x.count(2), 1);
        Due.due("OUTBOX", x.told(0, 9), 1);
        x.sync(0);
        Due.due("NET", x.count(2), 2);
        x.beat(0);
        Due.due("NET", x.count(2), 3);
        x.propose(0);
        Due.due("an ENTRY isn't: NET", x.count(2), 3);
        Due.due("OUTBOX", x.told(0, 9), 1);
        CouncilStore y = Due.council(2);
        y.rise(0);
        Due.due("TERM and VOTE aren't: NET", y.count(2), 0);
        Due.due("OUTBOX", y.told(0, 9), 1);
    }

    private static void dueWaits(CouncilStore x, String sort, int node, int was, int more) {
        Due.due(sort + ": NET", x.count(2), was);
        Due.due(sort + ": OUTBOX", x.told(node, 9), more);
        Due.due(sort + ": sync", x.sync(node), more);
    }

    private static void everySortWaits() {
        Due.part("A message that a node sends while something isn't synced waits in its OUTBOX: each sort");
        CouncilStore x = Due.council(3);
        x.rise(0);
        dueWaits(x, "ASK", 0, 0, 2);
        Due.bring(x, ASK, 0, 1);
        dueWaits(x, "ANSWER", 1, 1, 1);
        Due.bring(x, 2, 1, 0);
        dueWaits(x, "APPEND", 0, 1, 2);
        Due.bring(x, APPEND, 0, 1);
        dueWaits(x, "TAKEN", 1, 2, 1);
        Due.bring(x, TAKEN, 1, 0);
        Due.loseAll(x);
        x.snapshot(0);
        x.beat(0);
        dueWaits(x, "STATE", 0, 0, 2);
        Due.dueMessage(x, 1, STATE, 0, 2, 1, 1, 1, 0, 0, 0);
        Due.bring(x, STATE, 0, 2);
        dueWaits(x, "TAKEN of a STATE", 2, 1, 1);
        CouncilStore y = Due.led(2);
        y.beat(0);
        y.rise(1);
        Due.bring(y, APPEND, 0, 1);
        dueWaits(y, "TAKEN of no, behind an ASK", 1, 0, 2);
    }

    /** COMMIT, ROUND and the ENTRIES of a leader go on while an APPEND of it waits; so does its TERM. */
    private static void asWhenItWasSent() {
        Due.part("waits in its OUTBOX: MESSAGES are as when they were sent");
        CouncilStore x = Due.led(2);
        x.propose(0);
        x.sync(0);
        Due.bring(x, APPEND, 0, 1);
        x.sync(1);
        x.propose(0);
        Due.bring(x, TAKEN, 1, 0);
        Due.read(x, 0, "k");
        x.propose(0);
        Due.due("COMMIT", x.told(0, 6), 2);
        x.snapshot(0);
        x.beat(0);
        x.rise(1);
        x.sync(1);
        Due.bring(x, ASK, 1, 0);
        Due.due("TERM", x.told(0, 1), 2);
        Due.due("it's no leader any more", x.told(0, 3), 0);
        Due.due("sync", x.sync(0), 6);
        Due.dueMessage(x, 0, APPEND, 0, 1, 1, 1, 1, 2, 0, 1);
        Due.dueMessage(x, 1, APPEND, 0, 1, 1, 2, 1, 1, 0, 2);
        Due.dueMessage(x, 2, APPEND, 0, 1, 1, 2, 1, 1, 1, 2);
        Due.dueMessage(x, 3, APPEND, 0, 1, 1, 2, 1, 2, 1, 2);
        Due.dueMessage(x, 4, APPEND, 0, 1, 1, 2, 1, 2, 1, 2);
        Due.dueMessage(x, 5, 2, 0, 1, 2, 0, 0, 0, 0, 0);
    }

    private static void keepOfNone() {
        Due.part("crash: keep RECORDS stay (0 .. as many as aren't synced; else bad): none isn't synced");
        CouncilStore x = Due.led(1);
        Due.due("RECORDS", x.told(0, 10), 0);
        for (int keep : new int[] {-1, 1, 2, MIN, MAX}) {
            Due.dueRefused(x, "keep " + keep, Due.BAD, () -> x.crash(0, keep));
        }
        x.crash(0, 0);
        Due.dueTold(x, 0, 1, 1, 0, 0, -1, 1, 0, 0, 0, 0, 0, 0, 0, 1, 0);
    }

    /** TERM 1 and VOTE, ENTRIES 1, 2 and 3: so many of them stay, from the first on. */
    private static void keepOfSome() {
        Due.part("crash: so many of the RECORDS not synced, from the first on, stay as if synced");
        for (int keep = 0; keep <= 4; keep++) {
            CouncilStore x = Due.council(1);
            x.rise(0);
            x.propose(0);
            x.propose(0);
            x.crash(0, keep);
            int term = keep >= 1 ? 1 : 0;
            int last = Math.max(0, keep - 1);
            Due.dueTold(x, 0, 1, term, term - 1, 0, -1, last, 0, 0, 0, 0, 0, 0, 0, last > 0 ? 1 : 0, 0);
            x.start(0);
            Due.due("as if synced", x.told(0, 10), 0);
            x.crash(0, 0);
            Due.due("as if synced", x.told(0, 5), last);
        }
    }

    private static void keepIsBad() {
        Due.part("crash: keep RECORDS stay (0 .. as many as aren't synced; else bad)");
        CouncilStore x = Due.council(1);
        x.rise(0);
        x.propose(0);
        Due.due("RECORDS", x.told(0, 10), 3);
        for (int keep : new int[] {-1, 4, 5, MIN, MAX}) {
            Due.dueRefused(x, "keep " + keep, Due.BAD, () -> x.crash(0, keep));
        }
        x.crash(0, 3);
        Due.due("all stay", x.told(0, 5), 2);
    }

    private static void crashNodes() {
        Due.part("crash: No such node, or DOWN: missing, before");
        CouncilStore x = Due.council(3);
        x.rise(1);
        x.crash(1, 0);
        for (int node : new int[] {-1, 1, 3, MIN, MAX}) {
            for (int keep : new int[] {-1, 0, 1, MAX}) {
                Due.dueRefused(x, "crash " + node + ", " + keep, Due.MISSING, () -> x.crash(node, keep));
            }
        }
    }

    private static void crashLosesAllElse() {
        Due.part("crash: OUTBOX and all else are gone; the node is DOWN");
        CouncilStore x = Due.led(3);
        x.lease(1, 1, false);
        Due.put(x, "k", "v", 1);
        Due.done(x, 0, 3);
        x.compact(0, 1);
        Due.read(x, 0, "k");
        x.propose(0);
        Due.due("OUTBOX before", x.told(0, 9), 2);
        int net = x.count(2);
        x.crash(0, 1);
        Due.dueTold(x, 0, 1, 1, 0, 0, -1, 3, 0, 0, 0, 0, 0, 0, 0, 1, 0);
        dueMissing(x, 0);
        x.start(0);
        Due.dueTold(x, 0, 0, 1, 0, 0, -1, 3, 0, 0, 0, 0, 0, 0, 0, 1, 0);
        Due.due("nothing is sent", x.sync(0), 0);
        Due.due("NET stays", x.count(2), net);
    }

    private static void crashBringsBack() {
        Due.part("crash: the others are as if never written (those from its INDEX on go before)");
        for (int keep = 0; keep <= 2; keep++) {
            CouncilStore x = Due.led(3);
            x.propose(0);
            x.propose(0);
            x.sync(0);
            x.crash(0, 0);
            Due.elect(x, 1, 2);
            x.sync(1);
            x.start(0);
            Due.bring(x, APPEND, 1, 0);
            Due.due("ENTRIES 2 and 3 went for another 2", x.told(0, 5), 2);
            Due.due("TERM, then the ENTRY", x.told(0, 10), 2);
            x.crash(0, keep);
            Due.due("TERM", x.told(0, 1), keep >= 1 ? 2 : 1);
            Due.due("LAST", x.told(0, 5), keep == 2 ? 2 : 3);
            Due.due("LASTTERM", x.told(0, 13), keep == 2 ? 2 : 1);
        }
    }

    private static void startNodes() {
        Due.part("start: No such node, or not DOWN: missing");
        CouncilStore x = Due.council(3);
        x.crash(1, 0);
        for (int node : new int[] {-1, 0, 2, 3, MIN, MAX}) {
            Due.dueRefused(x, "start " + node, Due.MISSING, () -> x.start(node));
        }
        x.start(1);
        Due.due("not DOWN any more", x.told(1, 0), 0);
        Due.dueRefused(x, "start again", Due.MISSING, () -> x.start(1));
    }

    private static void startWithWhatIsOnDisk() {
        Due.part("start: a follower with what's on DISK, VOTE as there, LEADER -1, COMMIT BASE");
        CouncilStore x = Due.led(1);
        Due.put(x, "k", "v", 0);
        Due.done(x, 0, 1);
        Due.restart(x, 0, 0);
        Due.dueTold(x, 0, 0, 1, 0, 0, -1, 2, 0, 0, 0, 0, 0, 0, 0, 1, 0);
        x.rise(0);
        x.sync(0);
        x.snapshot(0);
        x.sync(0);
        x.propose(0);
        x.sync(0);
        Due.restart(x, 0, 0);
        Due.dueTold(x, 0, 0, 2, 0, 0, -1, 4, 3, 3, 1, 0, 0, 1, 0, 2, 0);
        CouncilStore y = Due.council(1);
        Due.restart(y, 0, 0);
        Due.dueTold(y, 0, 0, 0, -1, 0, -1, 0, 0, 0, 0, 0, 0, 0, 0, 0, 0);
    }

    /** NET of so many: APPENDS of the leader 0 of two, all the same. */
    private static CouncilStore withNet(int messages) {
        CouncilStore x = Due.led(2);
        for (int i = 0; i < messages; i++) {
            x.beat(0);
        }
        Due.due("NET", x.count(2), messages);
        return x;
    }

    private static void netIsFull() {
        Due.part("NET: MESSAGES in order, at most 200; what's more is lost");
        CouncilStore x = withNet(199);
        Due.due("lost", x.count(3), 0);
        x.beat(0);
        Due.due("the 200th", x.count(2), 200);
        Due.due("lost", x.count(3), 0);
        x.beat(0);
        Due.due("the 201st", x.count(2), 200);
        Due.due("lost", x.count(3), 1);
        x.beat(0);
        Due.due("lost", x.count(3), 2);
        x.lose(0);
        x.beat(0);
        Due.due("room again", x.count(2), 200);
        Due.due("lost", x.count(3), 2);
    }

    private static void netIsFullBySync() {
        Due.part("sync: how many MESSAGES are in NET more; what's more is lost");
        int[] more = {2, 1, 0};
        for (int net = 198; net <= 200; net++) {
            CouncilStore x = withNet(net);
            x.propose(0);
            x.propose(0);
            Due.due("sync at " + net, x.sync(0), more[net - 198]);
            Due.due("NET", x.count(2), 200);
            Due.due("lost", x.count(3), 2 - more[net - 198]);
            Due.due("OUTBOX", x.told(0, 9), 0);
            Due.due("no more later", x.sync(0), 0);
            if (net < 200) {
                Due.due("the first ones go", x.message(net, 6), 1);
            }
        }
    }

    private static void netIsFullByDeliver() {
        Due.part("deliver goes, and what it sends has room; if it stays, there's none");
        CouncilStore x = withNet(200);
        x.deliver(0, true);
        Due.due("lost", x.count(3), 1);
        Due.due("NET", x.count(2), 200);
        x.deliver(0, false);
        Due.due("lost", x.count(3), 1);
        Due.due("NET", x.count(2), 200);
        Due.due("TAKEN is the last", x.message(199, 0), TAKEN);
    }

    private static void lostMessages() {
        Due.part("lose: MESSAGE number i is lost. Not there: missing");
        CouncilStore x = Due.led(4);
        Due.dueRefused(x, "of none", Due.MISSING, () -> x.lose(0));
        x.beat(0);
        for (int i : new int[] {-1, 3, 4, MIN, MAX}) {
            Due.dueRefused(x, "lose " + i, Due.MISSING, () -> x.lose(i));
        }
        x.lose(1);
        Due.due("NET", x.count(2), 2);
        Due.due("the first stays", x.message(0, 2), 1);
        Due.due("the third is the second", x.message(1, 2), 3);
        x.lose(1);
        Due.due("the first stays", x.message(0, 2), 1);
        x.lose(0);
        Due.due("NET", x.count(2), 0);
        Due.due("lost as too many", x.count(3), 0);
        Due.dueRefused(x, "of none", Due.MISSING, () -> x.lose(0));
    }

    private static void snapshotOfCommit() {
        Due.part("snapshot: that of COMMIT (a RECORD). COMMIT is BASE: REFUSED. Answers BASE");
        CouncilStore x = Due.council(1);
        Due.dueRefused(x, "both are 0", Due.REFUSED, () -> x.snapshot(0));
        x.rise(0);
        Due.dueRefused(x, "LAST is 1, COMMIT 0", Due.REFUSED, () -> x.snapshot(0));
        x.sync(0);
        Due.due("COMMIT 1", x.snapshot(0), 1);
        Due.due("a RECORD", x.told(0, 10), 1);
        Due.dueRefused(x, "COMMIT is BASE", Due.REFUSED, () -> x.snapshot(0));
        x.propose(0);
        Due.dueRefused(x, "COMMIT is BASE still", Due.REFUSED, () -> x.snapshot(0));
        x.sync(0);
        Due.due("COMMIT 2", x.snapshot(0), 2);
        x.crash(0, 0);
        Due.due("the one before", x.told(0, 7), 1);
        Due.due("LAST", x.told(0, 5), 2);
    }

    private static void snapshotNodes() {
        Due.part("snapshot: No such node, or DOWN: missing");
        CouncilStore x = Due.led(3);
        x.crash(1, 0);
        for (int node : new int[] {-1, 1, 3, MIN, MAX}) {
            Due.dueRefused(x, "snapshot " + node, Due.MISSING, () -> x.snapshot(node));
        }
        Due.due("a follower's", x.snapshot(2), 1);
    }

    private static void entriesUpToBaseAreGone() {
        Due.part("ENTRIES up to BASE are gone; LAST: the greatest INDEX (BASE without ENTRIES), LASTTERM its TERM");
        CouncilStore x = Due.led(2);
        x.propose(0);
        x.sync(0);
        Due.loseAll(x);
        x.snapshot(0);
        Due.dueTold(x, 0, 0, 1, 0, 2, 0, 2, 1, 1);
        Due.due("LASTTERM", x.told(0, 13), 1);
        x.sync(0);
        x.beat(0);
        Due.dueMessage(x, 0, APPEND, 0, 1, 1, 1, 1, 1, 0, 1);
        x.deliver(0, false);
        Due.syncAndBring(x, TAKEN, 1, 0);
        x.snapshot(0);
        Due.dueTold(x, 0, 0, 1, 0, 2, 0, 2, 2, 2);
        Due.due("LASTTERM without ENTRIES", x.told(0, 13), 1);
        x.sync(0);
        x.beat(0);
        Due.dueMessage(x, 0, APPEND, 0, 1, 1, 2, 1, 0, 0, 2);
        x.crash(0, 0);
        Due.due("LAST of one that's DOWN", x.told(0, 5), 2);
        Due.due("LASTTERM of one that's DOWN", x.told(0, 13), 1);
        x.start(0);
        x.rise(0);
        Due.loseAll(x);
        x.sync(0);
        Due.dueMessage(x, 0, ASK, 0, 1, 2, 2, 1, 0, 0, 0);
    }

    /** BASE 2, then BASE 4 with ENTRY 5 behind it, then BASE 5 with none. */
    private static void laterSnapshot() {
        Due.part("ENTRIES up to BASE are gone, those behind it stay: a later SNAPSHOT");
        CouncilStore x = Due.led(1);
        Due.done(x, 0, 1);
        Due.due("the first", x.snapshot(0), 2);
        x.propose(0);
        x.propose(0);
        x.sync(0);
        x.propose(0);
        Due.due("the second", x.snapshot(0), 4);
        Due.dueTold(x, 0, 0, 1, 0, 2, 0, 5, 4, 4);
        x.sync(0);
        Due.due("ENTRY 5 is applied", x.outcome(0, 5, 0), 1);
        Due.due("the third", x.snapshot(0), 5);
        Due.dueTold(x, 0, 0, 1, 0, 2, 0, 5, 5, 5);
    }

    private static void messageNumbers() {
        Due.part("message: Of MESSAGE i of NET. Not there: missing; another what: bad, before");
        CouncilStore x = Due.led(3);
        Due.dueRefused(x, "of none", Due.MISSING, () -> x.message(0, 0));
        x.beat(0);
        for (int i : new int[] {-1, 2, 3, MIN, MAX}) {
            Due.dueRefused(x, "message " + i, Due.MISSING, () -> x.message(i, 0));
            Due.dueRefused(x, "bad before", Due.BAD, () -> x.message(i, -1));
            Due.dueRefused(x, "bad before", Due.BAD, () -> x.message(i, 9));
        }
        Due.due("0", x.message(0, 2), 1);
        Due.due("1", x.message(1, 2), 2);
    }

    private static void messageWhat() {
        Due.part("message: sort (what 0) .. COMMIT (8); another what: bad");
        CouncilStore x = Due.led(3);
        x.beat(0);
        for (int what : new int[] {-1, 9, 10, MIN, MAX}) {
            Due.dueRefused(x, "what " + what, Due.BAD, () -> x.message(0, what));
        }
        Due.dueMessage(x, 1, APPEND, 0, 2, 1, 1, 1, 0, 0, 1);
    }

    /** Each sort with all its numbers being other than 0, where it has such. */
    private static void messageElseZero() {
        Due.part("message: LAST or PREV or INDEX or BASE (4) .. ROUND (7), COMMIT (8); else 0");
        CouncilStore x = Due.led(3);
        Due.done(x, 0, 3);
        x.crash(1, 0);
        Due.done(x, 0, 3);
        Due.loseAll(x);
        x.snapshot(0);
        x.sync(0);
        x.start(1);
        Due.read(x, 0, "k");
        Due.dueMessage(x, 0, STATE, 0, 1, 1, 3, 1, 0, 1, 0);
        Due.dueMessage(x, 1, APPEND, 0, 2, 1, 3, 1, 0, 1, 3);
        x.deliver(1, false);
        Due.dueMessage(x, 1, TAKEN, 2, 0, 1, 3, 1, 0, 1, 0);
        Due.loseAll(x);
        x.rise(2);
        x.sync(2);
        Due.dueMessage(x, 0, ASK, 2, 0, 2, 3, 1, 0, 0, 0);
        x.deliver(0, false);
        x.sync(0);
        Due.dueMessage(x, 1, 2, 0, 2, 2, 0, 1, 0, 0, 0);
    }

    private static void toldNodes() {
        Due.part("told: No such node: missing; another what: bad, before");
        CouncilStore x = Due.council(3);
        x.crash(1, 0);
        for (int node : new int[] {-1, 3, 4, 7, MIN, MAX}) {
            Due.dueRefused(x, "told " + node, Due.MISSING, () -> x.told(node, 0));
            Due.dueRefused(x, "bad before", Due.BAD, () -> x.told(node, 15));
        }
        for (int node = 0; node < 3; node++) {
            Due.due("told " + node, x.told(node, 0), node == 1 ? 1 : 0);
        }
    }

    private static void toldWhat() {
        Due.part("told: 1 if it's DOWN (what 0) .. LEASES (14); another what: bad");
        CouncilStore x = Due.led(3);
        for (int lease = 1; lease <= 5; lease++) {
            x.lease(1, lease, false);
        }
        Due.put(x, "k", "v", 0);
        Due.done(x, 0, 3);
        for (int i = 0; i < 4; i++) {
            Due.put(x, "k" + i, "v", 0);
            Due.done(x, 0, 3);
        }
        x.snapshot(0);
        x.sync(0);
        Due.put(x, "l", "v", 0);
        Due.put(x, "m", "v", 0);
        Due.done(x, 0, 3);
        Due.read(x, 0, "k");
        Due.read(x, 0, "k");
        for (int i = 0; i < 3; i++) {
            x.propose(0);
        }
        Due.dueTold(x, 0, 0, 1, 0, 2, 0, 10, 7, 6, 6, 6, 3, 7, 2, 1, 5);
        for (int what : new int[] {-1, 15, 16, MIN, MAX}) {
            Due.dueRefused(x, "what " + what, Due.BAD, () -> x.told(0, what));
        }
    }

    private static void toldOfDown() {
        Due.part("told: DOWN: TERM, VOTE, LAST, BASE, LASTTERM as on DISK, LEADER -1, the others 0");
        CouncilStore x = Due.led(3);
        x.lease(1, 1, false);
        Due.put(x, "k", "v", 0);
        Due.done(x, 0, 3);
        x.snapshot(1);
        x.sync(1);
        x.propose(0);
        x.sync(0);
        Due.bring(x, APPEND, 0, 1);
        Due.dueTold(x, 1, 0, 1, 0, 0, 0, 3, 2, 2, 1, 1, 1, 1, 0, 1, 1);
        x.crash(1, 1);
        Due.dueTold(x, 1, 1, 1, 0, 0, -1, 3, 0, 2, 0, 0, 0, 0, 0, 1, 0);
        Due.dueRefused(x, "what 15", Due.BAD, () -> x.told(1, 15));
        x.rise(2);
        x.crash(2, 1);
        Due.dueTold(x, 2, 1, 2, 2, 0, -1, 2, 0, 0, 0, 0, 0, 0, 0, 1, 0);
    }

    private static void counts() {
        Due.part("count: INPUT's length (0) .. what must never be (6); else -1");
        CouncilStore x = Due.led(7);
        x.feed(0, 0, 0, 0, 0);
        x.end(0);
        x.end(0);
        x.feed(0, 0, 0, 0, 0);
        x.feed(0, 0, 0, 0, 0);
        for (int i = 0; i < 34; i++) {
            x.beat(0);
        }
        x.propose(0);
        x.put(1, 0);
        x.lease(0, 1, false);
        x.lease(1, 1, true);
        x.end(0);
        int[] want = {0, 1, 200, 4, 3, 2, 0};
        for (int what = 0; what <= 6; what++) {
            Due.due("count(" + what + ")", x.count(what), want[what]);
        }
        for (int what : new int[] {-1, 7, 8, MIN, MAX}) {
            Due.due("count(" + what + ")", x.count(what), -1);
        }
    }
}
