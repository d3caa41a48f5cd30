/** The edges of a STORE: RANGE, COMMANDS, LEASES, HISTORY, COMPACT; promises 21 to 25. */
public final class StoreEdgesTest {
    private static final int MIN = Integer.MIN_VALUE;
    private static final int MAX = Integer.MAX_VALUE;

    public static void main(String[] args) {
        emptyAtFirst();
        endIsEmpty();
        notBelowKey();
        belowEnd();
        byBytes();
        endIsByteZero();
        conditionsOfWhatIsThere();
        conditionsOfWhatIsNot();
        conditionsAllHold();
        nothingToDo();
        putOfALease();
        grantOfALease();
        revokeOfALease();
        onWhatTheOnesBeforeLeft();
        barredDoesNothing();
        revokeDeletesItsPairs();
        revisionOneMore();
        putTwice();
        deletedAndPut();
        deletedAreCounted();
        keysThatAreOtherwise();
        pairRevisions();
        pairBeforeCompact();
        pairWhat();
        pairNodes();
        rangeRevisions();
        rangeWhat();
        rangePairs();
        rangeBytes();
        nothingIsLookedFor();
        eventRevisions();
        eventBeforeCompact();
        eventWhat();
        eventKeys();
        eventNodes();
        compactRevisions();
        compactIsTheNodesOwn();
        outcomeIndex();
        outcomeSinceStart();
        outcomeSinceState();
        outcomeWhat();
        Due.exit();
    }

    private static int applied(CouncilStore x) {
        return Due.done(x, 0, 1);
    }

    private static void dueOutcome(CouncilStore x, String name, int kind, int revision, int deleted) {
        int index = applied(x);
        Due.due(name + ", what", x.outcome(0, index, 0), kind);
        Due.due(name + ", REVISION then", x.outcome(0, index, 1), revision);
        Due.due(name + ", deleted", x.outcome(0, index, 2), deleted);
        Due.due(name + ", REVISION", x.told(0, 8), revision);
    }

    /** A REVISION for each of the KEYS. */
    private static CouncilStore with(String... keys) {
        CouncilStore x = Due.led(1);
        for (String key : keys) {
            Due.put(x, key, "v" + key, 0);
            applied(x);
        }
        return x;
    }

    private static void emptyAtFirst() {
        Due.part("STORE: a REVISION, 0 at first");
        CouncilStore x = Due.council(1);
        for (int what : new int[] {8, 11, 14}) {
            Due.due("told(0, " + what + ")", x.told(0, what), 0);
        }
        for (int what = 0; what <= 5; what++) {
            Due.due("pair", Due.pair(x, 0, "k", 0, what), 0);
        }
        Due.due("range", Due.range(x, 0, "\0", "\0", 0, 0, 0, 0), 0);
        Due.dueRefused(x, "REVISION 1", Due.REFUSED, () -> Due.pair(x, 0, "k", 1, 0));
        Due.dueRefused(x, "event", Due.MISSING, () -> x.event(0, 1, 0, 0, 0));
    }

    /** The same RANGE as range sees it and as a DELETE sees it. */
    private static void dueRange(String[] keys, String key, String end, String... want) {
        CouncilStore x = with(keys);
        Due.due("PAIRS in " + key + " to " + end, Due.range(x, 0, key, end, 0, 0, 0, 0), want.length);
        for (int i = 0; i < want.length; i++) {
            Due.due("length", Due.range(x, 0, key, end, 0, 1, i, 0), want[i].length());
            for (int k = 0; k < want[i].length(); k++) {
                Due.due("byte", Due.range(x, 0, key, end, 0, 2, i, k), want[i].charAt(k));
            }
        }
        Due.erase(x, key, end);
        int index = applied(x);
        Due.due("deleted by " + key + " to " + end, x.outcome(0, index, 2), want.length);
        for (String gone : want) {
            Due.due(gone + " is gone", Due.pair(x, 0, gone, 0, 0), 0);
        }
        Due.due("the others stay", x.told(0, 11), keys.length - want.length);
    }

    private static void endIsEmpty() {
        Due.part("END empty: that KEY");
        String[] keys = {"a", "b", "b\0", "bb", "c"};
        dueRange(keys, "b", "", "b");
        dueRange(keys, "b\0", "", "b\0");
        dueRange(keys, "ba", "");
        dueRange(keys, "a\0", "");
    }

    private static void notBelowKey() {
        Due.part("else the KEYS not below it");
        String[] keys = {"a", "a\u00ff", "b", "b\0", "c"};
        dueRange(keys, "b", "\u00ff", "b", "b\0", "c");
        dueRange(keys, "b\0", "\u00ff", "b\0", "c");
        dueRange(keys, "b\0\0", "\u00ff", "c");
        dueRange(keys, "a\u00ff", "\u00ff", "a\u00ff", "b", "b\0", "c");
    }

    private static void belowEnd() {
        Due.part("and below END");
        String[] keys = {"a", "b", "b\0", "c"};
        dueRange(keys, "a", "b", "a");
        dueRange(keys, "a", "b\0", "a", "b");
        dueRange(keys, "a", "b\0\0", "a", "b", "b\0");
        dueRange(keys, "a", "a");
        dueRange(keys, "b", "a");
        dueRange(keys, "a", "c".repeat(64), "a", "b", "b\0", "c");
    }

    private static void byBytes() {
        Due.part("by bytes");
        String[] keys = {"\u0080", "\177", "\u00ff", "\0", "\1", "\u00ff\u00ff", "\177\u00ff"};
        dueRange(keys, "\0", "\0", "\0", "\1", "\177", "\177\u00ff", "\u0080", "\u00ff", "\u00ff\u00ff");
        dueRange(keys, "\177", "\u0080", "\177", "\177\u00ff");
        dueRange(keys, "\u0080", "\u00ff", "\u0080");
        dueRange(keys, "\u0080", "\177");
        dueRange(keys, "\u00ff", "\u00ff\u00ff", "\u00ff");
    }

    private static void endIsByteZero() {
        Due.part("END a byte 0 alone: no end");
        String[] keys = {"\0", "\0\0", "a", "\u00ff", "\u00ff".repeat(32)};
        dueRange(keys, "a", "\0", "a", "\u00ff", "\u00ff".repeat(32));
        dueRange(keys, "\u00ff".repeat(32), "\0", "\u00ff".repeat(32));
        dueRange(keys, "a", "\0\0");
        dueRange(keys, "\0", "\0\0", "\0");
        dueRange(keys, "\0", "\1", "\0", "\0\0");
        dueRange(keys, "\0", "", "\0");
    }

    private static void dueHolds(CouncilStore x, String key, int what, int how, int number, boolean want) {
        Due.when(x, key, what, how, number);
        int index = x.propose(0);
        x.sync(0);
        Due.due("when " + key + " " + what + " " + how + " " + number, x.outcome(0, index, 0), want ? 1 : 0);
    }

    private static void dueHolds(CouncilStore x, String key, int what, int value) {
        for (int number : new int[] {MIN, value - 1, value, value + 1, MAX}) {
            dueHolds(x, key, what, 0, number, value == number);
            dueHolds(x, key, what, 1, number, value != number);
            dueHolds(x, key, what, 2, number, value < number);
            dueHolds(x, key, what, 3, number, value > number);
        }
    }

    /** k has CREATED 2, CHANGED 5, VERSION 3, LEASE 99: no two of them are the same. */
    private static void conditionsOfWhatIsThere() {
        Due.part("of it CREATED (0), CHANGED (1), VERSION (2) or LEASE (3); = (0), <> (1), < (2) or > (3) a number");
        CouncilStore x = with("a", "k", "k", "b");
        x.lease(1, 99, false);
        Due.put(x, "k", "", 99);
        applied(x);
        int[] values = {2, 5, 3, 99};
        for (int what = 0; what <= 3; what++) {
            dueHolds(x, "k", what, values[what]);
        }
    }

    private static void conditionsOfWhatIsNot() {
        Due.part("each 0 if it isn't there");
        CouncilStore x = with("k");
        for (int what = 0; what <= 3; what++) {
            dueHolds(x, "k\0", what, 0);
        }
        Due.due("LEASE of a PAIR without", Due.pair(x, 0, "k", 0, 4), 0);
        dueHolds(x, "k", 3, 0);
    }

    private static void conditionsAllHold() {
        Due.part("at most 4 CONDITIONS, for when they all hold (THEN), for when not (ELSE)");
        CouncilStore x = with("k");
        for (int fails = -1; fails < 4; fails++) {
            for (int i = 0; i < 4; i++) {
                Due.when(x, "k", 2, i == fails ? 1 : 0, 1);
            }
            x.lease(1, 1, false);
            x.lease(1, 1, true);
            int index = applied(x);
            Due.due("number " + fails + " fails", x.outcome(0, index, 0), fails < 0 ? 1 : 0);
        }
        int index = applied(x);
        Due.due("none at all", x.outcome(0, index, 0), 1);
    }

    private static void nothingToDo() {
        Due.part("without STEPS and CONDITIONS: EMPTY; an EMPTY one: 1");
        CouncilStore x = with("k");
        dueOutcome(x, "EMPTY", 1, 1, 0);
        Due.when(x, "k", 2, 0, 2);
        dueOutcome(x, "no ELSE", 0, 1, 0);
        Due.when(x, "k", 2, 0, 1);
        dueOutcome(x, "no THEN", 1, 1, 0);
    }

    private static void putOfALease() {
        Due.part("PUT of a LEASE that isn't there: BARRED");
        CouncilStore x = Due.led(1);
        for (int lease : new int[] {1, 99}) {
            Due.put(x, "k", "", lease);
            dueOutcome(x, "LEASE " + lease, 2, 0, 0);
        }
        Due.put(x, "k", "", 0);
        dueOutcome(x, "0 for none", 1, 1, 0);
        x.lease(1, 1, false);
        x.lease(1, 99, false);
        Due.put(x, "k", "", 1);
        Due.put(x, "l", "", 99);
        dueOutcome(x, "both are there", 1, 2, 0);
        Due.put(x, "k", "", 2);
        dueOutcome(x, "another isn't", 2, 2, 0);
        Due.put(x, "k", "", 98);
        dueOutcome(x, "another isn't", 2, 2, 0);
    }

    private static void grantOfALease() {
        Due.part("GRANT of one that is: BARRED");
        CouncilStore x = Due.led(1);
        for (int lease : new int[] {1, 99}) {
            x.lease(1, lease, false);
            dueOutcome(x, "GRANT", 1, 0, 0);
            x.lease(1, lease, false);
            dueOutcome(x, "again", 2, 0, 0);
        }
        Due.due("LEASES", x.told(0, 14), 2);
        for (int lease = 2; lease <= 98; lease++) {
            x.lease(1, lease, false);
            x.propose(0);
        }
        x.sync(0);
        Due.due("all LEASES", x.told(0, 14), 99);
    }

    private static void revokeOfALease() {
        Due.part("REVOKE of one that isn't: BARRED");
        CouncilStore x = Due.led(1);
        for (int lease : new int[] {1, 99}) {
            x.lease(1, lease, true);
            dueOutcome(x, "REVOKE", 2, 0, 0);
            x.lease(1, lease, false);
            applied(x);
            x.lease(1, lease, true);
            dueOutcome(x, "REVOKE of one that is", 1, 0, 0);
            x.lease(1, lease, true);
            dueOutcome(x, "again", 2, 0, 0);
        }
        Due.due("LEASES", x.told(0, 14), 0);
    }

    private static void onWhatTheOnesBeforeLeft() {
        Due.part("its STEPS one after another, each on what the ones before left");
        CouncilStore x = Due.led(1);
        x.lease(1, 5, false);
        Due.put(x, "k", "", 5);
        dueOutcome(x, "GRANT, PUT", 1, 1, 0);
        Due.put(x, "l", "", 6);
        x.lease(1, 6, false);
        dueOutcome(x, "PUT, GRANT", 2, 1, 0);
        x.lease(1, 5, true);
        Due.put(x, "k", "", 5);
        dueOutcome(x, "REVOKE, PUT", 2, 1, 0);
        x.lease(1, 5, true);
        x.lease(1, 5, false);
        dueOutcome(x, "REVOKE, GRANT", 1, 2, 1);
        x.lease(1, 6, false);
        x.lease(1, 6, false);
        dueOutcome(x, "GRANT, GRANT", 2, 2, 0);
        x.lease(1, 5, true);
        x.lease(1, 5, true);
        dueOutcome(x, "REVOKE, REVOKE", 2, 2, 0);
        Due.put(x, "m", "", 0);
        Due.erase(x, "m", "");
        Due.erase(x, "m", "");
        dueOutcome(x, "PUT, DELETE, DELETE", 1, 3, 1);
        Due.due("LEASES", x.told(0, 14), 1);
    }

    private static void barredDoesNothing() {
        Due.part("nothing is done by the COMMAND at all: it's BARRED");
        CouncilStore x = Due.led(1);
        x.lease(1, 3, false);
        Due.put(x, "k", "v", 3);
        Due.put(x, "l", "v", 0);
        applied(x);
        Due.put(x, "k", "other", 0);
        Due.put(x, "new", "", 0);
        Due.erase(x, "l", "");
        x.lease(1, 4, false);
        x.lease(1, 3, true);
        x.lease(1, 3, true);
        dueOutcome(x, "the last STEP bars it", 2, 1, 0);
        Due.due("PAIRS", x.told(0, 11), 2);
        Due.due("LEASES", x.told(0, 14), 1);
        int[] k = {1, 1, 1, 1, 3, 1};
        for (int what = 0; what <= 5; what++) {
            Due.due("k", Due.pair(x, 0, "k", 0, what), k[what]);
        }
        Due.due("l", Due.pair(x, 0, "l", 0, 0), 1);
        Due.dueRefused(x, "no REVISION", Due.MISSING, () -> x.event(0, 2, 0, 0, 0));
        Due.when(x, "k", 2, 0, 9);
        x.lease(0, 9, true);
        dueOutcome(x, "in ELSE, too", 2, 1, 0);
        Due.put(x, "k", "", 3);
        dueOutcome(x, "LEASE 3 is there still", 1, 2, 0);
    }

    private static void revokeDeletesItsPairs() {
        Due.part("REVOKE deletes all PAIRS of it, and the LEASE");
        CouncilStore x = Due.led(1);
        x.lease(1, 1, false);
        x.lease(1, 2, false);
        for (String key : new String[] {"a", "b", "c"}) {
            Due.put(x, key, "", 1);
        }
        applied(x);
        Due.put(x, "b", "", 2);
        Due.put(x, "c", "", 0);
        Due.put(x, "d", "", 1);
        applied(x);
        x.lease(1, 1, true);
        dueOutcome(x, "a and d have it", 1, 3, 2);
        Due.due("PAIRS", x.told(0, 11), 2);
        Due.due("LEASES", x.told(0, 14), 1);
        x.lease(1, 2, true);
        dueOutcome(x, "the last LEASE", 1, 4, 1);
        Due.due("c has none", Due.pair(x, 0, "c", 0, 0), 1);
        Due.due("LEASES", x.told(0, 14), 0);
        x.lease(1, 1, false);
        applied(x);
        x.lease(1, 1, true);
        dueOutcome(x, "without PAIRS", 1, 4, 0);
        Due.due("LEASES", x.told(0, 14), 0);
    }

    private static void revisionOneMore() {
        Due.part("If PAIRS were put or deleted by it, REVISION becomes one more");
        CouncilStore x = Due.led(1);
        Due.erase(x, "\0", "\0");
        dueOutcome(x, "nothing is there to delete", 1, 0, 0);
        x.lease(1, 1, false);
        dueOutcome(x, "a LEASE alone", 1, 0, 0);
        Due.put(x, "k", "v", 0);
        dueOutcome(x, "a PUT", 1, 1, 0);
        Due.put(x, "k", "v", 0);
        dueOutcome(x, "the same PUT", 1, 2, 0);
        for (int i = 0; i < 6; i++) {
            Due.put(x, "k" + i, "v", 0);
        }
        dueOutcome(x, "six PUTS", 1, 3, 0);
        Due.put(x, "t", "v", 0);
        Due.erase(x, "t", "");
        dueOutcome(x, "put and deleted", 1, 4, 1);
        Due.erase(x, "k", "");
        dueOutcome(x, "a DELETE", 1, 5, 1);
        Due.erase(x, "k", "");
        dueOutcome(x, "nothing is there any more", 1, 5, 0);
        Due.put(x, "l", "", 1);
        applied(x);
        x.lease(1, 1, true);
        dueOutcome(x, "a REVOKE", 1, 7, 1);
    }

    private static void duePair(CouncilStore x, String key, int... want) {
        for (int what = 1; what <= 4; what++) {
            Due.due(key + ", " + what, Due.pair(x, 0, key, 0, what), want[what - 1]);
        }
    }

    private static void putTwice() {
        Due.part("a KEY put twice: VERSION counts both");
        CouncilStore x = with("a", "k");
        Due.put(x, "k", "1", 0);
        Due.put(x, "k", "22", 0);
        Due.put(x, "n", "1", 0);
        Due.put(x, "n", "22", 0);
        applied(x);
        duePair(x, "k", 2, 3, 3, 0);
        duePair(x, "n", 3, 3, 2, 0);
        Due.due("the later VALUE", Due.pair(x, 0, "k", 0, 5), 2);
        Due.due("one KEY in HISTORY each", x.event(0, 3, 0, 0, 0), 2);
    }

    private static void deletedAndPut() {
        Due.part("deleted and put: CREATED anew, VERSION 1");
        CouncilStore x = with("k", "k", "k");
        duePair(x, "k", 1, 3, 3, 0);
        Due.erase(x, "k", "");
        Due.put(x, "k", "", 0);
        dueOutcome(x, "in one COMMAND", 1, 4, 1);
        duePair(x, "k", 4, 4, 1, 0);
        Due.due("one KEY in HISTORY", x.event(0, 4, 0, 0, 0), 1);
        Due.due("not deleted", x.event(0, 4, 1, 0, 0), 0);
        Due.put(x, "k", "", 0);
        Due.erase(x, "k", "");
        Due.put(x, "k", "", 0);
        Due.put(x, "k", "", 0);
        dueOutcome(x, "put, deleted, put, put", 1, 5, 1);
        duePair(x, "k", 5, 5, 2, 0);
        Due.erase(x, "k", "");
        applied(x);
        Due.put(x, "k", "", 0);
        applied(x);
        duePair(x, "k", 7, 7, 1, 0);
    }

    private static void deletedAreCounted() {
        Due.part("how many PAIRS were deleted");
        CouncilStore x = with("a", "b", "c", "d");
        x.lease(1, 1, false);
        Due.put(x, "e", "", 1);
        applied(x);
        Due.erase(x, "a", "c");
        Due.erase(x, "a", "d");
        x.lease(1, 1, true);
        Due.put(x, "f", "", 0);
        Due.erase(x, "f", "");
        dueOutcome(x, "two, one, one by REVOKE, one just put", 1, 6, 5);
        dueOutcome(x, "the next has none", 1, 6, 0);
    }

    private static void keysThatAreOtherwise() {
        Due.part("HISTORY: of each REVISION the KEYS that are otherwise than before it, by bytes");
        CouncilStore x = with("\u0080", "\177", "m");
        Due.put(x, "z", "", 0);
        Due.erase(x, "z", "");
        applied(x);
        Due.due("put and deleted: as before", x.event(0, 4, 0, 0, 0), 0);
        Due.dueRefused(x, "no KEY 0", Due.MISSING, () -> x.event(0, 4, 1, 0, 0));
        Due.put(x, "m", "vm", 0);
        Due.erase(x, "\u0080", "");
        Due.put(x, "m\0", "", 0);
        Due.put(x, "\177", "", 0);
        Due.put(x, "\177", "", 0);
        applied(x);
        String[] want = {"m", "m\0", "\177", "\u0080"};
        Due.due("KEYS", x.event(0, 5, 0, 0, 0), 4);
        for (int i = 0; i < 4; i++) {
            Due.due("length", x.event(0, 5, 2, i, 0), want[i].length());
            Due.due("first byte", x.event(0, 5, 3, i, 0), want[i].charAt(0));
            Due.due("deleted", x.event(0, 5, 1, i, 0), i == 3 ? 1 : 0);
        }
    }

    private static void pairRevisions() {
        Due.part("pair: at a REVISION (0: the latest; above it: REFUSED); REVISION below 0: bad");
        CouncilStore x = with("a", "k", "k");
        int[] versions = {2, 0, 1, 2};
        for (int revision = 0; revision <= 3; revision++) {
            Due.due("VERSION at " + revision, Due.pair(x, 0, "k", revision, 3), versions[revision]);
        }
        for (int above : new int[] {4, 5, MAX}) {
            Due.dueRefused(x, "REVISION " + above, Due.REFUSED, () -> Due.pair(x, 0, "k", above, 0));
        }
        for (int below : new int[] {-1, -2, MIN}) {
            Due.dueRefused(x, "REVISION " + below, Due.BAD, () -> Due.pair(x, 0, "k", below, 0));
        }
    }

    private static void pairBeforeCompact() {
        Due.part("pair: before COMPACT: REFUSED");
        CouncilStore x = with("k", "k", "k", "k");
        x.compact(0, 3);
        Due.dueRefused(x, "1", Due.REFUSED, () -> Due.pair(x, 0, "k", 1, 0));
        Due.dueRefused(x, "2", Due.REFUSED, () -> Due.pair(x, 0, "k", 2, 0));
        Due.due("3", Due.pair(x, 0, "k", 3, 3), 3);
        Due.due("4", Due.pair(x, 0, "k", 4, 3), 4);
        x.compact(0, 4);
        Due.dueRefused(x, "3", Due.REFUSED, () -> Due.pair(x, 0, "k", 3, 0));
        Due.due("4", Due.pair(x, 0, "k", 4, 3), 4);
        Due.due("0: the latest", Due.pair(x, 0, "k", 0, 3), 4);
    }

    private static void pairWhat() {
        Due.part("pair: 1 if the PAIR is there (what 0) .. its VALUE's length (5); 0 without it; another what: bad");
        CouncilStore x = with("a", "k");
        x.lease(1, 98, false);
        Due.put(x, "k", "v".repeat(64), 98);
        applied(x);
        int[] want = {1, 2, 3, 2, 98, 64};
        for (int what = 0; what <= 5; what++) {
            Due.due("k, " + what, Due.pair(x, 0, "k", 0, what), want[what]);
            Due.due("none, " + what, Due.pair(x, 0, "none", 0, what), 0);
            Due.due("k before it was, " + what, Due.pair(x, 0, "k", 1, what), 0);
        }
        for (int what : new int[] {-1, 6, MIN, MAX}) {
            Due.dueRefused(x, "what " + what, Due.BAD, () -> Due.pair(x, 0, "k", 0, what));
        }
        Due.put(x, "k", "", 98);
        applied(x);
        Due.due("an empty VALUE", Due.pair(x, 0, "k", 0, 5), 0);
    }

    private static void pairNodes() {
        Due.part("pair and range: No such node, or DOWN: missing");
        CouncilStore x = Due.led(3);
        x.crash(1, 0);
        for (int node : new int[] {-1, 1, 3, MIN, MAX}) {
            Due.dueRefused(x, "pair of " + node, Due.MISSING, () -> Due.pair(x, node, "k", 0, 0));
            Due.dueRefused(x, "range of " + node, Due.MISSING, () -> Due.range(x, node, "k", "", 0, 0, 0, 0));
        }
        Due.due("0", Due.pair(x, 0, "k", 0, 0), 0);
        Due.due("2", Due.range(x, 2, "k", "", 0, 0, 0, 0), 0);
    }

    private static void rangeRevisions() {
        Due.part("range: at the REVISION; as pair says else");
        CouncilStore x = with("a", "b", "c");
        Due.erase(x, "a", "c");
        applied(x);
        int[] sizes = {1, 1, 2, 3, 1};
        for (int revision = 0; revision <= 4; revision++) {
            Due.due("at " + revision, Due.range(x, 0, "a", "\0", revision, 0, 0, 0), sizes[revision]);
        }
        for (int above : new int[] {5, MAX}) {
            Due.dueRefused(x, "REVISION " + above, Due.REFUSED, () -> Due.range(x, 0, "a", "\0", above, 0, 0, 0));
        }
        for (int below : new int[] {-1, MIN}) {
            Due.dueRefused(x, "REVISION " + below, Due.BAD, () -> Due.range(x, 0, "a", "\0", below, 0, 0, 0));
        }
        x.compact(0, 3);
        Due.dueRefused(x, "before COMPACT", Due.REFUSED, () -> Due.range(x, 0, "a", "\0", 2, 0, 0, 0));
        Due.due("at COMPACT", Due.range(x, 0, "a", "\0", 3, 0, 0, 0), 3);
        Due.due("behind it", Due.range(x, 0, "a", "\0", 4, 0, 0, 0), 1);
        Due.due("0: the latest", Due.range(x, 0, "a", "\0", 0, 0, 0, 0), 1);
    }

    private static void rangeWhat() {
        Due.part("range: (what 0), (1), (2), of its VALUE (3); another what: bad");
        CouncilStore x = with("kk");
        int[] want = {1, 2, 'k', 'v'};
        for (int what = 0; what <= 3; what++) {
            Due.due("what " + what, Due.range(x, 0, "a", "z", 0, what, 0, 0), want[what]);
        }
        for (int what : new int[] {-1, 4, MIN, MAX}) {
            Due.dueRefused(x, "what " + what, Due.BAD, () -> Due.range(x, 0, "a", "z", 0, what, 0, 0));
        }
    }

    private static void rangePairs() {
        Due.part("range: PAIR i. Not there: missing");
        CouncilStore x = with("a", "b", "c", "d");
        for (int what = 1; what <= 3; what++) {
            int w = what;
            for (int i : new int[] {-1, 2, 3, 4, MIN, MAX}) {
                Due.dueRefused(x, "PAIR " + i, Due.MISSING, () -> Due.range(x, 0, "b", "d", 0, w, i, 0));
            }
            Due.dueRefused(x, "of none", Due.MISSING, () -> Due.range(x, 0, "x", "", 0, w, 0, 0));
        }
        Due.due("PAIR 0", Due.range(x, 0, "b", "d", 0, 2, 0, 0), 'b');
        Due.due("PAIR 1", Due.range(x, 0, "b", "d", 0, 2, 1, 0), 'c');
        for (int i : new int[] {-1, 2, MIN, MAX}) {
            Due.due("how many, whatever i", Due.range(x, 0, "b", "d", 0, 0, i, i), 2);
        }
    }

    private static void rangeBytes() {
        Due.part("range: byte k. Not there: missing");
        CouncilStore x = Due.led(1);
        Due.put(x, "key", "\u0080\u00ff", 0);
        Due.put(x, "l", "", 0);
        applied(x);
        int[] key = {'k', 'e', 'y'};
        for (int k = 0; k < 3; k++) {
            Due.due("byte " + k, Due.range(x, 0, "key", "", 0, 2, 0, k), key[k]);
        }
        Due.due("VALUE 0", Due.range(x, 0, "key", "", 0, 3, 0, 0), 128);
        Due.due("VALUE 1", Due.range(x, 0, "key", "", 0, 3, 0, 1), 255);
        for (int k : new int[] {-1, 3, 4, MIN, MAX}) {
            Due.dueRefused(x, "KEY " + k, Due.MISSING, () -> Due.range(x, 0, "key", "", 0, 2, 0, k));
            Due.due("length, whatever k", Due.range(x, 0, "key", "", 0, 1, 0, k), 3);
        }
        for (int k : new int[] {-1, 2, 3, MIN, MAX}) {
            Due.dueRefused(x, "VALUE " + k, Due.MISSING, () -> Due.range(x, 0, "key", "", 0, 3, 0, k));
        }
        for (int k : new int[] {-1, 0, 1}) {
            Due.dueRefused(x, "an empty VALUE", Due.MISSING, () -> Due.range(x, 0, "l", "", 0, 3, 0, k));
        }
    }

    private static void nothingIsLookedFor() {
        Due.part("range: of a REVISION that is REFUSED nothing is looked for");
        CouncilStore x = with("a", "b", "c");
        x.compact(0, 2);
        for (int revision : new int[] {1, 4}) {
            for (int what = 1; what <= 3; what++) {
                int w = what;
                Due.dueRefused(x, "PAIR 9", Due.REFUSED, () -> Due.range(x, 0, "a", "\0", revision, w, 9, 0));
                Due.dueRefused(x, "byte 9", Due.REFUSED, () -> Due.range(x, 0, "a", "\0", revision, w, 0, 9));
            }
        }
    }

    private static void eventRevisions() {
        Due.part("event: HISTORY of a REVISION (1 .. the latest; else missing)");
        CouncilStore x = with("a", "b", "c");
        for (int revision : new int[] {-1, 0, 4, 5, MIN, MAX}) {
            for (int what = 0; what <= 3; what++) {
                int w = what;
                Due.dueRefused(x, "REVISION " + revision, Due.MISSING, () -> x.event(0, revision, w, 0, 0));
            }
        }
        for (int revision = 1; revision <= 3; revision++) {
            Due.due("REVISION " + revision, x.event(0, revision, 3, 0, 0), 'a' + revision - 1);
        }
    }

    private static void eventBeforeCompact() {
        Due.part("event: before COMPACT: REFUSED, and no KEY of it is looked for");
        CouncilStore x = with("a", "b", "c", "d");
        x.compact(0, 3);
        for (int revision = 1; revision <= 2; revision++) {
            int r = revision;
            Due.dueRefused(x, "how many", Due.REFUSED, () -> x.event(0, r, 0, 0, 0));
            for (int what = 1; what <= 3; what++) {
                int w = what;
                Due.dueRefused(x, "KEY 9", Due.REFUSED, () -> x.event(0, r, w, 9, 9));
                Due.dueRefused(x, "KEY -1", Due.REFUSED, () -> x.event(0, r, w, -1, 0));
            }
        }
        Due.due("at COMPACT", x.event(0, 3, 0, 0, 0), 1);
        Due.due("behind it", x.event(0, 4, 0, 0, 0), 1);
        Due.dueRefused(x, "REVISION 0 is missing still", Due.MISSING, () -> x.event(0, 0, 0, 0, 0));
    }

    private static void eventWhat() {
        Due.part("event: (what 0), (1), (2), (3); another what: bad, before");
        CouncilStore x = with("kk");
        int[] want = {1, 0, 2, 'k'};
        for (int what = 0; what <= 3; what++) {
            Due.due("what " + what, x.event(0, 1, what, 0, 0), want[what]);
        }
        for (int what : new int[] {-1, 4, MIN, MAX}) {
            Due.dueRefused(x, "what " + what, Due.BAD, () -> x.event(0, 1, what, 0, 0));
            Due.dueRefused(x, "before a node that is missing", Due.BAD, () -> x.event(1, 1, what, 0, 0));
            Due.dueRefused(x, "before a REVISION that is missing", Due.BAD, () -> x.event(0, 2, what, 0, 0));
        }
    }

    private static void eventKeys() {
        Due.part("event: KEY i, byte k. Not there: missing");
        CouncilStore x = Due.led(1);
        Due.put(x, "abc", "", 0);
        Due.put(x, "\u00ff", "", 0);
        applied(x);
        for (int what = 1; what <= 3; what++) {
            int w = what;
            for (int i : new int[] {-1, 2, 3, MIN, MAX}) {
                Due.dueRefused(x, "KEY " + i, Due.MISSING, () -> x.event(0, 1, w, i, 0));
            }
        }
        for (int k : new int[] {-1, 3, 4, MIN, MAX}) {
            Due.dueRefused(x, "byte " + k, Due.MISSING, () -> x.event(0, 1, 3, 0, k));
            Due.due("how many, whatever i and k", x.event(0, 1, 0, k, k), 2);
            Due.due("deleted, whatever k", x.event(0, 1, 1, 1, k), 0);
            Due.due("length, whatever k", x.event(0, 1, 2, 1, k), 1);
        }
        Due.dueRefused(x, "byte 1 of the second", Due.MISSING, () -> x.event(0, 1, 3, 1, 1));
        Due.due("byte 0", x.event(0, 1, 3, 0, 0), 'a');
        Due.due("byte 2", x.event(0, 1, 3, 0, 2), 'c');
        Due.due("byte 0 of the second", x.event(0, 1, 3, 1, 0), 255);
    }

    private static void eventNodes() {
        Due.part("event, compact, outcome: no such node, or DOWN: missing");
        CouncilStore x = Due.led(3);
        Due.put(x, "k", "", 0);
        Due.done(x, 0, 3);
        x.crash(1, 0);
        for (int node : new int[] {-1, 1, 3, MIN, MAX}) {
            Due.dueRefused(x, "event of " + node, Due.MISSING, () -> x.event(node, 1, 0, 0, 0));
            Due.dueRefused(x, "compact of " + node, Due.MISSING, () -> x.compact(node, 1));
            Due.dueRefused(x, "outcome of " + node, Due.MISSING, () -> x.outcome(node, 1, 0));
        }
        for (int node : new int[] {0, 2}) {
            Due.due("event", x.event(node, 1, 0, 0, 0), 1);
            Due.due("outcome", x.outcome(node, 2, 1), 1);
            x.compact(node, 1);
        }
    }

    private static void compactRevisions() {
        Due.part("compact: REVISION below what it was COMPACTED to, or above the latest: REFUSED");
        CouncilStore x = with("a", "b", "c", "d");
        for (int revision : new int[] {-1, 5, 6, MIN, MAX}) {
            Due.dueRefused(x, "to " + revision, Due.REFUSED, () -> x.compact(0, revision));
        }
        x.compact(0, 0);
        Due.due("to 0: all is there", x.event(0, 1, 0, 0, 0), 1);
        x.compact(0, 1);
        Due.due("to 1: all is there", x.event(0, 1, 0, 0, 0), 1);
        Due.dueRefused(x, "to 0 again", Due.REFUSED, () -> x.compact(0, 0));
        x.compact(0, 3);
        x.compact(0, 3);
        Due.dueRefused(x, "to 2", Due.REFUSED, () -> x.compact(0, 2));
        Due.dueRefused(x, "to 5", Due.REFUSED, () -> x.compact(0, 5));
        Due.dueRefused(x, "2 is gone", Due.REFUSED, () -> x.event(0, 2, 0, 0, 0));
        x.compact(0, 4);
        Due.dueRefused(x, "3 is gone", Due.REFUSED, () -> x.event(0, 3, 0, 0, 0));
        Due.due("the latest", x.event(0, 4, 0, 0, 0), 1);
        CouncilStore y = Due.council(1);
        y.compact(0, 0);
        Due.dueRefused(y, "above an empty one's", Due.REFUSED, () -> y.compact(0, 1));
    }

    private static void compactIsTheNodesOwn() {
        Due.part("COMPACT of a node's own STORE (not a COMMAND, and not in SNAPSHOTS)");
        CouncilStore x = Due.led(2);
        for (int i = 0; i < 3; i++) {
            Due.put(x, "k", "", 0);
            Due.done(x, 0, 2);
        }
        x.compact(0, 3);
        Due.due("nothing is made", x.count(5), 4);
        Due.due("no RECORD", x.told(0, 10), 0);
        Due.due("nothing is sent", x.count(2), 0);
        Due.due("the other's", x.event(1, 1, 0, 0, 0), 1);
        x.snapshot(0);
        x.sync(0);
        Due.restart(x, 0, 0);
        Due.due("not in SNAPSHOTS", x.event(0, 1, 0, 0, 0), 1);
    }

    private static void outcomeIndex() {
        Due.part("outcome: of ENTRY index that the node applied. Not there: missing");
        CouncilStore x = with("a", "b");
        Due.put(x, "c", "", 0);
        x.propose(0);
        for (int index : new int[] {-1, 0, 4, 5, MIN, MAX}) {
            Due.dueRefused(x, "INDEX " + index, Due.MISSING, () -> x.outcome(0, index, 0));
        }
        for (int index = 1; index <= 3; index++) {
            Due.due("REVISION of " + index, x.outcome(0, index, 1), index - 1);
        }
        x.sync(0);
        Due.due("applied now", x.outcome(0, 4, 1), 3);
        x.snapshot(0);
        Due.due("a SNAPSHOT takes none", x.outcome(0, 1, 0), 1);
    }

    private static void outcomeSinceStart() {
        Due.part("outcome: that the node applied since its start");
        CouncilStore x = with("a", "b");
        x.snapshot(0);
        x.sync(0);
        Due.put(x, "c", "", 0);
        applied(x);
        Due.restart(x, 0, 0);
        for (int index = 1; index <= 4; index++) {
            int i = index;
            Due.dueRefused(x, "INDEX " + i, Due.MISSING, () -> x.outcome(0, i, 0));
        }
        x.rise(0);
        x.sync(0);
        Due.dueRefused(x, "INDEX 3, BASE", Due.MISSING, () -> x.outcome(0, 3, 0));
        Due.due("INDEX 4", x.outcome(0, 4, 1), 3);
        Due.due("INDEX 5", x.outcome(0, 5, 0), 1);
        Due.dueRefused(x, "INDEX 6", Due.MISSING, () -> x.outcome(0, 6, 0));
    }

    /** Node 1 applied ENTRIES 1 and 2; then comes a STATE of BASE 4. */
    private static void outcomeSinceState() {
        Due.part("outcome: or last STATE");
        CouncilStore x = Due.led(3);
        Due.put(x, "k", "", 0);
        Due.done(x, 0, 3);
        for (int i = 0; i < 2; i++) {
            Due.put(x, "k", "", 0);
            x.propose(0);
        }
        x.sync(0);
        x.deliver(3, false);
        Due.loseAll(x);
        Due.syncAndBring(x, 4, 2, 0);
        x.snapshot(0);
        x.sync(0);
        Due.due("before it", x.outcome(1, 2, 1), 1);
        x.beat(0);
        Due.bring(x, 5, 0, 1);
        Due.due("COMMIT", x.told(1, 6), 4);
        for (int index = 1; index <= 4; index++) {
            int i = index;
            Due.dueRefused(x, "INDEX " + i, Due.MISSING, () -> x.outcome(1, i, 0));
        }
        Due.put(x, "k", "", 0);
        Due.done(x, 0, 3);
        Due.due("INDEX 5", x.outcome(1, 5, 1), 4);
        Due.dueRefused(x, "INDEX 4", Due.MISSING, () -> x.outcome(1, 4, 0));
    }

    private static void outcomeWhat() {
        Due.part("outcome: (what 0), REVISION then (1), how many were deleted (2); another what: bad, before");
        CouncilStore x = with("a", "b", "c");
        Due.erase(x, "a", "c");
        int index = applied(x);
        int[] want = {1, 4, 2};
        for (int what = 0; what <= 2; what++) {
            Due.due("what " + what, x.outcome(0, index, what), want[what]);
        }
        for (int what : new int[] {-1, 3, MIN, MAX}) {
            Due.dueRefused(x, "what " + what, Due.BAD, () -> x.outcome(0, 1, what));
            Due.dueRefused(x, "before an INDEX that is missing", Due.BAD, () -> x.outcome(0, 9, what));
            Due.dueRefused(x, "before a node that is missing", Due.BAD, () -> x.outcome(9, 1, what));
        }
    }
}
