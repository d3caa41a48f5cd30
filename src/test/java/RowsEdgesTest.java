/** The edges of INPUT, ARGUMENTS, KEY, VALUE, END and DRAFT: Terms, and promises 1 to 8 and 10. */
public final class RowsEdgesTest {
    private interface Call {
        void on(CouncilStore x);
    }

    /** A call with [ ], its numbers being right; rows: how many stand in [ ]. */
    private record Taker(String name, int rows, Call call) { }

    private static final Taker[] TAKERS = {
        new Taker("when", 1, x -> x.when(0, 0, 0)),
        new Taker("put", 2, x -> x.put(1, 0)),
        new Taker("erase", 2, x -> x.erase(1)),
        new Taker("lease", 0, x -> x.lease(1, 1, false)),
        new Taker("read", 1, x -> x.read(0)),
        new Taker("pair", 1, x -> x.pair(0, 0, 0)),
        new Taker("range", 2, x -> x.range(0, 0, 0, 0, 0)),
    };

    public static void main(String[] args) {
        twoRowsAtMost();
        inputAlone();
        inputWithOneArgument();
        inputWithTwoArguments();
        emptyRowsTakeNoRoom();
        roomComesBack();
        highestByteFirst();
        bytesThatGo();
        asManyAsMustBeThere();
        refusedEnd();
        asManyAsStandInBrackets();
        keyLengths();
        otherLengths();
        takenWhenBad();
        takenWhenMissing();
        takenWhenRefused();
        takenWhenFull();
        takenWhenDone();
        whenNumbers();
        fourConditions();
        putNumbers();
        eraseNumbers();
        leaseNumbers();
        sixSteps();
        forgetIsForAll();
        Due.exit();
    }

    private static void feed(CouncilStore x, int times) {
        for (int i = 0; i < times; i++) {
            x.feed(0, 0, 0, 0, 0);
        }
    }

    /** An ARGUMENT of so many bytes. */
    private static void row(CouncilStore x, int bytes) {
        Due.give(x, "r".repeat(bytes));
    }

    private static void dueFeed(CouncilStore x, int want) {
        Due.due("feed", x.feed(0, 0, 0, 0, 0), want);
    }

    private static void dueFull(CouncilStore x) {
        Due.dueRefused(x, "feed", Due.FULL, () -> x.feed(0, 0, 0, 0, 0));
    }

    private static void twoRowsAtMost() {
        Due.part("ARGUMENTS are at most 2 such rows in order (if there are two, the first goes)");
        CouncilStore x = Due.led(1);
        Due.due("none", x.count(1), 0);
        int[] want = {1, 2, 2, 2};
        String[] rows = {"a", "b", "c", "d"};
        for (int i = 0; i < 4; i++) {
            x.feed(rows[i].charAt(0) << 24, 0, 0, 0, 0);
            Due.due("end " + i, x.end(19), want[i]);
            Due.due("ARGUMENTS", x.count(1), want[i]);
            Due.due("INPUT is empty then", x.count(0), 0);
        }
        x.put(1, 0);
        Due.done(x, 0, 1);
        Due.due("c is the KEY", Due.pair(x, 0, "c", 0, 0), 1);
        Due.due("d is the VALUE", Due.range(x, 0, "c", "", 0, 3, 0, 0), 'd');
    }

    private static void inputAlone() {
        Due.part("all together at most 2048 bytes: INPUT alone");
        CouncilStore x = new CouncilStore();
        feed(x, 100);
        dueFeed(x, 2020);
        dueFeed(x, 2040);
        dueFull(x);
        Due.due("INPUT", x.count(0), 2040);
    }

    private static void inputWithOneArgument() {
        Due.part("all together at most 2048 bytes: an ARGUMENT, too");
        for (int bytes = 2027; bytes <= 2029; bytes++) {
            CouncilStore x = new CouncilStore();
            row(x, bytes);
            if (bytes <= 2028) {
                dueFeed(x, 20);
            }
            dueFull(x);
        }
        for (int bytes = 7; bytes <= 9; bytes++) {
            CouncilStore x = new CouncilStore();
            row(x, bytes);
            feed(x, 100);
            dueFeed(x, 2020);
            if (bytes <= 8) {
                dueFeed(x, 2040);
            }
            dueFull(x);
        }
    }

    private static void inputWithTwoArguments() {
        Due.part("all together at most 2048 bytes: two ARGUMENTS, too");
        int[][] rows = {{3, 4}, {4, 4}, {5, 4}, {4, 5}, {0, 8}, {8, 0}, {0, 9}, {9, 0}};
        for (int[] r : rows) {
            CouncilStore x = new CouncilStore();
            row(x, r[0]);
            row(x, r[1]);
            feed(x, 101);
            if (r[0] + r[1] <= 8) {
                dueFeed(x, 2040);
            }
            dueFull(x);
        }
    }

    private static void emptyRowsTakeNoRoom() {
        Due.part("all together at most 2048 bytes: empty rows have none");
        CouncilStore x = new CouncilStore();
        row(x, 0);
        row(x, 0);
        feed(x, 101);
        dueFeed(x, 2040);
        dueFull(x);
    }

    private static void roomComesBack() {
        Due.part("Too many, with ARGUMENTS: FULL; what goes leaves room");
        CouncilStore x = new CouncilStore();
        row(x, 2030);
        dueFull(x);
        row(x, 0);
        dueFull(x);
        row(x, 0);
        dueFeed(x, 20);
        CouncilStore y = new CouncilStore();
        row(y, 2030);
        dueFull(y);
        Due.dueThrows("lease", Due.BAD, () -> y.lease(1, 1, false));
        dueFeed(y, 20);
    }

    private static void highestByteFirst() {
        Due.part("INPUT gets twenty bytes more, the highest of a first");
        CouncilStore x = Due.led(1);
        x.feed(0x7f80ff00, Integer.MIN_VALUE, Integer.MAX_VALUE, -1, 0x00000001);
        x.end(0);
        x.end(0);
        x.put(1, 0);
        Due.done(x, 0, 1);
        int[] want = {127, 128, 255, 0, 128, 0, 0, 0, 127, 255, 255, 255, 255, 255, 255, 255, 0, 0, 0, 1};
        Due.due("bytes", Due.range(x, 0, "\0", "\0", 0, 1, 0, 0), 20);
        for (int k = 0; k < 20; k++) {
            Due.due("byte " + k, Due.range(x, 0, "\0", "\0", 0, 2, 0, k), want[k]);
        }
    }

    private static void bytesThatGo() {
        Due.part("The last n bytes of INPUT go (0 .. 19; else bad)");
        for (int n : new int[] {0, 1, 18, 19}) {
            CouncilStore x = Due.led(1);
            x.feed(-1, -1, -1, -1, -1);
            Due.due("end(" + n + ")", x.end(n), 1);
            x.end(0);
            x.put(1, 0);
            Due.done(x, 0, 1);
            Due.due("bytes that stay", Due.range(x, 0, "\0", "\0", 0, 1, 0, 0), 20 - n);
        }
        CouncilStore y = new CouncilStore();
        feed(y, 2);
        for (int n : new int[] {-1, 20, 21, 40, Integer.MIN_VALUE, Integer.MAX_VALUE}) {
            Due.dueRefused(y, "end(" + n + ")", Due.BAD, () -> y.end(n));
        }
        Due.due("end(19) of 40", y.end(19), 1);
    }

    private static void asManyAsMustBeThere() {
        Due.part("as many must be there; else bad");
        CouncilStore x = new CouncilStore();
        Due.dueRefused(x, "end(1) of 0", Due.BAD, () -> x.end(1));
        Due.dueRefused(x, "end(19) of 0", Due.BAD, () -> x.end(19));
        Due.due("end(0) of 0", x.end(0), 1);
        feed(x, 1);
        x.end(0);
        Due.dueRefused(x, "end(1) of what is empty then", Due.BAD, () -> x.end(1));
    }

    private static void refusedEnd() {
        Due.part("A refused call changes nothing: end");
        CouncilStore x = Due.led(1);
        Due.give(x, "key");
        x.feed(0x76000000, 0, 0, 0, 0);
        Due.dueRefused(x, "end(20)", Due.BAD, () -> x.end(20));
        Due.due("end(19)", x.end(19), 2);
        x.put(1, 0);
        Due.done(x, 0, 1);
        Due.due("INPUT was the VALUE", Due.range(x, 0, "key", "", 0, 3, 0, 0), 'v');
    }

    private static void asManyAsStandInBrackets() {
        Due.part("it needs as many as stand in [ ]");
        for (Taker t : TAKERS) {
            for (int rows = 0; rows <= 2; rows++) {
                CouncilStore x = Due.led(1);
                int given = rows;
                Call call = on -> {
                    for (int i = 0; i < given; i++) {
                        Due.give(on, "k");
                    }
                    t.call.on(on);
                };
                dueDoneOrBad(x, t.name + " with " + rows, call, rows == t.rows);
            }
        }
    }

    private static void dueDoneOrBad(CouncilStore x, String name, Call call, boolean done) {
        if (done) {
            call.on(x);
            Due.due(name + " is done", x.count(1), 0);
        } else {
            Due.dueRefused(x, name, Due.BAD, () -> call.on(x));
        }
    }

    private static void keyLengths() {
        Due.part("KEY: 1 to 32 bytes");
        for (Taker t : TAKERS) {
            for (int length : new int[] {0, 1, 2, 31, 32, 33, 64}) {
                if (t.rows == 0) {
                    continue;
                }
                Call call = on -> {
                    row(on, length);
                    if (t.rows == 2) {
                        row(on, 1);
                    }
                    t.call.on(on);
                };
                dueDoneOrBad(Due.led(1), t.name + " of " + length, call, length >= 1 && length <= 32);
            }
        }
    }

    private static void otherLengths() {
        Due.part("VALUE, END: 0 to 64");
        for (Taker t : TAKERS) {
            for (int length : new int[] {0, 1, 32, 33, 63, 64, 65, 100}) {
                if (t.rows != 2) {
                    continue;
                }
                Call call = on -> {
                    row(on, 1);
                    row(on, length);
                    t.call.on(on);
                };
                dueDoneOrBad(Due.led(1), t.name + " of " + length, call, length <= 64);
            }
        }
    }

    /** Two rows and INPUT are there; the rows are taken, INPUT isn't. */
    private static void dueTaken(CouncilStore x, String name, String rows, Class<?> want, Call call) {
        for (int i = 0; i < rows.length(); i++) {
            Due.give(x, rows.substring(i, i + 1));
        }
        x.feed(1, 2, 3, 4, 5);
        int input = x.count(0);
        if (want == null) {
            call.on(x);
        } else {
            Due.dueThrows(name, want, () -> call.on(x));
        }
        Due.due(name + ": ARGUMENTS then", x.count(1), 0);
        Due.due(name + ": INPUT stays", x.count(0), input);
        x.end(0);
        Due.dueThrows("all are taken", Due.BAD, () -> x.lease(1, 1, false));
    }

    private static void takenWhenBad() {
        Due.part("there are none then, whatever happens: bad");
        CouncilStore x = Due.led(1);
        dueTaken(x, "when", "k", Due.BAD, on -> on.when(4, 0, 0));
        dueTaken(x, "put", "kv", Due.BAD, on -> on.put(2, 0));
        dueTaken(x, "erase", "kv", Due.BAD, on -> on.erase(2));
        dueTaken(x, "lease", "", Due.BAD, on -> on.lease(1, 0, false));
        dueTaken(x, "lease with one", "k", Due.BAD, on -> on.lease(1, 1, false));
        dueTaken(x, "read with two", "kv", Due.BAD, on -> on.read(0));
        dueTaken(x, "pair", "k", Due.BAD, on -> on.pair(0, 0, 6));
        dueTaken(x, "range", "kv", Due.BAD, on -> on.range(0, 0, 4, 0, 0));
    }

    private static void takenWhenMissing() {
        Due.part("there are none then, whatever happens: missing");
        CouncilStore x = Due.led(1);
        dueTaken(x, "read", "k", Due.MISSING, on -> on.read(1));
        dueTaken(x, "pair", "k", Due.MISSING, on -> on.pair(1, 0, 0));
        dueTaken(x, "range", "kv", Due.MISSING, on -> on.range(1, 0, 0, 0, 0));
        dueTaken(x, "range, no such PAIR", "kv", Due.MISSING, on -> on.range(0, 0, 1, 0, 0));
    }

    private static void takenWhenRefused() {
        Due.part("there are none then, whatever happens: REFUSED");
        CouncilStore x = Due.council(1);
        dueTaken(x, "read", "k", Due.REFUSED, on -> on.read(0));
        dueTaken(x, "pair", "k", Due.REFUSED, on -> on.pair(0, 1, 0));
        dueTaken(x, "range", "kv", Due.REFUSED, on -> on.range(0, 1, 0, 0, 0));
    }

    private static void takenWhenFull() {
        Due.part("there are none then, whatever happens: FULL");
        CouncilStore x = Due.led(2);
        for (int i = 0; i < 4; i++) {
            Due.when(x, "k", 0, 0, 0);
        }
        for (int i = 0; i < 6; i++) {
            x.lease(1, 1, false);
        }
        for (int i = 0; i < 16; i++) {
            Due.read(x, 0, "k");
        }
        dueTaken(x, "when", "k", Due.FULL, on -> on.when(0, 0, 0));
        dueTaken(x, "put", "kv", Due.FULL, on -> on.put(1, 0));
        dueTaken(x, "erase", "kv", Due.FULL, on -> on.erase(1));
        dueTaken(x, "lease", "", Due.FULL, on -> on.lease(1, 1, false));
        dueTaken(x, "read", "k", Due.FULL, on -> on.read(0));
    }

    private static void takenWhenDone() {
        Due.part("A call with [ ] takes all ARGUMENTS");
        for (Taker t : TAKERS) {
            dueTaken(Due.led(1), t.name, "kv".substring(0, t.rows), null, t.call);
        }
        CouncilStore x = Due.led(1);
        Due.give(x, "k", "v");
        x.propose(0);
        x.forget();
        x.beat(0);
        x.sync(0);
        x.told(0, 0);
        x.nodes(1);
        Due.due("the others take none", x.count(1), 2);
    }

    private static void whenNumbers() {
        Due.part("when: what (0 .. 3), how (0 .. 3), the number");
        CouncilStore x = new CouncilStore();
        for (int wrong : new int[] {-1, 4, Integer.MIN_VALUE, Integer.MAX_VALUE}) {
            Due.dueRefused(x, "what " + wrong, Due.BAD, () -> Due.when(x, "k", wrong, 0, 0));
            Due.dueRefused(x, "how " + wrong, Due.BAD, () -> Due.when(x, "k", 0, wrong, 0));
        }
        for (int right = 0; right <= 3; right++) {
            for (int number : new int[] {Integer.MIN_VALUE, -1, 0, Integer.MAX_VALUE}) {
                x.forget();
                Due.when(x, "k", right, 3 - right, number);
                Due.due("DRAFT", x.count(4), 1);
            }
        }
    }

    private static void fourConditions() {
        Due.part("4 are there: FULL");
        CouncilStore x = new CouncilStore();
        for (int i = 1; i <= 4; i++) {
            Due.when(x, "k", 0, 0, 0);
            Due.due("DRAFT", x.count(4), i);
        }
        Due.dueRefused(x, "a fifth", Due.FULL, () -> Due.when(x, "k", 0, 0, 0));
        x.lease(1, 1, false);
        x.lease(0, 1, false);
        Due.due("STEPS are counted by themselves", x.count(4), 6);
        CouncilStore y = Due.led(1);
        for (int number = 0; number < 4; number++) {
            Due.when(y, "k", 0, 0, number == 3 ? 1 : 0);
        }
        int index = Due.done(y, 0, 1);
        Due.due("the fourth doesn't hold", y.outcome(0, index, 0), 0);
        Due.when(y, "k", 0, 0, 0);
        Due.due("room again", y.count(4), 1);
    }

    private static void putNumbers() {
        Due.part("put: in THEN (branch 1) or ELSE (0), LEASE 0 .. 99");
        CouncilStore x = new CouncilStore();
        for (int wrong : new int[] {-1, 2, Integer.MIN_VALUE, Integer.MAX_VALUE}) {
            Due.dueRefused(x, "branch " + wrong, Due.BAD, () -> dueStep(x, 0, wrong, 0));
        }
        for (int wrong : new int[] {-1, 100, Integer.MIN_VALUE, Integer.MAX_VALUE}) {
            Due.dueRefused(x, "LEASE " + wrong, Due.BAD, () -> dueStep(x, 0, 1, wrong));
        }
        for (int lease : new int[] {0, 1, 98, 99}) {
            x.forget();
            dueStep(x, 0, 0, lease);
            dueStep(x, 0, 1, lease);
            Due.due("DRAFT", x.count(4), 2);
        }
    }

    private static void eraseNumbers() {
        Due.part("erase: a DELETE likewise");
        CouncilStore x = new CouncilStore();
        for (int wrong : new int[] {-1, 2, Integer.MIN_VALUE, Integer.MAX_VALUE}) {
            Due.dueRefused(x, "branch " + wrong, Due.BAD, () -> dueStep(x, 1, wrong, 0));
        }
        dueStep(x, 1, 0, 0);
        dueStep(x, 1, 1, 0);
        Due.due("DRAFT", x.count(4), 2);
    }

    private static void leaseNumbers() {
        Due.part("lease: likewise, LEASE 1 .. 99");
        CouncilStore x = new CouncilStore();
        for (int kind = 2; kind <= 3; kind++) {
            int k = kind;
            for (int wrong : new int[] {-1, 2, Integer.MIN_VALUE, Integer.MAX_VALUE}) {
                Due.dueRefused(x, "branch " + wrong, Due.BAD, () -> dueStep(x, k, wrong, 1));
            }
            for (int wrong : new int[] {-1, 0, 100, Integer.MIN_VALUE, Integer.MAX_VALUE}) {
                Due.dueRefused(x, "LEASE " + wrong, Due.BAD, () -> dueStep(x, k, 1, wrong));
            }
            for (int lease : new int[] {1, 2, 98, 99}) {
                x.forget();
                dueStep(x, k, 0, lease);
                dueStep(x, k, 1, lease);
                Due.due("DRAFT", x.count(4), 2);
            }
            x.forget();
        }
    }

    /** kind: PUT, DELETE, GRANT or REVOKE. */
    private static void dueStep(CouncilStore x, int kind, int branch, int lease) {
        if (kind <= 1) {
            Due.give(x, "k", "v");
        }
        switch (kind) {
            case 0 -> x.put(branch, lease);
            case 1 -> x.erase(branch);
            case 2 -> x.lease(branch, lease, false);
            default -> x.lease(branch, lease, true);
        }
    }

    private static void sixSteps() {
        Due.part("6 are there: FULL");
        for (int branch = 0; branch <= 1; branch++) {
            for (int kind = 0; kind <= 3; kind++) {
                CouncilStore x = new CouncilStore();
                int b = branch;
                for (int i = 1; i <= 6; i++) {
                    dueStep(x, kind, branch, 1);
                    Due.due("DRAFT", x.count(4), i);
                }
                for (int other = 0; other <= 3; other++) {
                    int k = other;
                    Due.dueRefused(x, "a seventh", Due.FULL, () -> dueStep(x, k, b, 1));
                }
                for (int i = 1; i <= 6; i++) {
                    dueStep(x, kind, 1 - branch, 1);
                }
                Due.due("the other branch has its own", x.count(4), 12);
                Due.dueRefused(x, "a seventh there", Due.FULL, () -> dueStep(x, 0, 1 - b, 1));
            }
        }
    }

    private static void forgetIsForAll() {
        Due.part("forget: DRAFT is empty");
        CouncilStore x = new CouncilStore();
        x.forget();
        Due.due("an empty one", x.count(4), 0);
        for (int times = 0; times < 2; times++) {
            for (int i = 0; i < 4; i++) {
                Due.when(x, "k", 0, 0, 0);
            }
            for (int i = 0; i < 6; i++) {
                dueStep(x, i % 4, 0, 1);
                dueStep(x, 3 - i % 4, 1, 1);
            }
            Due.due("a full one", x.count(4), 16);
            x.forget();
            Due.due("it's empty", x.count(4), 0);
        }
    }
}
