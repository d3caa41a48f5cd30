/** Promises 1 to 8, 10 and 28: a new object, nodes, INPUT, ARGUMENTS, DRAFT, count. */
public final class DraftTest {
    public static void main(String[] args) {
        promise1();
        promise2();
        promise3();
        promise4();
        promise5();
        promise6();
        promise7();
        promise8();
        argumentsAreTaken();
        promise10();
        promise28();
        Due.exit();
    }

    private static void promise1() {
        Due.part("promise 1");
        CouncilStore x = new CouncilStore();
        Due.dueThrows("told(0, 0)", Due.MISSING, () -> x.told(0, 0));
        Due.dueThrows("rise(0)", Due.MISSING, () -> x.rise(0));
        Due.dueThrows("propose(0)", Due.MISSING, () -> x.propose(0));
        Due.dueThrows("beat(0)", Due.MISSING, () -> x.beat(0));
        Due.dueThrows("sync(0)", Due.MISSING, () -> x.sync(0));
        Due.dueThrows("crash(0, 0)", Due.MISSING, () -> x.crash(0, 0));
        Due.dueThrows("start(0)", Due.MISSING, () -> x.start(0));
        Due.dueThrows("deliver(0, false)", Due.MISSING, () -> x.deliver(0, false));
        for (int what = 0; what <= 6; what++) {
            Due.due("count(" + what + ")", x.count(what), 0);
        }
    }

    private static void promise2() {
        Due.part("promise 2");
        CouncilStore x = new CouncilStore();
        Due.dueThrows("nodes(0)", Due.BAD, () -> x.nodes(0));
        Due.dueThrows("nodes(8)", Due.BAD, () -> x.nodes(8));
        Due.dueThrows("nodes(-1)", Due.BAD, () -> x.nodes(-1));
        Due.dueThrows("told(0, 0) after bad ones", Due.MISSING, () -> x.told(0, 0));
        for (int n = 1; n <= 7; n++) {
            x.nodes(n);
            Due.dueTold(x, n - 1, 0, 0, -1, 0, -1, 0, 0, 0, 0, 0, 0, 0, 0, 0, 0);
            int behind = n;
            Due.dueThrows("told(n, 0)", Due.MISSING, () -> x.told(behind, 0));
        }
        allAnew();
    }

    private static void allAnew() {
        CouncilStore x = Due.led(3);
        Due.put(x, "k", "v", 0);
        Due.done(x, 0, 3);
        x.snapshot(1);
        x.crash(2, 0);
        for (int i = 0; i < 101; i++) {
            x.beat(0);
        }
        x.propose(0);
        x.lease(1, 3, false);
        x.feed(1, 2, 3, 4, 5);
        Due.give(x, "left");
        Due.due("count(3) before", x.count(3), 2);
        Due.dueThrows("nodes(8)", Due.BAD, () -> x.nodes(8));
        Due.due("count(2) after a bad one", x.count(2), 200);
        x.nodes(2);
        Due.dueTold(x, 0, 0, 0, -1, 0, -1, 0, 0, 0, 0, 0, 0, 0, 0, 0, 0);
        Due.dueTold(x, 1, 0, 0, -1, 0, -1, 0, 0, 0, 0, 0, 0, 0, 0, 0, 0);
        Due.dueThrows("told(2, 0)", Due.MISSING, () -> x.told(2, 0));
        Due.due("ARGUMENTS stay", x.count(1), 1);
        for (int what = 2; what <= 6; what++) {
            Due.due("count(" + what + ")", x.count(what), 0);
        }
        Due.dueThrows("event(0, 1, 0, 0, 0)", Due.MISSING, () -> x.event(0, 1, 0, 0, 0));
        x.nodes(3);
        Due.due("a node that was DOWN", x.told(2, 0), 0);
        x.rise(1);
        Due.settle(x, 3);
        Due.due("another leads in TERM 1", x.told(1, 3), 2);
        Due.due("TERM", x.told(1, 1), 1);
        Due.due("what must never be", x.count(6), 0);
        x.crash(0, 0);
        Due.dueTold(x, 0, 1, 1, 1, 0, -1, 1, 0, 0);
        x.nodes(2);
        x.crash(0, 0);
        Due.dueTold(x, 0, 1, 0, -1, 0, -1, 0, 0, 0, 0, 0, 0, 0, 0, 0, 0);
        neverWhatMustNeverBe();
    }

    /** What was applied, committed and led before nodes is forgotten. */
    private static void neverWhatMustNeverBe() {
        CouncilStore x = Due.council(1);
        x.rise(0);
        Due.restart(x, 0, 0);
        x.rise(0);
        x.sync(0);
        Due.done(x, 0, 1);
        Due.due("made", x.count(5), 3);
        x.nodes(1);
        x.rise(0);
        x.sync(0);
        Due.read(x, 0, "k");
        Due.due("done", x.answer(0, 0, 3), 0);
        Due.due("what must never be", x.count(6), 0);
    }

    private static void promise3() {
        Due.part("promise 3");
        CouncilStore x = new CouncilStore();
        Due.due("feed", x.feed(0x01020304, 0x05060708, 0x090a0b0c, 0x0d0e0f10, 0x11121314), 20);
        Due.due("feed", x.feed(-1, 0, 0, 0, 0), 40);
        Due.due("INPUT's length", x.count(0), 40);
        CouncilStore y = Due.led(1);
        y.feed(0x010203ff, 0x05060708, 0x090a0b0c, 0x0d0e0f10, 0x11121314);
        y.end(0);
        y.end(0);
        y.put(1, 0);
        Due.done(y, 0, 1);
        int[] bytes = {1, 2, 3, 255, 5, 6, 7, 8, 9, 10, 11, 12, 13, 14, 15, 16, 17, 18, 19, 20};
        for (int k = 0; k < bytes.length; k++) {
            Due.due("byte " + k, Due.range(y, 0, "\1", "\0", 0, 2, 0, k), bytes[k]);
        }
        fullInput();
    }

    private static void fullInput() {
        CouncilStore x = new CouncilStore();
        for (int i = 1; i <= 102; i++) {
            Due.due("feed " + i, x.feed(0, 0, 0, 0, 0), i * 20);
        }
        Due.dueThrows("2060 bytes", Due.FULL, () -> x.feed(0, 0, 0, 0, 0));
        Due.due("nothing changed", x.count(0), 2040);
        x.end(12);
        Due.due("2048 with ARGUMENTS", x.feed(0, 0, 0, 0, 0), 20);
        x.end(0);
        Due.dueThrows("2028 + 20 + 20", Due.FULL, () -> x.feed(0, 0, 0, 0, 0));
        x.end(0);
        Due.due("the long one is gone", x.feed(0, 0, 0, 0, 0), 20);
        CouncilStore y = new CouncilStore();
        for (int i = 0; i < 101; i++) {
            y.feed(0, 0, 0, 0, 0);
        }
        y.end(0);
        y.feed(0, 0, 0, 0, 0);
        Due.dueThrows("2020 + 20 + 20", Due.FULL, () -> y.feed(0, 0, 0, 0, 0));
        Due.dueThrows("taken", Due.BAD, () -> y.lease(1, 1, false));
        Due.due("room again", y.feed(0, 0, 0, 0, 0), 40);
        dueAfterArgument(11, Due.FULL);
        dueAfterArgument(12, null);
    }

    /** 2040 bytes less n are an ARGUMENT; twenty more come to 2048 if n is 12. */
    private static void dueAfterArgument(int n, Class<?> want) {
        CouncilStore x = new CouncilStore();
        for (int i = 0; i < 102; i++) {
            x.feed(0, 0, 0, 0, 0);
        }
        x.end(n);
        if (want == null) {
            Due.due("feed", x.feed(0, 0, 0, 0, 0), 20);
        } else {
            Due.dueThrows("feed", want, () -> x.feed(0, 0, 0, 0, 0));
        }
    }

    private static void promise4() {
        Due.part("promise 4");
        CouncilStore x = new CouncilStore();
        Due.due("an empty one", x.end(0), 1);
        Due.dueThrows("end(1) of nothing", Due.BAD, () -> x.end(1));
        Due.dueThrows("end(-1)", Due.BAD, () -> x.end(-1));
        x.feed(0, 0, 0, 0, 0);
        Due.dueThrows("end(20)", Due.BAD, () -> x.end(20));
        Due.due("INPUT stays", x.count(0), 20);
        Due.due("ARGUMENTS stay", x.count(1), 1);
        Due.due("end(19)", x.end(19), 2);
        Due.due("INPUT is empty", x.count(0), 0);
        Due.due("a third", x.end(0), 2);
        Due.due("ARGUMENTS", x.count(1), 2);
        theLastTwo();
    }

    private static void theLastTwo() {
        CouncilStore x = Due.led(1);
        Due.give(x, "first");
        Due.give(x, "key", "value");
        x.put(1, 0);
        Due.done(x, 0, 1);
        Due.due("the KEY is the second", Due.pair(x, 0, "key", 0, 5), 5);
        Due.due("the first isn't", Due.pair(x, 0, "first", 0, 0), 0);
        x.feed(0x6b657900, 0, 0, 0, 0);
        x.end(17);
        Due.due("the last bytes go", x.pair(0, 0, 0), 1);
    }

    private static void promise5() {
        Due.part("promise 5");
        CouncilStore x = new CouncilStore();
        int[][] bad = {{-1, 0}, {4, 0}, {0, -1}, {0, 4}};
        for (int[] b : bad) {
            Due.dueThrows("when", Due.BAD, () -> Due.when(x, "k", b[0], b[1], 0));
            Due.due("ARGUMENTS are gone", x.count(1), 0);
        }
        Due.dueThrows("no KEY", Due.BAD, () -> x.when(0, 0, 0));
        Due.dueThrows("an empty KEY", Due.BAD, () -> Due.when(x, "", 0, 0, 0));
        Due.dueThrows("33 bytes", Due.BAD, () -> Due.when(x, "k".repeat(33), 0, 0, 0));
        Due.give(x, "k", "v");
        Due.dueThrows("two ARGUMENTS", Due.BAD, () -> x.when(0, 0, 0));
        Due.due("ARGUMENTS are gone", x.count(1), 0);
        Due.due("DRAFT is empty", x.count(4), 0);
        Due.when(x, "k".repeat(32), 3, 3, Integer.MIN_VALUE);
        Due.when(x, "k", 0, 0, 0);
        Due.when(x, "k", 0, 0, 0);
        Due.when(x, "k", 0, 0, 0);
        Due.due("DRAFT", x.count(4), 4);
        Due.dueThrows("a fifth", Due.FULL, () -> Due.when(x, "k", 0, 0, 0));
        Due.due("ARGUMENTS are gone", x.count(1), 0);
        Due.dueThrows("bad comes before", Due.BAD, () -> Due.when(x, "k", 4, 0, 0));
        Due.due("DRAFT", x.count(4), 4);
        conditionsHold();
    }

    /** The PAIR k: CREATED 2, CHANGED 4, VERSION 3, LEASE 7. */
    private static void conditionsHold() {
        CouncilStore x = Due.led(1);
        Due.put(x, "a", "", 0);
        Due.done(x, 0, 1);
        Due.put(x, "k", "", 0);
        Due.done(x, 0, 1);
        Due.put(x, "k", "", 0);
        Due.done(x, 0, 1);
        x.lease(1, 7, false);
        Due.put(x, "k", "", 7);
        Due.done(x, 0, 1);
        int[] value = {2, 4, 3, 7};
        for (int what = 0; what < 4; what++) {
            for (int number = value[what] - 1; number <= value[what] + 1; number++) {
                int[] want = {value[what] == number ? 1 : 0, value[what] != number ? 1 : 0, value[what] < number ? 1 : 0, value[what] > number ? 1 : 0};
                for (int how = 0; how < 4; how++) {
                    dueCondition(x, "k", what, how, number, want[how]);
                }
            }
            dueCondition(x, "none", what, 0, 0, 1);
            dueCondition(x, "none", what, 3, -1, 1);
            dueCondition(x, "none", what, 2, 0, 0);
        }
        Due.when(x, "k", 0, 0, 2);
        dueCondition(x, "k", 1, 0, 9, 0);
        Due.when(x, "k", 1, 0, 9);
        dueCondition(x, "k", 0, 0, 2, 0);
    }

    private static void dueCondition(CouncilStore x, String key, int what, int how, int number, int want) {
        Due.when(x, key, what, how, number);
        int index = x.propose(0);
        x.sync(0);
        Due.due("when " + key + " " + what + " " + how + " " + number, x.outcome(0, index, 0), want);
    }

    private static void promise6() {
        Due.part("promise 6");
        CouncilStore x = new CouncilStore();
        int[][] bad = {{-1, 0}, {2, 0}, {1, -1}, {1, 100}};
        for (int[] b : bad) {
            Due.give(x, "k", "v");
            Due.dueThrows("put", Due.BAD, () -> x.put(b[0], b[1]));
            Due.due("ARGUMENTS are gone", x.count(1), 0);
        }
        Due.dueThrows("none", Due.BAD, () -> x.put(1, 0));
        Due.give(x, "k");
        Due.dueThrows("a KEY alone", Due.BAD, () -> x.put(1, 0));
        Due.dueThrows("an empty KEY", Due.BAD, () -> Due.put(x, "", "v", 0));
        Due.dueThrows("33 bytes", Due.BAD, () -> Due.put(x, "k".repeat(33), "v", 0));
        Due.dueThrows("65 bytes", Due.BAD, () -> Due.put(x, "k", "v".repeat(65), 0));
        Due.due("DRAFT is empty", x.count(4), 0);
        for (int i = 0; i < 6; i++) {
            Due.put(x, "k".repeat(32), "v".repeat(64), 99);
        }
        Due.dueThrows("a seventh", Due.FULL, () -> Due.put(x, "k", "", 0));
        Due.dueThrows("bad comes before", Due.BAD, () -> Due.put(x, "k", "", 100));
        for (int i = 0; i < 6; i++) {
            Due.give(x, "k", "");
            x.put(0, 0);
        }
        Due.due("DRAFT", x.count(4), 12);
        Due.give(x, "k", "");
        Due.dueThrows("a seventh in ELSE", Due.FULL, () -> x.put(0, 0));
        Due.due("ARGUMENTS are gone", x.count(1), 0);
        branches();
    }

    private static void branches() {
        CouncilStore x = Due.led(1);
        Due.put(x, "then", "1", 0);
        Due.give(x, "else", "22");
        x.put(0, 0);
        int index = Due.done(x, 0, 1);
        Due.due("THEN", x.outcome(0, index, 0), 1);
        Due.due("then", Due.pair(x, 0, "then", 0, 5), 1);
        Due.due("else", Due.pair(x, 0, "else", 0, 0), 0);
        Due.when(x, "then", 2, 0, 5);
        Due.put(x, "then", "1", 0);
        Due.give(x, "else", "22");
        x.put(0, 0);
        index = Due.done(x, 0, 1);
        Due.due("ELSE", x.outcome(0, index, 0), 0);
        Due.due("then", Due.pair(x, 0, "then", 0, 3), 1);
        Due.due("else", Due.pair(x, 0, "else", 0, 5), 2);
    }

    private static void promise7() {
        Due.part("promise 7");
        CouncilStore x = new CouncilStore();
        for (int branch : new int[] {-1, 2}) {
            Due.give(x, "k", "");
            Due.dueThrows("erase", Due.BAD, () -> x.erase(branch));
            Due.due("ARGUMENTS are gone", x.count(1), 0);
        }
        Due.dueThrows("none", Due.BAD, () -> x.erase(1));
        Due.give(x, "k");
        Due.dueThrows("a KEY alone", Due.BAD, () -> x.erase(1));
        Due.dueThrows("an empty KEY", Due.BAD, () -> Due.erase(x, "", ""));
        Due.dueThrows("65 bytes", Due.BAD, () -> Due.erase(x, "k", "e".repeat(65)));
        for (int i = 0; i < 6; i++) {
            Due.erase(x, "k", "e".repeat(64));
        }
        Due.dueThrows("a seventh", Due.FULL, () -> Due.erase(x, "k", ""));
        Due.dueThrows("a seventh of another kind", Due.FULL, () -> x.lease(1, 1, false));
        Due.due("DRAFT", x.count(4), 6);
        ranges();
    }

    private static void ranges() {
        dueErased("b", "", 1);
        dueErased("bb", "", 0);
        dueErased("b", "d", 3);
        dueErased("b", "d\0", 4);
        dueErased("a\u00ff", "\u00ff", 4);
        dueErased("b", "\0", 5);
        dueErased("b", "\0\0", 0);
        dueErased("d", "b", 0);
        dueErased("c", "c", 0);
    }

    private static void dueErased(String key, String end, int want) {
        CouncilStore x = Due.led(1);
        for (String k : new String[] {"a", "b", "c", "c\0", "d", "\u00ff"}) {
            Due.put(x, k, "", 0);
        }
        Due.done(x, 0, 1);
        Due.erase(x, key, end);
        int index = Due.done(x, 0, 1);
        Due.due("deleted of " + key + " to " + end, x.outcome(0, index, 2), want);
        Due.due("left", x.told(0, 11), 6 - want);
        Due.due("REVISION", x.told(0, 8), want == 0 ? 1 : 2);
    }

    private static void promise8() {
        Due.part("promise 8");
        CouncilStore x = new CouncilStore();
        int[][] bad = {{-1, 1}, {2, 1}, {1, 0}, {0, 100}, {1, -5}};
        for (int[] b : bad) {
            Due.dueThrows("lease", Due.BAD, () -> x.lease(b[0], b[1], false));
            Due.dueThrows("lease", Due.BAD, () -> x.lease(b[0], b[1], true));
        }
        Due.give(x, "k");
        Due.dueThrows("an ARGUMENT", Due.BAD, () -> x.lease(1, 1, false));
        Due.due("it's gone", x.count(1), 0);
        for (int i = 0; i < 3; i++) {
            x.lease(1, 1, false);
            x.lease(1, 99, true);
        }
        Due.due("DRAFT", x.count(4), 6);
        Due.dueThrows("a seventh", Due.FULL, () -> x.lease(1, 1, true));
        x.lease(0, 1, true);
        Due.due("DRAFT", x.count(4), 7);
    }

    private static void argumentsAreTaken() {
        Due.part("ARGUMENTS are taken, whatever happens");
        CouncilStore x = Due.council(1);
        Due.give(x, "k");
        Due.dueThrows("no such node", Due.MISSING, () -> x.read(7));
        Due.due("read", x.count(1), 0);
        Due.dueThrows("no leader", Due.REFUSED, () -> Due.read(x, 0, "k"));
        Due.due("read", x.count(1), 0);
        Due.dueThrows("missing", Due.MISSING, () -> Due.pair(x, 3, "k", 0, 0));
        Due.due("pair", x.count(1), 0);
        Due.dueThrows("refused", Due.REFUSED, () -> Due.pair(x, 0, "k", 1, 0));
        Due.due("pair", x.count(1), 0);
        Due.dueThrows("missing", Due.MISSING, () -> Due.range(x, 0, "k", "", 0, 1, 0, 0));
        Due.due("range", x.count(1), 0);
        Due.give(x, "k");
        x.rise(0);
        x.sync(0);
        x.propose(0);
        x.forget();
        x.told(0, 0);
        Due.due("others leave them", x.count(1), 1);
        x.feed(1, 1, 1, 1, 1);
        x.pair(0, 0, 0);
        Due.due("INPUT isn't taken", x.count(0), 20);
    }

    private static void promise10() {
        Due.part("promise 10");
        CouncilStore x = Due.led(1);
        Due.when(x, "k", 0, 0, 0);
        Due.put(x, "k", "v", 0);
        x.lease(0, 1, false);
        Due.give(x, "k", "");
        x.erase(0);
        Due.due("DRAFT", x.count(4), 4);
        x.forget();
        Due.due("DRAFT", x.count(4), 0);
        int index = Due.done(x, 0, 1);
        Due.due("it's EMPTY", x.outcome(0, index, 0), 1);
        Due.due("nothing was put", x.told(0, 11), 0);
        for (int i = 0; i < 4; i++) {
            Due.when(x, "k", 0, 0, 0);
        }
        Due.due("room again", x.count(4), 4);
    }

    private static void promise28() {
        Due.part("promise 28");
        CouncilStore x = Due.led(3);
        Due.due("count(-1)", x.count(-1), -1);
        Due.due("count(7)", x.count(7), -1);
        Due.due("made", x.count(5), 1);
        x.propose(0);
        x.propose(0);
        Due.due("made", x.count(5), 3);
        Due.due("NET", x.count(2), 0);
        x.sync(0);
        Due.due("NET", x.count(2), 4);
        x.crash(0, 0);
        Due.due("made stays", x.count(5), 3);
        Due.due("lost", x.count(3), 0);
        Due.due("what must never be", x.count(6), 0);
        x.feed(0, 0, 0, 0, 0);
        x.end(3);
        x.feed(0, 0, 0, 0, 0);
        Due.due("INPUT", x.count(0), 20);
        Due.due("ARGUMENTS", x.count(1), 1);
    }
}
