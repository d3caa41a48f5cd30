import java.util.NoSuchElementException;
import java.util.function.IntSupplier;

/** What the tests share: answers that are due, and a council that is easily led. */
final class Due {
    static final Class<?> BAD = IllegalArgumentException.class;
    static final Class<?> MISSING = NoSuchElementException.class;
    static final Class<?> REFUSED = IllegalStateException.class;
    static final Class<?> FULL = IndexOutOfBoundsException.class;

    private static int wrong;
    private static int asked;
    private static String where = "";

    private Due() { }

    static void part(String name) {
        where = name;
    }

    static void due(String call, int got, int want) {
        asked++;
        if (got != want) {
            wrong++;
            System.out.println(where + ": " + call + " answered " + got + ", due is " + want);
        }
    }

    /** The very class, none below it: what the machine throws is below some of these. */
    static void dueThrows(String call, Class<?> want, IntSupplier run) {
        asked++;
        String got;
        try {
            got = "answered " + run.getAsInt();
        } catch (RuntimeException e) {
            if (e.getClass() == want && isThrownByTheClass(e)) {
                return;
            }
            got = "threw " + e;
        }
        wrong++;
        System.out.println(where + ": " + call + " " + got + ", due is a throw of " + want.getName());
    }

    /** A list that is asked for what it hasn't throws FULL's class by itself; only the place tells. */
    static boolean isThrownByTheClass(Throwable e) {
        return e.getStackTrace().length > 0 && e.getStackTrace()[0].getClassName().startsWith("CouncilStore");
    }

    static void dueThrows(String call, Class<?> want, Runnable run) {
        dueThrows(call, want, () -> {
            run.run();
            return 0;
        });
    }

    /** A call that is refused, in whatever way, changes nothing. */
    static void dueRefused(CouncilStore x, String call, Class<?> want, Runnable run) {
        String before = all(x);
        dueThrows(call, want, run);
        dueSame(call + " left all as it was", all(x), before);
    }

    static void dueSame(String call, String got, String want) {
        asked++;
        if (!got.equals(want)) {
            wrong++;
            System.out.println(where + ": " + call + " isn't so:\n" + want + got);
        }
    }

    /** All that can be asked without ARGUMENTS, so that asking changes nothing. */
    static String all(CouncilStore x) {
        StringBuilder all = new StringBuilder("count");
        for (int what = 0; what <= 6; what++) {
            all.append(' ').append(x.count(what));
        }
        for (int i = 0; i < x.count(2); i++) {
            all.append("\nmessage");
            for (int what = 0; what <= 8; what++) {
                all.append(' ').append(x.message(i, what));
            }
        }
        for (int node = 0; node < nodesOf(x); node++) {
            all.append("\ntold");
            for (int what = 0; what <= 14; what++) {
                all.append(' ').append(x.told(node, what));
            }
            if (x.told(node, 0) == 0) {
                addAllOfNode(all, x, node);
            }
        }
        return all.append('\n').toString();
    }

    private static int nodesOf(CouncilStore x) {
        int nodes = 0;
        while (nodes < 7) {
            int node = nodes;
            if (answerOf(() -> x.told(node, 0)).equals("-")) {
                return nodes;
            }
            nodes++;
        }
        return nodes;
    }

    private static void addAllOfNode(StringBuilder all, CouncilStore x, int node) {
        for (int index = 0; index <= x.told(node, 5); index++) {
            for (int what = 0; what <= 2; what++) {
                int i = index;
                int w = what;
                all.append(' ').append(answerOf(() -> x.outcome(node, i, w)));
            }
        }
        for (int i = 0; i < 20; i++) {
            for (int what = 0; what <= 3; what++) {
                int read = i;
                int w = what;
                all.append(' ').append(answerOf(() -> x.answer(node, read, w)));
            }
        }
        for (int revision = 1; revision <= x.told(node, 8); revision++) {
            int r = revision;
            all.append(' ').append(answerOf(() -> x.event(node, r, 0, 0, 0)));
        }
    }

    private static String answerOf(IntSupplier run) {
        try {
            return String.valueOf(run.getAsInt());
        } catch (NoSuchElementException | IllegalStateException e) {
            return "-";
        }
    }

    static void exit() {
        System.out.println(asked + " answers, " + wrong + " wrong");
        System.exit(wrong == 0 && asked > 0 ? 0 : 1);
    }

    /** An ARGUMENT more, of characters 0 to 255. */
    static void give(CouncilStore x, String row) {
        for (int at = 0; at < row.length(); at += 20) {
            int[] words = new int[5];
            for (int k = 0; k < 20 && at + k < row.length(); k++) {
                words[k / 4] |= row.charAt(at + k) << (24 - 8 * (k % 4));
            }
            x.feed(words[0], words[1], words[2], words[3], words[4]);
        }
        x.end((20 - row.length() % 20) % 20);
    }

    static void give(CouncilStore x, String first, String second) {
        give(x, first);
        give(x, second);
    }

    static void put(CouncilStore x, String key, String value, int lease) {
        give(x, key, value);
        x.put(1, lease);
    }

    static void erase(CouncilStore x, String key, String end) {
        give(x, key, end);
        x.erase(1);
    }

    static void when(CouncilStore x, String key, int what, int how, int number) {
        give(x, key);
        x.when(what, how, number);
    }

    static int pair(CouncilStore x, int node, String key, int revision, int what) {
        give(x, key);
        return x.pair(node, revision, what);
    }

    static int range(CouncilStore x, int node, String key, String end, int revision, int what, int i, int k) {
        give(x, key, end);
        return x.range(node, revision, what, i, k);
    }

    static int read(CouncilStore x, int node, String key) {
        give(x, key);
        return x.read(node);
    }

    /** Everything syncs and arrives, in order, until all is quiet. */
    static void settle(CouncilStore x, int nodes) {
        for (int left = 10000; left > 0; left--) {
            int moved = 0;
            for (int i = 0; i < nodes; i++) {
                if (x.told(i, 0) == 0) {
                    moved += x.told(i, 10) + x.told(i, 9);
                    x.sync(i);
                }
            }
            if (x.count(2) > 0) {
                x.deliver(0, false);
            } else if (moved == 0) {
                return;
            }
        }
    }

    static CouncilStore council(int nodes) {
        CouncilStore x = new CouncilStore();
        x.nodes(nodes);
        return x;
    }

    /** Node 0 leads in TERM 1, and its EMPTY ENTRY is COMMIT everywhere. */
    static CouncilStore led(int nodes) {
        CouncilStore x = council(nodes);
        x.rise(0);
        settle(x, nodes);
        beatOut(x, 0, nodes);
        return x;
    }

    static void beatOut(CouncilStore x, int leader, int nodes) {
        x.beat(leader);
        settle(x, nodes);
    }

    /** DRAFT is applied everywhere; answers its INDEX. */
    static int done(CouncilStore x, int leader, int nodes) {
        int index = x.propose(leader);
        settle(x, nodes);
        beatOut(x, leader, nodes);
        return index;
    }

    static void loseAll(CouncilStore x) {
        for (int left = x.count(2); left > 0; left--) {
            x.lose(0);
        }
    }

    /** The number of the first such MESSAGE in NET. */
    static int find(CouncilStore x, int sort, int from, int to) {
        for (int i = 0; i < x.count(2); i++) {
            if (x.message(i, 0) == sort && x.message(i, 1) == from && x.message(i, 2) == to) {
                return i;
            }
        }
        due("a MESSAGE of sort " + sort + " from " + from + " for " + to, 0, 1);
        return 0;
    }

    static void bring(CouncilStore x, int sort, int from, int to) {
        x.deliver(find(x, sort, from, to), false);
    }

    /** It syncs, and its only MESSAGE of that sort is brought. */
    static void syncAndBring(CouncilStore x, int sort, int from, int to) {
        x.sync(from);
        bring(x, sort, from, to);
    }

    /** It rises into a TERM above the other's; NET has the ASKS of that TERM alone. */
    static void stand(CouncilStore x, int node, int other) {
        for (int left = 100; left > 0 && x.told(node, 1) < x.told(other, 1); left--) {
            x.rise(node);
        }
        x.sync(node);
        loseAll(x);
        x.rise(node);
        x.sync(node);
    }

    /** By itself and one other of three; NET is empty then, and its own APPENDS wait in OUTBOX. */
    static void elect(CouncilStore x, int node, int voter) {
        x.sync(voter);
        stand(x, node, voter);
        bring(x, 1, node, voter);
        syncAndBring(x, 2, voter, node);
        due(node + " leads", x.told(node, 3), 2);
        loseAll(x);
    }

    static void loseLike(CouncilStore x, int sort) {
        for (int i = x.count(2) - 1; i >= 0; i--) {
            if (x.message(i, 0) == sort) {
                x.lose(i);
            }
        }
    }

    static void restart(CouncilStore x, int node, int keep) {
        x.crash(node, keep);
        x.start(node);
    }

    /** MESSAGE i of NET: sort, from, for, TERM, then what 4 to 8. */
    static void dueMessage(CouncilStore x, int i, int... want) {
        for (int what = 0; what < want.length; what++) {
            due("message(" + i + ", " + what + ")", x.message(i, what), want[what]);
        }
    }

    static void dueTold(CouncilStore x, int node, int... want) {
        for (int what = 0; what < want.length; what++) {
            due("told(" + node + ", " + what + ")", x.told(node, what), want[what]);
        }
    }
}
