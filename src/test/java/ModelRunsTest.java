import java.lang.reflect.InvocationTargetException;
import java.lang.reflect.Method;
import java.util.ArrayList;
import java.util.Arrays;
import java.util.HashMap;
import java.util.List;
import java.util.Map;
import java.util.Random;
import java.util.TreeSet;

/** Long runs of calls, drawn from fixed seeds: the class answers as PlainModel does. */
public final class ModelRunsTest {
    private static final Map<String, Method> REAL = methods(CouncilStore.class);
    private static final Map<String, Method> PLAIN = methods(PlainModel.class);
    private static final List<String> NAMES = new ArrayList<>(new TreeSet<>(REAL.keySet()));
    private static final int[] FAR = {Integer.MIN_VALUE, Integer.MIN_VALUE + 1, -1, 100, 1 << 30, Integer.MAX_VALUE - 1, Integer.MAX_VALUE};
    private static final Map<String, Integer> SEEN = new HashMap<>();

    private final int seed;
    private final Random random;
    private final CouncilStore real = new CouncilStore();
    private final PlainModel plain = new PlainModel();
    private final StringBuilder done = new StringBuilder();
    private boolean failed;
    private int left;
    private final int mood;

    private ModelRunsTest(int seed) {
        this.seed = seed;
        this.random = new Random(seed);
        this.mood = random.nextInt(4);
    }

    public static void main(String[] args) {
        int from = args.length > 0 ? Integer.parseInt(args[0]) : 1;
        int to = args.length > 1 ? Integer.parseInt(args[1]) : 250;
        int wrong = 0;
        // two at a time, a few calls of each in turn: an object mustn't feel that there is another
        for (int seed = from; seed <= to; seed += 2) {
            ModelRunsTest one = new ModelRunsTest(seed);
            ModelRunsTest other = new ModelRunsTest(Math.min(seed + 1, to));
            one.begin();
            other.begin();
            while (one.left > 0 || other.left > 0) {
                one.goOn();
                other.goOn();
            }
            wrong += one.failed || other.failed ? 1 : 0;
        }
        if (args.length > 0) {
            SEEN.entrySet().stream().sorted(Map.Entry.comparingByKey()).forEach(e -> System.out.println(e.getKey() + " " + e.getValue()));
        }
        // a run that never gets this far would prove nothing
        for (String needed : new String[] {"deliver ok", "answer ok", "snapshot ok", "STATE", "BARRED", "read throws.IllegalStateException",
                "read throws.IndexOutOfBoundsException", "event throws.IllegalStateException", "lost", "propose ok", "outcome ok"}) {
            if (args.length == 0 && !SEEN.containsKey(needed)) {
                System.out.println("never seen: " + needed);
                wrong++;
            }
        }
        System.exit(wrong == 0 ? 0 : 1);
    }

    private static Map<String, Method> methods(Class<?> of) {
        Map<String, Method> found = new HashMap<>();
        for (Method m : of.getDeclaredMethods()) {
            if (!java.lang.reflect.Modifier.isPrivate(m.getModifiers())) {
                m.setAccessible(true);
                found.put(m.getName(), m);
            }
        }
        return found;
    }

    private static String answerOf(Method m, Object on, Object[] args) {
        try {
            return String.valueOf(m.invoke(on, args));
        } catch (InvocationTargetException e) {
            boolean thrown = on instanceof PlainModel || Due.isThrownByTheClass(e.getCause());
            return (thrown ? "throws." : "throws by itself.") + e.getCause().getClass().getSimpleName();
        } catch (IllegalAccessException e) {
            return "no access";
        }
    }

    private String call(String name, Object... args) {
        String due = answerOf(PLAIN.get(name), plain, args);
        String got = answerOf(REAL.get(name), real, args);
        done.append(name).append(Arrays.toString(args)).append(" = ").append(due).append('\n');
        SEEN.merge(name + (due.startsWith("throws") ? " " + due : " ok"), 1, Integer::sum);
        if (!due.equals(got) && !failed) {
            failed = true;
            System.out.println("seed " + seed + ": " + name + Arrays.toString(args) + " answered " + got + ", due is " + due);
            if (System.getenv("TRACE") != null) {
                System.out.println(done);
            }
        }
        return due;
    }

    private void begin() {
        if (random.nextInt(10) == 0) {
            for (int i = 0; i < 5; i++) {
                act(random.nextInt(100));
            }
        }
        call("nodes", new int[] {3, 5, 3, 1, 2, 4, 7, 6}[random.nextInt(8)]);
        left = random.nextInt(8) == 0 ? 600 : 300;
    }

    private void goOn() {
        if (left > 0) {
            act(random.nextInt(100));
            lookAtAll();
            if (random.nextInt(4) == 0) {
                ask();
            }
            left--;
        }
        if (failed) {
            left = 0;
        }
    }

    private void lookAtAll() {
        for (int what = 0; what <= 6; what++) {
            call("count", what);
        }
        for (int node = 0; node < plain.ns.size(); node++) {
            for (int what = 0; what <= 14; what++) {
                call("told", node, what);
            }
        }
        // the newest are the ones that the last call made
        for (int i = Math.max(0, plain.net.size() - 7); i < plain.net.size(); i++) {
            for (int what = 0; what <= 8; what++) {
                call("message", i, what);
            }
            if (plain.net.get(i).sort() == 5) {
                SEEN.merge("STATE", 1, Integer::sum);
            }
        }
        if (plain.wrong > 0) {
            SEEN.merge("what must never be", 1, Integer::sum);
        }
        if (plain.lost > 0) {
            SEEN.merge("lost", 1, Integer::sum);
        }
    }

    private int node() {
        int n = plain.ns.size();
        return random.nextInt(25) == 0 ? random.nextInt(n + 3) - 1 : n == 0 ? 0 : random.nextInt(n);
    }

    private int unsyncedNode() {
        for (int i = 0; i < 6; i++) {
            int who = node();
            if (who >= 0 && who < plain.ns.size() && plain.told(who, 10) > 0) {
                return who;
            }
        }
        return node();
    }

    private int leader() {
        if (random.nextInt(20) > 0) {
            int best = -1;
            for (PlainModel.N n : plain.ns) {
                if (n.role == 2 && (best < 0 || random.nextBoolean())) {
                    best = n.id;
                }
            }
            if (best >= 0) {
                return best;
            }
        }
        return node();
    }

    private int near(int least, int most) {
        return random.nextInt(15) == 0 ? (random.nextBoolean() ? least - 1 : most + 1) : least + random.nextInt(most - least + 1);
    }

    private void argument(String bytes) {
        int at = 0;
        while (at < bytes.length() || (bytes.length() > 0 && at == 0)) {
            int[] words = new int[5];
            for (int k = 0; k < 20; k++) {
                int b = at + k < bytes.length() ? bytes.charAt(at + k) : 9;
                words[k / 4] |= b << (24 - 8 * (k % 4));
            }
            call("feed", words[0], words[1], words[2], words[3], words[4]);
            at += 20;
        }
        call("end", (20 - bytes.length() % 20) % 20);
    }

    private String key() {
        switch (random.nextInt(mood == 2 ? 30 : 14)) {
            case 0: return "k" + (char) random.nextInt(256);
            case 1: return "a".repeat(random.nextInt(40) + 1);
            case 2: return "\0";
            case 3: return "\u00ff";
            case 4: return random.nextInt(6) == 0 ? "" : "b\0";
            default: return "" + (char) ('a' + random.nextInt(mood == 2 ? 26 : 4)) + (random.nextBoolean() ? "" : "" + (char) ('x' + random.nextInt(3)));
        }
    }

    private String other() {
        switch (random.nextInt(6)) {
            case 0: return "";
            case 1: return "\0";
            case 2: return "v".repeat(random.nextInt(70));
            default: return key();
        }
    }

    private void keyOnly() {
        if (random.nextInt(30) > 0) {
            argument(key());
        }
        if (random.nextInt(30) == 0) {
            argument(other());
        }
    }

    private void keyAndOther() {
        keyOnly();
        if (plain.args.size() < 2 && random.nextInt(40) > 0) {
            argument(other());
        }
    }

    private void clause() {
        int branch = random.nextInt(3) == 0 ? near(0, 1) : 1;
        switch (random.nextInt(8)) {
            case 0:
                keyOnly();
                call("when", near(0, 3), near(0, 3), random.nextInt(6));
                break;
            case 1:
                keyAndOther();
                call("erase", branch);
                break;
            case 2:
                call("lease", branch, near(1, 6), random.nextInt(3) == 0);
                break;
            default:
                keyAndOther();
                call("put", branch, random.nextInt(4) == 0 ? near(0, 6) : 0);
        }
    }

    private int messageNumber() {
        int size = plain.net.size();
        if (size == 0 || random.nextInt(60) == 0) {
            return random.nextInt(3) - 1 + size;
        }
        return mood == 1 || random.nextInt(3) == 0 ? random.nextInt(size) : 0;
    }

    private void act(int draw) {
        boolean someLeads = plain.ns.stream().anyMatch(n -> n.role == 2);
        if (draw < 45) {
            for (int i = random.nextInt(4); i >= 0; i--) {
                call("deliver", messageNumber(), random.nextInt(mood == 3 ? 4 : 12) == 0);
            }
        } else if (draw < 65) {
            call("sync", unsyncedNode());
        } else if (draw < 67) {
            if (!someLeads || random.nextInt(6) == 0) {
                call("rise", node());
            }
        } else if (draw < 70) {
            call("beat", leader());
        } else if (draw < 80) {
            for (int i = random.nextInt(3); i >= 0; i--) {
                clause();
            }
            if (random.nextInt(4) > 0) {
                call("propose", leader());
            }
            if (plain.thens.size() == 6 && random.nextInt(3) > 0) {
                call("forget");
            }
        } else if (draw < 83) {
            call("propose", leader());
        } else if (draw < 85) {
            int who = node();
            int unsynced = who >= 0 && who < plain.ns.size() ? plain.told(who, 10) : 0;
            call("crash", who, near(0, unsynced));
        } else if (draw < 89) {
            for (int i = 0; i < plain.ns.size(); i++) {
                if (plain.told(i, 0) == 1 && random.nextBoolean()) {
                    call("start", i);
                }
            }
        } else if (draw < 91) {
            call("snapshot", random.nextBoolean() ? leader() : node());
        } else if (draw < 95) {
            for (int i = random.nextInt(40) == 0 ? 18 : 1; i > 0; i--) {
                keyOnly();
                call("read", leader());
            }
        } else {
            rare();
        }
    }

    private void rare() {
        if (random.nextInt(4) == 0) {
            wild();
        }
        switch (random.nextInt(12)) {
            case 0: case 1:
                call("lose", messageNumber());
                break;
            case 2: case 3: {
                int who = node();
                int latest = who >= 0 && who < plain.ns.size() ? plain.told(who, 8) : 0;
                call("compact", who, near(0, latest));
                break;
            }
            case 4:
                call("forget");
                break;
            case 5:
                call("start", node());
                break;
            case 6:
                call("feed", random.nextInt(), random.nextInt(), random.nextInt(), random.nextInt(), random.nextInt());
                call("end", near(0, 19));
                break;
            case 7:
                if (random.nextInt(12) == 0) {
                    call("nodes", near(1, 7));
                }
                break;
            case 8:
                for (int i = 0; i < 40 && plain.ns.size() > 5; i++) {
                    call("beat", leader());
                    call("sync", leader());
                }
                break;
            default:
                call("propose", node());
        }
    }

    private void rowsThatMustStay() {
        if (random.nextInt(25) == 0) {
            argument(other());
        }
    }

    /** Any call, with numbers from far outside as well. */
    private void wild() {
        Method any = REAL.get(NAMES.get(random.nextInt(NAMES.size())));
        Object[] args = new Object[any.getParameterCount()];
        for (int i = 0; i < args.length; i++) {
            int number = random.nextInt(3) > 0 ? random.nextInt(4) : FAR[random.nextInt(FAR.length)];
            args[i] = any.getParameterTypes()[i] == boolean.class ? (Object) (number % 2 == 0) : (Object) number;
        }
        call(any.getName(), args);
    }

    private void ask() {
        int who = node();
        PlainModel.N n = who >= 0 && who < plain.ns.size() ? plain.ns.get(who) : null;
        int latest = n == null ? 0 : n.store.revision();
        int last = n == null ? 0 : plain.told(who, 5);
        for (int what = -1; what <= 6; what++) {
            keyOnly();
            call("pair", who, near(0, latest), what);
        }
        for (int what = -1; what <= 4; what++) {
            keyAndOther();
            call("range", who, near(0, latest), what, near(0, 3), near(0, 3));
            rowsThatMustStay();
            call("event", who, near(1, latest + 1), what, near(0, 3), near(0, 3));
            call("message", messageNumber(), what * 3);
        }
        for (int what = -1; what <= 3; what++) {
            int index = near(1, last + 1);
            String answer = call("outcome", who, index, what);
            if (what == 0 && answer.equals("2")) {
                SEEN.merge("BARRED", 1, Integer::sum);
            }
        }
        int leads = leader();
        int reads = leads >= 0 && leads < plain.ns.size() ? plain.ns.get(leads).reads.size() : 0;
        for (int what = -1; what <= 4; what++) {
            rowsThatMustStay();
            call("answer", leads, near(0, reads), what);
        }
        call("told", near(0, 7), near(0, 14));
        call("count", near(0, 6));
    }
}
