import java.util.ArrayList;
import java.util.Arrays;
import java.util.NoSuchElementException;

/** A configuration store kept by up to seven nodes that agree on its changes. */
public final class CouncilStore {
    private static final int MOST_NODES = 7;
    private static final int MOST_BYTES = 2048;
    private static final int FED_BYTES = 20;
    private static final int MOST_KEY = 32;
    private static final int MOST_VALUE = 64;
    private static final int MOST_LEASE = 99;
    private static final int MOST_CONDITIONS = 4;
    private static final int MOST_STEPS = 6;
    private static final int MOST_MESSAGES = 200;
    private static final int MOST_SENT_ENTRIES = 4;
    private static final int MOST_WAITING_READS = 16;
    private static final int MOST_MADE = 1500;
    private static final int MOST_MADE_BYTES = 40000;
    private static final int MOST_PAIRS = 200;

    private static final int PUT = 0;
    private static final int DELETE = 1;
    private static final int GRANT = 2;
    private static final int REVOKE = 3;

    private static final int ELSE_DONE = 0;
    private static final int THEN_DONE = 1;
    private static final int BARRED = 2;

    private static final int FOLLOWER = 0;
    private static final int CANDIDATE = 1;
    private static final int LEADER = 2;
    private static final int NOBODY = -1;

    private static final int ASK = 1;
    private static final int ANSWER = 2;
    private static final int APPEND = 3;
    private static final int TAKEN = 4;
    private static final int STATE = 5;

    private final byte[] input = new byte[MOST_BYTES];
    private int inputLength;
    private final byte[] noBytes = new byte[0];
    private final byte[][] noArguments = new byte[0][];
    private byte[][] arguments = noArguments;
    private Command draft = new Command();

    private final Store nothing = new Store();
    private final Store scratch = new Store();
    private final Node[] members = new Node[MOST_NODES];
    private int memberCount;
    private final ArrayList<Message> net = new ArrayList<Message>();
    private int lost;

    private int made;
    private int madeBytes;
    private int wrong;
    private int greatestCommit;
    /** By TERM. */
    private final ArrayList<Integer> firstLeaders = new ArrayList<Integer>();
    /** Serials, by INDEX from 1 on. */
    private final ArrayList<Integer> firstApplied = new ArrayList<Integer>();

    public CouncilStore() {
        for (int i = 0; i < MOST_NODES; i++) {
            members[i] = new Node(i, nothing);
        }
    }

    // ---- the face: nodes, INPUT and DRAFT

    public void nodes(int n) throws IllegalArgumentException {
        if (n < 1 || n > MOST_NODES) {
            throw new IllegalArgumentException("nodes are 1 to 7");
        }
        memberCount = n;
        for (int i = 0; i < MOST_NODES; i++) {
            members[i].begin(nothing);
        }
        net.clear();
        draft = new Command();
        lost = 0;
        made = 0;
        madeBytes = 0;
        wrong = 0;
        greatestCommit = 0;
        firstLeaders.clear();
        firstApplied.clear();
    }

    public int feed(int a, int b, int c, int d, int e) throws IndexOutOfBoundsException {
        if (inputLength + argumentBytes() + FED_BYTES > MOST_BYTES) {
            throw new IndexOutOfBoundsException("INPUT and ARGUMENTS have 2048 bytes at most");
        }
        feedFour(a);
        feedFour(b);
        feedFour(c);
        feedFour(d);
        feedFour(e);
        return inputLength;
    }

    public int end(int n) throws IllegalArgumentException {
        if (n < 0 || n >= FED_BYTES || n > inputLength) {
            throw new IllegalArgumentException("0 to 19 bytes go, and as many must be there");
        }
        int had = arguments.length;
        byte[][] now = new byte[had == 0 ? 1 : 2][];
        if (had > 0) {
            now[0] = arguments[had - 1];
        }
        now[now.length - 1] = Arrays.copyOf(input, inputLength - n);
        arguments = now;
        inputLength = 0;
        return now.length;
    }

    public void when(int what, int how, int number) throws IllegalArgumentException, IndexOutOfBoundsException {
        byte[][] given = takeArguments();
        if (what < 0 || what > 3 || how < 0 || how > 3 || !isKeyAlone(given)) {
            throw new IllegalArgumentException("a CONDITION is of a KEY, what 0 to 3, how 0 to 3");
        }
        if (draft.conditions.size() >= MOST_CONDITIONS) {
            throw new IndexOutOfBoundsException("DRAFT has 4 CONDITIONS");
        }
        draft.conditions.add(new Clause(what, given[0], noBytes, how, number));
    }

    public void put(int branch, int lease) throws IllegalArgumentException, IndexOutOfBoundsException {
        byte[][] given = takeArguments();
        if (!isBranch(branch) || lease < 0 || lease > MOST_LEASE || !isKeyAndOther(given)) {
            throw new IllegalArgumentException("a PUT is of a KEY and a VALUE, branch 0 or 1, LEASE 0 to 99");
        }
        addStep(branch, new Clause(PUT, given[0], given[1], 0, lease));
    }

    public void erase(int branch) throws IllegalArgumentException, IndexOutOfBoundsException {
        byte[][] given = takeArguments();
        if (!isBranch(branch) || !isKeyAndOther(given)) {
            throw new IllegalArgumentException("a DELETE is of a KEY and an END, branch 0 or 1");
        }
        addStep(branch, new Clause(DELETE, given[0], given[1], 0, 0));
    }

    public void lease(int branch, int lease, boolean revoke) throws IllegalArgumentException, IndexOutOfBoundsException {
        byte[][] given = takeArguments();
        if (!isBranch(branch) || lease < 1 || lease > MOST_LEASE || given.length != 0) {
            throw new IllegalArgumentException("a LEASE is 1 to 99, branch 0 or 1, without ARGUMENTS");
        }
        addStep(branch, new Clause(revoke ? REVOKE : GRANT, noBytes, noBytes, 0, lease));
    }

    public int propose(int node) throws IllegalStateException, NoSuchElementException, IndexOutOfBoundsException {
        Node leader = upMember(node);
        if (leader.role != LEADER) {
            throw new IllegalStateException("only a leader takes COMMANDS");
        }
        int bytes = draft.bytes();
        if (made >= MOST_MADE || madeBytes + bytes > MOST_MADE_BYTES) {
            throw new IndexOutOfBoundsException("no more COMMANDS can be made");
        }
        madeBytes += bytes;
        makeEntry(leader, draft);
        draft = new Command();
        appendToOthers(leader);
        return leader.live.last();
    }

    public void forget() {
        draft = new Command();
    }

    // ---- the face: what nodes do

    public void rise(int node) throws IllegalStateException, NoSuchElementException, IndexOutOfBoundsException {
        Node riser = upMember(node);
        if (riser.role == LEADER) {
            throw new IllegalStateException("it's a leader already");
        }
        if (memberCount == 1 && made >= MOST_MADE) {
            throw new IndexOutOfBoundsException("no more ENTRIES can be made");
        }
        riser.stand();
        for (int i = 0; i < memberCount; i++) {
            if (i != riser.id) {
                send(riser, new Message(ASK, riser.id, i, riser.live.term, riser.live.last(), riser.live.lastTerm(), 0));
            }
        }
        if (memberCount == 1) {
            lead(riser);
        }
    }

    public void beat(int node) throws IllegalStateException, NoSuchElementException {
        Node leader = upMember(node);
        if (leader.role != LEADER) {
            throw new IllegalStateException("only a leader beats");
        }
        appendToOthers(leader);
    }

    public int sync(int node) throws NoSuchElementException {
        Node syncer = upMember(node);
        syncer.keep(syncer.unsynced.size());
        int before = net.size();
        for (int i = 0; i < syncer.outbox.size(); i++) {
            post(syncer.outbox.get(i));
        }
        syncer.outbox.clear();
        int more = net.size() - before;
        if (syncer.role == LEADER) {
            syncer.match[syncer.id] = syncer.live.last();
            lookForCommit(syncer);
            applyCommitted(syncer);
        }
        return more;
    }

    public void crash(int node, int keep) throws IllegalArgumentException, NoSuchElementException {
        Node faller = upMember(node);
        if (keep < 0 || keep > faller.unsynced.size()) {
            throw new IllegalArgumentException("so many RECORDS can't stay");
        }
        faller.fall(keep);
    }

    public void start(int node) throws NoSuchElementException {
        Node starter = memberAt(node);
        if (starter == null || !starter.down) {
            throw new NoSuchElementException("no such node that is DOWN");
        }
        starter.down = false;
        starter.loadImage();
    }

    public void deliver(int i, boolean stay) throws NoSuchElementException, IndexOutOfBoundsException {
        Message brought = messageAt(i);
        Node to = memberAt(brought.to);
        boolean heard = to != null && !to.down;
        if (heard && made >= MOST_MADE && wouldLead(to, brought)) {
            throw new IndexOutOfBoundsException("no more ENTRIES can be made");
        }
        if (!stay) {
            net.remove(i);
        }
        if (!heard) {
            return;
        }
        if (brought.term > to.live.term) {
            to.enterTerm(brought.term);
        }
        switch (brought.sort) {
            case ASK:
                onAsk(to, brought);
                break;
            case ANSWER:
                onAnswer(to, brought);
                break;
            case APPEND:
                onAppend(to, brought);
                break;
            case TAKEN:
                onTaken(to, brought);
                break;
            default:
                onState(to, brought);
        }
        applyCommitted(to);
        if (brought.sort == TAKEN) {
            // only now: a READ is answered from the STORE with all of COMMIT applied
            lookAtReads(to);
        }
    }

    public void lose(int i) throws NoSuchElementException {
        messageAt(i);
        net.remove(i);
    }

    public int snapshot(int node) throws IllegalStateException, NoSuchElementException {
        Node keeper = upMember(node);
        if (keeper.commit == keeper.live.base()) {
            throw new IllegalStateException("the SNAPSHOT is that of COMMIT already");
        }
        Store image = new Store();
        image.copyFrom(keeper.store);
        keeper.write(new Written(image));
        return keeper.live.base();
    }

    // ---- the face: READS and the STORE

    public int read(int node) throws IllegalArgumentException, IllegalStateException, NoSuchElementException, IndexOutOfBoundsException {
        byte[][] given = takeArguments();
        if (!isKeyAlone(given)) {
            throw new IllegalArgumentException("a READ is of a KEY");
        }
        Node leader = upMember(node);
        if (leader.role != LEADER || leader.live.termAt(leader.commit) != leader.live.term) {
            throw new IllegalStateException("only a leader whose COMMIT has its TERM reads");
        }
        if (leader.waitingReads() >= MOST_WAITING_READS) {
            throw new IndexOutOfBoundsException("16 READS wait");
        }
        leader.round++;
        leader.reads.add(new Read(given[0], leader.round, greatestCommit));
        appendToOthers(leader);
        lookAtReads(leader);
        return leader.reads.size() - 1;
    }

    public int answer(int node, int i, int what) throws IllegalArgumentException, NoSuchElementException {
        if (what < 0 || what > 3) {
            throw new IllegalArgumentException("what is 0 to 3");
        }
        Node leader = upMember(node);
        if (i < 0 || i >= leader.reads.size() || !leader.reads.get(i).done) {
            throw new NoSuchElementException("no such READ that is done");
        }
        Read asked = leader.reads.get(i);
        if (what == 3) {
            return asked.revision;
        }
        if (asked.found == null) {
            return 0;
        }
        return what == 0 ? 1 : what == 1 ? asked.found.changed : asked.found.version;
    }

    public int pair(int node, int revision, int what) throws IllegalArgumentException, IllegalStateException, NoSuchElementException {
        byte[][] given = takeArguments();
        if (what < 0 || what > 5 || revision < 0 || !isKeyAlone(given)) {
            throw new IllegalArgumentException("a KEY, a REVISION from 0 on, what 0 to 5");
        }
        Pair found = storeAt(upMember(node), revision).find(given[0]);
        if (found == null) {
            return 0;
        }
        switch (what) {
            case 0:
                return 1;
            case 1:
                return found.created;
            case 2:
                return found.changed;
            case 3:
                return found.version;
            case 4:
                return found.lease;
            default:
                return found.value.length;
        }
    }

    public int range(int node, int revision, int what, int i, int k) throws IllegalArgumentException, IllegalStateException, NoSuchElementException {
        byte[][] given = takeArguments();
        if (what < 0 || what > 3 || revision < 0 || !isKeyAndOther(given)) {
            throw new IllegalArgumentException("a KEY and an END, a REVISION from 0 on, what 0 to 3");
        }
        Store store = storeAt(upMember(node), revision);
        if (what == 0) {
            return store.pairsInside(given[0], given[1]);
        }
        Pair found = store.pairInside(given[0], given[1], i);
        if (found == null) {
            throw new NoSuchElementException("no such PAIR in the RANGE");
        }
        if (what == 1) {
            return found.key.length;
        }
        return byteAt(what == 2 ? found.key : found.value, k);
    }

    public int event(int node, int revision, int what, int i, int k) throws IllegalArgumentException, IllegalStateException, NoSuchElementException {
        if (what < 0 || what > 3) {
            throw new IllegalArgumentException("what is 0 to 3");
        }
        Store store = upMember(node).store;
        if (revision < 1 || revision > store.revision) {
            throw new NoSuchElementException("no such REVISION");
        }
        if (revision < store.compacted) {
            throw new IllegalStateException("it's before COMPACT");
        }
        if (what == 0) {
            return store.changesOf(revision);
        }
        Change found = store.changeAt(revision, i);
        if (found == null) {
            throw new NoSuchElementException("no such KEY in the REVISION");
        }
        if (what == 1) {
            return found.now == null ? 1 : 0;
        }
        return what == 2 ? found.key.length : byteAt(found.key, k);
    }

    public void compact(int node, int revision) throws IllegalStateException, NoSuchElementException {
        Store store = upMember(node).store;
        if (revision < store.compacted || revision > store.revision) {
            throw new IllegalStateException("COMPACT goes on, and up to the latest REVISION");
        }
        store.compacted = revision;
    }

    public int outcome(int node, int index, int what) throws IllegalArgumentException, NoSuchElementException {
        if (what < 0 || what > 2) {
            throw new IllegalArgumentException("what is 0 to 2");
        }
        Node applier = upMember(node);
        if (index <= applier.outcomeFloor || index > applier.store.index) {
            throw new NoSuchElementException("no such ENTRY was applied");
        }
        return applier.outcomeOf(index, what);
    }

    // ---- the face: what is told

    public int message(int i, int what) throws IllegalArgumentException, NoSuchElementException {
        if (what < 0 || what > 8) {
            throw new IllegalArgumentException("what is 0 to 8");
        }
        Message asked = messageAt(i);
        switch (what) {
            case 0:
                return asked.sort;
            case 1:
                return asked.from;
            case 2:
                return asked.to;
            case 3:
                return asked.term;
            case 4:
                return asked.index;
            case 5:
                return asked.other;
            case 6:
                return asked.entryCount();
            case 7:
                return asked.round;
            default:
                return asked.commit;
        }
    }

    public int told(int node, int what) throws IllegalArgumentException, NoSuchElementException {
        if (what < 0 || what > 14) {
            throw new IllegalArgumentException("what is 0 to 14");
        }
        Node asked = memberAt(node);
        if (asked == null) {
            throw new NoSuchElementException("no such node");
        }
        switch (what) {
            case 0:
                return asked.down ? 1 : 0;
            case 1:
                return asked.live.term;
            case 2:
                return asked.live.vote;
            case 4:
                return asked.down ? NOBODY : asked.leader;
            case 5:
                return asked.live.last();
            case 7:
                return asked.live.base();
            case 13:
                return asked.live.lastTerm();
            default:
                return asked.down ? 0 : toldOfUp(asked, what);
        }
    }

    public int count(int what) {
        switch (what) {
            case 0:
                return inputLength;
            case 1:
                return arguments.length;
            case 2:
                return net.size();
            case 3:
                return lost;
            case 4:
                return draft.clauses();
            case 5:
                return made;
            case 6:
                return wrong;
            default:
                return -1;
        }
    }

    // ---- INPUT, ARGUMENTS and DRAFT

    private int argumentBytes() {
        int bytes = 0;
        for (int i = 0; i < arguments.length; i++) {
            bytes += arguments[i].length;
        }
        return bytes;
    }

    private void feedFour(int bytes) {
        for (int shift = 24; shift >= 0; shift -= 8) {
            input[inputLength] = (byte) (bytes >> shift);
            inputLength++;
        }
    }

    private byte[][] takeArguments() {
        byte[][] given = arguments;
        arguments = noArguments;
        return given;
    }

    private static boolean isKeyAlone(byte[][] given) {
        return given.length == 1 && isKey(given[0]);
    }

    private static boolean isKeyAndOther(byte[][] given) {
        return given.length == 2 && isKey(given[0]) && given[1].length <= MOST_VALUE;
    }

    private static boolean isKey(byte[] row) {
        return row.length >= 1 && row.length <= MOST_KEY;
    }

    private static boolean isBranch(int branch) {
        return branch == 0 || branch == 1;
    }

    private void addStep(int branch, Clause step) {
        ArrayList<Clause> steps = branch == 1 ? draft.thenSteps : draft.elseSteps;
        if (steps.size() >= MOST_STEPS) {
            throw new IndexOutOfBoundsException("the branch has 6 STEPS");
        }
        steps.add(step);
    }

    private static int byteAt(byte[] row, int k) {
        if (k < 0 || k >= row.length) {
            throw new NoSuchElementException("no such byte");
        }
        return row[k] & 255;
    }

    /** Below 0, 0 or above 0, as a is below b, the same, or above it; bytes are 0 to 255. */
    private static int compareBytes(byte[] a, byte[] b) {
        int shared = Math.min(a.length, b.length);
        for (int i = 0; i < shared; i++) {
            if (a[i] != b[i]) {
                return (a[i] & 255) - (b[i] & 255);
            }
        }
        return a.length - b.length;
    }

    /** Whether a KEY is in the RANGE of another and an END. */
    private static boolean isInside(byte[] found, byte[] key, byte[] end) {
        int order = compareBytes(found, key);
        if (end.length == 0) {
            return order == 0;
        }
        boolean endless = end.length == 1 && end[0] == 0;
        return order >= 0 && (endless || compareBytes(found, end) < 0);
    }

    // ---- who is there

    private Node memberAt(int node) {
        return node >= 0 && node < memberCount && node < MOST_NODES ? members[node] : null;
    }

    private Node upMember(int node) {
        Node found = memberAt(node);
        if (found == null || found.down) {
            throw new NoSuchElementException("no such node, or it's DOWN");
        }
        return found;
    }

    private Message messageAt(int i) {
        if (i < 0 || i >= net.size()) {
            throw new NoSuchElementException("no such MESSAGE");
        }
        return net.get(i);
    }

    private boolean isMajority(int nodes) {
        return nodes * 2 > memberCount;
    }

    private int toldOfUp(Node asked, int what) {
        switch (what) {
            case 3:
                return asked.role;
            case 6:
                return asked.commit;
            case 8:
                return asked.store.revision;
            case 9:
                return asked.outbox.size();
            case 10:
                return asked.unsynced.size();
            case 11:
                return asked.store.pairs.size();
            case 12:
                return asked.waitingReads();
            default:
                return asked.store.leaseCount();
        }
    }

    // ---- sending

    private void send(Node from, Message sent) {
        if (from.unsynced.isEmpty()) {
            post(sent);
        } else {
            from.outbox.add(sent);
        }
    }

    private void post(Message sent) {
        if (net.size() < MOST_MESSAGES) {
            net.add(sent);
        } else {
            lost++;
        }
    }

    private void appendToOthers(Node leader) {
        for (int i = 0; i < memberCount; i++) {
            if (i != leader.id) {
                appendTo(leader, i);
            }
        }
    }

    private void appendTo(Node leader, int to) {
        Disk disk = leader.live;
        int next = leader.next[to];
        if (next <= disk.base()) {
            Message state = new Message(STATE, leader.id, to, disk.term, disk.base(), disk.image.term, leader.round);
            state.image = disk.image;
            send(leader, state);
            return;
        }
        Message append = new Message(APPEND, leader.id, to, disk.term, next - 1, disk.termAt(next - 1), leader.round);
        append.commit = leader.commit;
        append.entries = disk.entriesFrom(next);
        send(leader, append);
    }

    private void sendTaken(Node from, Message got, boolean yes, int index, int round) {
        send(from, new Message(TAKEN, from.id, got.from, from.live.term, index, yes ? 1 : 0, round));
    }

    // ---- what a MESSAGE does

    private void onAsk(Node to, Message got) {
        Disk disk = to.live;
        boolean upToDate = got.other > disk.lastTerm() || (got.other == disk.lastTerm() && got.index >= disk.last());
        boolean free = disk.vote == NOBODY || disk.vote == got.from;
        boolean granted = got.term == disk.term && free && upToDate;
        if (granted && disk.vote == NOBODY) {
            to.write(new Written(disk.term, got.from));
        }
        send(to, new Message(ANSWER, to.id, got.from, disk.term, 0, granted ? 1 : 0, 0));
    }

    private void onAnswer(Node to, Message got) {
        if (wouldLead(to, got)) {
            lead(to);
        } else if (isVoteFor(to, got)) {
            to.granted[got.from] = true;
        }
    }

    private static boolean isVoteFor(Node to, Message got) {
        return got.sort == ANSWER && got.other == 1 && to.role == CANDIDATE && got.term == to.live.term;
    }

    private boolean wouldLead(Node to, Message got) {
        if (!isVoteFor(to, got)) {
            return false;
        }
        int votes = to.votes() + (to.granted[got.from] ? 0 : 1);
        return isMajority(votes);
    }

    private void onAppend(Node to, Message got) {
        Disk disk = to.live;
        if (got.term < disk.term) {
            sendTaken(to, got, false, 0, 0);
            return;
        }
        to.follow(got.from);
        if (got.index > disk.last() || (got.index >= disk.base() && disk.termAt(got.index) != got.other)) {
            sendTaken(to, got, false, Math.min(got.index - 1, disk.last()), got.round);
            return;
        }
        for (int i = 0; i < got.entryCount(); i++) {
            Entry entry = got.entries[i];
            if (entry != null && entry.index > disk.base() && disk.termAt(entry.index) != entry.term) {
                to.write(new Written(entry));
            }
        }
        int reached = got.index + got.entryCount();
        raiseCommit(to, Math.min(got.commit, reached));
        sendTaken(to, got, true, reached, got.round);
    }

    private void onTaken(Node to, Message got) {
        if (to.role != LEADER || got.term != to.live.term) {
            return;
        }
        int other = got.from;
        to.confirmed[other] = Math.max(to.confirmed[other], got.round);
        if (got.other == 1) {
            to.match[other] = Math.max(to.match[other], got.index);
            to.next[other] = Math.max(to.next[other], to.match[other] + 1);
            lookForCommit(to);
            // an older TAKEN tells nothing new, and must not send the same again
            if (got.index >= to.next[other] - 1 && to.next[other] <= to.live.last()) {
                appendTo(to, other);
            }
        } else {
            to.next[other] = Math.max(to.match[other], got.index) + 1;
            appendTo(to, other);
        }
    }

    private void onState(Node to, Message got) {
        if (got.term < to.live.term) {
            sendTaken(to, got, false, 0, 0);
            return;
        }
        to.follow(got.from);
        if (got.index > to.commit && got.image != null) {
            to.write(new Written(got.image));
            to.loadImage();
            greatestCommit = Math.max(greatestCommit, to.commit);
        }
        sendTaken(to, got, true, got.index, got.round);
    }

    // ---- leading

    private void lead(Node leader) {
        leader.takeLead();
        noteLeader(leader);
        makeEntry(leader, new Command());
        appendToOthers(leader);
    }

    private void noteLeader(Node leader) {
        int term = leader.live.term;
        for (int i = firstLeaders.size(); i <= term; i++) {
            firstLeaders.add(NOBODY);
        }
        int first = firstLeaders.get(term);
        if (first == NOBODY) {
            firstLeaders.set(term, leader.id);
        } else if (first != leader.id) {
            wrong++;
        }
    }

    private void makeEntry(Node leader, Command command) {
        made++;
        leader.write(new Written(new Entry(leader.live.last() + 1, leader.live.term, made, command)));
    }

    private void lookForCommit(Node leader) {
        for (int index = leader.live.last(); index > leader.commit; index--) {
            if (leader.live.termAt(index) != leader.live.term) {
                return;
            }
            if (isMajority(leader.matching(index, memberCount))) {
                raiseCommit(leader, index);
                return;
            }
        }
    }

    private void raiseCommit(Node node, int index) {
        node.commit = Math.max(node.commit, index);
        greatestCommit = Math.max(greatestCommit, node.commit);
    }

    private void applyCommitted(Node node) {
        for (int index = node.store.index + 1; index <= node.commit; index++) {
            Entry entry = node.live.entryAt(index);
            if (entry == null) {
                return;
            }
            node.noteOutcome(node.store.apply(entry, scratch));
            noteApplied(entry);
        }
    }

    private void noteApplied(Entry entry) {
        if (entry.index > firstApplied.size()) {
            firstApplied.add(entry.serial);
            return;
        }
        int first = firstApplied.get(entry.index - 1);
        if (first != entry.serial) {
            wrong++;
        }
    }

    private void lookAtReads(Node leader) {
        for (int i = 0; i < leader.reads.size(); i++) {
            Read asked = leader.reads.get(i);
            if (!asked.done && isMajority(leader.confirming(asked.round, memberCount))) {
                asked.finish(leader.store);
                if (leader.commit < asked.asOf) {
                    wrong++;
                }
            }
        }
    }

    /** The node's STORE as of a REVISION; what comes back is for this call alone. */
    private Store storeAt(Node node, int revision) {
        Store store = node.store;
        int at = revision == 0 ? store.revision : revision;
        if (at > store.revision || at < store.compacted) {
            throw new IllegalStateException("the REVISION is above the latest, or before COMPACT");
        }
        scratch.copyFrom(store);
        scratch.goBackTo(at);
        return scratch;
    }

    /** A CONDITION (kind: what of the PAIR) or a STEP (number: its LEASE; other: VALUE or END). */
    private static final class Clause {
        final int kind;
        final byte[] key;
        final byte[] other;
        final int how;
        final int number;

        Clause(int kind, byte[] key, byte[] other, int how, int number) {
            this.kind = kind;
            this.key = key;
            this.other = other;
            this.how = how;
            this.number = number;
        }
    }

    private static final class Command {
        final ArrayList<Clause> conditions = new ArrayList<Clause>();
        final ArrayList<Clause> thenSteps = new ArrayList<Clause>();
        final ArrayList<Clause> elseSteps = new ArrayList<Clause>();

        int clauses() {
            return conditions.size() + thenSteps.size() + elseSteps.size();
        }

        int bytes() {
            return bytesOf(conditions) + bytesOf(thenSteps) + bytesOf(elseSteps);
        }

        private static int bytesOf(ArrayList<Clause> clauses) {
            int bytes = 0;
            for (int i = 0; i < clauses.size(); i++) {
                bytes += clauses.get(i).key.length + clauses.get(i).other.length;
            }
            return bytes;
        }
    }

    private static final class Entry {
        final int index;
        final int term;
        /** Tells ENTRIES of the same INDEX apart. */
        final int serial;
        final Command command;

        Entry(int index, int term, int serial, Command command) {
            this.index = index;
            this.term = term;
            this.serial = serial;
            this.command = command;
        }
    }

    /** Never changed once made, so STORES, SNAPSHOTS and HISTORY share it. */
    private static final class Pair {
        final byte[] key;
        final byte[] value;
        final int created;
        final int changed;
        final int version;
        final int lease;

        Pair(byte[] key, byte[] value, int created, int changed, int version, int lease) {
            this.key = key;
            this.value = value;
            this.created = created;
            this.changed = changed;
            this.version = version;
            this.lease = lease;
        }
    }

    /** One KEY of one REVISION in HISTORY; a chain never changed, so SNAPSHOTS share it. */
    private static final class Change {
        final int revision;
        final byte[] key;
        final Pair before;
        final Pair now;
        final Change earlier;

        Change(int revision, byte[] key, Pair before, Pair now, Change earlier) {
            this.revision = revision;
            this.key = key;
            this.before = before;
            this.now = now;
            this.earlier = earlier;
        }
    }

    /** A STORE as of an INDEX and its TERM; one that is never changed again is a SNAPSHOT. */
    private static final class Store {
        /** By KEY. */
        final ArrayList<Pair> pairs = new ArrayList<Pair>();
        final boolean[] leases = new boolean[MOST_LEASE + 1];
        int index;
        int term;
        int revision;
        Change latest;
        int compacted;
        /** Of the COMMAND applied last. */
        int deleted;
        boolean touched;

        /** All but COMPACT, which is a node's own. */
        void copyFrom(Store other) {
            index = other.index;
            term = other.term;
            revision = other.revision;
            latest = other.latest;
            pairs.clear();
            for (int i = 0; i < other.pairs.size(); i++) {
                pairs.add(other.pairs.get(i));
            }
            for (int i = 0; i < leases.length; i++) {
                leases[i] = other.leases[i];
            }
        }

        int leaseCount() {
            int held = 0;
            for (int i = 0; i < leases.length; i++) {
                held += leases[i] ? 1 : 0;
            }
            return held;
        }

        /** Of the first PAIR whose KEY isn't below. */
        int placeOf(byte[] key) {
            int low = 0;
            int high = pairs.size();
            for (int left = pairs.size(); left > 0 && low < high; left--) {
                int middle = (low + high) / 2;
                if (compareBytes(pairs.get(middle).key, key) < 0) {
                    low = middle + 1;
                } else {
                    high = middle;
                }
            }
            return low;
        }

        boolean isAt(int place, byte[] key) {
            return place < pairs.size() && compareBytes(pairs.get(place).key, key) == 0;
        }

        Pair find(byte[] key) {
            int place = placeOf(key);
            return isAt(place, key) ? pairs.get(place) : null;
        }

        int pairsInside(byte[] key, byte[] end) {
            int found = 0;
            for (int i = 0; i < pairs.size(); i++) {
                found += isInside(pairs.get(i).key, key, end) ? 1 : 0;
            }
            return found;
        }

        /** Null if there's none. */
        Pair pairInside(byte[] key, byte[] end, int which) {
            int before = 0;
            for (int i = 0; i < pairs.size(); i++) {
                boolean inside = isInside(pairs.get(i).key, key, end);
                if (inside && before == which) {
                    return pairs.get(i);
                }
                before += inside ? 1 : 0;
            }
            return null;
        }

        /** Answers what was done; before is room for what the STORE was. */
        int apply(Entry entry, Store before) {
            before.copyFrom(this);
            deleted = 0;
            touched = false;
            boolean hold = allHold(entry.command.conditions);
            boolean done = runAll(hold ? entry.command.thenSteps : entry.command.elseSteps) && pairs.size() <= MOST_PAIRS;
            if (!done) {
                copyFrom(before);
                deleted = 0;
            } else if (touched) {
                revision++;
                remember(before);
            }
            index = entry.index;
            term = entry.term;
            return !done ? BARRED : hold ? THEN_DONE : ELSE_DONE;
        }

        boolean allHold(ArrayList<Clause> conditions) {
            for (int i = 0; i < conditions.size(); i++) {
                Clause condition = conditions.get(i);
                Pair found = find(condition.key);
                int value = found == null ? 0 : numberOf(found, condition.kind);
                if (!isSo(value, condition.how, condition.number)) {
                    return false;
                }
            }
            return true;
        }

        static boolean isSo(int value, int how, int number) {
            switch (how) {
                case 0:
                    return value == number;
                case 1:
                    return value != number;
                case 2:
                    return value < number;
                default:
                    return value > number;
            }
        }

        static int numberOf(Pair found, int what) {
            switch (what) {
                case 0:
                    return found.created;
                case 1:
                    return found.changed;
                case 2:
                    return found.version;
                default:
                    return found.lease;
            }
        }

        /** False if a STEP bars the COMMAND. */
        boolean runAll(ArrayList<Clause> steps) {
            for (int i = 0; i < steps.size(); i++) {
                Clause step = steps.get(i);
                boolean done;
                switch (step.kind) {
                    case PUT:
                        done = runPut(step);
                        break;
                    case DELETE:
                        done = runDelete(step);
                        break;
                    case GRANT:
                        done = runGrant(step.number);
                        break;
                    default:
                        done = runRevoke(step.number);
                }
                if (!done) {
                    return false;
                }
            }
            return true;
        }

        boolean hasLease(int lease) {
            return lease >= 1 && lease < leases.length && leases[lease];
        }

        boolean runPut(Clause step) {
            if (step.number != 0 && !hasLease(step.number)) {
                return false;
            }
            touched = true;
            int now = revision + 1;
            int place = placeOf(step.key);
            if (isAt(place, step.key)) {
                Pair was = pairs.get(place);
                pairs.set(place, new Pair(was.key, step.other, was.created, now, was.version + 1, step.number));
            } else {
                pairs.add(place, new Pair(step.key, step.other, now, now, 1, step.number));
            }
            return true;
        }

        boolean runDelete(Clause step) {
            for (int i = pairs.size() - 1; i >= 0; i--) {
                if (isInside(pairs.get(i).key, step.key, step.other)) {
                    drop(i);
                }
            }
            return true;
        }

        void drop(int place) {
            pairs.remove(place);
            deleted++;
            touched = true;
        }

        boolean runGrant(int lease) {
            if (lease < 1 || lease >= leases.length || leases[lease]) {
                return false;
            }
            leases[lease] = true;
            return true;
        }

        boolean runRevoke(int lease) {
            if (!hasLease(lease)) {
                return false;
            }
            leases[lease] = false;
            for (int i = pairs.size() - 1; i >= 0; i--) {
                if (pairs.get(i).lease == lease) {
                    drop(i);
                }
            }
            return true;
        }

        /** HISTORY of the new REVISION, from the highest KEY down: the chain then begins with the lowest. */
        void remember(Store before) {
            int i = before.pairs.size() - 1;
            int j = pairs.size() - 1;
            for (int left = i + j + 2; left > 0 && (i >= 0 || j >= 0); left--) {
                Pair was = i >= 0 ? before.pairs.get(i) : null;
                Pair now = j >= 0 ? pairs.get(j) : null;
                int order = was == null ? -1 : now == null ? 1 : compareBytes(was.key, now.key);
                if (was != null && order > 0) {
                    latest = new Change(revision, was.key, was, null, latest);
                } else if (now != null && now.changed == revision) {
                    latest = new Change(revision, now.key, order == 0 ? was : null, now, latest);
                }
                i -= order >= 0 ? 1 : 0;
                j -= order <= 0 ? 1 : 0;
            }
        }

        void goBackTo(int earlierRevision) {
            while (latest != null && latest.revision > earlierRevision) {
                undo(latest);
                latest = latest.earlier;
            }
            revision = earlierRevision;
        }

        void undo(Change change) {
            int place = placeOf(change.key);
            boolean there = isAt(place, change.key);
            if (there) {
                pairs.remove(place);
            }
            if (change.before != null) {
                pairs.add(place, change.before);
            }
        }

        Change firstChange(int ofRevision) {
            Change change = latest;
            while (change != null && change.revision > ofRevision) {
                change = change.earlier;
            }
            return change;
        }

        int changesOf(int ofRevision) {
            int found = 0;
            Change change = firstChange(ofRevision);
            while (change != null && change.revision == ofRevision) {
                found++;
                change = change.earlier;
            }
            return found;
        }

        /** Null if there's none. */
        Change changeAt(int ofRevision, int i) {
            if (i < 0 || i >= changesOf(ofRevision)) {
                return null;
            }
            Change change = firstChange(ofRevision);
            for (int skip = i; skip > 0 && change != null; skip--) {
                change = change.earlier;
            }
            return change;
        }
    }

    /** A RECORD: an ENTRY, or a SNAPSHOT, or without both TERM and VOTE. */
    private static final class Written {
        final int term;
        final int vote;
        final Entry entry;
        final Store image;

        Written(int term, int vote) {
            this.term = term;
            this.vote = vote;
            this.entry = null;
            this.image = null;
        }

        Written(Entry entry) {
            this.term = 0;
            this.vote = NOBODY;
            this.entry = entry;
            this.image = null;
        }

        Written(Store image) {
            this.term = 0;
            this.vote = NOBODY;
            this.entry = null;
            this.image = image;
        }
    }

    /** What RECORDS come to: TERM, VOTE, LOG and SNAPSHOT (image). */
    private static final class Disk {
        /** From BASE + 1 on. */
        final ArrayList<Entry> log = new ArrayList<Entry>();
        int term;
        int vote = NOBODY;
        Store image;

        Disk(Store nothing) {
            image = nothing;
        }

        void wipe(Store nothing) {
            term = 0;
            vote = NOBODY;
            log.clear();
            image = nothing;
        }

        void copyFrom(Disk other) {
            term = other.term;
            vote = other.vote;
            image = other.image;
            log.clear();
            for (int i = 0; i < other.log.size(); i++) {
                log.add(other.log.get(i));
            }
        }

        int base() {
            return image.index;
        }

        int last() {
            return image.index + log.size();
        }

        /** Null if the LOG has none there. */
        Entry entryAt(int index) {
            int place = index - image.index - 1;
            return place >= 0 && place < log.size() ? log.get(place) : null;
        }

        /** -1 if neither LOG nor SNAPSHOT has that INDEX. */
        int termAt(int index) {
            if (index == image.index) {
                return image.term;
            }
            Entry found = entryAt(index);
            return found == null ? -1 : found.term;
        }

        int lastTerm() {
            return termAt(last());
        }

        Entry[] entriesFrom(int next) {
            int sent = Math.max(0, Math.min(MOST_SENT_ENTRIES, last() - next + 1));
            Entry[] found = new Entry[sent];
            for (int i = 0; i < sent; i++) {
                found[i] = entryAt(next + i);
            }
            return found;
        }

        void take(Written record) {
            if (record.entry != null) {
                takeEntry(record.entry);
            } else if (record.image != null) {
                takeImage(record.image);
            } else {
                term = record.term;
                vote = record.vote;
            }
        }

        private void takeEntry(Entry entry) {
            for (int i = log.size() - 1; i >= 0 && i >= entry.index - image.index - 1; i--) {
                log.remove(i);
            }
            log.add(entry);
        }

        /** ENTRIES behind it stay only if the LOG leads through it. */
        private void takeImage(Store taken) {
            int upToIt = taken.index - image.index;
            boolean through = upToIt >= 1 && upToIt <= log.size() && log.get(upToIt - 1).term == taken.term;
            int gone = through ? upToIt : log.size();
            for (int i = 0; i < gone && !log.isEmpty(); i++) {
                log.remove(0);
            }
            image = taken;
        }
    }

    private static final class Message {
        final int sort;
        final int from;
        final int to;
        final int term;
        /** LAST, PREV, INDEX or BASE. */
        final int index;
        /** LASTTERM, PREVTERM or BASETERM, or 1 for yes. */
        final int other;
        final int round;
        int commit;
        Entry[] entries;
        Store image;

        Message(int sort, int from, int to, int term, int index, int other, int round) {
            this.sort = sort;
            this.from = from;
            this.to = to;
            this.term = term;
            this.index = index;
            this.other = other;
            this.round = round;
        }

        int entryCount() {
            return entries == null ? 0 : entries.length;
        }
    }

    private static final class Read {
        final byte[] key;
        final int round;
        final int asOf;
        boolean done;
        Pair found;
        int revision;

        Read(byte[] key, int round, int asOf) {
            this.key = key;
            this.round = round;
            this.asOf = asOf;
        }

        void finish(Store store) {
            done = true;
            found = store.find(key);
            revision = store.revision;
        }
    }

    private static final class Node {
        final int id;
        /** As the node sees its DISK. */
        final Disk live;
        /** What of it is synced. */
        final Disk safe;
        final ArrayList<Written> unsynced = new ArrayList<Written>();
        final ArrayList<Message> outbox = new ArrayList<Message>();
        boolean down;
        int role;
        int leader = NOBODY;
        int commit;
        final Store store = new Store();
        /** Three numbers an ENTRY, from INDEX outcomeFloor + 1 on. */
        final ArrayList<Integer> outcomes = new ArrayList<Integer>();
        int outcomeFloor;
        final boolean[] granted = new boolean[MOST_NODES];
        final int[] next = new int[MOST_NODES];
        final int[] match = new int[MOST_NODES];
        final int[] confirmed = new int[MOST_NODES];
        int round;
        final ArrayList<Read> reads = new ArrayList<Read>();

        Node(int id, Store nothing) {
            this.id = id;
            live = new Disk(nothing);
            safe = new Disk(nothing);
        }

        void begin(Store nothing) {
            live.wipe(nothing);
            safe.wipe(nothing);
            unsynced.clear();
            outbox.clear();
            down = false;
            follow(NOBODY);
            loadImage();
        }

        void write(Written record) {
            live.take(record);
            unsynced.add(record);
        }

        /** The first RECORDS are synced, and none waits for it any more. */
        void keep(int records) {
            for (int i = 0; i < records && i < unsynced.size(); i++) {
                safe.take(unsynced.get(i));
            }
            unsynced.clear();
        }

        void fall(int records) {
            keep(records);
            live.copyFrom(safe);
            outbox.clear();
            follow(NOBODY);
            down = true;
        }

        void loadImage() {
            store.copyFrom(live.image);
            store.compacted = 0;
            commit = live.base();
            outcomeFloor = commit;
            outcomes.clear();
        }

        void noteOutcome(int done) {
            outcomes.add(done);
            outcomes.add(store.revision);
            outcomes.add(store.deleted);
        }

        int outcomeOf(int index, int what) {
            int place = (index - outcomeFloor - 1) * 3 + what;
            return place >= 0 && place < outcomes.size() ? outcomes.get(place) : 0;
        }

        void enterTerm(int term) {
            write(new Written(term, NOBODY));
            follow(NOBODY);
        }

        /** READS are a leader's, so they go. */
        void follow(int whom) {
            role = FOLLOWER;
            leader = whom;
            reads.clear();
        }

        void stand() {
            role = CANDIDATE;
            leader = NOBODY;
            write(new Written(live.term + 1, id));
            for (int i = 0; i < MOST_NODES; i++) {
                granted[i] = i == id;
            }
        }

        void takeLead() {
            role = LEADER;
            leader = id;
            round = 0;
            reads.clear();
            Arrays.fill(next, live.last() + 1);
            Arrays.fill(match, 0);
            Arrays.fill(confirmed, 0);
        }

        int votes() {
            int votes = 0;
            for (int i = 0; i < MOST_NODES; i++) {
                votes += granted[i] ? 1 : 0;
            }
            return votes;
        }

        int matching(int index, int nodes) {
            int found = 0;
            for (int i = 0; i < nodes && i < MOST_NODES; i++) {
                found += match[i] >= index ? 1 : 0;
            }
            return found;
        }

        int confirming(int ofRound, int nodes) {
            int found = 0;
            for (int i = 0; i < nodes && i < MOST_NODES; i++) {
                found += i == id || confirmed[i] >= ofRound ? 1 : 0;
            }
            return found;
        }

        int waitingReads() {
            int waiting = 0;
            for (int i = 0; i < reads.size(); i++) {
                waiting += reads.get(i).done ? 0 : 1;
            }
            return waiting;
        }
    }
}
