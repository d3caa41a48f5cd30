import java.util.ArrayList;
import java.util.List;
import java.util.NoSuchElementException;
import java.util.TreeMap;
import java.util.TreeSet;

/**
 * The document once more, as plainly as can be: every value is copied, a DISK is
 * always worked out anew from all RECORDS, a STORE keeps all PAIRS of every REVISION.
 */
final class PlainModel {
    record Cond(String key, int what, int how, int number) { }
    record Step(int kind, String key, String other, int lease) { }
    record Cmd(List<Cond> conds, List<Step> thens, List<Step> elses) {
        int bytes() {
            int b = 0;
            for (Cond c : conds) b += c.key.length();
            for (Step s : thens) b += s.key.length() + s.other.length();
            for (Step s : elses) b += s.key.length() + s.other.length();
            return b;
        }
    }
    record Ent(int index, int term, Cmd cmd, int id) { }
    record P(String value, int created, int changed, int version, int lease) { }
    /** all.get(r): the PAIRS at REVISION r. */
    record S(List<TreeMap<String, P>> all, TreeSet<Integer> leases) {
        int revision() { return all.size() - 1; }
        TreeMap<String, P> pairs() { return all.get(all.size() - 1); }
    }
    record Snap(int base, int baseTerm, S store) { }
    record Out(int kind, int revision, int deleted) { }
    record Msg(int sort, int from, int to, int term, int index, int other, int round, int commit, List<Ent> entries, Snap snap) { }
    static final class Rd { String key; int round; int asOf; int[] done; }
    /** What is on a DISK. */
    static final class D { int term; int vote = -1; Snap snap = new Snap(0, 0, emptyStore()); TreeMap<Integer, Ent> log = new TreeMap<>(); 
        int last() { return log.isEmpty() ? snap.base : log.lastKey(); }
        int termAt(int i) { return i == snap.base ? snap.baseTerm : log.containsKey(i) ? log.get(i).term : -7; }
    }
    static final class N {
        int id; boolean down; List<Object> records = new ArrayList<>(); int synced;
        int role; int leader = -1; int commit; S store = emptyStore(); int compacted;
        TreeMap<Integer, Out> outs = new TreeMap<>(); List<Msg> outbox = new ArrayList<>();
        TreeSet<Integer> grants = new TreeSet<>();
        int[] next = new int[7]; int[] match = new int[7]; int[] conf = new int[7]; int round;
        List<Rd> reads = new ArrayList<>();
        D disk() { return disk(records.size()); }
        D disk(int n) {
            D d = new D();
            for (Object r : records.subList(0, n)) {
                if (r instanceof int[] tv) { d.term = tv[0]; d.vote = tv[1]; }
                if (r instanceof Ent e) { d.log.tailMap(e.index, true).clear(); d.log.put(e.index, e); }
                if (r instanceof Snap s) {
                    if (d.log.containsKey(s.base) && d.log.get(s.base).term == s.baseTerm) d.log.headMap(s.base, true).clear(); else d.log.clear();
                    d.snap = s;
                }
            }
            return d;
        }
    }

    static S emptyStore() { return new S(List.of(new TreeMap<>()), new TreeSet<>()); }

    String input = "";
    List<String> args = new ArrayList<>();
    List<Cond> conds = new ArrayList<>();
    List<Step> thens = new ArrayList<>();
    List<Step> elses = new ArrayList<>();
    List<N> ns = new ArrayList<>();
    List<Msg> net = new ArrayList<>();
    int lost, made, madeBytes, wrong, greatest;
    TreeMap<Integer, Integer> firstLeader = new TreeMap<>();
    TreeMap<Integer, Integer> firstApplied = new TreeMap<>();

    static RuntimeException bad() { return new IllegalArgumentException(); }
    static RuntimeException missing() { return new NoSuchElementException(); }
    static RuntimeException refused() { return new IllegalStateException(); }
    static RuntimeException full() { return new IndexOutOfBoundsException(); }

    void nodes(int n) {
        if (n < 1 || n > 7) throw bad();
        ns.clear(); net.clear(); forget(); lost = made = madeBytes = wrong = greatest = 0; firstLeader.clear(); firstApplied.clear();
        for (int i = 0; i < n; i++) { N x = new N(); x.id = i; ns.add(x); }
    }
    int feed(int a, int b, int c, int d, int e) {
        int all = input.length() + 20;
        for (String s : args) all += s.length();
        if (all > 2048) throw full();
        StringBuilder sb = new StringBuilder(input);
        for (int w : new int[] {a, b, c, d, e}) sb.append((char) (w >>> 24)).append((char) (w >>> 16 & 255)).append((char) (w >>> 8 & 255)).append((char) (w & 255));
        input = sb.toString();
        return input.length();
    }
    int end(int n) {
        if (n < 0 || n > 19 || n > input.length()) throw bad();
        args.add(input.substring(0, input.length() - n));
        if (args.size() > 2) args.remove(0);
        input = "";
        return args.size();
    }
    /** kinds: K for a KEY, V for a VALUE or an END. */
    private List<String> take(boolean numbersOk, String kinds) {
        List<String> got = new ArrayList<>(args);
        args.clear();
        if (!numbersOk || got.size() != kinds.length()) throw bad();
        for (int i = 0; i < got.size(); i++) {
            int len = got.get(i).length();
            if (kinds.charAt(i) == 'K' ? len < 1 || len > 32 : len > 64) throw bad();
        }
        return got;
    }
    void when(int what, int how, int number) {
        String k = take(what >= 0 && what <= 3 && how >= 0 && how <= 3, "K").get(0);
        if (conds.size() == 4) throw full();
        conds.add(new Cond(k, what, how, number));
    }
    private void step(int branch, Step s) {
        List<Step> l = branch == 1 ? thens : elses;
        if (l.size() == 6) throw full();
        l.add(s);
    }
    void put(int branch, int lease) {
        List<String> a = take((branch | 1) == 1 && lease >= 0 && lease <= 99, "KV");
        step(branch, new Step(0, a.get(0), a.get(1), lease));
    }
    void erase(int branch) {
        List<String> a = take((branch | 1) == 1, "KV");
        step(branch, new Step(1, a.get(0), a.get(1), 0));
    }
    void lease(int branch, int lease, boolean revoke) {
        take((branch | 1) == 1 && lease >= 1 && lease <= 99, "");
        step(branch, new Step(revoke ? 3 : 2, "", "", lease));
    }
    private N up(int node) {
        if (node < 0 || node >= ns.size() || ns.get(node).down) throw missing();
        return ns.get(node);
    }
    int propose(int node) {
        N x = up(node);
        if (x.role != 2) throw refused();
        Cmd c = new Cmd(List.copyOf(conds), List.copyOf(thens), List.copyOf(elses));
        if (made + 1 > 1500 || madeBytes + c.bytes() > 40000) throw full();
        made++; madeBytes += c.bytes();
        int index = x.disk().last() + 1;
        x.records.add(new Ent(index, x.disk().term, c, made));
        forget();
        for (N o : ns) if (o != x) append(x, o);
        return index;
    }
    void forget() { conds.clear(); thens.clear(); elses.clear(); }
    void rise(int node) {
        N x = up(node);
        if (x.role == 2) throw refused();
        if (ns.size() == 1 && made == 1500) throw full();
        x.records.add(new int[] {x.disk().term + 1, node});
        x.role = 1; x.leader = -1;
        x.grants.clear(); x.grants.add(node);
        D d = x.disk();
        for (N o : ns) if (o != x) send(x, new Msg(1, node, o.id, d.term, d.last(), d.termAt(d.last()), 0, 0, List.of(), null));
        if (ns.size() == 1) lead(x);
    }
    void beat(int node) {
        N x = up(node);
        if (x.role != 2) throw refused();
        for (N o : ns) if (o != x) append(x, o);
    }
    int sync(int node) {
        N x = up(node);
        x.synced = x.records.size();
        int had = net.size();
        List<Msg> o = x.outbox;
        x.outbox = new ArrayList<>();
        for (Msg m : o) send(x, m);
        int more = net.size() - had;
        if (x.role == 2) { x.match[node] = x.disk().last(); seekCommit(x); }
        return more;
    }
    void crash(int node, int keep) {
        N x = up(node);
        if (keep < 0 || keep > x.records.size() - x.synced) throw bad();
        N y = new N();
        y.id = node; y.down = true;
        y.records = new ArrayList<>(x.records.subList(0, x.synced + keep));
        y.synced = y.records.size();
        ns.set(node, y);
    }
    void start(int node) {
        if (node < 0 || node >= ns.size() || !ns.get(node).down) throw missing();
        N x = ns.get(node);
        x.down = false;
        fromSnap(x);
    }
    private void fromSnap(N x) {
        D d = x.disk();
        x.commit = d.snap.base; x.store = d.snap.store; x.compacted = 0; x.outs.clear();
    }
    void lose(int i) {
        if (i < 0 || i >= net.size()) throw missing();
        net.remove(i);
    }
    int snapshot(int node) {
        N x = up(node);
        D d = x.disk();
        if (x.commit == d.snap.base) throw refused();
        x.records.add(new Snap(x.commit, d.termAt(x.commit), x.store));
        return x.commit;
    }
    int read(int node) {
        String k = take(true, "K").get(0);
        N x = up(node);
        D d = x.disk();
        if (x.role != 2 || d.termAt(x.commit) != d.term) throw refused();
        if (told(node, 12) == 16) throw full();
        x.round++;
        Rd r = new Rd();
        r.key = k; r.round = x.round; r.asOf = greatest;
        x.reads.add(r);
        for (N o : ns) if (o != x) append(x, o);
        seekReads(x);
        return x.reads.size() - 1;
    }
    int answer(int node, int i, int what) {
        if (what < 0 || what > 3) throw bad();
        N x = up(node);
        if (i < 0 || i >= x.reads.size() || x.reads.get(i).done == null) throw missing();
        return x.reads.get(i).done[what];
    }
    private TreeMap<String, P> at(N x, int revision) {
        if (revision == 0) return x.store.pairs();
        if (revision > x.store.revision() || revision < x.compacted) throw refused();
        return x.store.all.get(revision);
    }
    int pair(int node, int revision, int what) {
        String k = take(what >= 0 && what <= 5 && revision >= 0, "K").get(0);
        P p = at(up(node), revision).get(k);
        if (p == null) return 0;
        return new int[] {1, p.created, p.changed, p.version, p.lease, p.value.length()}[what];
    }
    static boolean in(String k, String from, String end) {
        if (end.isEmpty()) return k.equals(from);
        return k.compareTo(from) >= 0 && (end.equals("\0") || k.compareTo(end) < 0);
    }
    int range(int node, int revision, int what, int i, int k) {
        List<String> a = take(what >= 0 && what <= 3 && revision >= 0, "KV");
        TreeMap<String, P> all = at(up(node), revision);
        List<String> found = new ArrayList<>();
        for (String key : all.keySet()) if (in(key, a.get(0), a.get(1))) found.add(key);
        if (what == 0) return found.size();
        if (i < 0 || i >= found.size()) throw missing();
        String key = found.get(i);
        if (what == 1) return key.length();
        return byteOf(what == 2 ? key : all.get(key).value, k);
    }
    static int byteOf(String s, int k) {
        if (k < 0 || k >= s.length()) throw missing();
        return s.charAt(k);
    }
    int event(int node, int revision, int what, int i, int k) {
        if (what < 0 || what > 3) throw bad();
        N x = up(node);
        if (revision < 1 || revision > x.store.revision()) throw missing();
        if (revision < x.compacted) throw refused();
        TreeMap<String, P> was = x.store.all.get(revision - 1);
        TreeMap<String, P> is = x.store.all.get(revision);
        TreeSet<String> keys = new TreeSet<>(was.keySet());
        keys.addAll(is.keySet());
        keys.removeIf(q -> was.containsKey(q) && is.containsKey(q) && was.get(q).equals(is.get(q)));
        if (what == 0) return keys.size();
        if (i < 0 || i >= keys.size()) throw missing();
        String key = new ArrayList<>(keys).get(i);
        if (what == 1) return is.containsKey(key) ? 0 : 1;
        if (what == 2) return key.length();
        return byteOf(key, k);
    }
    void compact(int node, int revision) {
        N x = up(node);
        if (revision < x.compacted || revision > x.store.revision()) throw refused();
        x.compacted = revision;
    }
    int outcome(int node, int index, int what) {
        if (what < 0 || what > 2) throw bad();
        Out o = up(node).outs.get(index);
        if (o == null) throw missing();
        return new int[] {o.kind, o.revision, o.deleted}[what];
    }
    int message(int i, int what) {
        if (what < 0 || what > 8) throw bad();
        if (i < 0 || i >= net.size()) throw missing();
        Msg m = net.get(i);
        return new int[] {m.sort, m.from, m.to, m.term, m.index, m.other, m.entries.size(), m.round, m.commit}[what];
    }
    int told(int node, int what) {
        if (what < 0 || what > 14) throw bad();
        if (node < 0 || node >= ns.size()) throw missing();
        N x = ns.get(node);
        D d = x.disk();
        int waiting = 0;
        for (Rd r : x.reads) if (r.done == null) waiting++;
        if (x.down) return new int[] {1, d.term, d.vote, 0, -1, d.last(), 0, d.snap.base, 0, 0, 0, 0, 0, d.termAt(d.last()), 0}[what];
        return new int[] {0, d.term, d.vote, x.role, x.leader, d.last(), x.commit, d.snap.base, x.store.revision(), x.outbox.size(),
            x.records.size() - x.synced, x.store.pairs().size(), waiting, d.termAt(d.last()), x.store.leases.size()}[what];
    }
    int count(int what) {
        switch (what) {
            case 0: return input.length();
            case 1: return args.size();
            case 2: return net.size();
            case 3: return lost;
            case 4: return conds.size() + thens.size() + elses.size();
            case 5: return made;
            case 6: return wrong;
            default: return -1;
        }
    }

    private void send(N x, Msg m) {
        if (x.synced < x.records.size()) x.outbox.add(m);
        else if (net.size() == 200) lost++;
        else net.add(m);
    }
    private void append(N x, N o) {
        D d = x.disk();
        int next = x.next[o.id];
        if (next <= d.snap.base) { send(x, new Msg(5, x.id, o.id, d.term, d.snap.base, d.snap.baseTerm, x.round, 0, List.of(), d.snap)); return; }
        List<Ent> es = new ArrayList<>();
        for (int i = next; i <= d.last() && es.size() < 4; i++) es.add(d.log.get(i));
        send(x, new Msg(3, x.id, o.id, d.term, next - 1, d.termAt(next - 1), x.round, x.commit, es, null));
    }
    private void lead(N x) {
        D d = x.disk();
        x.role = 2; x.leader = x.id; x.round = 0; x.reads.clear();
        for (int i = 0; i < 7; i++) { x.next[i] = d.last() + 1; x.match[i] = 0; x.conf[i] = 0; }
        if (firstLeader.computeIfAbsent(d.term, t -> x.id) != x.id) wrong++;
        made++;
        x.records.add(new Ent(d.last() + 1, d.term, new Cmd(List.of(), List.of(), List.of()), made));
        for (N o : ns) if (o != x) append(x, o);
    }
    private void commit(N x, int to) {
        while (x.commit < to) {
            x.commit++;
            Ent e = x.disk().log.get(x.commit);
            x.outs.put(x.commit, apply(x, e.cmd));
            if (firstApplied.computeIfAbsent(x.commit, t -> e.id) != e.id) wrong++;
        }
        greatest = Math.max(greatest, x.commit);
    }
    private void seekCommit(N x) {
        D d = x.disk();
        int best = 0;
        for (Ent e : d.log.values()) {
            int have = 0;
            for (N o : ns) if (x.match[o.id] >= e.index) have++;
            if (e.term == d.term && have > ns.size() / 2) best = e.index;
        }
        commit(x, best);
    }
    private void seekReads(N x) {
        for (Rd r : x.reads) {
            if (r.done != null) continue;
            int have = 1;
            for (N o : ns) if (o != x && x.conf[o.id] >= r.round) have++;
            if (have <= ns.size() / 2) continue;
            P p = x.store.pairs().get(r.key);
            r.done = new int[] {p == null ? 0 : 1, p == null ? 0 : p.changed, p == null ? 0 : p.version, x.store.revision()};
            if (x.commit < r.asOf) wrong++;
        }
    }
    private static Out apply(N x, Cmd c) {
        TreeMap<String, P> pairs = new TreeMap<>(x.store.pairs());
        TreeSet<Integer> leases = new TreeSet<>(x.store.leases);
        int now = x.store.revision() + 1;
        boolean all = true;
        for (Cond q : c.conds) {
            P p = pairs.get(q.key);
            int v = p == null ? 0 : new int[] {p.created, p.changed, p.version, p.lease}[q.what];
            all &= new boolean[] {v == q.number, v != q.number, v < q.number, v > q.number}[q.how];
        }
        int deleted = 0;
        boolean any = false;
        for (Step s : all ? c.thens : c.elses) {
            boolean has = leases.contains(s.lease);
            if (s.kind == 0) {
                if (s.lease != 0 && !has) return new Out(2, now - 1, 0);
                P p = pairs.get(s.key);
                pairs.put(s.key, new P(s.other, p == null ? now : p.created, now, p == null ? 1 : p.version + 1, s.lease));
                any = true;
            } else if (s.kind == 2) {
                if (!leases.add(s.lease)) return new Out(2, now - 1, 0);
            } else {
                if (s.kind == 3 && !leases.remove(s.lease)) return new Out(2, now - 1, 0);
                int had = pairs.size();
                if (s.kind == 3) pairs.values().removeIf(p -> p.lease == s.lease); else pairs.keySet().removeIf(k -> in(k, s.key, s.other));
                deleted += had - pairs.size();
                any |= had != pairs.size();
            }
        }
        if (pairs.size() > 200) return new Out(2, now - 1, 0);
        List<TreeMap<String, P>> hist = new ArrayList<>(x.store.all);
        if (any) hist.add(pairs);
        x.store = new S(hist, leases);
        return new Out(all ? 1 : 0, hist.size() - 1, deleted);
    }
    private void follow(N x, int leader) { x.role = 0; x.leader = leader; x.reads.clear(); }

    void deliver(int i, boolean stay) {
        if (i < 0 || i >= net.size()) throw missing();
        Msg m = net.get(i);
        N x = ns.get(m.to);
        if (!x.down && made == 1500 && m.sort == 2 && m.other == 1 && x.role == 1 && x.disk().term == m.term) {
            TreeSet<Integer> g = new TreeSet<>(x.grants);
            g.add(m.from);
            if (g.size() > ns.size() / 2) throw full();
        }
        if (!stay) net.remove(i);
        if (x.down) return;
        if (m.term > x.disk().term) { x.records.add(new int[] {m.term, -1}); follow(x, -1); }
        D d = x.disk();
        if (m.sort == 1) {
            boolean ok = m.term == d.term && (d.vote == -1 || d.vote == m.from);
            ok &= m.other > d.termAt(d.last()) || m.other == d.termAt(d.last()) && m.index >= d.last();
            if (ok && d.vote == -1) x.records.add(new int[] {d.term, m.from});
            send(x, new Msg(2, x.id, m.from, d.term, 0, ok ? 1 : 0, 0, 0, List.of(), null));
        } else if (m.sort == 2) {
            if (x.role == 1 && m.term == d.term && m.other == 1) {
                x.grants.add(m.from);
                if (x.grants.size() > ns.size() / 2) lead(x);
            }
        } else if (m.sort == 4) {
            if (x.role == 2 && m.term == d.term) taken(x, m);
        } else if (m.term < d.term) {
            reply(x, m, 0, 0, 0);
        } else {
            follow(x, m.from);
            if (m.sort == 3) appended(x, m, d);
            else {
                if (m.index > x.commit) {
                    x.records.add(m.snap);
                    fromSnap(x);
                    greatest = Math.max(greatest, x.commit);
                }
                reply(x, m, 1, m.index, m.round);
            }
        }
    }
    private void reply(N x, Msg m, int yes, int index, int round) {
        send(x, new Msg(4, x.id, m.from, x.disk().term, index, yes, round, 0, List.of(), null));
    }
    private void appended(N x, Msg m, D d) {
        if (m.index > d.last() || m.index >= d.snap.base && d.termAt(m.index) != m.other) {
            reply(x, m, 0, Math.min(m.index - 1, d.last()), m.round);
            return;
        }
        for (Ent e : m.entries) {
            D now = x.disk();
            if (e.index > now.snap.base && !(now.log.containsKey(e.index) && now.log.get(e.index).term == e.term)) x.records.add(e);
        }
        commit(x, Math.min(m.commit, m.index + m.entries.size()));
        reply(x, m, 1, m.index + m.entries.size(), m.round);
    }
    private void taken(N x, Msg m) {
        int o = m.from;
        if (m.round > x.conf[o]) x.conf[o] = m.round;
        if (m.other == 1) {
            if (m.index > x.match[o]) x.match[o] = m.index;
            if (x.match[o] + 1 > x.next[o]) x.next[o] = x.match[o] + 1;
            seekCommit(x);
            if (m.index >= x.next[o] - 1 && x.next[o] <= x.disk().last()) append(x, ns.get(o));
        } else {
            x.next[o] = Math.max(x.match[o] + 1, m.index + 1);
            append(x, ns.get(o));
        }
        seekReads(x);
    }
}
