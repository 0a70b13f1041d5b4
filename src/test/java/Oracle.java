import java.math.BigInteger;
import java.util.*;

/**
 * The document anew, in the plainest and slowest way, with the Java library: maps, lists, sets, all orders tried.
 * It shares no code with WorkChains.
 */
final class Oracle {
    static final int[] MAX = {6, 14, 40, 8, 6};

    // ---- what is told

    static final class Net implements Cloneable {
        int step = 2, target = 10, start = 10, rule = 0, tie = 0, reward = 5;
        List<Integer> accounts = new ArrayList<>();
        Net with(int rule, int tie, int step) {
            Net n = new Net();
            n.step = step; n.target = target; n.start = start; n.rule = rule; n.tie = tie; n.reward = reward;
            n.accounts = accounts;
            return n;
        }
    }

    static final class Block {
        int number, time, maker = -1;
        Block parent;
        List<int[]> pays = new ArrayList<>();
        List<Block> way() {
            List<Block> w = parent == null ? new ArrayList<>() : parent.way();
            w.add(this);
            return w;
        }
    }

    /** One text, read: either a fault or lines of word and numbers. */
    static final class Text {
        int fault, place = -1;
        List<String[]> lines = new ArrayList<>();
    }

    static final class Told {
        byte[] tape = new byte[0];
        int fault, place = -1;
        List<List<Text>> texts = new ArrayList<>();
        Told() { for (int i = 0; i < 5; i++) texts.add(new ArrayList<>()); }
        Told copy() {
            Told t = new Told();
            t.tape = tape.clone(); t.fault = fault; t.place = place;
            for (int i = 0; i < 5; i++) t.texts.get(i).addAll(texts.get(i));
            return t;
        }
    }

    Told told = new Told();
    final Told[] images = new Told[3];

    // ---- the tape

    int feed(int... five) {
        if (told.tape.length + 20 > 600) return -1;
        java.nio.ByteBuffer b = java.nio.ByteBuffer.allocate(told.tape.length + 20);
        b.put(told.tape);
        for (int x : five) b.putInt(x);
        told.tape = b.array();
        return told.tape.length;
    }

    int end(int n) {
        if (n < 0 || n > told.tape.length) return -1;
        told.tape = Arrays.copyOf(told.tape, n);
        return n;
    }

    int text(int sort, int at) {
        byte[] tape = told.tape;
        told.tape = new byte[0];
        told.fault = 0;
        told.place = -1;
        if (sort < 0 || sort > 4) return -2;
        List<Text> there = told.texts.get(sort);
        if (at == -1 ? there.size() == 2 : at < 0 || at >= there.size()) return -2;
        Text t = read(sort, tape);
        told.fault = t.fault;
        told.place = t.place;
        if (t.fault != 0) return -1;
        if (at == -1) { there.add(t); return there.size() - 1; }
        there.set(at, t);
        return at;
    }

    int fault(int what) { return what == 0 ? told.fault : what == 1 ? told.place : -1; }
    int count(int sort) { return sort < 0 || sort > 4 ? -2 : told.texts.get(sort).size(); }
    boolean image(int k) { if (k < 0 || k > 2) return false; images[k] = told.copy(); return true; }
    boolean again(int k) { if (k < 0 || k > 2 || images[k] == null) return false; told = images[k].copy(); return true; }

    static Map<String, Integer> words(int sort) {
        Map<String, Integer> m = new LinkedHashMap<>();
        switch (sort) {
            case 0: for (String w : "step target start rule tie reward account".split(" ")) m.put(w, 1); break;
            case 1: m.put("block", 3); m.put("pay", 3); break;
            case 2: for (String w : "head body drop rule".split(" ")) m.put(w, 1); break;
            case 3: m.put("tip", 2); break;
            default: m.put("pay", 4);
        }
        return m;
    }

    /** Tokens by a pattern; then the grammar; then all faults of numbers and of too many, the first by place. */
    static Text read(int sort, byte[] tape) {
        Text out = new Text();
        String s = new String(tape, java.nio.charset.StandardCharsets.ISO_8859_1);
        java.util.regex.Matcher m = java.util.regex.Pattern.compile("[a-z]+|[0-9]+|[^ \n]").matcher(s);
        List<String> tokens = new ArrayList<>();
        List<Integer> places = new ArrayList<>();
        while (m.find()) { tokens.add(m.group()); places.add(m.start()); }
        tokens.add("");
        places.add(tape.length);
        int i = 0;
        List<List<Integer>> linePlaces = new ArrayList<>();
        while (!tokens.get(i).isEmpty()) {
            Integer wants = words(sort).get(tokens.get(i));
            int k = i;
            boolean good = wants != null;
            for (int j = 1; good && j <= wants; j++) {
                k = i + j;
                good = tokens.get(k).matches("[0-9]{1,2}");
            }
            if (good) { k++; good = tokens.get(k).equals(";"); }
            if (!good) { out.fault = 1; out.place = places.get(k); return out; }
            out.lines.add(tokens.subList(i, k).toArray(new String[0]));
            linePlaces.add(places.subList(i, k));
            i = k + 1;
        }
        TreeMap<Integer, Integer> faults = new TreeMap<>();
        int many = 0, pays = 0;
        for (int l = 0; l < out.lines.size(); l++) {
            String[] line = out.lines.get(l);
            List<Integer> at = linePlaces.get(l);
            int[] n = numbers(line);
            boolean counted = sort != 0 || line[0].equals("account");
            if (sort == 1 && line[0].equals("pay")) {
                if (many == 0 || ++pays > 3) faults.merge(at.get(0), 3, Math::min);
            } else if (counted) {
                pays = 0;
                if (++many > MAX[sort]) faults.merge(at.get(0), 3, Math::min);
            }
            for (int j = 0; j < n.length; j++) {
                if (!can(sort, line[0], n, j, many)) faults.merge(at.get(j + 1), 2, Math::min);
            }
        }
        if (!faults.isEmpty()) { out.fault = faults.firstEntry().getValue(); out.place = faults.firstKey(); }
        return out;
    }

    static int[] numbers(String[] line) {
        int[] n = new int[line.length - 1];
        for (int i = 0; i < n.length; i++) n[i] = Integer.parseInt(line[i + 1]);
        return n;
    }

    private static boolean can(int sort, String word, int[] n, int j, int many) {
        int v = n[j];
        switch (sort + word) {
            case "0step": return 1 <= v && v <= 9;
            case "0target": case "0start": return 1 <= v;
            case "0rule": case "0tie": case "2rule": return v <= 1;
            case "0reward": case "0account": return true;
            case "1block": return j == 0 ? v < many : j == 1 || v <= 5;
            case "1pay": case "4pay":
                return j == 0 ? v <= 5 : j == 1 ? v <= 5 && v != n[0] : j == 2 ? v >= 1 : v <= 9;
            case "2head": case "2body": case "2drop": return 1 <= v && v <= 14;
            default: return j == 0 ? v <= 40 : v <= 14;
        }
    }

    // ---- what is told, as objects

    Text textAt(int sort, int at) {
        List<Text> there = told.texts.get(sort);
        return at < 0 || at >= there.size() ? null : there.get(at);
    }

    Net netAt(int at) {
        Text t = textAt(0, at);
        if (t == null) return null;
        Net n = new Net();
        for (String[] l : t.lines) {
            int v = Integer.parseInt(l[1]);
            switch (l[0]) {
                case "step": n.step = v; break;
                case "target": n.target = v; break;
                case "start": n.start = v; break;
                case "rule": n.rule = v; break;
                case "tie": n.tie = v; break;
                case "reward": n.reward = v; break;
                default: n.accounts.add(v);
            }
        }
        return n;
    }

    List<Block> blocksAt(int at) {
        Text t = textAt(1, at);
        if (t == null) return null;
        List<Block> all = new ArrayList<>();
        all.add(new Block());
        for (String[] l : t.lines) {
            int[] n = numbers(l);
            if (l[0].equals("pay")) { all.get(all.size() - 1).pays.add(n); continue; }
            Block b = new Block();
            b.number = all.size();
            b.parent = all.get(n[0]);
            b.time = n[1];
            b.maker = n[2];
            all.add(b);
        }
        return all;
    }

    static Block at(List<Block> all, int k) { return k < 0 || k >= all.size() ? null : all.get(k); }

    int net(int net, int what) {
        Net n = netAt(net);
        if (n == null) return -1;
        int[] first = {n.step, n.target, n.start, n.rule, n.tie, n.reward, n.accounts.size()};
        if (what >= 0 && what < 7) return first[what];
        return what >= 10 && what - 10 < n.accounts.size() ? n.accounts.get(what - 10) : -1;
    }

    int block(int blocks, int k, int what) {
        List<Block> all = blocksAt(blocks);
        if (all == null) return -2;
        if (k == -1) return what == 0 ? all.size() - 1 : -2;
        Block b = at(all, k);
        if (b == null) return -2;
        if (what == 1) return b.time;
        if (what == 0) return k == 0 ? -1 : b.parent.number;
        if (what == 2) return k == 0 ? -1 : b.maker;
        if (what == 3) return k == 0 ? -1 : b.pays.size();
        for (int i = 0; i < b.pays.size(); i++) {
            for (int j = 0; j < 3; j++) if (what == 10 + j + 10 * i) return b.pays.get(i)[j];
        }
        return -2;
    }

    int deed(int feed, int k, int what) {
        Text t = textAt(2, feed);
        if (t == null) return -2;
        if (k == -1 && what == 0) return t.lines.size();
        if (k < 0 || k >= t.lines.size()) return -2;
        String[] l = t.lines.get(k);
        if (what == 0) return List.of("head", "body", "drop", "rule").indexOf(l[0]);
        return what == 1 ? Integer.parseInt(l[1]) : -2;
    }

    int rowPart(int sort, int at, int k, int what) {
        Text t = textAt(sort, at);
        if (t == null) return -2;
        if (k == -1 && what == 0) return t.lines.size();
        if (k < 0 || k >= t.lines.size()) return -2;
        int[] n = numbers(t.lines.get(k));
        return what < 0 || what >= n.length ? -2 : n[what];
    }

    // ---- blocks in a net

    static int height(Block b) { return b.way().size() - 1; }

    static long work(Net n, Block b) {
        if (b.parent == null) return n.start;
        long before = work(n, b.parent);
        if (height(b) % n.step != 0) return before;
        List<Block> way = b.parent.way();
        Block early = way.get(way.size() - 1 - (n.step - 1));
        int later = b.parent.time - early.time;
        if (later <= 0) later = 1;
        long w = before * n.target / later;
        if (w > before * 4) w = before * 4;
        if (w < before / 4) w = before / 4;
        return w < 1 ? 1 : w;
    }

    static long weight(Net n, Block b) {
        long all = 0;
        for (Block w : b.way()) all += work(n, w);
        return all;
    }

    static boolean pay(List<Integer> ledger, int[] p, int fee) {
        if (p[0] >= ledger.size() || p[1] >= ledger.size() || ledger.get(p[0]) < p[2] + fee) return false;
        ledger.set(p[0], ledger.get(p[0]) - p[2] - fee);
        ledger.set(p[1], ledger.get(p[1]) + p[2]);
        return true;
    }

    /** The ledger of a sound block, null of another. */
    static List<Integer> ledger(Net n, Block b) {
        if (b.parent == null) return new ArrayList<>(n.accounts);
        List<Integer> l = ledger(n, b.parent);
        if (l == null || b.time < b.parent.time || b.maker >= n.accounts.size()) return null;
        for (int[] p : b.pays) if (!pay(l, p, 0)) return null;
        l.set(b.maker, l.get(b.maker) + n.reward);
        return l;
    }

    static boolean sound(Net n, Block b) { return ledger(n, b) != null; }

    static List<Block> soundOnes(Net n, List<Block> all) {
        List<Block> s = new ArrayList<>();
        for (Block b : all) if (sound(n, b)) s.add(b);
        return s;
    }

    static long subtree(Net n, Block b, Collection<Block> among) {
        long all = 0;
        for (Block o : among) if (o.way().contains(b)) all += work(n, o);
        return all;
    }

    static int bits(Collection<Block> some) {
        int bits = 0;
        for (Block b : some) bits += 1 << b.number;
        return bits;
    }

    /** The tip of whole blocks, in the order in which they became whole. */
    static Block tip(Net n, int rule, int tie, List<Block> whole) {
        List<Block> order = new ArrayList<>(whole);
        if (tie == 1) order.sort(Comparator.comparingInt(b -> b.number));
        if (rule == 0) {
            Block best = null;
            for (Block b : order) if (best == null || weight(n, b) > weight(n, best)) best = b;
            return best;
        }
        Block tip = null;
        for (Block b : order) if (b.number == 0) tip = b;
        while (true) {
            Block best = null;
            for (Block b : order) {
                if (b.parent == tip && (best == null || subtree(n, b, whole) > subtree(n, best, whole))) best = b;
            }
            if (best == null) return tip;
            tip = best;
        }
    }

    /** The tip when blocks of a row come, heads and bodies together. */
    static Block tipOfRow(Net n, int rule, int tie, List<Block> all, List<Block> row) {
        Set<Block> came = new HashSet<>();
        came.add(all.get(0));
        List<Block> whole = new ArrayList<>();
        whole.add(all.get(0));
        for (Block b : row) {
            came.add(b);
            for (Block o : all) {
                if (!whole.contains(o) && came.contains(o) && whole.contains(o.parent) && sound(n, o)) whole.add(o);
            }
        }
        return tip(n, rule, tie, whole);
    }

    static Block tipWithout(Net n, int rule, List<Block> all, Set<Block> never) {
        List<Block> row = new ArrayList<>(all.subList(1, all.size()));
        row.removeAll(never);
        return tipOfRow(n, rule, n.tie, all, row);
    }

    static void orders(List<Block> rest, List<Block> row, java.util.function.Consumer<List<Block>> each) {
        if (rest.isEmpty()) { each.accept(row); return; }
        for (Block b : rest) {
            List<Block> less = new ArrayList<>(rest);
            less.remove(b);
            row.add(b);
            orders(less, row, each);
            row.remove(row.size() - 1);
        }
    }

    // ---- a course

    static final class Course {
        final Net net;
        final List<Block> all;
        int rule;
        Set<Block> heads = new LinkedHashSet<>(), bodies = new LinkedHashSet<>();
        List<Block> whole = new ArrayList<>();
        Block tip;
        int undone, done, switches, longest, first = -1, deeds;

        Course(Net net, List<Block> all) {
            this.net = net;
            this.all = all;
            rule = net.rule;
            tip = all.get(0);
            heads.add(tip);
            bodies.add(tip);
            whole.add(tip);
        }

        boolean act(String word, int number) {
            if (word.equals("rule")) {
                boolean another = rule != number;
                rule = number;
                if (!another) return false;
            } else {
                Block b = at(all, number);
                if (b == null || b.number == 0) return false;
                if (word.equals("head") && !heads.add(b)) return false;
                if (word.equals("body") && !bodies.add(b)) return false;
                if (word.equals("drop")) {
                    if (whole.contains(b)) return false;
                    boolean head = heads.remove(b), body = bodies.remove(b);
                    if (!head && !body) return false;
                }
            }
            for (Block b : all) {
                boolean now = !whole.contains(b) && heads.contains(b) && bodies.contains(b) && whole.contains(b.parent);
                if (now && sound(net, b)) whole.add(b);
            }
            Block to = Oracle.tip(net, rule, net.tie, whole);
            List<Block> back = tip.way(), forth = to.way();
            back.removeAll(to.way());
            forth.removeAll(tip.way());
            undone += back.size();
            done += forth.size();
            longest = Math.max(longest, back.size());
            if (to != tip && !to.way().contains(tip)) switches++;
            if (first == -1 && to.number != 0) first = deeds;
            tip = to;
            deeds++;
            return true;
        }

        void go(List<String[]> lines, int n) {
            for (int i = 0; i < n; i++) if (!act(lines.get(i)[0], Integer.parseInt(lines.get(i)[1]))) return;
        }

        int tell(int what) {
            List<Block> some = new ArrayList<>();
            switch (what) {
                case 0: return tip.number;
                case 1: return height(tip);
                case 2: return bits(whole);
                case 3:
                    for (Block b : heads) if (b.parent != null && !heads.contains(b.parent)) some.add(b);
                    return bits(some);
                case 4: return undone;
                case 5: return done;
                case 6: return rule;
                case 7: return headTip().number;
                case 8:
                    for (Block b : headTip().way()) if (!bodies.contains(b)) some.add(b);
                    return bits(some);
                default:
                    return what >= 10 && what - 10 < net.accounts.size() ? ledger(net, tip).get(what - 10) : -1;
            }
        }

        Block headTip() {
            Block best = null;
            for (Block b : all) {
                if (heads.containsAll(b.way()) && (best == null || weight(net, b) > weight(net, best))) best = b;
            }
            return best;
        }
    }

    int stop(int net, int blocks, int feed) {
        Course c = wholeCourse(net, blocks, feed);
        return c == null ? -1 : c.deeds;
    }

    Course wholeCourse(int net, int blocks, int feed) {
        if (netAt(net) == null || blocksAt(blocks) == null || textAt(2, feed) == null) return null;
        Course c = new Course(netAt(net), blocksAt(blocks));
        c.go(textAt(2, feed).lines, textAt(2, feed).lines.size());
        return c;
    }

    int state(int net, int blocks, int feed, int n, int what) {
        int stop = stop(net, blocks, feed);
        if (stop == -1 || n < 0 || n > stop) return -1;
        Course c = new Course(netAt(net), blocksAt(blocks));
        c.go(textAt(2, feed).lines, n);
        return c.tell(what);
    }

    int after(int net, int blocks, int feed, int what) {
        Course c = wholeCourse(net, blocks, feed);
        if (c == null) return -2;
        Set<Block> waiting = new HashSet<>(c.heads);
        waiting.addAll(c.bodies);
        waiting.removeAll(c.whole);
        int[] answers = {c.switches, c.undone, c.done, c.longest, bits(waiting), c.first};
        return what < 0 || what > 5 ? -2 : answers[what];
    }

    int drawn(int net, int blocks, int seed, int n, int what) {
        if (netAt(net) == null || blocksAt(blocks) == null || n < 0 || n > 60) return -1;
        Course c = new Course(netAt(net), blocksAt(blocks));
        long[] x = {seed & 0xffffffffL};
        java.util.function.IntUnaryOperator draw = below -> {
            x[0] = (x[0] * 1103515245L + 12345L) & 0xffffffffL;
            return (int) ((x[0] >> 16) % below);
        };
        for (int i = 0; i < n; i++) {
            int k = draw.applyAsInt(10);
            if (k == 9) c.act("rule", draw.applyAsInt(2));
            else if (c.all.size() > 1) c.act("hhhhbbbbd".charAt(k) == 'h' ? "head" : k < 8 ? "body" : "drop", 1 + draw.applyAsInt(c.all.size() - 1));
        }
        return c.tell(what);
    }

    // ---- all having come by numbers

    long work(int net, int blocks, int k, int what) {
        Net n = netAt(net);
        List<Block> all = blocksAt(blocks);
        Block b = all == null ? null : at(all, k);
        if (n == null || b == null) return -1;
        List<Integer> l = ledger(n, b);
        switch (what) {
            case 0: return height(b);
            case 1: return work(n, b);
            case 2: return weight(n, b);
            case 3: return l == null ? -1 : subtree(n, b, soundOnes(n, all));
            case 4: return l == null ? 0 : 1;
            default: return l == null || what < 10 || what - 10 >= l.size() ? -1 : l.get(what - 10);
        }
    }

    int tip(int net, int blocks, int what) {
        Net n = netAt(net);
        List<Block> all = blocksAt(blocks);
        if (n == null || all == null || what < 0 || what > 3) return -2;
        Block tip = tipWithout(n, n.rule, all, Set.of());
        if (what == 0) return tip.number;
        if (what == 1) {
            Set<Block> tips = new HashSet<>();
            orders(all.subList(1, all.size()), new ArrayList<>(), row -> tips.add(tipOfRow(n, n.rule, 0, all, row)));
            return bits(tips);
        }
        for (int size = 1; size <= 3; size++) {
            for (int bits = 0; bits < 1 << all.size(); bits += 2) {
                if (Integer.bitCount(bits) != size) continue;
                Set<Block> never = new HashSet<>();
                for (Block b : all) if ((bits >> b.number & 1) != 0) never.add(b);
                if (tipWithout(n, n.rule, all, never) != tip) return what == 2 ? size : bits;
            }
        }
        return -1;
    }

    int fill(int net, int blocks, int block, int pool, int k) {
        Net n = netAt(net);
        List<Block> all = blocksAt(blocks);
        Text t = textAt(4, pool);
        Block b = all == null ? null : at(all, block);
        if (n == null || b == null || t == null || !sound(n, b)) return -1;
        List<List<Integer>> rows = new ArrayList<>();
        rows.add(List.of());
        // shorter rows first, each length by numbers
        for (int i = 0; i < rows.size(); i++) {
            if (rows.get(i).size() == 3) continue;
            for (int j = 0; j < t.lines.size(); j++) {
                if (rows.get(i).contains(j)) continue;
                List<Integer> row = new ArrayList<>(rows.get(i));
                row.add(j);
                rows.add(row);
            }
        }
        int best = -1;
        List<Integer> bestRow = null;
        for (List<Integer> row : rows) {
            List<Integer> l = ledger(n, b);
            int fees = 0;
            boolean can = true;
            for (int i : row) {
                int[] p = numbers(t.lines.get(i));
                can = can && pay(l, p, p[3]);
                fees += p[3];
            }
            if (can && fees > best) { best = fees; bestRow = row; }
        }
        if (k == -1) return best;
        return k < 0 || k >= bestRow.size() ? -1 : bestRow.get(k);
    }

    int replay(int net, int blocks, int a, int b, boolean not) {
        Net n = netAt(net);
        List<Block> all = blocksAt(blocks);
        if (n == null || all == null || at(all, a) == null || at(all, b) == null) return -1;
        if (!sound(n, at(all, a)) || !sound(n, at(all, b))) return -1;
        List<Integer> l = ledger(n, at(all, b));
        List<Block> way = at(all, a).way();
        way.removeAll(at(all, b).way());
        int[] yesNo = new int[2];
        for (Block w : way) for (int[] p : w.pays) yesNo[pay(l, p, 0) ? 0 : 1]++;
        return yesNo[not ? 1 : 0];
    }

    int path(int blocks, int a, int b, int k) {
        List<Block> all = blocksAt(blocks);
        if (all == null || at(all, a) == null || at(all, b) == null) return -1;
        List<Block> row = at(all, a).way(), forth = at(all, b).way();
        row.removeAll(at(all, b).way());
        forth.removeAll(at(all, a).way());
        Collections.reverse(row);
        row.addAll(forth);
        if (k == -1) return row.size();
        return k < 0 || k >= row.size() ? -1 : row.get(k).number;
    }

    int meet(int blocks, int a, int b) {
        List<Block> all = blocksAt(blocks);
        if (all == null || at(all, a) == null || at(all, b) == null) return -1;
        List<Block> both = at(all, a).way();
        both.retainAll(at(all, b).way());
        return both.get(both.size() - 1).number;
    }

    long own(int net, int blocks, int account, int what) {
        Net n = netAt(net);
        List<Block> all = blocksAt(blocks);
        if (n == null || all == null || account < 0 || account >= n.accounts.size() || what < 0 || what > 3) return -2;
        Set<Block> made = new HashSet<>();
        for (Block b : all) if (b.maker == account) made.add(b);
        if (what == 0) return tipWithout(n, n.rule, all, made).number;
        List<Block> way = tipWithout(n, n.rule, all, Set.of()).way();
        way.remove(0);
        long whole = 0, part = 0;
        int how = 0;
        for (Block b : way) {
            whole += work(n, b);
            if (b.maker == account) { how++; part += work(n, b); }
        }
        if (what == 1) return how;
        if (way.isEmpty()) return -1;
        return fraction(BigInteger.valueOf(part), BigInteger.valueOf(whole), what == 3);
    }

    static long fraction(BigInteger a, BigInteger b, boolean under) {
        BigInteger g = a.gcd(b);
        return (under ? b : a).divide(g).longValueExact();
    }

    static long chance(int p, int z, int n, boolean under) {
        if (p < 0 || p > 10 || z < 0 || z > 6 || n < 0 || n > 12) return -1;
        BigInteger sum = BigInteger.ZERO;
        for (int row = 0; row < 1 << n; row++) {
            if (!catchesUp(row, z, n)) continue;
            int hits = Integer.bitCount(row);
            sum = sum.add(BigInteger.valueOf(p).pow(hits).multiply(BigInteger.valueOf(10 - p).pow(n - hits)));
        }
        return fraction(sum, BigInteger.TEN.pow(n), under);
    }

    static boolean catchesUp(int row, int z, int n) {
        int behind = z;
        boolean so = behind <= 0;
        for (int i = 0; i < n; i++) {
            behind += (row >> i & 1) != 0 ? -1 : 1;
            so |= behind <= 0;
        }
        return so;
    }

    static int race(int z, int n) {
        if (z < 0 || z > 6 || n < 0 || n > 6) return -1;
        int c = 0;
        for (int row = 0; row < 1 << n; row++) if (catchesUp(row, z, n)) c++;
        return c;
    }

    List<int[]> fitting(int net, int blocks, int feed, int log) {
        Net n = netAt(net);
        List<Block> all = blocksAt(blocks);
        Text f = textAt(2, feed), g = textAt(3, log);
        if (n == null || all == null || f == null || g == null) return null;
        List<int[]> out = new ArrayList<>();
        for (int number = 0; number < 40; number++) {
            int step = number % 10, tie = number / 10 % 2, rule = number / 20;
            if (step == 0) continue;
            int[] row = new int[42];
            Arrays.fill(row, -1);
            Course c = new Course(n.with(rule, tie, step), all);
            row[0] = 0;
            for (int i = 0; i < f.lines.size() && c.act(f.lines.get(i)[0], Integer.parseInt(f.lines.get(i)[1])); i++) row[i + 1] = c.tip.number;
            row[41] = number;
            boolean fits = true;
            for (String[] l : g.lines) fits &= row[numbers(l)[0]] == numbers(l)[1];
            if (fits) out.add(row);
        }
        return out;
    }

    int fits(int net, int blocks, int feed, int log, int what) {
        List<int[]> fit = fitting(net, blocks, feed, log);
        if (fit == null) return -2;
        if (what == 0) return fit.size();
        if (what >= 1 && what <= 3) {
            Set<Integer> values = new HashSet<>();
            for (int[] r : fit) values.add(what == 1 ? r[41] / 20 : what == 2 ? r[41] / 10 % 2 : r[41] % 10);
            return values.size() == 1 ? values.iterator().next() : -1;
        }
        if (what == 4) {
            if (fit.isEmpty()) return -1;
            int best = -1, least = 99;
            for (int n = 0; n <= 40; n++) {
                Map<Integer, Integer> groups = new HashMap<>();
                for (int[] r : fit) groups.merge(r[n], 1, Integer::sum);
                int greatest = Collections.max(groups.values());
                if (greatest < least) { least = greatest; best = n; }
            }
            return best;
        }
        return what >= 10 && what - 10 < fit.size() ? fit.get(what - 10)[41] : -2;
    }

    int odds(int net, int blocks, int feed, int log, int rule, boolean under) {
        List<int[]> fit = fitting(net, blocks, feed, log);
        if (fit == null || fit.isEmpty() || rule < 0 || rule > 1) return -1;
        long c = fit.stream().filter(r -> r[41] / 20 == rule).count();
        return (int) fraction(BigInteger.valueOf(c), BigInteger.valueOf(fit.size()), under);
    }

    int leaves(int net, int blocks, int what) {
        Net n = netAt(net);
        List<Block> all = blocksAt(blocks);
        if (n == null || all == null) return -2;
        List<Block> sound = soundOnes(n, all), some = new ArrayList<>();
        Comparator<Block> least = Comparator.comparingInt(b -> -b.number);
        switch (what) {
            case 0: return bits(leafOnes(sound));
            case 1: return (int) sound.stream().filter(b -> sound.stream().filter(c -> c.parent == b).count() >= 2).count();
            case 2: return Collections.max(sound, Comparator.comparingInt(Oracle::height).thenComparing(least)).number;
            case 3: return Collections.max(sound, Comparator.<Block>comparingLong(b -> work(n, b)).thenComparing(least)).number;
            case 4: some.addAll(all); some.removeAll(sound); return bits(some);
            case 5: return tipWithout(n, 0, all, Set.of()) == tipWithout(n, 1, all, Set.of()) ? 0 : 1;
            case 6:
                Course c = new Course(n, all);
                for (Block b : all.subList(1, all.size())) { c.act("head", b.number); c.act("body", b.number); }
                return c.longest;
            case 7:
                int even = 0;
                for (Block a : leafOnes(sound)) for (Block b : leafOnes(sound)) if (a != b && weight(n, a) == weight(n, b)) even++;
                return even / 2;
            case 8:
                for (Block b : sound) if (b.parent != null && work(n, b) != work(n, b.parent)) some.add(b);
                return bits(some);
            case 9:
                for (Block b : sound) if (b.parent != null && work(n, b) > work(n, b.parent)) some.add(b);
                if (some.isEmpty()) return -1;
                return Collections.max(some, Comparator.<Block>comparingLong(b -> work(n, b) - work(n, b.parent)).thenComparing(least)).number;
            default: return -2;
        }
    }

    static List<Block> leafOnes(List<Block> sound) {
        List<Block> leaves = new ArrayList<>(sound);
        for (Block b : sound) leaves.remove(b.parent);
        return leaves;
    }

    int root(int net, int blocks, int k, int what) {
        Net n = netAt(net);
        List<Block> all = blocksAt(blocks);
        Block b = all == null ? null : at(all, k);
        if (n == null || b == null) return -2;
        if (what == 0) {
            for (Block w : b.way()) if (!sound(n, w)) return w.number;
            return -1;
        }
        if (!sound(n, b)) return -2;
        if (what == 1) {
            List<Block> uncles = new ArrayList<>(), ahead = b.way();
            ahead.remove(b);
            ahead.remove(b.parent);
            for (Block u : soundOnes(n, all)) if (ahead.contains(u.parent) && !b.way().contains(u)) uncles.add(u);
            return bits(uncles);
        }
        if (what == 2) {
            List<Integer> l = ledger(n, b);
            return l.isEmpty() ? -1 : l.indexOf(Collections.max(l));
        }
        if (what < 10 || what - 10 >= n.accounts.size()) return -2;
        return (int) b.way().stream().filter(w -> w.maker == what - 10).count();
    }

    int gain(int net, int blocks, int account, int what) {
        Net n = netAt(net);
        List<Block> all = blocksAt(blocks);
        if (n == null || all == null || account < 0 || account >= n.accounts.size() || what < 0 || what > 2) return -1;
        TreeMap<Integer, List<Integer>> by = new TreeMap<>();
        for (Block b : soundOnes(n, all)) by.computeIfAbsent(ledger(n, b).get(account), x -> new ArrayList<>()).add(b.number);
        return what == 0 ? by.lastEntry().getValue().get(0) : what == 1 ? by.lastKey() : by.lastEntry().getValue().size();
    }

    int speed(int blocks, int block, int k) {
        List<Block> all = blocksAt(blocks);
        Block b = all == null ? null : at(all, block);
        if (b == null || k < 1 || k > 9 || height(b) < k) return -999;
        List<Block> way = b.way();
        return b.time - way.get(way.size() - 1 - k).time;
    }

    int twice(int net, int blocks, int account, int a, int b) {
        Net n = netAt(net);
        List<Block> all = blocksAt(blocks);
        if (n == null || all == null || account < 0 || account >= n.accounts.size()) return -9999;
        if (at(all, a) == null || at(all, b) == null || !sound(n, at(all, a)) || !sound(n, at(all, b))) return -9999;
        return ledger(n, at(all, a)).get(account) - ledger(n, at(all, b)).get(account);
    }
}
