import java.util.*;

/** Runs of calls by a seed, on WorkChains and on the oracle, that have to answer alike. */
public final class OracleTest {
    private static final Due DUE = new Due();
    private static Random random;
    private static WorkChains x;
    private static Oracle o;

    public static void main(String[] args) {
        int from = args.length > 0 ? Integer.parseInt(args[0]) : 1;
        int to = args.length > 1 ? Integer.parseInt(args[1]) : 1500;
        for (int seed = from; seed <= to; seed++) {
            random = new Random(seed);
            x = new WorkChains();
            o = new Oracle();
            int size = seed % 5 == 0 ? 14 : 1 + random.nextInt(5);
            for (int sort = 0; sort < 5; sort++) if (random.nextInt(8) > 0) tell(sort, goodText(sort, size), -1);
            for (int call = 0; call < 120; call++) any("seed " + seed + ", call " + call + ": ", size);
        }
        DUE.close("OracleTest");
    }

    private static int below(int n) { return random.nextInt(n); }
    private static boolean one(int in) { return random.nextInt(in) == 0; }
    private static int near(int least, int most) { return least - 1 + below(most - least + 3); }

    // ---- texts

    private static String goodText(int sort, int size) {
        StringBuilder s = new StringBuilder();
        switch (sort) {
            case 0:
                String[] words = {"step", "target", "start", "rule", "tie", "reward"};
                int[] least = {1, 1, 1, 0, 0, 0}, most = {9, 99, 99, 1, 1, 99};
                for (int i = 0; i < 6; i++) {
                    if (!one(3)) s.append(words[i]).append(' ').append(i == 0 ? 1 + below(4) : least[i] + below(most[i] - least[i] + 1)).append(';');
                }
                for (int i = below(7); i > 0; i--) s.append("account ").append(below(100)).append(';');
                return s.toString();
            case 1: return goodBlocks(size);
            case 2: return goodFeed(size);
            case 3:
                for (int i = below(4); i > 0; i--) s.append("tip ").append(below(one(4) ? 41 : 12)).append(' ').append(below(size + 1)).append(';');
                return s.toString();
            default:
                for (int i = below(7); i > 0; i--) s.append("pay ").append(twoUnlike()).append(' ').append(1 + below(30)).append(' ').append(below(10)).append(';');
                return s.toString();
        }
    }

    private static String twoUnlike() {
        int bound = one(8) ? 6 : 3;
        int a = below(bound);
        return a + " " + (a + 1 + below(bound - 1)) % bound;
    }

    private static String goodBlocks(int size) {
        StringBuilder s = new StringBuilder();
        int[] time = new int[15];
        int slack = one(2) ? 3 : 12;
        for (int k = 1; k <= size; k++) {
            int parent = one(3) ? k - 1 : below(k);
            time[k] = Math.max(0, Math.min(99, time[parent] + below(slack) - (one(14) ? 2 : 0)));
            s.append("block ").append(parent).append(' ').append(time[k]).append(' ').append(below(one(10) ? 6 : 3)).append(';');
            for (int i = below(5) - 2; i > 0; i--) s.append("pay ").append(twoUnlike()).append(' ').append(1 + below(one(6) ? 99 : 9)).append(';');
        }
        return s.toString();
    }

    private static String goodFeed(int size) {
        List<String> deeds = new ArrayList<>();
        for (int k = 1; k <= size; k++) {
            deeds.add("head " + k);
            if (!one(7)) deeds.add("body " + k);
        }
        if (one(2)) Collections.shuffle(deeds, random);
        for (int i = below(4); i > 0; i--) deeds.add(below(deeds.size() + 1), one(3) ? "drop " + (1 + below(size)) : "rule " + below(2));
        alternateRules(deeds);
        StringBuilder s = new StringBuilder();
        for (String d : deeds.subList(0, Math.min(40, deeds.size()))) s.append(d).append(';');
        return s.toString();
    }

    /** Most rules are another one than that ahead, so that feeds go on, but some are not. */
    private static void alternateRules(List<String> deeds) {
        int rule = below(2);
        for (int i = 0; i < deeds.size(); i++) {
            if (!deeds.get(i).startsWith("rule")) continue;
            if (!one(5)) deeds.set(i, "rule " + (1 - rule));
            rule = deeds.get(i).charAt(5) - '0';
        }
    }

    /** A text that is spoiled at some places. */
    private static String badText(int sort, int size) {
        StringBuilder s = new StringBuilder(goodText(sort, size));
        if (one(3)) s.append(goodText(sort, size));
        if (one(6)) s.append(goodText(sort, size));
        String bits = " \n;;0123456789 9 12 abdehikloprtuy\t-A{\u00e9";
        for (int i = below(4); i > 0; i--) {
            int at = below(s.length() + 1);
            if (one(3) && at < s.length()) s.deleteCharAt(at);
            else if (one(2) && at < s.length()) s.setCharAt(at, bits.charAt(below(bits.length())));
            else s.insert(at, bits.charAt(below(bits.length())));
        }
        return s.length() > 600 ? s.substring(0, 600) : s.toString();
    }

    private static void tell(int sort, String text, int at) {
        if (text.length() > 600) return;
        Due.put(x, text);
        for (int i = 0, n = text.length(); i < n; i += 20) o.feed(Due.five(text.getBytes(java.nio.charset.StandardCharsets.ISO_8859_1), i));
        o.end(text.length());
        String call = "text(" + sort + ", " + at + ") of " + text;
        DUE.due(call, x.text(sort, at), o.text(sort, at));
        DUE.due(call + ": fault(0)", x.fault(0), o.fault(0));
        DUE.due(call + ": fault(1)", x.fault(1), o.fault(1));
    }

    // ---- calls

    private static int place() { return one(7) ? below(4) - 1 : 0; }
    private static int account() { return one(6) ? below(9) - 1 : below(3); }
    private static int accountWhat(int most) { return one(3) ? 9 + below(8) : near(0, most); }

    private static void any(String at, int size) {
        int k = one(10) ? near(0, 15) : below(size + 1);
        int l = one(10) ? near(0, 15) : below(size + 1);
        int n = place(), b = place(), f = place(), g = place();
        boolean yes = one(2);
        switch (below(24)) {
            case 0: telling(size); return;
            case 1: told(at, n, b, k); return;
            case 2: course(at, n, b, f, size); return;
            case 3: case 4: works(at, n, b, k); return;
            case 5: fillings(at, n, b, k, f); return;
            case 6: DUE.due(at + "replay", x.replay(n, b, k, l, yes), o.replay(n, b, k, l, yes)); return;
            case 7: int p = near(-1, 8); DUE.due(at + "path", x.path(b, k, l, p), o.path(b, k, l, p)); return;
            case 8: DUE.due(at + "meet", x.meet(b, k, l), o.meet(b, k, l)); return;
            case 9: int a = account(), w = near(0, 3); DUE.due(at + "own", x.own(n, b, a, w), o.own(n, b, a, w)); return;
            case 10: case 11: laws(at, n, b, f, g, yes); return;
            case 12: case 13: int m = near(0, 9); DUE.due(at + "leaves " + m, x.leaves(n, b, m), o.leaves(n, b, m)); return;
            case 14: case 15: int r = accountWhat(2); DUE.due(at + "root " + r, x.root(n, b, k, r), o.root(n, b, k, r)); return;
            case 16: int c = account(), v = near(0, 2); DUE.due(at + "gain", x.gain(n, b, c, v), o.gain(n, b, c, v)); return;
            case 17: int s = near(1, 9); DUE.due(at + "speed", x.speed(b, k, s), o.speed(b, k, s)); return;
            case 18: int d = account(); DUE.due(at + "twice", x.twice(n, b, d, k, l), o.twice(n, b, d, k, l)); return;
            case 19: int e = near(0, 5); DUE.due(at + "after " + e, x.after(n, b, f, e), o.after(n, b, f, e)); return;
            case 20: case 21: drawn(at, n, b); return;
            case 22: tips(at, n, b, size); return;
            default: images(at); return;
        }
    }

    private static void telling(int size) {
        int sort = one(12) ? near(0, 4) : below(5);
        int at = one(2) ? -1 : place();
        String text = one(2) ? badText(Math.max(0, Math.min(4, sort)), size) : goodText(Math.max(0, Math.min(4, sort)), size);
        if (one(10)) text = text + ";".repeat(below(9));
        tell(sort, text, at);
        int n = near(0, 4);
        DUE.due("count(" + n + ")", x.count(n), o.count(n));
    }

    private static void told(String at, int n, int b, int k) {
        for (int what = -1; what < 17; what++) DUE.due(at + "net " + what, x.net(n, what), o.net(n, what));
        for (int what = -1; what < 45; what++) DUE.due(at + "block " + what, x.block(b, k, what), o.block(b, k, what));
        int r = near(-1, 9);
        for (int what = -1; what < 6; what++) {
            DUE.due(at + "block(, NONE, " + what, x.block(b, -1, what), o.block(b, -1, what));
            DUE.due(at + "deed " + what, x.deed(n, r, what), o.deed(n, r, what));
            DUE.due(at + "fact " + what, x.fact(n, r, what), o.rowPart(3, n, r, what));
            DUE.due(at + "pool " + what, x.pool(n, r, what), o.rowPart(4, n, r, what));
        }
    }

    private static void course(String at, int n, int b, int f, int size) {
        DUE.due(at + "stop", x.stop(n, b, f), o.stop(n, b, f));
        int deeds = one(5) ? near(0, 40) : below(2 * size + 2);
        for (int what = -1; what < 14; what++) DUE.due(at + "state " + what, x.state(n, b, f, deeds, what), o.state(n, b, f, deeds, what));
    }

    private static void works(String at, int n, int b, int k) {
        for (int what = -1; what < 14; what++) DUE.due(at + "work " + what, x.work(n, b, k, what), o.work(n, b, k, what));
    }

    private static void fillings(String at, int n, int b, int k, int pool) {
        for (int i = -2; i < 4; i++) DUE.due(at + "fill " + i, x.fill(n, b, k, pool, i), o.fill(n, b, k, pool, i));
    }

    private static void laws(String at, int n, int b, int f, int g, boolean yes) {
        if (!one(3)) return;
        for (int what : new int[] {-1, 0, 1, 2, 3, 4, 5, 9, 10, 11, 20, 45, 46}) {
            DUE.due(at + "fits " + what, x.fits(n, b, f, g, what), o.fits(n, b, f, g, what));
        }
        int rule = near(0, 1);
        DUE.due(at + "odds " + rule, x.odds(n, b, f, g, rule, yes), o.odds(n, b, f, g, rule, yes));
    }

    private static void drawn(String at, int n, int b) {
        int seed = one(2) ? random.nextInt() : below(100);
        int times = one(3) ? near(0, 60) : 10 + below(40);
        for (int what = -1; what < 12; what++) DUE.due(at + "drawn " + what, x.drawn(n, b, seed, times, what), o.drawn(n, b, seed, times, what));
    }

    private static void tips(String at, int n, int b, int size) {
        int what = near(0, 3);
        // the oracle tries all orders
        if (what == 1 && o.block(b, -1, 0) > 5) return;
        DUE.due(at + "tip " + what, x.tip(n, b, what), o.tip(n, b, what));
    }

    private static void images(String at) {
        int k = near(0, 2);
        if (one(2)) DUE.due(at + "image", x.image(k), o.image(k));
        else DUE.due(at + "again", x.again(k), o.again(k));
        if (one(3)) {
            int[] n = {random.nextInt(), 1, 2, random.nextInt(), 3};
            DUE.due(at + "feed", x.feed(n[0], n[1], n[2], n[3], n[4]), o.feed(n));
        }
        int e = near(0, 40);
        if (one(3)) DUE.due(at + "end", x.end(e), o.end(e));
        DUE.due(at + "fault(0)", x.fault(0), o.fault(0));
        DUE.due(at + "fault(1)", x.fault(1), o.fault(1));
    }
}
