/** Chains of work: nets, blocks, feeds, logs and pools told as texts, and what follows from them. */
public final class WorkChains {
    /** There is none. */
    public static final int NONE = -1;

    private static final int NO_SUCH = -2;
    private static final int NO_SPEED = -999;
    private static final int NO_TWICE = -9999;

    private static final int TAPE = 600;
    private static final int COMES = 20;
    private static final int PLACES = 2;
    private static final int IMAGES = 3;
    private static final int ACCOUNTS = 6;
    private static final int BLOCKS = 15;
    private static final int BLOCK_PAYS = 3;
    private static final int DEEDS = 40;
    private static final int FACTS = 8;
    private static final int POOL_PAYS = 6;
    private static final int FILL_PAYS = 3;
    private static final int WITHHELD = 3;
    private static final int LAWS = 36;
    private static final int STEPS = 9;
    private static final int ROUNDS = 12;
    private static final int BEHIND = 6;
    private static final int RACE_ROUNDS = 6;
    private static final int DRAWS = 60;

    private static final int SORTS = 5;
    private static final int NET_SORT = 0;
    private static final int BLOCK_SORT = 1;
    private static final int FEED_SORT = 2;
    private static final int LOG_SORT = 3;
    private static final int POOL_SORT = 4;

    private static final int HEAD = 0;
    private static final int BODY = 1;
    private static final int DROP = 2;
    private static final int NEW_RULE = 3;

    /** Ranks by which the lesser number is the earlier one: TIE 1, and TIE 0 of blocks that came by numbers. */
    private static final int[] BY_NUMBER = {0, 1, 2, 3, 4, 5, 6, 7, 8, 9, 10, 11, 12, 13, 14};

    private final Told told;
    private final Told[] images;
    private final boolean[] imaged;
    private final Reader reader;
    private final Chart chart;
    private final Course course;
    private final Laws laws;
    private final Filling filling;
    private final Ledger spare;

    public WorkChains() {
        told = new Told();
        images = new Told[IMAGES];
        for (int i = 0; i < IMAGES; i++) images[i] = new Told();
        imaged = new boolean[IMAGES];
        reader = new Reader();
        chart = new Chart();
        course = new Course(chart);
        laws = new Laws(chart, course);
        filling = new Filling();
        spare = new Ledger();
    }

    // ---- the tape and its texts

    public int feed(int a, int b, int c, int d, int e) {
        if (told.length + COMES > TAPE) return NONE;
        told.append(a);
        told.append(b);
        told.append(c);
        told.append(d);
        told.append(e);
        return told.length;
    }

    public int end(int n) {
        if (n < 0 || n > told.length) return NONE;
        told.length = n;
        return n;
    }

    public int text(int sort, int at) {
        int place = told.placeFor(sort, at);
        if (place == NONE) {
            told.length = 0;
            told.fault = 0;
            told.faultPlace = NONE;
            return NO_SUCH;
        }
        reader.readAs(sort, told.tape, told.length);
        told.length = 0;
        told.fault = reader.fault;
        told.faultPlace = reader.faultPlace;
        if (reader.fault != 0) return NONE;
        told.take(sort, place, reader);
        return place;
    }

    public int fault(int what) {
        if (what == 0) return told.fault;
        return what == 1 ? told.faultPlace : NONE;
    }

    public int count(int sort) {
        return sort >= 0 && sort < SORTS ? told.counts[sort] : NO_SUCH;
    }

    public boolean image(int k) {
        if (k < 0 || k >= IMAGES) return false;
        images[k].copy(told);
        imaged[k] = true;
        return true;
    }

    public boolean again(int k) {
        if (k < 0 || k >= IMAGES || !imaged[k]) return false;
        told.copy(images[k]);
        return true;
    }

    // ---- what is told

    public int net(int net, int what) {
        Net n = told.netAt(net);
        if (n == null) return NONE;
        switch (what) {
            case 0: return n.step;
            case 1: return n.target;
            case 2: return n.start;
            case 3: return n.rule;
            case 4: return n.tie;
            case 5: return n.reward;
            case 6: return n.accounts;
            default: return isAccount(n, what) ? n.first[what - 10] : NONE;
        }
    }

    public int block(int blocks, int k, int what) {
        Blocks b = told.blocksAt(blocks);
        if (b == null) return NO_SUCH;
        if (k == NONE) return what == 0 ? b.last : NO_SUCH;
        if (!b.has(k)) return NO_SUCH;
        switch (what) {
            case 0: return k == 0 ? NONE : b.parent[k];
            case 1: return b.time[k];
            case 2: return k == 0 ? NONE : b.maker[k];
            case 3: return k == 0 ? NONE : b.pays[k];
            default: return payPart(b, k, what);
        }
    }

    private static int payPart(Blocks b, int k, int what) {
        if (what < 10 || what % 10 > 2) return NO_SUCH;
        int i = what / 10 - 1;
        return i < b.pays[k] ? b.payPart(k, i, what % 10) : NO_SUCH;
    }

    public int deed(int feed, int k, int what) {
        return rowPart(told.rowsAt(FEED_SORT, feed), k, what);
    }

    public int pool(int pool, int k, int what) {
        return rowPart(told.rowsAt(POOL_SORT, pool), k, what);
    }

    public int fact(int log, int k, int what) {
        return rowPart(told.rowsAt(LOG_SORT, log), k, what);
    }

    private static int rowPart(Rows rows, int k, int what) {
        if (rows == null) return NO_SUCH;
        if (k == NONE) return what == 0 ? rows.size : NO_SUCH;
        boolean there = k >= 0 && k < rows.size && what >= 0 && what < rows.width;
        return there ? rows.part(k, what) : NO_SUCH;
    }

    // ---- feeds

    public int stop(int net, int blocks, int feed) {
        return goAll(net, blocks, feed) ? course.deeds : NONE;
    }

    public int state(int net, int blocks, int feed, int n, int what) {
        Rows deeds = told.rowsAt(FEED_SORT, feed);
        if (deeds == null || n < 0 || n > deeds.size || !weigh(net, blocks)) return NONE;
        course.begin(chart.net.rule, chart.net.tie);
        course.go(deeds, n);
        return course.deeds == n ? stateOf(what) : NONE;
    }

    public int drawn(int net, int blocks, int seed, int n, int what) {
        if (n < 0 || n > DRAWS || !weigh(net, blocks)) return NONE;
        course.begin(chart.net.rule, chart.net.tie);
        course.draw(seed, n);
        return stateOf(what);
    }

    private int stateOf(int what) {
        switch (what) {
            case 0: return course.tip;
            case 1: return chart.height[course.tip];
            case 2: return course.whole;
            case 3: return course.orphans();
            case 4: return course.undone;
            case 5: return course.done;
            case 6: return course.rule;
            case 7: return course.headTip();
            case 8: return course.wanted();
            default: return isAccount(chart.net, what) ? chart.ledgers[course.tip].in[what - 10] : NONE;
        }
    }

    public int after(int net, int blocks, int feed, int what) {
        if (!goAll(net, blocks, feed)) return NO_SUCH;
        switch (what) {
            case 0: return course.switches;
            case 1: return course.undone;
            case 2: return course.done;
            case 3: return course.longest;
            case 4: return (course.heads | course.bodies) & ~course.whole;
            case 5: return course.first;
            default: return NO_SUCH;
        }
    }

    /** Goes through a feed up to its STOP; false if there is none such (of any). */
    private boolean goAll(int net, int blocks, int feed) {
        Rows deeds = told.rowsAt(FEED_SORT, feed);
        if (deeds == null || !weigh(net, blocks)) return false;
        course.begin(chart.net.rule, chart.net.tie);
        course.go(deeds, deeds.size);
        return true;
    }

    // ---- blocks in a net, all having come by numbers

    /** Makes the chart that of blocks in a net; false if there is none such (of either). */
    private boolean weigh(int net, int blocks) {
        Net n = told.netAt(net);
        Blocks b = told.blocksAt(blocks);
        if (n == null || b == null) return false;
        chart.draw(b);
        chart.weigh(n, n.step);
        chart.judge();
        return true;
    }

    private boolean weighFor(int net, int blocks, int account) {
        return weigh(net, blocks) && chart.net.has(account);
    }

    private static boolean isAccount(Net net, int what) {
        return what >= 10 && net.has(what - 10);
    }

    public long work(int net, int blocks, int k, int what) {
        if (!weigh(net, blocks) || !chart.blocks.has(k)) return NONE;
        switch (what) {
            case 0: return chart.height[k];
            case 1: return chart.work[k];
            case 2: return chart.weight[k];
            case 3: return chart.isSound(k) ? chart.subtree(k) : NONE;
            case 4: return chart.isSound(k) ? 1 : 0;
            default:
                boolean there = chart.isSound(k) && isAccount(chart.net, what);
                return there ? chart.ledgers[k].in[what - 10] : NONE;
        }
    }

    public int tip(int net, int blocks, int what) {
        if (!weigh(net, blocks)) return NO_SUCH;
        switch (what) {
            case 0: return chart.tipOf(chart.sound);
            case 1: return chart.tips();
            case 2: return withheldSize();
            case 3: return withheld();
            default: return NO_SUCH;
        }
    }

    private int withheldSize() {
        int bits = withheld();
        return bits == NONE ? NONE : Integer.bitCount(bits);
    }

    /** The least bits among the fewest blocks without which the tip is another one, or NONE. */
    private int withheld() {
        int tip = chart.tipOf(chart.sound);
        for (int size = 1; size <= WITHHELD; size++) {
            for (int bits = 2; bits < 2 << chart.last; bits += 2) {
                if (Integer.bitCount(bits) == size && chart.tipOf(chart.soundWithout(bits)) != tip) return bits;
            }
        }
        return NONE;
    }

    public long own(int net, int blocks, int account, int what) {
        if (!weighFor(net, blocks, account)) return NO_SUCH;
        int tip = chart.tipOf(chart.sound);
        int made = chart.madeBy(account);
        long all = chart.weight[tip] - chart.weight[0];
        long part = chart.workOf(chart.way[tip] & made);
        switch (what) {
            case 0: return chart.tipOf(chart.soundWithout(made));
            case 1: return Integer.bitCount(chart.way[tip] & made);
            case 2: return tip == 0 ? NONE : inLeastTerms(part, all, false);
            case 3: return tip == 0 ? NONE : inLeastTerms(part, all, true);
            default: return NO_SUCH;
        }
    }

    public int leaves(int net, int blocks, int what) {
        if (!weigh(net, blocks)) return NO_SUCH;
        switch (what) {
            case 0: return chart.leafBits();
            case 1: return chart.forks();
            case 2: return chart.deepest();
            case 3: return chart.hardest();
            case 4: return chart.all() & ~chart.sound;
            case 5: return chart.choose(chart.sound, 0, BY_NUMBER) == chart.choose(chart.sound, 1, BY_NUMBER) ? 0 : 1;
            case 6: return chart.late();
            case 7: return chart.even();
            case 8: return chart.turns();
            case 9: return chart.steepest();
            default: return NO_SUCH;
        }
    }

    public int root(int net, int blocks, int k, int what) {
        if (!weigh(net, blocks) || !chart.blocks.has(k)) return NO_SUCH;
        if (what == 0) return lowest(chart.way[k] & ~chart.sound);
        if (!chart.isSound(k)) return NO_SUCH;
        if (what == 1) return chart.uncles(k);
        if (what == 2) return chart.ledgers[k].richest();
        if (!isAccount(chart.net, what)) return NO_SUCH;
        return Integer.bitCount(chart.way[k] & chart.madeBy(what - 10));
    }

    public int gain(int net, int blocks, int account, int what) {
        if (!weighFor(net, blocks, account)) return NONE;
        int best = 0;
        int times = 0;
        for (int k = 0; k <= chart.last; k++) {
            if (!chart.isSound(k)) continue;
            int more = chart.ledgers[k].in[account] - chart.ledgers[best].in[account];
            if (more > 0) {
                best = k;
                times = 0;
            }
            if (more >= 0) times++;
        }
        switch (what) {
            case 0: return best;
            case 1: return chart.ledgers[best].in[account];
            case 2: return times;
            default: return NONE;
        }
    }

    public int twice(int net, int blocks, int account, int a, int b) {
        if (!weighFor(net, blocks, account)) return NO_TWICE;
        if (!chart.isSound(a) || !chart.isSound(b)) return NO_TWICE;
        return chart.ledgers[a].in[account] - chart.ledgers[b].in[account];
    }

    // ---- ways

    public int meet(int blocks, int a, int b) {
        if (!drawWays(blocks, a, b)) return NONE;
        return highest(chart.way[a] & chart.way[b]);
    }

    public int path(int blocks, int a, int b, int k) {
        if (!drawWays(blocks, a, b)) return NONE;
        int back = chart.way[a] & ~chart.way[b];
        int forth = chart.way[b] & ~chart.way[a];
        int first = Integer.bitCount(back);
        int size = first + Integer.bitCount(forth);
        if (k == NONE) return size;
        if (k < 0 || k >= size) return NONE;
        return k < first ? nthBit(back, first - 1 - k) : nthBit(forth, k - first);
    }

    public int speed(int blocks, int block, int k) {
        if (k < 1 || k > STEPS || !drawWays(blocks, block, block)) return NO_SPEED;
        int before = chart.ahead(block, k);
        return before == NONE ? NO_SPEED : chart.blocks.time[block] - chart.blocks.time[before];
    }

    private boolean drawWays(int blocks, int a, int b) {
        Blocks of = told.blocksAt(blocks);
        if (of == null || !of.has(a) || !of.has(b)) return false;
        chart.draw(of);
        return true;
    }

    // ---- pays

    public int fill(int net, int blocks, int block, int pool, int k) {
        Rows pays = told.rowsAt(POOL_SORT, pool);
        if (pays == null || !weigh(net, blocks) || !chart.isSound(block)) return NONE;
        filling.search(pays, chart.ledgers[block]);
        if (k == NONE) return filling.bestFees;
        return k >= 0 && k < filling.bestSize ? filling.best[k] : NONE;
    }

    public int replay(int net, int blocks, int a, int b, boolean not) {
        if (!weigh(net, blocks) || !chart.isSound(a) || !chart.isSound(b)) return NONE;
        spare.copy(chart.ledgers[b]);
        int all = 0;
        int done = 0;
        for (int k = 1; k <= chart.last; k++) {
            if (!isIn(chart.way[a] & ~chart.way[b], k)) continue;
            all += chart.blocks.pays[k];
            done += chart.blocks.payEach(k, spare);
        }
        return not ? all - done : done;
    }

    // ---- chances

    public long chance(int p, int z, int n, boolean under) {
        if (p < 0 || p > 10 || z < 0 || z > BEHIND || n < 0 || n > ROUNDS) return NONE;
        return inLeastTerms(caught(z, n, p, 10 - p), power(10, n), under);
    }

    public int race(int z, int n) {
        if (z < 0 || z > BEHIND || n < 0 || n > RACE_ROUNDS) return NONE;
        return (int) caught(z, n, 1, 1);
    }

    /** In how many of all rows of n rounds, "mine" ways to come nearer in each, "others" to fall back, one z behind is once not behind. */
    private static long caught(int z, int n, int mine, int others) {
        long[] rows = new long[BEHIND + ROUNDS + 2];
        rows[0] = 1;
        for (int round = 0; round < n && round < ROUNDS; round++) {
            long nearer = rows[0];
            rows[0] *= mine + others;
            for (int d = 1; d + 1 < rows.length; d++) {
                long here = rows[d];
                rows[d] = mine * nearer + others * rows[d + 1];
                nearer = here;
            }
        }
        return z >= 0 && z < rows.length ? rows[z] : 0;
    }

    private static long power(long base, int n) {
        long all = 1;
        for (int i = 0; i < n; i++) all *= base;
        return all;
    }

    /** What stands above, or (under) below, in the fraction of two numbers in least terms. */
    private static long inLeastTerms(long above, long below, boolean under) {
        long a = above;
        long b = below;
        // Euclid's way with longs takes fewer than 100 steps
        for (int i = 0; i < 100 && b != 0; i++) {
            long rest = a % b;
            a = b;
            b = rest;
        }
        if (a == 0) return NONE;
        return under ? below / a : above / a;
    }

    // ---- laws

    public int fits(int net, int blocks, int feed, int log, int what) {
        if (!survey(net, blocks, feed, log)) return NO_SUCH;
        switch (what) {
            case 0: return laws.size;
            case 1: return laws.sure(20, 2);
            case 2: return laws.sure(10, 2);
            case 3: return laws.sure(1, 10);
            case 4: return laws.ask();
            default: return what >= 10 && what - 10 < Math.min(laws.size, LAWS) ? laws.number[what - 10] : NO_SUCH;
        }
    }

    public int odds(int net, int blocks, int feed, int log, int rule, boolean under) {
        if (rule < 0 || rule > 1 || !survey(net, blocks, feed, log) || laws.size == 0) return NONE;
        int of = 0;
        for (int i = 0; i < laws.size; i++) {
            if (laws.number[i] / 20 == rule) of++;
        }
        return (int) inLeastTerms(of, laws.size, under);
    }

    private boolean survey(int net, int blocks, int feed, int log) {
        Net n = told.netAt(net);
        Blocks b = told.blocksAt(blocks);
        Rows deeds = told.rowsAt(FEED_SORT, feed);
        Rows facts = told.rowsAt(LOG_SORT, log);
        if (n == null || b == null || deeds == null || facts == null) return false;
        laws.survey(n, b, deeds, facts);
        return true;
    }

    // ---- bits

    private static boolean isIn(int bits, int k) {
        return k >= 0 && k < BLOCKS && (bits >> k & 1) != 0;
    }

    private static int lowest(int bits) {
        return nthBit(bits, 0);
    }

    private static int highest(int bits) {
        return nthBit(bits, Integer.bitCount(bits) - 1);
    }

    private static int nthBit(int bits, int n) {
        int ahead = 0;
        for (int k = 0; k < BLOCKS; k++) {
            if ((bits >> k & 1) == 0) continue;
            if (ahead == n) return k;
            ahead++;
        }
        return NONE;
    }

    /** A NET as told. */
    private static final class Net {
        int step;
        int target;
        int start;
        int rule;
        int tie;
        int reward;
        int accounts;
        final int[] first = new int[ACCOUNTS];

        Net() {
            clear();
        }

        void clear() {
            step = 2;
            target = 10;
            start = 10;
            rule = 0;
            tie = 0;
            reward = 5;
            accounts = 0;
        }

        void copy(Net from) {
            step = from.step;
            target = from.target;
            start = from.start;
            rule = from.rule;
            tie = from.tie;
            reward = from.reward;
            accounts = from.accounts;
            System.arraycopy(from.first, 0, first, 0, ACCOUNTS);
        }

        boolean has(int account) {
            return account >= 0 && account < accounts && account < ACCOUNTS;
        }

        void tell(int word, int number) {
            switch (word) {
                case 0: step = number; break;
                case 1: target = number; break;
                case 2: start = number; break;
                case 3: rule = number; break;
                case 4: tie = number; break;
                case 5: reward = number; break;
                default:
                    if (accounts < ACCOUNTS) first[accounts++] = number;
            }
        }
    }

    /** A text of BLOCKS as told. */
    private static final class Blocks {
        int last;
        final int[] parent = new int[BLOCKS];
        final int[] time = new int[BLOCKS];
        final int[] maker = new int[BLOCKS];
        final int[] pays = new int[BLOCKS];
        final int[] pay = new int[BLOCKS * BLOCK_PAYS * 3];

        void copy(Blocks from) {
            last = from.last;
            System.arraycopy(from.parent, 0, parent, 0, BLOCKS);
            System.arraycopy(from.time, 0, time, 0, BLOCKS);
            System.arraycopy(from.maker, 0, maker, 0, BLOCKS);
            System.arraycopy(from.pays, 0, pays, 0, BLOCKS);
            System.arraycopy(from.pay, 0, pay, 0, pay.length);
        }

        boolean has(int k) {
            return k >= 0 && k <= last && k < BLOCKS;
        }

        void addBlock(int parentOf, int timeOf, int makerOf) {
            if (last + 1 >= BLOCKS) return;
            last++;
            parent[last] = parentOf;
            time[last] = timeOf;
            maker[last] = makerOf;
            pays[last] = 0;
        }

        boolean takesPay() {
            return last > 0 && last < BLOCKS && pays[last] < BLOCK_PAYS;
        }

        void addPay(int from, int to, int much) {
            if (!takesPay()) return;
            int at = (last * BLOCK_PAYS + pays[last]) * 3;
            if (at < 0 || at + 2 >= pay.length) return;
            pay[at] = from;
            pay[at + 1] = to;
            pay[at + 2] = much;
            pays[last]++;
        }

        int payPart(int k, int i, int part) {
            int at = (k * BLOCK_PAYS + i) * 3 + part;
            return at >= 0 && at < pay.length ? pay[at] : NONE;
        }

        /** Does each PAY of a block that can be done by a ledger: how many were. */
        int payEach(int k, Ledger by) {
            int done = 0;
            for (int i = 0; i < pays[k] && i < BLOCK_PAYS; i++) {
                if (by.pay(payPart(k, i, 0), payPart(k, i, 1), payPart(k, i, 2), 0)) done++;
            }
            return done;
        }
    }

    /** A FEED, a LOG or a POOL as told: rows of so many numbers each. */
    private static final class Rows {
        final int width;
        final int most;
        int size;
        final int[] value;

        Rows(int sort) {
            width = sort == POOL_SORT ? 4 : 2;
            most = sort == FEED_SORT ? DEEDS : sort == LOG_SORT ? FACTS : POOL_PAYS;
            value = new int[most * width];
        }

        void copy(Rows from) {
            if (from.value.length != value.length) return;
            size = from.size;
            System.arraycopy(from.value, 0, value, 0, value.length);
        }

        void add(int a, int b, int c, int d) {
            if (size >= most) return;
            put(0, a);
            put(1, b);
            put(2, c);
            put(3, d);
            size++;
        }

        private void put(int column, int number) {
            int at = size * width + column;
            if (column < width && at >= 0 && at < value.length) value[at] = number;
        }

        int part(int row, int column) {
            int at = row * width + column;
            return at >= 0 && at < value.length ? value[at] : NONE;
        }
    }

    /** All that is told: what an image has. */
    private static final class Told {
        final byte[] tape = new byte[TAPE];
        int length;
        int fault;
        int faultPlace = NONE;
        final int[] counts = new int[SORTS];
        final Net[] nets = new Net[PLACES];
        final Blocks[] blocks = new Blocks[PLACES];
        final Rows[] rows = new Rows[(SORTS - FEED_SORT) * PLACES];

        Told() {
            for (int i = 0; i < PLACES; i++) {
                nets[i] = new Net();
                blocks[i] = new Blocks();
            }
            for (int i = 0; i < rows.length; i++) rows[i] = new Rows(FEED_SORT + i / PLACES);
        }

        void copy(Told from) {
            System.arraycopy(from.tape, 0, tape, 0, TAPE);
            length = from.length;
            fault = from.fault;
            faultPlace = from.faultPlace;
            System.arraycopy(from.counts, 0, counts, 0, SORTS);
            for (int i = 0; i < PLACES; i++) {
                nets[i].copy(from.nets[i]);
                blocks[i].copy(from.blocks[i]);
            }
            for (int i = 0; i < rows.length; i++) rows[i].copy(from.rows[i]);
        }

        void append(int four) {
            for (int shift = 24; shift >= 0; shift -= 8) {
                if (length >= 0 && length < TAPE) tape[length++] = (byte) (four >> shift);
            }
        }

        boolean has(int sort, int at) {
            return sort >= 0 && sort < SORTS && at >= 0 && at < PLACES && at < counts[sort];
        }

        Net netAt(int at) {
            return has(NET_SORT, at) ? nets[at] : null;
        }

        Blocks blocksAt(int at) {
            return has(BLOCK_SORT, at) ? blocks[at] : null;
        }

        Rows rowsAt(int sort, int at) {
            return sort >= FEED_SORT && sort < SORTS && has(sort, at) ? rows[(sort - FEED_SORT) * PLACES + at] : null;
        }

        /** Where a text goes, a further one at NONE; NONE if it can't go anywhere. */
        int placeFor(int sort, int at) {
            if (sort < 0 || sort >= SORTS) return NONE;
            if (at == NONE) return counts[sort] < PLACES ? counts[sort] : NONE;
            return has(sort, at) ? at : NONE;
        }

        void take(int sort, int place, Reader from) {
            if (sort < 0 || sort >= SORTS || place < 0 || place >= PLACES) return;
            if (sort == NET_SORT) nets[place].copy(from.net);
            else if (sort == BLOCK_SORT) blocks[place].copy(from.blocks);
            else rows[(sort - FEED_SORT) * PLACES + place].copy(from.rows[sort - FEED_SORT]);
            counts[sort] = Math.max(counts[sort], place + 1);
        }
    }

    /** Reads a tape as a text, into a net, blocks or rows of its own, so that a fault changes nothing. */
    private static final class Reader {
        private static final int WORD = 0;
        private static final int NUMBER = 1;
        private static final int MARK = 2;
        private static final int END = 3;
        private static final int BAD = 4;
        private static final int LINE = 4;
        private static final int WORDS = 7;
        private static final int[] NET_LEAST = {1, 1, 1, 0, 0, 0, 0};
        private static final int[] NET_MOST = {9, 99, 99, 1, 1, 99, 99};

        final Net net = new Net();
        final Blocks blocks = new Blocks();
        final Rows[] rows = new Rows[SORTS - FEED_SORT];
        int fault;
        int faultPlace;
        private byte[] tape = new byte[0];
        private int length;
        private int next;
        private int from;
        private int token;
        private int value;
        private final int[] line = new int[LINE];

        Reader() {
            for (int i = 0; i < rows.length; i++) rows[i] = new Rows(FEED_SORT + i);
        }

        void readAs(int sort, byte[] bytes, int size) {
            tape = bytes;
            length = Math.min(size, bytes.length);
            next = 0;
            fault = 0;
            faultPlace = NONE;
            net.clear();
            blocks.last = 0;
            for (int i = 0; i < rows.length; i++) rows[i].size = 0;
            step();
            // no line is shorter than a byte
            for (int i = 0; i <= TAPE && token != END; i++) {
                if (!readLine(sort)) break;
            }
        }

        private boolean readLine(int sort) {
            int word = token == WORD ? wordOf(sort) : NONE;
            if (word == NONE) return noTextGoesOn();
            if (isTooMany(sort, word)) note(3);
            int wants = numbersOf(sort);
            for (int i = 0; i < wants && i < LINE; i++) {
                step();
                if (token != NUMBER) return noTextGoesOn();
                line[i] = value;
                if (!canBe(sort, word, i)) note(2);
            }
            step();
            if (token != MARK) return noTextGoesOn();
            // behind a fault nothing is told, but the rest may still have a fault 1
            if (fault == 0) tellLine(sort, word);
            step();
            return true;
        }

        private boolean noTextGoesOn() {
            fault = 1;
            faultPlace = from;
            return false;
        }

        private void note(int which) {
            if (fault != 0) return;
            fault = which;
            faultPlace = from;
        }

        private void tellLine(int sort, int word) {
            if (sort == NET_SORT) net.tell(word, line[0]);
            else if (sort == BLOCK_SORT && word == 0) blocks.addBlock(line[0], line[1], line[2]);
            else if (sort == BLOCK_SORT) blocks.addPay(line[0], line[1], line[2]);
            else if (sort == FEED_SORT) rows[0].add(word, line[0], 0, 0);
            else if (sort == LOG_SORT) rows[1].add(line[0], line[1], 0, 0);
            else rows[2].add(line[0], line[1], line[2], line[3]);
        }

        private boolean isTooMany(int sort, int word) {
            if (sort == NET_SORT) return word == 6 && net.accounts == ACCOUNTS;
            if (sort == BLOCK_SORT) return word == 0 ? blocks.last + 1 == BLOCKS : !blocks.takesPay();
            int i = sort - FEED_SORT;
            return i < 0 || i >= rows.length || rows[i].size == rows[i].most;
        }

        private static int numbersOf(int sort) {
            switch (sort) {
                case BLOCK_SORT: return 3;
                case LOG_SORT: return 2;
                case POOL_SORT: return 4;
                default: return 1;
            }
        }

        /** Whether the i-th number of a line can be what it is. */
        private boolean canBe(int sort, int word, int i) {
            switch (sort) {
                case NET_SORT:
                    if (word < 0 || word >= NET_LEAST.length) return false;
                    return isFrom(NET_LEAST[word], NET_MOST[word]);
                case BLOCK_SORT:
                    return word == 0 ? canBeOfBlock(i) : canBeOfPay(i);
                case FEED_SORT:
                    return word == NEW_RULE ? isFrom(0, 1) : isFrom(1, BLOCKS - 1);
                case LOG_SORT:
                    return isFrom(0, i == 0 ? DEEDS : BLOCKS - 1);
                default:
                    return canBeOfPay(i);
            }
        }

        private boolean canBeOfBlock(int i) {
            if (i == 0) return value <= blocks.last;
            return i == 1 || value < ACCOUNTS;
        }

        private boolean canBeOfPay(int i) {
            if (i == 0) return value < ACCOUNTS;
            if (i == 1) return value < ACCOUNTS && value != line[0];
            return i == 2 ? value > 0 : value < 10;
        }

        private boolean isFrom(int least, int most) {
            return value >= least && value <= most;
        }

        /** Takes the next token: as long as it goes. */
        private void step() {
            while (next < length && isBlank(tape[next])) next++;
            from = next;
            if (next >= length) {
                token = END;
                return;
            }
            int first = tape[next++];
            if (isLetter(first)) {
                while (next < length && isLetter(tape[next])) next++;
                token = WORD;
            } else if (isDigit(first)) {
                value = first - '0';
                while (next < length && isDigit(tape[next])) value = value * 10 + tape[next++] - '0';
                token = next - from > 2 ? BAD : NUMBER;
            } else {
                token = first == ';' ? MARK : BAD;
            }
        }

        private static boolean isBlank(int c) {
            return c == 10 || c == 32;
        }

        private static boolean isLetter(int c) {
            return c >= 'a' && c <= 'z';
        }

        private static boolean isDigit(int c) {
            return c >= '0' && c <= '9';
        }

        /** Which word of a sort the token is, or NONE. */
        private int wordOf(int sort) {
            for (int i = 0; i < WORDS; i++) {
                if (isToken(wordAt(sort, i))) return i;
            }
            return NONE;
        }

        private boolean isToken(String word) {
            if (word.length() == 0 || word.length() != next - from) return false;
            for (int i = 0; i < word.length() && from + i < tape.length; i++) {
                if (word.charAt(i) != tape[from + i]) return false;
            }
            return true;
        }

        private static String wordAt(int sort, int i) {
            switch (sort * 10 + i) {
                case 0: return "step";
                case 1: return "target";
                case 2: return "start";
                case 3: return "rule";
                case 4: return "tie";
                case 5: return "reward";
                case 6: return "account";
                case 10: return "block";
                case 11: return "pay";
                case 20: return "head";
                case 21: return "body";
                case 22: return "drop";
                case 23: return "rule";
                case 30: return "tip";
                case 40: return "pay";
                default: return "";
            }
        }
    }

    /** What there is in each account. */
    private static final class Ledger {
        int accounts;
        final int[] in = new int[ACCOUNTS];

        void begin(Net net) {
            accounts = net.accounts;
            System.arraycopy(net.first, 0, in, 0, ACCOUNTS);
        }

        void copy(Ledger from) {
            accounts = from.accounts;
            System.arraycopy(from.in, 0, in, 0, ACCOUNTS);
        }

        boolean has(int account) {
            return account >= 0 && account < accounts && account < ACCOUNTS;
        }

        /** Pays if it can be done; the fee goes to nobody. */
        boolean pay(int from, int to, int much, int fee) {
            if (!has(from) || !has(to) || in[from] < much + fee) return false;
            in[from] -= much + fee;
            in[to] += much;
            return true;
        }

        int richest() {
            int best = NONE;
            for (int a = 0; a < accounts && a < ACCOUNTS; a++) {
                if (best == NONE || in[a] > in[best]) best = a;
            }
            return best;
        }
    }

    /**
     * Blocks in a net, as told. A parent has a lesser number than its child, so the bits of a way, rising,
     * are the way from block 0 on.
     */
    private static final class Chart {
        Net net = new Net();
        Blocks blocks = new Blocks();
        int last;
        int sound;
        final int[] parent = new int[BLOCKS];
        final int[] way = new int[BLOCKS];
        final int[] height = new int[BLOCKS];
        final long[] work = new long[BLOCKS];
        final long[] weight = new long[BLOCKS];
        final Ledger[] ledgers = new Ledger[BLOCKS];
        private final long[] sum = new long[BLOCKS];
        private final int[] favourite = new int[BLOCKS];

        Chart() {
            for (int k = 0; k < BLOCKS; k++) ledgers[k] = new Ledger();
        }

        void draw(Blocks of) {
            blocks = of;
            last = Math.max(0, Math.min(of.last, BLOCKS - 1));
            sound = 0;
            way[0] = 1;
            for (int k = 1; k <= last; k++) {
                int p = of.parent[k];
                parent[k] = p >= 0 && p < k ? p : 0;
                way[k] = way[parent[k]] | 1 << k;
                height[k] = height[parent[k]] + 1;
            }
        }

        void weigh(Net in, int step) {
            net = in;
            work[0] = in.start;
            weight[0] = in.start;
            for (int k = 1; k <= last; k++) {
                int p = parent[k];
                boolean turns = step > 0 && height[k] % step == 0;
                work[k] = turns ? turned(p, ahead(p, step - 1)) : work[p];
                weight[k] = weight[p] + work[k];
            }
        }

        private long turned(int p, int before) {
            int later = before == NONE ? 0 : blocks.time[p] - blocks.time[before];
            long asked = work[p] * net.target / Math.max(1, later);
            return Math.max(1, Math.max(work[p] / 4, Math.min(work[p] * 4, asked)));
        }

        /** The block that is so many ahead of one, or NONE. */
        int ahead(int k, int many) {
            int at = k;
            for (int i = 0; i < many; i++) {
                if (at <= 0) return NONE;
                at = parent[at];
            }
            return at;
        }

        void judge() {
            ledgers[0].begin(net);
            sound = 1;
            for (int k = 1; k <= last; k++) {
                int p = parent[k];
                if (!isSound(p) || blocks.time[k] < blocks.time[p] || !net.has(blocks.maker[k])) continue;
                ledgers[k].copy(ledgers[p]);
                if (blocks.payEach(k, ledgers[k]) < blocks.pays[k]) continue;
                ledgers[k].in[blocks.maker[k]] += net.reward;
                sound |= 1 << k;
            }
        }

        boolean isSound(int k) {
            return k <= last && isIn(sound, k);
        }

        int all() {
            return (2 << last) - 1;
        }

        /** Sound blocks if some never come, and so none behind them. */
        int soundWithout(int some) {
            int left = 0;
            for (int k = 0; k <= last; k++) {
                if (isIn(sound, k) && (way[k] & some) == 0) left |= 1 << k;
            }
            return left;
        }

        int madeBy(int account) {
            int made = 0;
            for (int k = 1; k <= last; k++) {
                if (blocks.maker[k] == account) made |= 1 << k;
            }
            return made;
        }

        long workOf(int some) {
            long all = 0;
            for (int k = 0; k <= last; k++) {
                if (isIn(some, k)) all += work[k];
            }
            return all;
        }

        long subtree(int k) {
            sumUp(sound);
            return sum[k];
        }

        /** Of some blocks, none without its parent: all work of each and of those behind it. */
        private void sumUp(int some) {
            for (int k = 0; k <= last; k++) sum[k] = (some >> k & 1) != 0 ? work[k] : 0;
            for (int k = last; k > 0; k--) sum[parent[k]] += sum[k];
        }

        /** The tip by the net's rule, if some blocks are whole and became so by numbers. */
        int tipOf(int some) {
            return choose(some, net.rule, BY_NUMBER);
        }

        /** The tip of some whole blocks by a rule; of several, the one of least rank. */
        int choose(int some, int rule, int[] rank) {
            if (rank.length < BLOCKS) return 0;
            if (rule == 0) return heaviest(some, rank);
            sumUp(some);
            return chosenByChildren(some, rank);
        }

        private int heaviest(int some, int[] rank) {
            int best = 0;
            for (int k = 1; k <= last; k++) {
                if ((some >> k & 1) == 0 || weight[k] < weight[best]) continue;
                if (weight[k] > weight[best] || rank[k] < rank[best]) best = k;
            }
            return best;
        }

        private int chosenByChildren(int some, int[] rank) {
            for (int k = 0; k <= last; k++) favourite[k] = 0;
            for (int k = 1; k <= last; k++) {
                int p = parent[k];
                int other = favourite[p];
                if ((some >> k & 1) == 0) continue;
                if (other == 0 || sum[k] > sum[other] || sum[k] == sum[other] && rank[k] < rank[other]) favourite[p] = k;
            }
            int tip = 0;
            for (int i = 0; i < last && favourite[tip] > tip; i++) tip = favourite[tip];
            return tip;
        }

        /** Any of several can be the first: all ahead of it come first of all. */
        int tips() {
            if (net.rule == 0) return heaviestOnes();
            sumUp(sound);
            chosenByChildren(sound, BY_NUMBER);
            int reached = 1;
            int tips = 0;
            for (int k = 0; k <= last; k++) {
                int p = parent[k];
                boolean chosen = k > 0 && isIn(sound, k) && isIn(reached, p) && sum[k] == sum[favourite[p]];
                if (chosen) reached |= 1 << k;
                if (isIn(reached, k) && favourite[k] == 0) tips |= 1 << k;
            }
            return tips;
        }

        private int heaviestOnes() {
            int best = heaviest(sound, BY_NUMBER);
            int tips = 0;
            for (int k = 0; k <= last; k++) {
                if (isIn(sound, k) && weight[k] == weight[best]) tips |= 1 << k;
            }
            return tips;
        }

        private int soundChildren(int of) {
            int children = 0;
            for (int k = 1; k <= last; k++) {
                if (isIn(sound, k) && parent[k] == of) children |= 1 << k;
            }
            return children;
        }

        int leafBits() {
            int leaves = 0;
            for (int k = 0; k <= last; k++) {
                if (isIn(sound, k) && soundChildren(k) == 0) leaves |= 1 << k;
            }
            return leaves;
        }

        int forks() {
            int forks = 0;
            for (int k = 0; k <= last; k++) {
                if (isIn(sound, k) && Integer.bitCount(soundChildren(k)) > 1) forks++;
            }
            return forks;
        }

        int deepest() {
            int best = 0;
            for (int k = 1; k <= last; k++) {
                if (isIn(sound, k) && height[k] > height[best]) best = k;
            }
            return best;
        }

        int hardest() {
            int best = 0;
            for (int k = 1; k <= last; k++) {
                if (isIn(sound, k) && work[k] > work[best]) best = k;
            }
            return best;
        }

        /** The most undone at once, if all come by numbers. */
        int late() {
            int late = 0;
            int old = 0;
            for (int k = 1; k <= last; k++) {
                int tip = tipOf(sound & (2 << k) - 1);
                late = Math.max(late, Integer.bitCount(way[old] & ~way[tip]));
                old = tip;
            }
            return late;
        }

        int even() {
            int leaves = leafBits();
            int even = 0;
            for (int a = 0; a <= last; a++) {
                for (int b = a + 1; b <= last; b++) {
                    if (isIn(leaves, a) && isIn(leaves, b) && weight[a] == weight[b]) even++;
                }
            }
            return even;
        }

        int turns() {
            int turns = 0;
            for (int k = 1; k <= last; k++) {
                if (isIn(sound, k) && work[k] != work[parent[k]]) turns |= 1 << k;
            }
            return turns;
        }

        int steepest() {
            int best = NONE;
            long most = 0;
            for (int k = 1; k <= last; k++) {
                long more = work[k] - work[parent[k]];
                if (!isIn(sound, k) || more <= most) continue;
                best = k;
                most = more;
            }
            return best;
        }

        int uncles(int k) {
            int before = way[parent[k]] & ~(1 << parent[k]);
            int uncles = 0;
            for (int u = 1; u <= last; u++) {
                if (isIn(sound, u) && isIn(before, parent[u]) && !isIn(way[k], u)) uncles |= 1 << u;
            }
            return uncles;
        }
    }

    /** What becomes of the blocks of a chart, deed by deed. */
    private static final class Course {
        private final Chart chart;
        private int tie;
        private int wholes;
        private final int[] rank = new int[BLOCKS];
        int rule;
        int heads;
        int bodies;
        int whole;
        int tip;
        int deeds;
        int undone;
        int done;
        int switches;
        int longest;
        int first;

        Course(Chart of) {
            chart = of;
        }

        void begin(int withRule, int withTie) {
            rule = withRule;
            tie = withTie;
            heads = 1;
            bodies = 1;
            whole = 1;
            wholes = 1;
            rank[0] = 0;
            tip = 0;
            deeds = 0;
            undone = 0;
            done = 0;
            switches = 0;
            longest = 0;
            first = NONE;
        }

        /** The first deeds of a feed, till there is one that can't be. */
        void go(Rows feed, int many) {
            for (int i = 0; i < many && i < feed.size; i++) {
                if (!act(feed.part(i, 0), feed.part(i, 1))) return;
            }
        }

        boolean act(int sort, int number) {
            if (!may(sort, number)) return false;
            switch (sort) {
                case HEAD: heads |= 1 << number; break;
                case BODY: bodies |= 1 << number; break;
                case DROP:
                    heads &= ~(1 << number);
                    bodies &= ~(1 << number);
                    break;
                default: rule = number;
            }
            becomeWhole();
            goTo(chart.choose(whole, rule, tie == 0 ? rank : BY_NUMBER));
            deeds++;
            return true;
        }

        /** A rule that is the one already is not another one, so such a deed can't be. */
        private boolean may(int sort, int number) {
            if (sort == NEW_RULE) return number != rule && (number == 0 || number == 1);
            if (number < 1 || number > chart.last) return false;
            if (sort == HEAD) return !isIn(heads, number);
            if (sort == BODY) return !isIn(bodies, number);
            return sort == DROP && isIn((heads | bodies) & ~whole, number);
        }

        private void becomeWhole() {
            for (int k = 1; k <= chart.last; k++) {
                if (!isIn(heads & bodies & chart.sound & ~whole, k) || !isIn(whole, chart.parent[k])) continue;
                whole |= 1 << k;
                rank[k] = wholes++;
            }
        }

        private void goTo(int to) {
            int back = Integer.bitCount(chart.way[tip] & ~chart.way[to]);
            undone += back;
            done += Integer.bitCount(chart.way[to] & ~chart.way[tip]);
            longest = Math.max(longest, back);
            if (back > 0) switches++;
            if (first == NONE && to != 0) first = deeds;
            tip = to;
        }

        int orphans() {
            int orphans = 0;
            for (int k = 1; k <= chart.last; k++) {
                if (isIn(heads, k) && !isIn(heads, chart.parent[k])) orphans |= 1 << k;
            }
            return orphans;
        }

        int headTip() {
            int known = 1;
            for (int k = 1; k <= chart.last; k++) {
                if ((chart.way[k] & ~heads) == 0) known |= 1 << k;
            }
            return chart.choose(known, 0, BY_NUMBER);
        }

        int wanted() {
            return chart.way[headTip()] & ~bodies;
        }

        void draw(int seed, int times) {
            int x = seed;
            for (int i = 0; i < times && i < DRAWS; i++) {
                x = stir(x);
                int what = (x >>> 16) % 10;
                if (what < 9 && chart.last < 1) continue;
                x = stir(x);
                if (what == 9) act(NEW_RULE, (x >>> 16) % 2);
                else act(what < 4 ? HEAD : what < 8 ? BODY : DROP, 1 + (x >>> 16) % Math.max(1, chart.last));
            }
        }

        private static int stir(int x) {
            return x * 1103515245 + 12345;
        }
    }

    /** Which laws fit a log, rising, and the tips by each, behind each number of deeds. */
    private static final class Laws {
        private final Chart chart;
        private final Course course;
        private final int[][] tips = new int[LAWS][DEEDS + 1];
        private final int[] groups = new int[BLOCKS + 1];
        final int[] number = new int[LAWS];
        int size;

        Laws(Chart withChart, Course withCourse) {
            chart = withChart;
            course = withCourse;
        }

        void survey(Net net, Blocks blocks, Rows feed, Rows log) {
            size = 0;
            chart.draw(blocks);
            for (int i = 0; i < LAWS && size < LAWS; i++) {
                int step = i % STEPS + 1;
                int tie = i / STEPS % 2;
                int rule = i / STEPS / 2;
                chart.weigh(net, step);
                chart.judge();
                course.begin(rule, tie);
                goThrough(feed, tips[size]);
                if (!isSo(log, tips[size])) continue;
                number[size] = 20 * rule + 10 * tie + step;
                size++;
            }
        }

        private void goThrough(Rows feed, int[] row) {
            boolean goesOn = true;
            for (int n = 0; n < row.length; n++) {
                if (n > 0) goesOn = goesOn && n <= feed.size && course.act(feed.part(n - 1, 0), feed.part(n - 1, 1));
                row[n] = goesOn ? course.tip : NONE;
            }
        }

        private static boolean isSo(Rows log, int[] row) {
            for (int i = 0; i < log.size; i++) {
                int n = log.part(i, 0);
                if (n < 0 || n >= row.length || row[n] != log.part(i, 1)) return false;
            }
            return true;
        }

        /** The part of their numbers that all that fit have in common, or NONE. */
        int sure(int unit, int below) {
            int part = NONE;
            if (unit <= 0 || below <= 0) return NONE;
            for (int i = 0; i < size && i < LAWS; i++) {
                int its = number[i] / unit % below;
                if (part != NONE && part != its) return NONE;
                part = its;
            }
            return part;
        }

        int ask() {
            if (size == 0) return NONE;
            int best = 0;
            for (int n = 1; n <= DEEDS; n++) {
                if (greatestGroup(n) < greatestGroup(best)) best = n;
            }
            return best;
        }

        private int greatestGroup(int n) {
            int greatest = 0;
            for (int i = 0; i < groups.length; i++) groups[i] = 0;
            for (int i = 0; i < size && i < LAWS; i++) {
                int group = tips[i][n] + 1;
                if (group < 0 || group >= groups.length) continue;
                groups[group]++;
                greatest = Math.max(greatest, groups[group]);
            }
            return greatest;
        }
    }

    /** The row of pays of a pool that fills the next block best. */
    private static final class Filling {
        private Rows pool = new Rows(POOL_SORT);
        private final Ledger[] ledgers = new Ledger[FILL_PAYS + 1];
        private final int[] row = new int[FILL_PAYS];
        final int[] best = new int[FILL_PAYS];
        int bestSize;
        int bestFees;

        Filling() {
            for (int i = 0; i <= FILL_PAYS; i++) ledgers[i] = new Ledger();
        }

        void search(Rows of, Ledger from) {
            pool = of;
            ledgers[0].copy(from);
            bestSize = 0;
            bestFees = 0;
            extend(0, 0, 0);
        }

        /** Rows are met by numbers, so the first of equal ones stays. */
        private void extend(int size, int used, int fees) {
            if (fees > bestFees || fees == bestFees && size < bestSize) {
                bestFees = fees;
                bestSize = size;
                System.arraycopy(row, 0, best, 0, FILL_PAYS);
            }
            if (size < 0 || size >= FILL_PAYS) return;
            for (int i = 0; i < pool.size; i++) {
                if ((used >> i & 1) != 0) continue;
                int fee = pool.part(i, 3);
                Ledger then = ledgers[size + 1];
                then.copy(ledgers[size]);
                if (!then.pay(pool.part(i, 0), pool.part(i, 1), pool.part(i, 2), fee)) continue;
                row[size] = i;
                extend(size + 1, used | 1 << i, fees + fee);
            }
        }
    }
}
