/** Each promise with answers found by hand: ordinary inputs, the edges that the document names, wrong inputs. */
public final class PromisesTest {
    private static final Due DUE = new Due();
    private static final int NONE = -1;
    private static final int MIN = Integer.MIN_VALUE;
    private static final int MAX = Integer.MAX_VALUE;

    private static final String NET = "step 2;target 10;start 8;rule 0;tie 0;reward 5;account 20;account 3;account 0;";
    private static final String BLOCKS = "block 0 4 0;pay 0 1 6;block 1 9 1;block 1 6 2;pay 1 2 5;block 3 8 2;block 2 9 0;pay 2 0 1;block 0 2 5;";
    private static final String FEED = "head 4;body 4;head 1;body 1;head 2;body 2;head 3;rule 1;body 3;head 5;body 5;drop 5;rule 0;drop 4;";
    private static final String LOG = "tip 6 2;tip 9 4;";
    private static final String POOL = "pay 0 1 10 3;pay 2 0 4 2;pay 1 2 9 9;pay 0 2 5 1;";
    /** A long branch 1, 2, 3, and a broad one, 4 with 5, 6, 7. */
    private static final String BROAD = "block 0 0 0;block 1 0 0;block 2 0 0;block 0 0 0;block 4 0 0;block 4 0 0;block 4 0 0;";
    private static final String ALL_COME = "head 1;body 1;head 2;body 2;head 3;body 3;head 4;body 4;head 5;body 5;head 6;body 6;head 7;body 7;";

    public static void main(String[] args) {
        newObject();
        tape();
        texts();
        faultsOfNumbers();
        faultsOfTooMany();
        netsAndBlocks();
        rows();
        stopAndState();
        anotherRule();
        tiesAndRules();
        orphansAndDrops();
        works();
        worksBounded();
        soundness();
        tips();
        fills();
        replays();
        paths();
        owns();
        chances();
        laws();
        lawsAndRules();
        draws();
        leaves();
        roots();
        gainsAndTwice();
        afters();
        images();
        DUE.close("PromisesTest");
    }

    private static WorkChains sample() {
        WorkChains x = new WorkChains();
        Due.tell(x, 0, NET);
        Due.tell(x, 1, BLOCKS);
        Due.tell(x, 2, FEED);
        Due.tell(x, 3, LOG);
        Due.tell(x, 4, POOL);
        return x;
    }

    private static WorkChains with(String net, String blocks, String feed, String log) {
        WorkChains x = new WorkChains();
        DUE.due("net " + net, Due.tell(x, 0, net), 0);
        DUE.due("blocks " + blocks, Due.tell(x, 1, blocks), 0);
        DUE.due("feed " + feed, Due.tell(x, 2, feed), 0);
        DUE.due("log " + log, Due.tell(x, 3, log), 0);
        return x;
    }

    private static void fault(int sort, String text, int fault, int place) {
        WorkChains x = new WorkChains();
        DUE.due("text of " + text, Due.tell(x, sort, text), fault == 0 ? 0 : NONE);
        DUE.due("fault of " + text, x.fault(0), fault);
        DUE.due("place in " + text, x.fault(1), place);
        DUE.due("count behind " + text, x.count(sort), fault == 0 ? 1 : 0);
        DUE.due("tape behind " + text, x.end(1), NONE);
    }

    // 1
    private static void newObject() {
        WorkChains x = new WorkChains();
        for (int sort = 0; sort < 5; sort++) DUE.due("count", x.count(sort), 0);
        DUE.due("count(-1)", x.count(-1), -2);
        DUE.due("count(5)", x.count(5), -2);
        DUE.due("count(MIN)", x.count(MIN), -2);
        for (int k = 0; k < 3; k++) DUE.due("again", x.again(k), false);
        DUE.due("fault(0)", x.fault(0), 0);
        DUE.due("fault(1)", x.fault(1), NONE);
        DUE.due("fault(2)", x.fault(2), NONE);
        DUE.due("fault(-1)", x.fault(-1), NONE);
        DUE.due("end(1)", x.end(1), NONE);
        DUE.due("NONE", WorkChains.NONE, -1);
        DUE.due("net", x.net(0, 0), NONE);
        DUE.due("block", x.block(0, NONE, 0), -2);
        DUE.due("deed", x.deed(0, NONE, 0), -2);
        DUE.due("stop", x.stop(0, 0, 0), NONE);
    }

    // 2, 3
    private static void tape() {
        WorkChains x = new WorkChains();
        for (int i = 1; i <= 30; i++) DUE.due("feed", x.feed(0x73746570, 0x20373b20, 0x20202020, 0x20202020, 0x20202020), 20 * i);
        DUE.due("feed past 600", x.feed(0, 0, 0, 0, 0), NONE);
        DUE.due("end(601)", x.end(601), NONE);
        DUE.due("end(-1)", x.end(-1), NONE);
        DUE.due("end(MAX)", x.end(MAX), NONE);
        DUE.due("end(600)", x.end(600), 600);
        DUE.due("end(581)", x.end(581), 581);
        DUE.due("feed past 600", x.feed(0, 0, 0, 0, 0), NONE);
        DUE.due("end(580)", x.end(580), 580);
        DUE.due("feed to 600", x.feed(0x20202020, 0x20202020, 0x20202020, 0x20202020, 0x20202020), 600);
        DUE.due("text", x.text(0, NONE), 0);
        DUE.due("step 7 told often", x.net(0, 0), 7);
        DUE.due("end(0)", x.end(0), 0);
        // highest byte first, each of the five numbers in its turn
        x.feed(0x74617267, 0x65742034, 0x383b7374, 0x65702033, 0x3b2e2e2e);
        DUE.due("end(17)", x.end(17), 17);
        DUE.due("text", x.text(0, NONE), 1);
        DUE.due("target 48", x.net(1, 1), 48);
        DUE.due("step 3", x.net(1, 0), 3);
    }

    // 4, 5
    private static void texts() {
        WorkChains x = new WorkChains();
        DUE.due("first", Due.tell(x, 0, "step 1;"), 0);
        DUE.due("second", Due.tell(x, 0, ""), 1);
        Due.put(x, "?");
        DUE.due("third", x.text(0, NONE), -2);
        DUE.due("no text is read", x.fault(0), 0);
        DUE.due("no text is read", x.fault(1), NONE);
        DUE.due("the tape is empty", x.end(1), NONE);
        Due.put(x, "step 4;");
        DUE.due("in place of 1", x.text(0, 1), 1);
        DUE.due("step", x.net(1, 0), 4);
        DUE.due("step of the other", x.net(0, 0), 1);
        Due.put(x, "account 7;step x;");
        DUE.due("a fault", x.text(0, 0), NONE);
        DUE.due("the fault", x.fault(0), 1);
        DUE.due("its place", x.fault(1), 15);
        DUE.due("all stays", x.net(0, 0), 1);
        for (int[] no : new int[][] {{0, 2}, {0, -2}, {5, NONE}, {-1, NONE}, {1, 0}, {MIN, MAX}}) {
            Due.put(x, "step 4;");
            DUE.due("text(" + no[0] + ", " + no[1] + ")", x.text(no[0], no[1]), -2);
            DUE.due("tape", x.end(1), NONE);
            DUE.due("fault", x.fault(0), 0);
        }
        DUE.due("count", x.count(0), 2);
        // what stood behind the end is no part of a token
        Due.put(x, "stepx");
        x.end(4);
        DUE.due("a word that is cut", x.text(0, 0), NONE);
        DUE.due("its place", x.fault(1), 4);
        Due.put(x, "step 12");
        x.end(6);
        DUE.due("a number that is cut", x.text(0, 0), NONE);
        DUE.due("its place", x.fault(1), 6);
        DUE.due("empty blocks", Due.tell(x, 1, " \n "), 0);
        DUE.due("none but 0", x.block(0, NONE, 0), 0);
        grammar();
    }

    private static void grammar() {
        fault(0, "", 0, NONE);
        fault(0, "step 2;", 0, NONE);
        fault(0, "step2;target\n05;", 0, NONE);
        fault(0, "step 2", 1, 6);
        fault(0, "step 2  ", 1, 8);
        fault(0, "step", 1, 4);
        fault(0, "step 012;", 1, 5);
        fault(0, "step 1 2;", 1, 7);
        fault(0, "Step 2;", 1, 0);
        fault(0, "sTep 2;", 1, 0);
        fault(0, "steps 2;", 1, 0);
        fault(0, "ste 2;", 1, 0);
        fault(0, "step\t2;", 1, 4);
        fault(0, " \n;", 1, 2);
        fault(0, "stepz 2;", 1, 0);
        fault(0, "step 2;;", 1, 7);
        fault(0, "2;", 1, 0);
        fault(0, "step;", 1, 4);
        fault(0, "step step;", 1, 5);
        fault(0, "step 2;\u00e9", 1, 7);
        fault(0, "step 0;target 100;", 1, 14);
        fault(0, "block 0 0 0;", 1, 0);
        fault(1, "step 2;", 1, 0);
        fault(1, "block 0 0;", 1, 9);
        fault(1, "block 0 0 0 0;", 1, 12);
        fault(2, "head 1;tie 0;", 1, 7);
        fault(2, "head1;body1;drop1;rule0;", 0, NONE);
        fault(3, "tip 1;", 1, 5);
        fault(3, "tip 40 14;", 0, NONE);
        fault(4, "pay 0 1 1;", 1, 9);
        fault(4, "pay 0 1 99 9;", 0, NONE);
        fault(4, "block 0 0 0;", 1, 0);
    }

    private static void faultsOfNumbers() {
        for (String bad : new String[] {"step 0", "step 10", "target 0", "start 00", "rule 2", "tie 2"}) {
            fault(0, bad + ";", 2, bad.indexOf(' ') + 1);
        }
        fault(0, "step 9;target 99;start 99;rule 1;tie 1;reward 99;account 99;reward 0;account 0;", 0, NONE);
        fault(0, "rule 3;step 0;", 2, 5);
        fault(1, "block 0 99 5;block 1 0 0;block 0 0 0;", 0, NONE);
        fault(1, "block 1 0 0;", 2, 6);
        fault(1, "block 0 0 0;block 2 0 0;", 2, 18);
        fault(1, "block 0 0 6;", 2, 10);
        fault(1, "block 0 0 0;pay 6 0 1;", 2, 16);
        fault(1, "block 0 0 0;pay 0 6 1;", 2, 18);
        fault(1, "block 0 0 0;pay 5 5 1;", 2, 18);
        fault(1, "block 0 0 0;pay 0 1 0;", 2, 20);
        fault(1, "block 0 0 0;pay 6 6 0;", 2, 16);
        for (String word : new String[] {"head", "body", "drop"}) {
            fault(2, word + " 0;", 2, 5);
            fault(2, word + " 15;", 2, 5);
            fault(2, word + " 14;" + word + " 1;", 0, NONE);
        }
        fault(2, "rule 2;", 2, 5);
        fault(3, "tip 41 0;", 2, 4);
        fault(3, "tip 0 15;", 2, 6);
        fault(4, "pay 6 0 1 1;", 2, 4);
        fault(4, "pay 1 6 1 1;", 2, 6);
        fault(4, "pay 1 1 1 1;", 2, 6);
        fault(4, "pay 0 1 0 1;", 2, 8);
        fault(4, "pay 0 1 1 10;", 2, 10);
    }

    private static void faultsOfTooMany() {
        fault(0, "account 1;".repeat(6), 0, NONE);
        fault(0, "account 1;".repeat(7) + "step 0;", 3, 60);
        fault(0, "account 1;".repeat(7) + "step ?;", 1, 75);
        fault(0, "step 0;" + "account 1;".repeat(7), 2, 5);
        fault(1, "block 0 0 0;".repeat(14) + "pay 0 1 1;", 0, NONE);
        fault(1, "block 0 0 0;".repeat(15), 3, 168);
        fault(1, "pay 0 1 1;", 3, 0);
        fault(1, "block 0 0 0;" + "pay 0 1 1;".repeat(3) + "block 0 0 0;" + "pay 0 1 1;".repeat(3), 0, NONE);
        fault(1, "block 0 0 0;" + "pay 0 1 1;".repeat(4), 3, 42);
        fault(1, "block 0 0 7;" + "pay 0 1 1;".repeat(4), 2, 10);
        fault(2, "rule 1;".repeat(40), 0, NONE);
        fault(2, "rule 1;".repeat(41), 3, 280);
        fault(3, "tip 0 0;".repeat(8), 0, NONE);
        fault(3, "tip 0 0;".repeat(9), 3, 64);
        fault(4, "pay 0 1 1 1;".repeat(6), 0, NONE);
        fault(4, "pay 0 1 1 1;".repeat(7), 3, 72);
    }

    // 6, 7
    private static void netsAndBlocks() {
        WorkChains x = sample();
        int[] net = {2, 10, 8, 0, 0, 5, 3};
        for (int what = 0; what < 7; what++) DUE.due("net " + what, x.net(0, what), net[what]);
        DUE.due("account 0", x.net(0, 10), 20);
        DUE.due("account 2", x.net(0, 12), 0);
        for (int what : new int[] {-1, 7, 9, 13, 16, MAX, MIN}) DUE.due("net " + what, x.net(0, what), NONE);
        DUE.due("net 1", x.net(1, 0), NONE);
        DUE.due("net -1", x.net(-1, 0), NONE);
        Due.tell(x, 0, "");
        int[] first = {2, 10, 10, 0, 0, 5, 0};
        for (int what = 0; what < 7; what++) DUE.due("net as at first " + what, x.net(1, what), first[what]);
        Due.put(x, "step 3;step 4;account 1;account 2;tie 1;rule 1;rule 0;reward 9;");
        x.text(0, 1);
        DUE.due("later ones strike", x.net(1, 0), 4);
        DUE.due("accounts are further ones", x.net(1, 6), 2);
        DUE.due("rule", x.net(1, 3), 0);
        DUE.due("tie", x.net(1, 4), 1);
        DUE.due("reward", x.net(1, 5), 9);

        DUE.due("blocks", x.block(0, NONE, 0), 6);
        DUE.due("blocks, what 1", x.block(0, NONE, 1), -2);
        int[] zero = {NONE, 0, NONE, NONE};
        int[] third = {1, 6, 2, 1};
        for (int what = 0; what < 4; what++) {
            DUE.due("block 0, " + what, x.block(0, 0, what), zero[what]);
            DUE.due("block 3, " + what, x.block(0, 3, what), third[what]);
        }
        DUE.due("from", x.block(0, 3, 10), 1);
        DUE.due("to", x.block(0, 3, 11), 2);
        DUE.due("how much", x.block(0, 3, 12), 5);
        for (int what : new int[] {-1, 4, 9, 13, 19, 20, 30, MAX, MIN}) DUE.due("block 3, " + what, x.block(0, 3, what), -2);
        DUE.due("pay of block 0", x.block(0, 0, 10), -2);
        DUE.due("block 7", x.block(0, 7, 0), -2);
        DUE.due("block -2", x.block(0, -2, 0), -2);
        DUE.due("block MAX", x.block(0, MAX, 0), -2);
        DUE.due("blocks 1", x.block(1, 0, 0), -2);
        Due.tell(x, 1, "block 0 0 0;pay 0 1 1;pay 2 3 4;pay 5 4 99;");
        DUE.due("third pay", x.block(1, 1, 30), 5);
        DUE.due("third pay", x.block(1, 1, 31), 4);
        DUE.due("third pay", x.block(1, 1, 32), 99);
        DUE.due("no fourth", x.block(1, 1, 40), -2);
        DUE.due("pays", x.block(1, 1, 3), 3);
        DUE.due("count", x.count(1), 2);
    }

    // 8, 13, 21
    private static void rows() {
        WorkChains x = sample();
        DUE.due("deeds", x.deed(0, NONE, 0), 14);
        DUE.due("deeds, what 1", x.deed(0, NONE, 1), -2);
        int[][] deeds = {{0, 0, 4}, {1, 1, 4}, {7, 3, 1}, {11, 2, 5}, {13, 2, 4}};
        for (int[] d : deeds) {
            DUE.due("sort of deed " + d[0], x.deed(0, d[0], 0), d[1]);
            DUE.due("number of deed " + d[0], x.deed(0, d[0], 1), d[2]);
        }
        for (int[] no : new int[][] {{0, 14, 0}, {0, -2, 0}, {0, 0, 2}, {0, 0, -1}, {1, 0, 0}, {-1, NONE, 0}, {0, MAX, 0}, {0, MIN, 0}}) {
            DUE.due("deed", x.deed(no[0], no[1], no[2]), -2);
        }
        DUE.due("pays", x.pool(0, NONE, 0), 4);
        int[] second = {2, 0, 4, 2};
        for (int what = 0; what < 4; what++) DUE.due("pool " + what, x.pool(0, 1, what), second[what]);
        for (int[] no : new int[][] {{0, 4, 0}, {0, -2, 0}, {0, 0, 4}, {0, 0, -1}, {1, 0, 0}, {0, NONE, 1}}) {
            DUE.due("pool", x.pool(no[0], no[1], no[2]), -2);
        }
        DUE.due("facts", x.fact(0, NONE, 0), 2);
        DUE.due("fact 1", x.fact(0, 1, 0), 9);
        DUE.due("fact 1", x.fact(0, 1, 1), 4);
        for (int[] no : new int[][] {{0, 2, 0}, {0, -2, 0}, {0, 0, 2}, {0, 0, -1}, {1, 0, 0}, {0, NONE, 1}}) {
            DUE.due("fact", x.fact(no[0], no[1], no[2]), -2);
        }
    }

    // 9, 10
    private static void stopAndState() {
        WorkChains x = sample();
        DUE.due("stop: 4 is whole", x.stop(0, 0, 0), 13);
        for (int[] no : new int[][] {{1, 0, 0}, {0, 1, 0}, {0, 0, 1}, {-1, 0, 0}, {0, -1, 0}, {0, 0, -1}}) {
            DUE.due("stop", x.stop(no[0], no[1], no[2]), NONE);
            DUE.due("state", x.state(no[0], no[1], no[2], 0, 0), NONE);
        }
        // tip, height, whole, orphans, undone, done, rule, headtip, wanted, accounts
        state(x, 0, 0, 0, 1, 0, 0, 0, 0, 0, 0, 20, 3, 0);
        state(x, 1, 0, 0, 1, 16, 0, 0, 0, 0, 0, 20, 3, 0);
        state(x, 3, 0, 0, 1, 16, 0, 0, 0, 1, 2, 20, 3, 0);
        state(x, 4, 1, 1, 3, 16, 0, 1, 0, 1, 0, 19, 9, 0);
        state(x, 6, 2, 2, 7, 16, 0, 2, 0, 2, 0, 19, 14, 0);
        state(x, 7, 2, 2, 7, 0, 0, 2, 0, 4, 8, 19, 14, 0);
        state(x, 8, 2, 2, 7, 0, 0, 2, 1, 4, 8, 19, 14, 0);
        state(x, 9, 4, 3, 31, 0, 1, 4, 1, 4, 0, 19, 4, 15);
        state(x, 11, 4, 3, 31, 0, 1, 4, 1, 4, 0, 19, 4, 15);
        state(x, 13, 4, 3, 31, 0, 1, 4, 0, 4, 0, 19, 4, 15);
        for (int what : new int[] {-1, 9, 13, 16, MAX, MIN}) DUE.due("state, what " + what, x.state(0, 0, 0, 9, what), NONE);
        for (int n : new int[] {-1, 14, 15, MAX, MIN}) DUE.due("state of " + n, x.state(0, 0, 0, n, 0), NONE);
        stops("head 1;head 1;", 1);
        stops("body 1;body 1;", 1);
        stops("head 1;head 7;", 1);
        stops("drop 1;", 0);
        stops("head 1;drop 1;drop 1;", 2);
        stops("head 1;drop 1;head 1;body 1;drop 1;", 4);
        stops("", 0);
        stops("head 6;body 6;drop 6;body 6;", 4);
    }

    private static void state(WorkChains x, int n, int... answers) {
        for (int i = 0; i < answers.length; i++) {
            int what = i < 9 ? i : i + 1;
            DUE.due("state of " + n + ", what " + what, x.state(0, 0, 0, n, what), answers[i]);
        }
    }

    private static void stops(String feed, int stop) {
        WorkChains x = sample();
        Due.put(x, feed);
        x.text(2, 0);
        DUE.due("stop of " + feed, x.stop(0, 0, 0), stop);
        DUE.due("state at stop of " + feed, x.state(0, 0, 0, stop, 0) >= 0, true);
        DUE.due("state past stop of " + feed, x.state(0, 0, 0, stop + 1, 0), NONE);
    }

    /** A rule that is the one already is not another one: such a deed can't be, whatever goes deed by deed. */
    private static void anotherRule() {
        stops("rule 0;", 0);
        stops("rule 0;rule 1;", 0);
        stops("rule 1;rule 1;", 1);
        stops("rule 1;rule 0;rule 1;rule 0;", 4);
        stops("rule 1;head 1;rule 1;head 2;", 2);
        stops("head 1;rule 00;head 2;", 1);
        String two = "block 0 0 0;block 0 0 0;";
        WorkChains x = with("account 0;rule 1;", two, "rule 1;rule 0;", "");
        DUE.due("by a net's rule 1", x.stop(0, 0, 0), 0);
        DUE.due("by a net's rule 1", x.state(0, 0, 0, 0, 6), 1);
        DUE.due("by a net's rule 1", x.state(0, 0, 0, 1, 6), NONE);
        DUE.due("0 is another one", with("account 0;rule 1;", two, "rule 0;rule 0;", "").stop(0, 0, 0), 1);
        x = with("account 0;", two, "head 2;rule 0;body 2;", "");
        DUE.due("no tip", x.after(0, 0, 0, 5), NONE);
        DUE.due("none done", x.after(0, 0, 0, 2), 0);
        DUE.due("waiting", x.after(0, 0, 0, 4), 4);
    }

    /** By a law a deed can't be, if its rule is the law's already. */
    private static void lawsAndRules() {
        String one = "block 0 0 0;";
        // by laws of rule 1 there is no state behind deed 2; all others tip 1
        fits(with("account 0;", one, "head 1;body 1;rule 1;", ""), 36, NONE, NONE, NONE, 3, 1);
        fits(with("account 0;rule 1;", one, "head 1;rule 1;body 1;", "tip 3 1;"), 18, 0, NONE, NONE, 0, 1);
        fits(with("account 0;", one, "head 1;rule 0;body 1;", "tip 3 1;"), 18, 1, NONE, NONE, 0, 21);
        fits(with("account 0;", one, "head 1;rule 0;body 1;", "tip 1 0;"), 36, NONE, NONE, NONE, 2, 1);
        fits(with("account 0;", one, "rule 0;rule 1;rule 1;", "tip 3 0;"), 0, NONE, NONE, NONE, NONE, -2);
        WorkChains x = with("account 0;", one, "rule 0;rule 1;", "tip 2 0;");
        fits(x, 18, 1, NONE, NONE, 0, 21);
        odds(x, 0, 1, 1, 1);
    }

    private static void tiesAndRules() {
        String two = "block 0 0 0;block 0 0 0;";
        String late = "head 2;body 2;head 1;body 1;";
        DUE.due("tie 0: first whole", with("account 0;", two, late, "").state(0, 0, 0, 4, 0), 2);
        DUE.due("tie 1: least", with("account 0;tie 1;", two, late, "").state(0, 0, 0, 4, 0), 1);
        DUE.due("rule 1, tie 0", with("account 0;rule 1;", two, late, "").state(0, 0, 0, 4, 0), 2);
        DUE.due("rule 1, tie 1", with("account 0;rule 1;tie 1;", two, late, "").state(0, 0, 0, 4, 0), 1);
        // 3 and 4 become whole by one deed, the least first
        String four = "block 0 0 0;block 0 0 0;block 1 0 0;block 1 0 0;";
        String atOnce = "head 4;body 4;head 3;body 3;head 1;body 1;";
        DUE.due("at once", with("account 0;", four, atOnce, "").state(0, 0, 0, 6, 0), 3);
        DUE.due("rule 0", with("account 0;step 9;", BROAD, ALL_COME, "").state(0, 0, 0, 14, 0), 3);
        DUE.due("rule 1", with("account 0;step 9;rule 1;", BROAD, ALL_COME, "").state(0, 0, 0, 14, 0), 5);
        WorkChains x = with("account 0;step 9;", BROAD, ALL_COME + "rule 1;rule 0;", "");
        DUE.due("rule 1 later", x.state(0, 0, 0, 15, 0), 5);
        DUE.due("3 undone", x.state(0, 0, 0, 15, 4), 3);
        DUE.due("3 + 2 done", x.state(0, 0, 0, 15, 5), 5);
        DUE.due("undone again", x.state(0, 0, 0, 16, 4), 5);
        DUE.due("done anew", x.state(0, 0, 0, 16, 5), 8);
    }

    private static void orphansAndDrops() {
        String chain = "block 0 0 0;block 1 0 0;block 2 0 0;";
        WorkChains x = with("account 0;", chain, "head 3;body 2;head 2;drop 2;body 1;", "");
        DUE.due("3 is an orphan", x.state(0, 0, 0, 1, 3), 8);
        DUE.due("a body is no head", x.state(0, 0, 0, 2, 3), 8);
        DUE.due("2 is one now, 3 no more", x.state(0, 0, 0, 3, 3), 4);
        DUE.due("3 again", x.state(0, 0, 0, 4, 3), 8);
        DUE.due("waiting", x.after(0, 0, 0, 4), 2 + 8);
        // a block that is not sound has a head, too
        x = with("account 0;", "block 0 5 0;block 1 4 0;block 2 9 0;", "head 1;body 1;head 2;head 3;body 2;body 3;", "");
        DUE.due("headtip", x.state(0, 0, 0, 4, 7), 3);
        DUE.due("wanted", x.state(0, 0, 0, 4, 8), 4 + 8);
        DUE.due("whole", x.state(0, 0, 0, 6, 2), 3);
        DUE.due("wanted no more", x.state(0, 0, 0, 6, 8), 0);
        DUE.due("waiting", x.after(0, 0, 0, 4), 4 + 8);
    }

    // 11
    private static void works() {
        WorkChains x = sample();
        long[][] due = {
            {0, 8, 8, 76, 1, 20, 3, 0}, {1, 8, 16, 68, 1, 19, 9, 0}, {2, 20, 36, 20, 1, 19, 14, 0}, {2, 20, 36, 40, 1, 19, 4, 10},
            {3, 20, 56, 20, 1, 19, 4, 15}, {3, 20, 56, NONE, 0, NONE, NONE, NONE}, {1, 8, 16, NONE, 0, NONE, NONE, NONE}};
        for (int k = 0; k < due.length; k++) {
            for (int i = 0; i < 8; i++) {
                int what = i < 5 ? i : i + 5;
                DUE.due("work of " + k + ", what " + what, x.work(0, 0, k, what), due[k][i]);
            }
        }
        for (int what : new int[] {-1, 5, 9, 13, 16, MAX, MIN}) DUE.due("work, what " + what, x.work(0, 0, 1, what), NONE);
        for (int k : new int[] {-1, 7, 15, MAX, MIN}) DUE.due("work of " + k, x.work(0, 0, k, 0), NONE);
        DUE.due("no net", x.work(1, 0, 0, 0), NONE);
        DUE.due("no blocks", x.work(0, 1, 0, 0), NONE);
    }

    private static void worksBounded() {
        // step 1: no later than itself, so times the target, at most 4
        WorkChains x = with("account 0;step 1;start 99;target 99;", "block 0 0 0;block 1 0 0;", "", "");
        DUE.due("4 times", x.work(0, 0, 1, 1), 396);
        DUE.due("4 times", x.work(0, 0, 2, 1), 1584);
        x = with("account 0;step 1;start 10;target 3;", "block 0 50 0;", "", "");
        DUE.due("3 times", x.work(0, 0, 1, 1), 30);
        StringBuilder chain = new StringBuilder();
        for (int k = 0; k < 14; k++) chain.append("block ").append(k).append(" 0 0;");
        x = with("account 0;step 1;start 99;target 99;", chain.toString(), "", "");
        DUE.due("past 32 bits", x.work(0, 0, 14, 1), 99L << 28);
        DUE.due("and weighed", x.work(0, 0, 14, 2), 99L * ((1L << 30) - 1) / 3);
        // a 4th, cut down; 1 at least
        x = with("account 0;step 2;start 7;target 1;", "block 0 90 0;block 1 90 0;block 2 99 0;block 3 99 0;", "", "");
        DUE.due("a 4th", x.work(0, 0, 2, 1), 1);
        DUE.due("the same", x.work(0, 0, 3, 1), 1);
        DUE.due("1 at least", x.work(0, 0, 4, 1), 1);
        // cut down: 7 * 10 / 4
        x = with("account 0;step 2;start 7;", "block 0 4 0;block 1 4 0;", "", "");
        DUE.due("cut down", x.work(0, 0, 2, 1), 17);
        // a parent that was made ahead counts as 1 later: unsound, but it has work
        x = with("account 0;step 2;start 10;target 3;", "block 0 9 0;block 1 20 0;block 2 5 0;block 3 9 0;", "", "");
        DUE.due("height 2", x.work(0, 0, 2, 1), 3);
        DUE.due("height 4", x.work(0, 0, 4, 1), 9);
        x = with("account 0;step 3;start 10;target 10;", "block 0 3 0;block 1 5 0;block 2 9 0;block 3 9 0;", "", "");
        DUE.due("height 2 of 3", x.work(0, 0, 2, 1), 10);
        DUE.due("height 3 of 3: 5 later", x.work(0, 0, 3, 1), 20);
        DUE.due("height 4 of 3", x.work(0, 0, 4, 1), 20);
    }

    private static void soundness() {
        sound("account 5;account 0;reward 3;", "block 0 1 0;pay 0 1 5;pay 1 0 5;", 1, 1);
        sound("account 5;account 0;reward 3;", "block 0 1 0;pay 1 0 5;pay 0 1 5;", 1, 0);
        sound("account 5;account 0;reward 3;", "block 0 1 0;pay 0 1 6;", 1, 0);
        sound("account 5;account 0;reward 3;", "block 0 1 0;block 1 1 1;pay 0 1 8;", 2, 1);
        sound("account 5;account 0;reward 3;", "block 0 1 2;", 1, 0);
        sound("account 5;account 0;reward 3;", "block 0 1 0;pay 0 2 1;", 1, 0);
        sound("account 5;account 0;reward 3;", "block 0 1 0;pay 2 0 1;", 1, 0);
        sound("account 5;", "block 0 5 0;block 1 4 0;block 2 9 0;", 2, 0);
        sound("account 5;", "block 0 5 0;block 1 4 0;block 2 9 0;", 3, 0);
        sound("account 5;", "block 0 5 0;block 1 5 0;", 2, 1);
        sound("", "block 0 5 0;", 1, 0);
        sound("", "block 0 5 0;", 0, 1);
    }

    private static void sound(String net, String blocks, int k, int is) {
        DUE.due("sound: " + k + " of " + blocks + " in " + net, with(net, blocks, "", "").work(0, 0, k, 4), is);
    }

    // 12
    private static void tips() {
        WorkChains x = sample();
        int[] due = {4, 16, 1, 2, -2};
        for (int what = 0; what < 5; what++) DUE.due("tip " + what, x.tip(0, 0, what), due[what]);
        DUE.due("tip -1", x.tip(0, 0, -1), -2);
        DUE.due("no net", x.tip(1, 0, 0), -2);
        DUE.due("no blocks", x.tip(0, -1, 0), -2);
        x = with("account 0;step 9;", "block 0 0 0;block 0 0 0;block 2 0 0;block 1 0 0;block 0 0 4;", "", "");
        DUE.due("the first by numbers", x.tip(0, 0, 0), 3);
        DUE.due("either", x.tip(0, 0, 1), 8 + 16);
        DUE.due("withheld", x.tip(0, 0, 3), 4);
        x = with("account 0;step 9;rule 1;", BROAD, "", "");
        DUE.due("rule 1", x.tip(0, 0, 0), 5);
        DUE.due("any of its children", x.tip(0, 0, 1), 32 + 64 + 128);
        DUE.due("without 4", x.tip(0, 0, 3), 16);
        x = with("", "block 0 0 0;", "", "");
        DUE.due("no other", x.tip(0, 0, 0), 0);
        DUE.due("0 alone", x.tip(0, 0, 1), 1);
        DUE.due("none to be withheld", x.tip(0, 0, 2), NONE);
        DUE.due("none to be withheld", x.tip(0, 0, 3), NONE);
        // tie 1 is not asked for tips
        x = with("account 0;tie 1;", "block 0 0 0;block 0 0 0;", "", "");
        DUE.due("by tie 0", x.tip(0, 0, 1), 6);
    }

    // 14
    private static void fills() {
        WorkChains x = sample();
        fill(x, 4, 6, 0, 1, 3);
        fill(x, 2, 14, 0, 2, 1);
        fill(x, 0, 4, 0, 3);
        for (int block : new int[] {5, 6, 7, -1, MAX}) DUE.due("fill of " + block, x.fill(0, 0, block, 0, NONE), NONE);
        DUE.due("no net", x.fill(1, 0, 0, 0, NONE), NONE);
        DUE.due("no blocks", x.fill(0, 1, 0, 0, NONE), NONE);
        DUE.due("no pool", x.fill(0, 0, 0, 1, NONE), NONE);
        DUE.due("k -2", x.fill(0, 0, 4, 0, -2), NONE);
        DUE.due("k MAX", x.fill(0, 0, 4, 0, MAX), NONE);
        Due.tell(x, 4, "pay 0 1 1 0;");
        fill(x, 0, 0);
        Due.put(x, "pay 0 1 20 9;pay 0 1 20 0;pay 0 1 18 2;");
        x.text(4, 1);
        fill(x, 0, 2, 2);
        // the same pay told twice is two; the fee of one row, the first by numbers
        Due.put(x, "pay 0 1 1 1;pay 0 1 1 1;pay 0 1 1 1;pay 0 1 1 1;");
        x.text(4, 1);
        fill(x, 0, 3, 0, 1, 2);
        Due.put(x, "pay 5 0 1 9;pay 0 5 1 9;");
        x.text(4, 1);
        fill(x, 0, 0);
        Due.put(x, "");
        x.text(4, 1);
        fill(x, 0, 0);
    }

    private static void fill(WorkChains x, int block, int fees, int... row) {
        int pool = x.count(4) - 1;
        DUE.due("fill of " + block, x.fill(0, 0, block, pool, NONE), fees);
        for (int k = 0; k < row.length; k++) DUE.due("fill of " + block + ", " + k, x.fill(0, 0, block, pool, k), row[k]);
        DUE.due("fill of " + block + ", no more", x.fill(0, 0, block, pool, row.length), NONE);
    }

    // 15
    private static void replays() {
        WorkChains x = sample();
        DUE.due("4 on 2", x.replay(0, 0, 4, 2, false), 1);
        DUE.due("4 on 2, not", x.replay(0, 0, 4, 2, true), 0);
        DUE.due("2 on 4", x.replay(0, 0, 2, 4, false), 0);
        DUE.due("1 on 0", x.replay(0, 0, 1, 0, false), 1);
        DUE.due("4 on 0", x.replay(0, 0, 4, 0, false), 2);
        DUE.due("0 on 4", x.replay(0, 0, 0, 4, false), 0);
        DUE.due("5 is not sound", x.replay(0, 0, 5, 2, false), NONE);
        DUE.due("5 is not sound", x.replay(0, 0, 2, 5, true), NONE);
        DUE.due("no 7", x.replay(0, 0, 7, 2, false), NONE);
        DUE.due("no net", x.replay(1, 0, 1, 2, false), NONE);
        DUE.due("no blocks", x.replay(0, 1, 1, 2, false), NONE);
        // the second branch has paid all; one pay can't be done, the next can
        x = with("account 9;account 1;", "block 0 0 1;pay 0 1 9;block 0 0 1;pay 0 1 4;pay 1 0 1;", "", "");
        DUE.due("2 on 1", x.replay(0, 0, 2, 1, false), 1);
        DUE.due("2 on 1, not", x.replay(0, 0, 2, 1, true), 1);
        // no reward is in a replay: 1 has but 1
        x = with("account 9;account 1;", "block 0 0 1;block 1 0 0;pay 1 0 3;block 0 0 0;", "", "");
        DUE.due("2 on 3", x.replay(0, 0, 2, 3, true), 1);
    }

    // 16, 18, 27
    private static void paths() {
        WorkChains x = sample();
        path(x, 4, 2, 4, 3, 2);
        path(x, 2, 4, 2, 3, 4);
        path(x, 4, 0, 4, 3, 1);
        path(x, 0, 4, 1, 3, 4);
        path(x, 3, 3);
        path(x, 5, 6, 5, 2, 1, 6);
        int[][] meets = {{4, 2, 1}, {2, 4, 1}, {4, 3, 3}, {0, 4, 0}, {5, 6, 0}, {5, 5, 5}};
        for (int[] m : meets) DUE.due("meet of " + m[0] + ", " + m[1], x.meet(0, m[0], m[1]), m[2]);
        for (int no : new int[] {-1, 7, MAX, MIN}) {
            DUE.due("path", x.path(0, no, 1, NONE), NONE);
            DUE.due("path", x.path(0, 1, no, NONE), NONE);
            DUE.due("meet", x.meet(0, no, 1), NONE);
            DUE.due("meet", x.meet(0, 1, no), NONE);
            DUE.due("speed", x.speed(0, no, 1), -999);
        }
        DUE.due("no blocks", x.path(1, 0, 0, NONE), NONE);
        DUE.due("no blocks", x.meet(1, 0, 0), NONE);
        DUE.due("no blocks", x.speed(1, 4, 1), -999);
        DUE.due("k -2", x.path(0, 4, 2, -2), NONE);
        int[] speeds = {-999, 2, 4, 8, -999};
        for (int k = 0; k < 5; k++) DUE.due("speed " + k, x.speed(0, 4, k), speeds[k]);
        DUE.due("k 10", x.speed(0, 4, 10), -999);
        DUE.due("of block 0", x.speed(0, 0, 1), -999);
        Due.tell(x, 1, "block 0 9 0;block 1 2 0;");
        DUE.due("made ahead", x.speed(1, 2, 1), -7);
        StringBuilder chain = new StringBuilder();
        for (int k = 0; k < 10; k++) chain.append("block ").append(k).append(' ').append(k * 2).append(" 0;");
        Due.put(x, chain.toString());
        x.text(1, 1);
        DUE.due("k 9", x.speed(1, 10, 9), 18);
        DUE.due("k 10 is another one", x.speed(1, 10, 10), -999);
    }

    private static void path(WorkChains x, int a, int b, int... row) {
        DUE.due("path", x.path(0, a, b, NONE), row.length);
        for (int k = 0; k < row.length; k++) DUE.due("path " + k, x.path(0, a, b, k), row[k]);
        DUE.due("path, no more", x.path(0, a, b, row.length), NONE);
    }

    // 17
    private static void owns() {
        WorkChains x = sample();
        long[][] due = {{0, 1, 1, 6}, {4, 0, 0, 1}, {2, 2, 5, 6}};
        for (int a = 0; a < 3; a++) {
            for (int what = 0; what < 4; what++) DUE.due("own of " + a + ", " + what, x.own(0, 0, a, what), due[a][what]);
        }
        for (int a : new int[] {-1, 3, 6, MAX}) DUE.due("own of " + a, x.own(0, 0, a, 0), -2);
        for (int what : new int[] {-1, 4, MAX}) DUE.due("own, what " + what, x.own(0, 0, 0, what), -2);
        DUE.due("no net", x.own(1, 0, 0, 0), -2);
        DUE.due("no blocks", x.own(0, 1, 0, 0), -2);
        x = with("account 1;", "", "", "");
        DUE.due("the tip", x.own(0, 0, 0, 0), 0);
        DUE.due("none made", x.own(0, 0, 0, 1), 0);
        DUE.due("none", x.own(0, 0, 0, 2), NONE);
        DUE.due("none", x.own(0, 0, 0, 3), NONE);
    }

    // 19, 20
    private static void chances() {
        long[][] due = {{3, 1, 1, 3, 10}, {3, 1, 3, 363, 1000}, {5, 1, 3, 5, 8}, {0, 0, 0, 1, 1}, {0, 1, 12, 0, 1}, {10, 6, 6, 1, 1},
            {10, 6, 5, 0, 1}, {0, 0, 12, 1, 1}, {1, 6, 6, 1, 1000000}, {5, 2, 2, 1, 4}};
        for (long[] d : due) {
            DUE.due("chance", WorkChainsOf.chance(d, false), d[3]);
            DUE.due("chance", WorkChainsOf.chance(d, true), d[4]);
        }
        WorkChains x = new WorkChains();
        for (int p = -1; p <= 11; p++) {
            for (int z = -1; z <= 7; z++) {
                for (int n = -1; n <= 13; n++) {
                    String call = "chance(" + p + ", " + z + ", " + n + ")";
                    DUE.due(call, x.chance(p, z, n, false), Oracle.chance(p, z, n, false));
                    DUE.due(call, x.chance(p, z, n, true), Oracle.chance(p, z, n, true));
                    if (p == 0) DUE.due("race(" + z + ", " + n + ")", x.race(z, n), Oracle.race(z, n));
                }
            }
        }
        int[][] races = {{0, 0, 1}, {0, 6, 64}, {1, 0, 0}, {1, 3, 5}, {6, 6, 1}, {6, 5, 0}, {7, 1, NONE}, {1, 7, NONE}, {-1, 0, NONE}, {0, -1, NONE}};
        for (int[] r : races) DUE.due("race", x.race(r[0], r[1]), r[2]);
        DUE.due("other numbers", x.chance(MAX, MAX, MAX, true), NONE);
        DUE.due("other numbers", x.chance(MIN, MIN, MIN, false), NONE);
    }

    private static final class WorkChainsOf {
        static long chance(long[] d, boolean under) {
            return new WorkChains().chance((int) d[0], (int) d[1], (int) d[2], under);
        }
    }

    // 22, 30
    private static void laws() {
        WorkChains x = sample();
        // deed 7 is "rule 1": by laws of rule 1 there is no state behind 9
        fits(x, 18, 0, NONE, NONE, 0, 1);
        DUE.due("18th", x.fits(0, 0, 0, 0, 27), 19);
        DUE.due("no 19th", x.fits(0, 0, 0, 0, 28), -2);
        odds(x, 1, 1, 0, 1);
        Due.put(x, "tip 6 2;");
        x.text(3, 0);
        DUE.due("all fit", x.fits(0, 0, 0, 0, 0), 36);
        for (int k = 0; k < 36; k++) DUE.due("law " + k, x.fits(0, 0, 0, 0, 10 + k), 20 * (k / 18) + 10 * (k / 9 % 2) + k % 9 + 1);
        DUE.due("no more", x.fits(0, 0, 0, 0, 46), -2);
        for (int what : new int[] {-1, 5, 9, MAX, MIN}) DUE.due("fits, what " + what, x.fits(0, 0, 0, 0, what), -2);
        for (int[] no : new int[][] {{1, 0, 0, 0}, {0, 1, 0, 0}, {0, 0, 1, 0}, {0, 0, 0, 1}, {-1, -1, -1, -1}}) {
            DUE.due("fits", x.fits(no[0], no[1], no[2], no[3], 0), -2);
            DUE.due("odds", x.odds(no[0], no[1], no[2], no[3], 0, false), NONE);
        }
        String two = "block 0 0 0;block 0 0 0;";
        String late = "head 2;body 2;head 1;body 1;";
        x = with("account 0;", two, late, "tip 4 1;");
        fits(x, 18, NONE, 1, NONE, 0, 11);
        DUE.due("9th", x.fits(0, 0, 0, 0, 19), 31);
        odds(x, 1, 2, 1, 2);
        fits(with("account 0;", two, late, ""), 36, NONE, NONE, NONE, 4, 1);
        x = with("account 0;", two, late, "tip 5 1;");
        fits(x, 0, NONE, NONE, NONE, NONE, -2);
        odds(x, NONE, NONE, NONE, NONE);
        x = with("account 0;", two, late + "head 3;", "tip 40 2;");
        fits(x, 0, NONE, NONE, NONE, NONE, -2);
        x = with("account 0;", BROAD, ALL_COME, "tip 14 5;");
        fits(x, 14, 1, NONE, NONE, 0, 22);
        int[] steps = {22, 24, 25, 26, 27, 28, 29, 32, 34, 35, 36, 37, 38, 39};
        for (int k = 0; k < 14; k++) DUE.due("law " + k, x.fits(0, 0, 0, 0, 10 + k), steps[k]);
        odds(x, 0, 1, 1, 1);
        x = with("account 0;rule 1;tie 1;step 5;", BROAD, ALL_COME, "tip 14 3;");
        fits(x, 22, NONE, NONE, NONE, 0, 1);
        odds(x, 9, 11, 2, 11);
        DUE.due("another rule", x.odds(0, 0, 0, 0, 2, false), NONE);
        DUE.due("another rule", x.odds(0, 0, 0, 0, -1, true), NONE);
        // by rule 1 and step 2 or 4 to 9: 5, by the others: 3, behind the last deed alone
        fits(with("account 0;", BROAD, ALL_COME, ""), 36, NONE, NONE, NONE, 14, 1);
        fits(with("account 0;", two, "head 2;body 2;head 1;" + "drop 1;head 1;".repeat(18) + "body 1;", "tip 0 0;"), 36, NONE, NONE, NONE, 40, 1);
        oneLaw();
    }

    /** One law alone fits: by step 2 alone 3 and 5 weigh the same, and then rule 0 and tie 0 choose 5. */
    private static void oneLaw() {
        String blocks = "block 0 4 0;block 1 10 0;block 2 13 0;block 0 2 0;block 4 7 0;";
        String feed = "head 3;body 3;head 5;body 5;head 1;body 1;head 4;body 4;head 2;body 2;";
        WorkChains x = with("account 0;target 4;", blocks, feed, "tip 10 5;");
        fits(x, 1, 0, 0, 2, 0, 2);
        odds(x, 1, 1, 0, 1);
    }

    private static void fits(WorkChains x, int... due) {
        for (int i = 0; i < 5; i++) DUE.due("fits " + i, x.fits(0, 0, 0, 0, i), due[i]);
        DUE.due("the first", x.fits(0, 0, 0, 0, 10), due[5]);
    }

    private static void odds(WorkChains x, int n0, int d0, int n1, int d1) {
        DUE.due("odds of 0", x.odds(0, 0, 0, 0, 0, false), n0);
        DUE.due("odds of 0, under", x.odds(0, 0, 0, 0, 0, true), d0);
        DUE.due("odds of 1", x.odds(0, 0, 0, 0, 1, false), n1);
        DUE.due("odds of 1, under", x.odds(0, 0, 0, 0, 1, true), d1);
    }

    // 23
    private static void draws() {
        WorkChains x = sample();
        DUE.due("none drawn", x.drawn(0, 0, 5, 0, 2), 1);
        for (int n : new int[] {-1, 61, MAX, MIN}) DUE.due("drawn " + n, x.drawn(0, 0, 5, n, 0), NONE);
        for (int what : new int[] {-1, 9, 13, MAX, MIN}) DUE.due("drawn, what " + what, x.drawn(0, 0, 5, 3, what), NONE);
        DUE.due("no net", x.drawn(1, 0, 5, 3, 0), NONE);
        DUE.due("no blocks", x.drawn(0, 1, 5, 3, 0), NONE);
        // seed 0: 12345, shifted 0: a head; then 3554416254, shifted 54236: 54236 % 6 is 2, so head 3, an orphan
        DUE.due("head 3", x.drawn(0, 0, 0, 1, 3), 8);
        DUE.due("head 3", x.drawn(0, 0, 0, 1, 0), 0);
        Due.tell(x, 1, "");
        for (int seed = -3; seed < 4; seed++) {
            for (int what = 0; what < 11; what++) {
                if (what != 6) DUE.due("nothing to draw", x.drawn(0, 1, seed, 60, what), what == 2 ? 1 : what == 9 ? NONE : what == 10 ? 20 : 0);
            }
        }
    }

    // 24
    private static void leaves() {
        WorkChains x = sample();
        int[] due = {20, 1, 4, 2, 96, 0, 1, 0, 12, 2, -2};
        for (int what = 0; what < due.length; what++) DUE.due("leaves " + what, x.leaves(0, 0, what), due[what]);
        DUE.due("leaves -1", x.leaves(0, 0, -1), -2);
        DUE.due("no net", x.leaves(1, 0, 0), -2);
        DUE.due("no blocks", x.leaves(0, 1, 0), -2);
        x = with("account 0;step 9;", BROAD, "", "");
        int[] broad = {8 + 32 + 64 + 128, 2, 3, 0, 0, 1, 0, 3, 0, NONE};
        for (int what = 0; what < broad.length; what++) DUE.due("broad " + what, x.leaves(0, 0, what), broad[what]);
        x = with("account 0;step 9;rule 1;", BROAD, "", "");
        DUE.due("flip", x.leaves(0, 0, 5), 1);
        DUE.due("late", x.leaves(0, 0, 6), 3);
        x = with("", "block 0 0 0;", "", "");
        int[] zero = {1, 0, 0, 0, 2, 0, 0, 0, 0, NONE};
        for (int what = 0; what < zero.length; what++) DUE.due("0 alone " + what, x.leaves(0, 0, what), zero[what]);
        // work that falls turns, but is not steep; a fork needs two sound children
        x = with("account 0;step 2;start 90;target 1;", "block 0 50 0;block 1 50 0;block 0 0 5;", "", "");
        DUE.due("turns", x.leaves(0, 0, 8), 4);
        DUE.due("steepest", x.leaves(0, 0, 9), NONE);
        DUE.due("forks", x.leaves(0, 0, 1), 0);
        DUE.due("hardest", x.leaves(0, 0, 3), 0);
    }

    // 25
    private static void roots() {
        WorkChains x = sample();
        int[][] due = {{0, NONE, 0, 0, 0, 0, 0}, {1, NONE, 0, 0, 1, 0, 0}, {2, NONE, 0, 0, 1, 1, 0}, {4, NONE, 4, 0, 1, 0, 2}};
        for (int[] d : due) {
            for (int i = 0; i < 3; i++) {
                DUE.due("root of " + d[0] + ", " + i, x.root(0, 0, d[0], i), d[1 + i]);
                DUE.due("made of " + i, x.root(0, 0, d[0], 10 + i), d[4 + i]);
            }
        }
        DUE.due("root of 5", x.root(0, 0, 5, 0), 5);
        DUE.due("root of 6", x.root(0, 0, 6, 0), 6);
        for (int what : new int[] {1, 2, 10, 3}) DUE.due("5 is not sound", x.root(0, 0, 5, what), -2);
        for (int what : new int[] {-1, 3, 9, 13, MAX, MIN}) DUE.due("root, what " + what, x.root(0, 0, 4, what), -2);
        for (int k : new int[] {-1, 7, MAX, MIN}) DUE.due("root of " + k, x.root(0, 0, k, 0), -2);
        DUE.due("no net", x.root(1, 0, 0, 0), -2);
        DUE.due("no blocks", x.root(0, 1, 0, 0), -2);
        // 3 is behind 2, that is not sound
        x = with("account 0;account 9;account 9;", "block 0 5 0;block 1 4 0;block 2 9 0;block 0 5 0;block 1 5 0;block 5 5 0;block 5 5 0;", "", "");
        DUE.due("root of 3", x.root(0, 0, 3, 0), 2);
        // 4 is its parent's sibling's like; 2 is not sound; 7 is its own sibling
        DUE.due("uncles of 6", x.root(0, 0, 6, 1), 16);
        DUE.due("uncles of 5", x.root(0, 0, 5, 1), 16);
        DUE.due("uncles of 4", x.root(0, 0, 4, 1), 0);
        DUE.due("rich of 0: the least", x.root(0, 0, 0, 2), 1);
        DUE.due("rich of 6: 15", x.root(0, 0, 6, 2), 0);
        x = with("", "", "", "");
        DUE.due("nobody is rich", x.root(0, 0, 0, 2), NONE);
    }

    // 26, 28
    private static void gainsAndTwice() {
        WorkChains x = sample();
        int[][] due = {{0, 20, 1}, {2, 14, 1}, {4, 15, 1}};
        for (int a = 0; a < 3; a++) {
            for (int what = 0; what < 3; what++) DUE.due("gain of " + a + ", " + what, x.gain(0, 0, a, what), due[a][what]);
        }
        for (int a : new int[] {-1, 3, MAX}) DUE.due("gain of " + a, x.gain(0, 0, a, 0), NONE);
        for (int what : new int[] {-1, 3, MAX}) DUE.due("gain, what " + what, x.gain(0, 0, 0, what), NONE);
        DUE.due("no net", x.gain(1, 0, 0, 0), NONE);
        DUE.due("no blocks", x.gain(0, 1, 0, 0), NONE);
        DUE.due("twice", x.twice(0, 0, 1, 2, 4), 10);
        DUE.due("twice", x.twice(0, 0, 1, 4, 2), -10);
        DUE.due("twice", x.twice(0, 0, 2, 4, 4), 0);
        for (int no : new int[] {5, 7, -1, MAX, MIN}) {
            DUE.due("twice", x.twice(0, 0, 1, no, 2), -9999);
            DUE.due("twice", x.twice(0, 0, 1, 2, no), -9999);
        }
        DUE.due("no account", x.twice(0, 0, 3, 2, 4), -9999);
        DUE.due("no account", x.twice(0, 0, -1, 2, 4), -9999);
        DUE.due("no net", x.twice(1, 0, 1, 2, 4), -9999);
        DUE.due("no blocks", x.twice(0, 1, 1, 2, 4), -9999);
        x = with("account 4;account 9;", "block 0 0 0;block 0 0 0;block 0 0 1;block 1 0 1;", "", "");
        DUE.due("of several the least", x.gain(0, 0, 0, 0), 1);
        DUE.due("how much", x.gain(0, 0, 0, 1), 9);
        DUE.due("by how many", x.gain(0, 0, 0, 2), 3);
        DUE.due("by how many", x.gain(0, 0, 1, 2), 2);
    }

    // 29
    private static void afters() {
        WorkChains x = sample();
        int[] due = {1, 1, 4, 1, 0, 3, -2};
        for (int what = 0; what < due.length; what++) DUE.due("after " + what, x.after(0, 0, 0, what), due[what]);
        DUE.due("after -1", x.after(0, 0, 0, -1), -2);
        for (int[] no : new int[][] {{1, 0, 0}, {0, 1, 0}, {0, 0, 1}, {-1, -1, -1}}) DUE.due("after", x.after(no[0], no[1], no[2], 0), -2);
        x = with("account 0;step 9;", BROAD, ALL_COME + "rule 1;rule 0;rule 1;", "");
        int[] broad = {3, 8, 10, 3, 0, 1};
        for (int what = 0; what < broad.length; what++) DUE.due("broad " + what, x.after(0, 0, 0, what), broad[what]);
        x = with("account 0;", BROAD, "rule 1;head 2;body 2;head 9;", "");
        int[] none = {0, 0, 0, 0, 4, NONE};
        for (int what = 0; what < none.length; what++) DUE.due("none " + what, x.after(0, 0, 0, what), none[what]);
    }

    // 31, 32, 33
    private static void images() {
        WorkChains x = sample();
        for (int sort = 0; sort < 5; sort++) DUE.due("count", x.count(sort), 1);
        Due.put(x, "step?");
        x.text(0, 0);
        Due.put(x, "step 4;");
        DUE.due("image", x.image(1), true);
        DUE.due("image 3", x.image(3), false);
        DUE.due("image -1", x.image(-1), false);
        DUE.due("again 0", x.again(0), false);
        DUE.due("again 3", x.again(3), false);
        DUE.due("again -1", x.again(-1), false);
        x.text(0, 0);
        Due.put(x, "block 0 0 0;");
        x.text(1, 0);
        Due.put(x, "rule 0;");
        x.text(2, 0);
        Due.put(x, "tip 0 0;");
        x.text(3, 0);
        Due.put(x, "pay 1 0 7 7;");
        x.text(4, 0);
        Due.tell(x, 4, "");
        DUE.due("image 0", x.image(0), true);
        DUE.due("again 1", x.again(1), true);
        DUE.due("the fault", x.fault(0), 1);
        DUE.due("its place", x.fault(1), 4);
        DUE.due("the tape", x.end(8), NONE);
        DUE.due("the tape", x.end(7), 7);
        DUE.due("nets", x.net(0, 0), 2);
        DUE.due("blocks", x.block(0, NONE, 0), 6);
        DUE.due("feeds", x.deed(0, NONE, 0), 14);
        DUE.due("logs", x.fact(0, NONE, 0), 2);
        DUE.due("pools", x.pool(0, NONE, 0), 4);
        DUE.due("count", x.count(4), 1);
        DUE.due("the tape as text", x.text(0, NONE), 1);
        DUE.due("step", x.net(1, 0), 4);
        DUE.due("again 0", x.again(0), true);
        DUE.due("nets", x.count(0), 1);
        DUE.due("step", x.net(0, 0), 4);
        DUE.due("pools", x.count(4), 2);
        DUE.due("pay", x.pool(0, 0, 2), 7);
        DUE.due("again 1 once more", x.again(1), true);
        DUE.due("pay", x.pool(0, 0, 2), 10);
        DUE.due("image over 1", x.image(0), true);
        DUE.due("end", x.end(0), 0);
        DUE.due("again 0", x.again(0), true);
        DUE.due("tape", x.end(7), 7);
        DUE.due("2 is none", x.again(2), false);
    }
}
