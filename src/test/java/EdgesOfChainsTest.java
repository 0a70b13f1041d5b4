import java.util.ArrayList;
import java.util.List;

/** Each sentence of the document on blocks in a net, feeds, laws, chances and pools that names an edge: a test of its own. */
public final class EdgesOfChainsTest {
    private static final Due DUE = new Due();
    private static final int NONE = -1;
    private static final int MIN = Integer.MIN_VALUE;
    private static final int MAX = Integer.MAX_VALUE;
    /** No numbers of nets, blocks, feeds, logs or pools, if there is one of each. */
    private static final int[] NO_PLACES = {-1, 1, 2, MAX, MIN};
    private static final String ONE = "block 0 0 0;";
    private static final String TWO = "block 0 0 0;block 0 0 0;";
    /** A long branch 1, 2, 3, and a broad one, 4 with 5, 6, 7. */
    private static final String BROAD = "block 0 0 0;block 1 0 0;block 2 0 0;block 0 0 0;block 4 0 0;block 4 0 0;block 4 0 0;";
    /** 1 is sound, 2 not (made ahead), 3 is behind it, 4 has a maker that is not there. */
    private static final String BAD = "block 0 5 0;block 1 4 0;block 2 9 0;block 1 5 1;";

    public static void main(String[] args) throws Exception {
        DUE.read(args[0]);
        heightsAndWorks();
        boundsOfWork();
        sound();
        ledgers();
        comings();
        dropsAndRules();
        tipsOfStates();
        headTips();
        weights();
        tipsAndWithheld();
        fills();
        replaysAndPaths();
        owns();
        turns();
        chances();
        laws();
        draws();
        leaves();
        roots();
        gains();
        flips();
        afters();
        nothingElse();
        manyCalls();
        noneSuch();
        noneSuchOfLaws();
        DUE.close("EdgesOfChainsTest");
    }

    // ---- helpers

    private static WorkChains with(String net, String blocks, String feed, String log, String pool) {
        WorkChains x = new WorkChains();
        String[] texts = {net, blocks, feed, log, pool};
        for (int sort = 0; sort < 5; sort++) DUE.due("text " + texts[sort], Due.tell(x, sort, texts[sort]), 0);
        return x;
    }

    private static WorkChains with(String net, String blocks) {
        return with(net, blocks, "", "", "");
    }

    private static WorkChains with(String net, String blocks, String feed) {
        return with(net, blocks, feed, "", "");
    }

    /** So many blocks, each the child of the one ahead. */
    private static String chain(int n) {
        StringBuilder s = new StringBuilder();
        for (int k = 0; k < n; k++) s.append("block ").append(k).append(" 0 0;");
        return s.toString();
    }

    private static String comes(int... blocks) {
        StringBuilder s = new StringBuilder();
        for (int k : blocks) s.append("head ").append(k).append(";body ").append(k).append(';');
        return s.toString();
    }

    /** What the bits of these blocks are. */
    private static int bits(int... blocks) {
        int bits = 0;
        for (int k : blocks) bits |= 1 << k;
        return bits;
    }

    private static void work(String net, String blocks, int k, long due) {
        DUE.due("work of " + k + " of " + blocks + " in " + net, with(net, blocks).work(0, 0, k, 1), due);
    }

    private static void sound(String net, String blocks, int due) {
        WorkChains x = with(net, blocks);
        int is = 0;
        for (int k = 0; k <= x.block(0, NONE, 0); k++) is |= (int) x.work(0, 0, k, 4) << k;
        DUE.due("sound ones of " + blocks + " in " + net, is, due);
        DUE.due("bad ones", x.leaves(0, 0, 4), (2 << x.block(0, NONE, 0)) - 1 - due);
    }

    private static void stop(String net, String blocks, String feed, int due) {
        WorkChains x = with(net, blocks, feed);
        String of = feed + " of " + blocks + " in " + net;
        DUE.due("stop of " + of, x.stop(0, 0, 0), due);
        DUE.due("state at stop of " + of, x.state(0, 0, 0, due, 2) > 0, true);
        DUE.due("state past stop of " + of, x.state(0, 0, 0, due + 1, 2), NONE);
    }

    private static void stop(String feed, int due) {
        stop("account 0;", TWO, feed, due);
    }

    private static void state(String net, String blocks, String feed, int what, int due) {
        WorkChains x = with(net, blocks, feed);
        DUE.due("state " + what + " behind " + feed + " of " + blocks + " in " + net, x.state(0, 0, 0, x.deed(0, NONE, 0), what), due);
    }

    // ---- terms 2: blocks in a net

    private static void heightsAndWorks() {
        DUE.says("HEIGHT of BLOCK 0 is 0, of another one 1 more than of its PARENT.");
        WorkChains x = with("", chain(14));
        for (int k = 0; k <= 14; k++) DUE.due("height of " + k, x.work(0, 0, k, 0), k);
        DUE.due("height of 2", with("", TWO).work(0, 0, 2, 0), 1);
        DUE.says("WORK of BLOCK 0 is START");
        for (int start : new int[] {1, 99}) work("start " + start + ";", "", 0, start);
        DUE.says("of another one that of its PARENT, but if HEIGHT is a multiple of STEP");
        for (int step = 1; step <= 9; step++) {
            x = with("start 1;target 3;step " + step + ";", chain(14));
            long due = 1;
            for (int k = 1; k <= 14; k++) {
                if (k % step == 0) due *= 3;
                DUE.due("step " + step + ": work of " + k, x.work(0, 0, k, 1), due);
            }
        }
        DUE.says("by how much later the PARENT was made than the BLOCK that is STEP less 1 ahead of the PARENT (1, if no later)");
        String net = "start 20;target 3;step 2;";
        work(net, "block 0 0 0;block 1 9 0;", 2, 60);
        work(net, "block 0 1 0;block 1 9 0;", 2, 60);
        work(net, "block 0 2 0;block 1 9 0;", 2, 30);
        work(net, "block 0 3 0;block 1 9 0;", 2, 20);
        // 3 was made ahead of 2, so no later: 20 by 7, then 60 times
        work(net, "block 0 7 0;block 1 7 0;block 2 2 0;block 3 9 0;", 2, 8);
        work(net, "block 0 7 0;block 1 7 0;block 2 2 0;block 3 9 0;", 4, 24);
        work("start 20;target 3;step 1;", "block 0 50 0;", 1, 60);
        work("start 20;target 3;step 3;", "block 0 2 0;block 1 4 0;block 2 50 0;", 3, 15);
        work("start 20;target 99;step 9;", chain(8) + "block 8 99 0;", 9, 80);
        work("start 20;target 99;step 9;", chain(7) + "block 7 99 0;block 8 99 0;", 9, 20);
    }

    private static void boundsOfWork() {
        String slow = "block 0 10 0;block 1 10 0;";
        String fast = "block 0 0 0;block 1 0 0;";
        DUE.says("cut down, no more than 4 times, no less than a 4th, cut down, of that of its PARENT, 1 at least.");
        work("start 99;target 11;", slow, 2, 108);
        work("start 99;target 39;", slow, 2, 386);
        work("start 99;target 40;", slow, 2, 396);
        work("start 99;target 41;", slow, 2, 396);
        work("start 99;target 99;", fast, 2, 396);
        work("start 99;target 3;", fast, 2, 297);
        work("start 99;target 4;", fast, 2, 396);
        work("start 99;target 5;", fast, 2, 396);
        // 40 * 2 / 10 is 8, but a 4th is 10; 40 * 3 / 10 is 12
        work("start 40;target 2;", slow, 2, 10);
        work("start 40;target 3;", slow, 2, 12);
        work("start 43;target 1;", slow, 2, 10);
        work("start 7;target 1;", slow, 2, 1);
        work("start 8;target 1;", slow, 2, 2);
        for (int start = 1; start < 8; start++) work("start " + start + ";target 1;", slow, 2, 1);
        WorkChains x = with("account 0;start 99;target 99;step 1;", chain(14));
        long work = 99;
        long all = 99;
        for (int k = 1; k <= 14; k++) {
            work *= 4;
            all += work;
            DUE.due("work of " + k, x.work(0, 0, k, 1), work);
            DUE.due("weight of " + k, x.work(0, 0, k, 2), all);
        }
        DUE.due("all of them", x.work(0, 0, 0, 3), all);
    }

    private static void sound() {
        DUE.says("A BLOCK is SOUND, if its PARENT is, it was not made ahead of that");
        sound("account 0;", "block 0 0 0;block 1 0 0;", bits(0, 1, 2));
        sound("account 0;", "block 0 7 0;block 1 7 0;", bits(0, 1, 2));
        sound("account 0;", "block 0 7 0;block 1 6 0;block 2 7 0;", bits(0, 1));
        sound("account 0;", "block 0 7 0;block 1 6 0;block 0 0 0;block 3 0 0;", bits(0, 1, 3, 4));
        sound("account 0;", "block 0 0 1;block 1 0 0;block 2 0 0;", bits(0));
        DUE.says("its MAKER is an ACCOUNT, all ACCOUNTS it PAYS from and to are there");
        sound("account 9;account 9;", "block 0 0 0;block 0 0 1;block 0 0 2;block 0 0 5;", bits(0, 1, 2));
        sound("account 9;account 9;", "block 0 0 0;pay 0 1 1;block 0 0 0;pay 1 0 1;block 0 0 0;pay 0 2 1;block 0 0 0;pay 2 0 1;", bits(0, 1, 2));
        sound("account 9;account 9;", "block 0 0 0;pay 0 1 1;pay 0 1 1;pay 1 2 1;", bits(0));
        sound("account 9;account 9;account 9;account 9;account 9;account 9;", "block 0 0 5;pay 4 5 9;pay 5 4 18;", bits(0, 1));
        DUE.says("and its PAYS can be done, one behind the other, by what there is in the LEDGER of its PARENT (nobody PAYS more than there is)");
        String net = "account 5;account 0;reward 3;";
        sound(net, "block 0 0 0;pay 0 1 5;", bits(0, 1));
        sound(net, "block 0 0 0;pay 0 1 6;", bits(0));
        sound(net, "block 0 0 1;pay 1 0 1;", bits(0));
        sound(net, "block 0 0 1;block 1 0 1;pay 1 0 3;", bits(0, 1, 2));
        sound(net, "block 0 0 1;block 1 0 1;pay 1 0 4;", bits(0, 1));
        sound(net, "block 0 0 1;pay 0 1 5;pay 1 0 5;pay 0 1 5;", bits(0, 1));
        sound(net, "block 0 0 1;pay 1 0 5;pay 0 1 5;", bits(0));
        sound(net, "block 0 0 1;pay 0 1 2;pay 0 1 3;pay 0 1 1;", bits(0));
        DUE.says("BLOCK 0 is.");
        sound("", "", bits(0));
        sound("", "block 0 0 0;", bits(0));
    }

    private static void ledgers() {
        DUE.says("LEDGER of a SOUND BLOCK: that of its PARENT, its PAYS done, REWARD more in the MAKER's (of BLOCK 0: ACCOUNTS as told).");
        WorkChains x = with("account 99;account 7;reward 99;", chain(14));
        DUE.due("account 0 by 0", x.work(0, 0, 0, 10), 99);
        DUE.due("account 1 by 0", x.work(0, 0, 0, 11), 7);
        DUE.due("account 0 by 14", x.work(0, 0, 14, 10), 99 * 15);
        DUE.due("account 1 by 14", x.work(0, 0, 14, 11), 7);
        DUE.due("no reward", with("account 3;reward 0;", ONE).work(0, 0, 1, 10), 3);
        x = with("account 9;account 1;reward 0;", "block 0 0 0;pay 0 1 9;");
        DUE.due("all paid", x.work(0, 0, 1, 10), 0);
        DUE.due("all paid", x.work(0, 0, 1, 11), 10);
        DUE.due("as told", x.work(0, 0, 0, 10), 9);
    }

    // ---- terms 2: feeds

    private static void comings() {
        DUE.says("A FEED of BLOCKS in a NET begins with BLOCK 0 alone.");
        WorkChains x = with("account 8;", TWO, comes(1, 2));
        int[] due = {0, 0, 1, 0, 0, 0, 0, 0, 0, NONE, 8, NONE};
        for (int what = 0; what < due.length; what++) DUE.due("state 0, " + what, x.state(0, 0, 0, 0, what), due[what]);
        DUE.says("head, body: the head, the body of a BLOCK comes, that is there, and did not come yet.");
        stop("head 1;body 1;", 2);
        stop("body 1;head 1;", 2);
        stop("head 2;head 2;", 1);
        stop("body 2;body 2;", 1);
        stop("head 1;body 1;head 1;", 2);
        stop("head 1;body 1;body 1;", 2);
        stop("head 3;", 0);
        stop("body 3;", 0);
        stop("account 0;", "", "head 1;", 0);
        stop("account 0;", chain(14), "head 14;body 14;", 2);
        stop("account 0;", chain(13), "head 13;head 14;", 1);
        stop("", BAD, comes(1, 2, 3, 4), 8);
        DUE.says("A BLOCK is WHOLE, if head and body came, its PARENT is WHOLE, and it is SOUND; it became so when the last of this came to be (of several at once the least number first).");
        state("account 0;", BAD, "head 1;", 2, bits(0));
        state("account 0;", BAD, "body 1;", 2, bits(0));
        state("account 0;", BAD, comes(1, 2, 3, 4), 2, bits(0, 1));
        state("account 0;", chain(3), comes(3, 2), 2, bits(0));
        state("account 0;", chain(3), comes(3, 2, 1), 2, bits(0, 1, 2, 3));
        // 4 came ahead of 3, but both are WHOLE at once, by 1
        String fork = "block 0 0 0;block 0 0 0;block 1 0 0;block 1 0 0;";
        state("account 0;", fork, comes(4, 3, 1), 0, 3);
        // 2's head came first, and its body last
        state("account 0;", TWO, "head 2;head 1;body 1;body 2;", 0, 1);
        state("account 0;", TWO, "body 2;body 1;head 1;head 2;", 0, 1);
        state("account 0;", TWO, "body 1;body 2;head 2;head 1;", 0, 2);
        DUE.says("It is an ORPHAN, if its head came, and its PARENT's did not (0's is there).");
        state("account 0;", TWO, "head 1;head 2;", 3, 0);
        state("account 0;", chain(3), "head 2;", 3, bits(2));
        state("account 0;", chain(3), "head 2;head 3;", 3, bits(2));
        state("account 0;", chain(3), "head 3;body 2;body 1;", 3, bits(3));
        state("account 0;", chain(3), "body 3;", 3, 0);
        state("account 0;", chain(3), "head 2;head 1;", 3, 0);
    }

    private static void dropsAndRules() {
        DUE.says("drop: head and body of a BLOCK that is not WHOLE, of which any came, are as if they had not.");
        stop("drop 1;", 0);
        stop("head 1;drop 1;", 2);
        stop("body 1;drop 1;", 2);
        stop("head 1;drop 2;", 1);
        stop("head 1;drop 1;drop 1;", 2);
        stop("head 1;body 1;drop 1;", 2);
        stop("head 1;drop 1;head 1;drop 1;body 1;drop 1;head 1;body 1;drop 1;", 8);
        stop("head 1;drop 3;", 1);
        stop("account 0;", chain(2), comes(2) + "drop 2;" + comes(2) + "drop 2;head 2;", 7);
        stop("account 0;", chain(2), comes(2, 1) + "drop 2;", 4);
        stop("account 0;", BAD, comes(1, 2) + "drop 2;" + comes(2), 7);
        state("account 0;", chain(2), comes(2) + "drop 2;" + comes(1), 2, bits(0, 1));
        state("account 0;", chain(3), "head 2;head 3;drop 2;", 3, bits(3));
        state("account 0;", TWO, "head 1;drop 1;", 6, 0);
        state("account 0;", TWO, "rule 1;head 2;drop 2;", 6, 1);
        stop("head 1;drop 1;rule 1;", 3);
        DUE.says("rule: RULE is another one. A DEED can't be, if it is not as said.");
        stop("rule 0;", 0);
        stop("rule 1;", 1);
        stop("rule 1;rule 1;", 1);
        stop("rule 1;rule 0;rule 0;", 2);
        stop("rule 1;rule 0;rule 1;rule 0;", 4);
        stop("account 0;rule 1;", TWO, "rule 1;", 0);
        stop("account 0;rule 1;", TWO, "rule 0;", 1);
        DUE.says("STOP: the first DEED that can't be, else how many there are.");
        stop("", 0);
        stop("head 1;head 1;head 2;head 2;", 1);
        stop("head 3;head 1;", 0);
        stop("head 1;drop 1;".repeat(20), 40);
        stop("head 1;drop 1;".repeat(19) + "head 1;head 1;", 39);
        DUE.says("A STATE is behind the first n DEEDS, n up to STOP.");
        WorkChains x = with("account 0;", TWO, "head 1;drop 1;".repeat(19) + "head 1;body 1;");
        DUE.due("state of 40", x.state(0, 0, 0, 40, 0), 1);
        DUE.due("state of 39", x.state(0, 0, 0, 39, 0), 0);
        for (int n : new int[] {41, 42, -1, MAX, MIN}) DUE.due("state of " + n, x.state(0, 0, 0, n, 0), NONE);
        x = with("account 0;", TWO, "head 1;body 1;body 1;head 2;");
        DUE.due("state at stop", x.state(0, 0, 0, 2, 0), 1);
        DUE.due("state past stop", x.state(0, 0, 0, 3, 0), NONE);
        DUE.due("state of all", x.state(0, 0, 0, 4, 0), NONE);
    }

    private static void tipsOfStates() {
        String net = "account 0;step 9;";
        DUE.says("by RULE 0: the WHOLE BLOCK of which all WORK, its own and of all ahead of it, is most");
        state(net, BROAD, "", 0, 0);
        state(net, BROAD, comes(1, 2, 3, 4, 5, 6, 7), 0, 3);
        state(net, BROAD, comes(1, 2, 4, 5, 6, 7), 0, 2);
        state(net, BROAD, comes(4, 5, 6, 7, 1, 2), 0, 5);
        state(net, BROAD, comes(3, 2), 0, 0);
        // 2 is of less work than 3, but all ahead of it counts
        state("account 0;target 1;start 99;", "block 0 9 0;block 1 9 0;block 0 9 0;", comes(1, 2, 3), 0, 2);
        DUE.says("by RULE 1: from BLOCK 0 on always the WHOLE child of which all WORK of WHOLE BLOCKS, its own and of all behind it, is most, till there is none.");
        state(net + "rule 1;", BROAD, "", 0, 0);
        state(net + "rule 1;", BROAD, comes(1, 2, 3, 4, 5, 6, 7), 0, 5);
        state(net + "rule 1;", BROAD, comes(1, 2, 3, 4, 5), 0, 3);
        state(net + "rule 1;", BROAD, comes(1, 2, 3, 4, 5) + "head 6;head 7;", 0, 3);
        state(net + "rule 1;", BROAD, comes(1, 2, 4, 6), 0, 2);
        state(net + "rule 1;", BROAD, comes(5, 6, 7, 1), 0, 1);
        DUE.says("Of several, by TIE 0: the one that became WHOLE first, by TIE 1: the least number.");
        for (int rule = 0; rule < 2; rule++) {
            String by = "account 0;step 9;rule " + rule + ";";
            state(by + "tie 0;", TWO, comes(2, 1), 0, 2);
            state(by + "tie 1;", TWO, comes(2, 1), 0, 1);
            state(by + "tie 0;", TWO, comes(1, 2), 0, 1);
            state(by + "tie 1;", TWO, comes(1, 2), 0, 1);
        }
        state(net + "tie 1;", BROAD, comes(4, 7, 6, 5), 0, 5);
        state(net + "tie 0;", BROAD, comes(4, 7, 6, 5), 0, 7);
        state(net + "rule 1;tie 0;", BROAD, comes(4, 7, 1, 2), 0, 7);
        state(net + "rule 1;tie 1;", BROAD, comes(4, 7, 1, 2), 0, 2);
        DUE.says("Behind each DEED the TIP is chosen anew: BLOCKS on the way from the old one back to the last one they have in common are UNDONE, those from there to the new one DONE.");
        state(net, BROAD, comes(4, 5), 4, 0);
        state(net, BROAD, comes(4, 5), 5, 2);
        // 3 is whole at once with 2 and 1, by one deed
        state(net, BROAD, comes(4, 5, 3, 2, 1), 4, 2);
        state(net, BROAD, comes(4, 5, 3, 2, 1), 5, 5);
        state(net, BROAD, comes(1, 2, 3, 4, 5, 6, 7) + "rule 1;rule 0;", 4, 5);
        state(net, BROAD, comes(1, 2, 3, 4, 5, 6, 7) + "rule 1;rule 0;", 5, 8);
        state(net, "block 0 0 0;block 1 0 0;block 1 0 0;block 3 0 0;", comes(1, 2, 3, 4), 4, 1);
        state(net, "block 0 0 0;block 1 0 0;block 1 0 0;block 3 0 0;", comes(1, 2, 3, 4), 5, 4);
    }

    private static void headTips() {
        DUE.says("HEADTIP: of BLOCKS the heads of which came, and those of all ahead of them, SOUND or not, the one of which all WORK, its own and of all ahead, is most, of several the least number");
        state("account 0;", chain(3), "", 7, 0);
        state("account 0;", chain(3), "body 1;body 2;", 7, 0);
        state("account 0;", chain(3), "head 2;head 3;", 7, 0);
        state("account 0;", chain(3), "head 1;head 3;", 7, 1);
        state("account 0;", chain(3), "head 1;head 2;head 3;drop 2;", 7, 1);
        state("account 0;", BAD, "head 1;head 2;head 3;", 7, 3);
        state("", ONE, "head 1;", 7, 1);
        state("account 0;", TWO, comes(2) + "head 1;", 7, 1);
        state("account 0;rule 1;step 9;", BROAD, comes(4, 5, 6, 7, 1, 2) + "head 3;", 7, 3);
        DUE.says("WANTED: BLOCKS on the way to that (bits) of which no body came.");
        state("account 0;", chain(3), "", 8, 0);
        state("account 0;", chain(3), "head 1;head 2;head 3;", 8, bits(1, 2, 3));
        state("account 0;", chain(3), "head 1;head 2;head 3;body 2;", 8, bits(1, 3));
        state("account 0;", chain(3), "head 1;head 2;head 3;body 3;body 2;body 1;", 8, 0);
        state("account 0;", chain(3), "head 2;head 3;", 8, 0);
        state("account 0;", BAD, "head 1;body 1;head 2;head 4;", 8, bits(2));
        state("account 0;", "block 0 0 0;block 1 0 0;block 0 0 0;", "head 1;head 2;head 3;body 2;", 8, bits(1));
    }

    // ---- terms 3

    private static void weights() {
        DUE.says("WEIGHT of a BLOCK: all WORK, its own and of all ahead of it.");
        WorkChains x = with("account 0;step 9;start 7;", BAD);
        int[] weights = {7, 14, 21, 28, 21};
        for (int k = 0; k < 5; k++) DUE.due("weight of " + k, x.work(0, 0, k, 2), weights[k]);
        DUE.says("SUBTREE of a SOUND one: all WORK of SOUND ones, its own and of all behind it.");
        int[] subtrees = {14, 7, NONE, NONE, NONE};
        for (int k = 0; k < 5; k++) DUE.due("subtree of " + k, x.work(0, 0, k, 3), subtrees[k]);
        x = with("account 0;step 9;start 7;", BROAD);
        int[] broad = {56, 21, 14, 7, 28, 7, 7, 7};
        for (int k = 0; k < 8; k++) DUE.due("subtree of " + k, x.work(0, 0, k, 3), broad[k]);
        DUE.due("alone", with("start 7;", "").work(0, 0, 0, 3), 7);
        DUE.says("MEET of two: the last BLOCK that they have in common on their ways (each is on its own).");
        int[][] meets = {{0, 0, 0}, {3, 3, 3}, {3, 2, 2}, {2, 3, 2}, {3, 0, 0}, {0, 3, 0}, {3, 4, 0}, {5, 6, 4}, {5, 3, 0}, {4, 7, 4}};
        for (int[] m : meets) DUE.due("meet of " + m[0] + ", " + m[1], x.meet(0, m[0], m[1]), m[2]);
        DUE.due("of those that are not sound", with("", BAD).meet(0, 3, 4), 1);
        x = with("", chain(14));
        DUE.due("14 and 13", x.meet(0, 14, 13), 13);
        DUE.due("14 and 14", x.meet(0, 14, 14), 14);
    }

    private static void tipsAndWithheld() {
        DUE.says("TIPS: BLOCKS (bits) that can be the TIP by TIE 0, by whatever order they came in, heads and bodies together.");
        for (int law = 0; law < 4; law++) {
            String net = "account 0;step 9;rule " + law / 2 + ";tie " + law % 2 + ";";
            DUE.due("0 alone", with(net, "").tip(0, 0, 1), 1);
            DUE.due("14 children", with(net, ONE.repeat(14)).tip(0, 0, 1), 0x7ffe);
            DUE.due("a chain of 14", with(net, chain(14)).tip(0, 0, 1), 1 << 14);
            DUE.due("broad", with(net, BROAD).tip(0, 0, 1), law < 2 ? bits(3) : bits(5, 6, 7));
            DUE.due("bad", with(net, BAD).tip(0, 0, 1), bits(1));
            // 1 with 2 and 3 weighs what 4 with 5 behind it and 6 behind that weighs
            String even = "block 0 0 0;block 1 0 0;block 1 0 0;block 0 0 0;block 4 0 0;block 5 0 0;";
            DUE.due("even", with(net, even).tip(0, 0, 1), law < 2 ? bits(6) : bits(2, 3, 6));
        }
        DUE.says("LEAST to be WITHHELD: the fewest BLOCKS, 3 at most, that never come so that the TIP is another one: how many; which (bits), of several the least.");
        withheld("account 0;", "", NONE);
        withheld("", ONE, NONE);
        withheld("account 0;", "block 0 0 1;block 1 0 0;block 0 0 2;", NONE);
        withheld("account 0;", ONE, bits(1));
        withheld("account 0;", ONE.repeat(14), bits(1));
        withheld("account 0;", chain(14), bits(1));
        withheld("account 0;step 9;", BROAD, bits(1));
        withheld("account 0;step 9;rule 1;", BROAD, bits(4));
        withheld("account 0;step 9;", "block 0 0 1;block 0 0 0;block 2 0 0;", bits(2));
        withheld("account 0;", "block 0 0 1;".repeat(13) + ONE, bits(14));
    }

    private static void withheld(String net, String blocks, int bits) {
        WorkChains x = with(net, blocks);
        DUE.due("withheld of " + blocks, x.tip(0, 0, 2), bits == NONE ? NONE : 1);
        DUE.due("withheld of " + blocks + ": which", x.tip(0, 0, 3), bits);
    }

    private static void fill(String net, String pool, int fees, int... row) {
        WorkChains x = with(net, "", "", "", pool);
        String call = "fill by " + pool + " in " + net;
        DUE.due(call, x.fill(0, 0, 0, 0, NONE), fees);
        for (int k = 0; k < row.length; k++) DUE.due(call + ", " + k, x.fill(0, 0, 0, 0, k), row[k]);
        for (int k : new int[] {row.length, row.length + 1, 3, -2, MAX, MIN}) DUE.due(call + ", " + k, x.fill(0, 0, 0, 0, k), NONE);
    }

    private static void fills() {
        String rich = "account 99;account 0;";
        DUE.says("the row of at most 3 unlike PAYS of it that can be done, one behind the other, by its LEDGER");
        fill(rich, "", 0);
        fill(rich, "pay 0 1 1 9;", 9, 0);
        fill(rich, "pay 0 1 1 9;pay 0 1 2 9;", 18, 0, 1);
        fill(rich, "pay 0 1 1 9;pay 0 1 2 9;pay 0 1 3 9;", 27, 0, 1, 2);
        fill(rich, "pay 0 1 1 2;pay 0 1 2 1;pay 0 1 3 3;pay 0 1 4 4;pay 0 1 5 5;pay 0 1 6 6;", 15, 3, 4, 5);
        fill(rich, "pay 1 0 5 9;pay 0 1 20 1;", 10, 1, 0);
        fill(rich, "pay 2 0 5 9;pay 0 2 20 1;", 0);
        DUE.says("(who pays also pays the FEE, that goes to nobody here; nobody pays more than there is)");
        fill("account 5;account 0;", "pay 0 1 3 2;", 2, 0);
        fill("account 5;account 0;", "pay 0 1 3 3;", 0);
        fill("account 5;account 0;", "pay 0 1 4 2;pay 0 1 4 1;", 1, 1);
        fill("account 5;account 0;", "pay 0 1 3 2;pay 1 0 3 1;", 2, 0);
        fill("account 5;account 0;", "pay 0 1 3 2;pay 1 0 2 1;", 3, 0, 1);
        fill("account 5;account 0;", "pay 0 1 3 2;pay 0 1 1 1;", 2, 0);
        DUE.says("by which FEES together are most, of those the shortest: how much; the first row by numbers: the k-th.");
        fill(rich, "pay 0 1 1 0;", 0);
        fill(rich, "pay 0 1 1 0;pay 0 1 1 1;pay 0 1 1 0;", 1, 1);
        fill("account 9;account 0;", "pay 0 1 1 3;pay 0 1 1 3;pay 0 1 2 6;pay 0 1 1 1;", 6, 2);
        fill("account 9;account 0;", "pay 0 1 2 6;pay 0 1 1 3;pay 0 1 1 3;", 6, 0);
        fill(rich, "pay 0 1 1 3;".repeat(6), 9, 0, 1, 2);
        fill("account 4;account 0;", "pay 1 0 1 3;pay 0 1 1 3;pay 0 1 1 3;", 3, 1);
    }

    private static void replaysAndPaths() {
        DUE.says("each PAY that can be done by what there is then, beginning with the LEDGER of the second one, is: how many are; how many are not.");
        String blocks = "block 0 0 0;pay 0 1 5;pay 0 1 4;block 0 0 1;pay 0 1 5;block 1 0 0;pay 1 0 9;block 0 0 0;";
        WorkChains x = with("account 9;account 0;reward 0;", blocks);
        int[][] due = {{1, 1, 0, 0}, {0, 3, 0, 0}, {3, 0, 3, 0}, {1, 0, 2, 0}, {0, 0, 0, 0}, {3, 1, 1, 0}, {1, 3, 0, 0}, {1, 2, 1, 1}, {3, 2, 2, 1}, {4, 3, 0, 0}, {2, 3, 1, 0}, {2, 1, 0, 1}};
        for (int[] d : due) {
            DUE.due("replay of " + d[0] + ", " + d[1], x.replay(0, 0, d[0], d[1], false), d[2]);
            DUE.due("replay of " + d[0] + ", " + d[1] + ", not", x.replay(0, 0, d[0], d[1], true), d[3]);
        }
        DUE.due("the last one's", with("account 9;account 0;", "block 0 0 0;pay 0 1 5;").replay(0, 0, 1, 0, false), 1);
        DUE.says("PATH of two: BLOCKS on the way from the first one back to their MEET (not it), and from there to the second one: how many; the k-th.");
        x = with("", BROAD);
        path(x, 0, 0);
        path(x, 6, 6);
        path(x, 0, 1, 1);
        path(x, 1, 0, 1);
        path(x, 0, 3, 1, 2, 3);
        path(x, 3, 0, 3, 2, 1);
        path(x, 3, 7, 3, 2, 1, 4, 7);
        path(x, 7, 3, 7, 4, 1, 2, 3);
        path(x, 5, 6, 5, 6);
        path(with("", chain(14)), 14, 0, 14, 13, 12, 11, 10, 9, 8, 7, 6, 5, 4, 3, 2, 1);
    }

    private static void path(WorkChains x, int a, int b, int... row) {
        String call = "path(0, " + a + ", " + b + ", ";
        DUE.due(call + NONE + ")", x.path(0, a, b, NONE), row.length);
        for (int k = 0; k < row.length; k++) DUE.due(call + k + ")", x.path(0, a, b, k), row[k]);
        for (int k : new int[] {row.length, row.length + 1, 15, -2, MAX, MIN}) DUE.due(call + k + ")", x.path(0, a, b, k), NONE);
    }

    private static void owns() {
        DUE.says("OWN of an ACCOUNT: the TIP, if no BLOCK came that it made; how many BLOCKS of the way to the TIP (all having come) it made;");
        own("account 0;", "", 0, 0, 0, NONE, NONE);
        own("account 0;account 0;", "block 0 0 1;block 0 0 1;", 0, 1, 0, 0, 1);
        own("account 0;account 0;", "block 0 0 1;block 0 0 1;", 1, 0, 1, 1, 1);
        own("account 0;account 0;step 9;", "block 0 0 0;block 1 0 1;block 2 0 1;block 0 0 0;", 0, 0, 1, 1, 3);
        own("account 0;account 0;step 9;", "block 0 0 0;block 1 0 1;block 2 0 1;block 0 0 0;", 1, 1, 2, 2, 3);
        own("account 0;account 0;step 9;", "block 0 0 0;block 1 0 1;block 0 0 0;block 3 0 0;block 0 0 0;", 1, 4, 1, 1, 2);
        DUE.says("of all WORK of that way (but BLOCK 0's) that of those it made, a fraction in least terms (no other BLOCK: none).");
        own("account 0;", BAD.replace(" 5 0", " 5 1"), 0, 0, 0, NONE, NONE);
        own("account 0;account 0;account 0;step 9;start 6;", "block 0 0 0;block 1 0 1;block 2 0 0;block 3 0 1;", 1, 1, 2, 1, 2);
        own("account 0;account 0;account 0;step 9;start 6;", "block 0 0 0;block 1 0 1;block 2 0 0;block 3 0 1;", 2, 4, 0, 0, 1);
        // works 8, 32, 128: 136 of 168
        own("account 0;account 0;step 1;start 2;", "block 0 0 0;block 1 0 1;block 2 0 0;", 0, 0, 2, 17, 21);
        long[] big = {99L << 28, 0};
        for (int k = 1; k < 15; k++) big[1] += 99L << 2 * k;
        own("account 0;account 0;step 1;start 99;target 99;", chain(13) + "block 13 0 1;", 1, 13, 1, 1L << 26, big[1] / 396);
    }

    private static void own(String net, String blocks, int account, long... due) {
        WorkChains x = with(net, blocks);
        for (int what = 0; what < 4; what++) DUE.due("own of " + account + ", " + what + " of " + blocks, x.own(0, 0, account, what), due[what]);
    }

    private static void turns() {
        DUE.says("TURNS: SOUND BLOCKS (bits) the WORK of which is unlike that of their PARENT;");
        DUE.due("none but 0", with("account 0;", "").leaves(0, 0, 8), 0);
        DUE.due("none by target 1", with("account 0;target 1;step 1;", chain(14)).leaves(0, 0, 8), 0);
        DUE.due("all by step 1", with("account 0;target 2;step 1;", chain(14)).leaves(0, 0, 8), 0x7ffe);
        DUE.due("not those that are not sound", with("account 0;step 1;", BAD).leaves(0, 0, 8), bits(1));
        DUE.due("less work, too", with("account 0;target 1;start 99;", "block 0 9 0;block 1 9 0;").leaves(0, 0, 8), bits(2));
        DUE.says("STEEPEST: the SOUND BLOCK (but 0) the WORK of which is most more than its PARENT's, of several the least (none is more: none).");
        DUE.due("none but 0", with("account 0;", "").leaves(0, 0, 9), NONE);
        DUE.due("none is more", with("account 0;target 1;step 1;", chain(14)).leaves(0, 0, 9), NONE);
        DUE.due("less", with("account 0;target 1;start 99;", "block 0 9 0;block 1 9 0;").leaves(0, 0, 9), NONE);
        DUE.due("of several", with("account 0;step 1;", TWO).leaves(0, 0, 9), 1);
        DUE.due("the last", with("account 0;step 1;", chain(14)).leaves(0, 0, 9), 14);
        DUE.due("not sound", with("account 0;step 1;", BAD).leaves(0, 0, 9), 1);
        DUE.due("1 more", with("account 0;start 1;target 2;", "block 0 0 0;block 1 0 0;").leaves(0, 0, 9), 2);
    }

    private static void chances() {
        DUE.says("CHANCE of p, 0 .. 10, z, 0 .. 6, n, 0 .. 12");
        WorkChains x = new WorkChains();
        int[][] none = {{-1, 0, 0}, {11, 0, 0}, {MAX, 0, 0}, {MIN, 0, 0}, {5, -1, 0}, {5, 7, 12}, {5, MAX, 3}, {5, MIN, 3}, {5, 0, -1}, {5, 0, 13}, {5, 0, MAX}, {5, 0, MIN}};
        for (int[] c : none) for (int under = 0; under < 2; under++) DUE.due("chance", x.chance(c[0], c[1], c[2], under == 1), NONE);
        chance(0, 0, 0, 1, 1);
        chance(10, 6, 12, 1, 1);
        chance(0, 6, 12, 0, 1);
        chance(5, 6, 12, 378, 4096);
        DUE.says("how likely there is a time, ahead of the first round, or behind any, at which that one is not behind, a fraction in least terms.");
        for (int p = 0; p <= 10; p++) {
            for (int n = 0; n <= 12; n++) chance(p, 0, n, 1, 1);
            for (int z = 1; z <= 6; z++) {
                for (int n = 0; n < z; n++) chance(p, z, n, 0, 1);
                // by all z rounds, one after the other
                chance(p, z, z, power(p, z), power(10, z));
            }
            chance(p, 1, 3, 100 * p + p * p * (10 - p), 1000);
        }
        DUE.says("RACE of z, n, 0 .. 6: in how many of all rows of n rounds (2 each) it is so.");
        int[][] races = {{0, 0, 1}, {0, 1, 2}, {0, 6, 64}, {1, 0, 0}, {1, 1, 1}, {1, 2, 2}, {1, 3, 5}, {2, 2, 1}, {2, 1, 0}, {4, 6, 8}, {5, 6, 2}, {6, 6, 1}, {6, 5, 0},
            {7, 6, NONE}, {6, 7, NONE}, {-1, 6, NONE}, {6, -1, NONE}, {MAX, 0, NONE}, {0, MAX, NONE}, {MIN, 0, NONE}, {0, MIN, NONE}};
        for (int[] r : races) DUE.due("race(" + r[0] + ", " + r[1] + ")", x.race(r[0], r[1]), r[2]);
    }

    private static long power(long base, int n) {
        long all = 1;
        for (int i = 0; i < n; i++) all *= base;
        return all;
    }

    private static void chance(int p, int z, int n, long above, long below) {
        WorkChains x = new WorkChains();
        long by = java.math.BigInteger.valueOf(above).gcd(java.math.BigInteger.valueOf(below)).longValue();
        DUE.due("chance(" + p + ", " + z + ", " + n + ", false)", x.chance(p, z, n, false), above / by);
        DUE.due("chance(" + p + ", " + z + ", " + n + ", true)", x.chance(p, z, n, true), below / by);
    }

    // ---- terms 4

    private static void fits(WorkChains x, int... due) {
        for (int what = 0; what < 5; what++) DUE.due("fits " + what, x.fits(0, 0, 0, 0, what), due[what]);
        for (int k = 0; k < due.length - 5; k++) DUE.due("law " + k, x.fits(0, 0, 0, 0, 10 + k), due[5 + k]);
        if (due.length > 5 || due[0] == 0) DUE.due("no more laws", x.fits(0, 0, 0, 0, 10 + due[0]), -2);
    }

    private static void laws() {
        DUE.says("LAWS, a RULE, a TIE, a STEP (20 times the RULE, 10 times the TIE, and the STEP)");
        WorkChains each = with("account 0;rule 1;tie 1;step 5;", "", "", "", "");
        for (int k = 0; k < 36; k++) DUE.due("law " + k, each.fits(0, 0, 0, 0, 10 + k), 20 * (k / 18) + 10 * (k % 18 / 9) + k % 9 + 1);
        DUE.due("no law 36", each.fits(0, 0, 0, 0, 46), -2);
        DUE.says("FIT, if, all else as told, each FACT is so (of a STATE that there is not: never): how many; the k-th, rising;");
        int[] all = new int[41];
        int[] head = {36, NONE, NONE, NONE, 0};
        System.arraycopy(head, 0, all, 0, 5);
        for (int i = 0; i < 36; i++) all[5 + i] = i / 18 * 20 + i / 9 % 2 * 10 + i % 9 + 1;
        fits(with("account 0;", "", "", "", ""), all);
        fits(with("account 0;", "", "", "tip 0 0;".repeat(8), ""), all);
        fits(with("account 0;", TWO, "", "tip 0 1;", ""), 0, NONE, NONE, NONE, NONE);
        fits(with("account 0;", "", "", "tip 0 14;", ""), 0, NONE, NONE, NONE, NONE);
        fits(with("account 0;", "", "", "tip 1 0;", ""), 0, NONE, NONE, NONE, NONE);
        fits(with("account 0;", "", "", "tip 40 0;", ""), 0, NONE, NONE, NONE, NONE);
        fits(with("account 0;", "", "", "tip 0 0;".repeat(7) + "tip 1 0;", ""), 0, NONE, NONE, NONE, NONE);
        fits(with("account 0;", TWO, "head 1;drop 1;".repeat(20), "tip 40 0;", ""), all);
        fits(with("account 0;", TWO, "head 1;drop 1;".repeat(19) + "head 1;head 1;", "tip 39 0;", ""), all);
        fits(with("account 0;", TWO, "head 1;drop 1;".repeat(19) + "head 1;head 1;", "tip 40 0;", ""), 0, NONE, NONE, NONE, NONE);
        DUE.says("SURE of RULE, of TIE, of STEP: it, if it is one in all that FIT;");
        int[] tie1 = {18, NONE, 1, NONE, 0, 11, 12, 13, 14, 15, 16, 17, 18, 19, 31, 32, 33, 34, 35, 36, 37, 38, 39};
        fits(with("account 0;", TWO, comes(2, 1), "tip 4 1;", ""), tie1);
        int[] tie0 = {18, NONE, 0, NONE, 0, 1, 2, 3, 4, 5, 6, 7, 8, 9, 21, 22, 23, 24, 25, 26, 27, 28, 29};
        fits(with("account 0;", TWO, comes(2, 1), "tip 4 2;", ""), tie0);
        int[] rule0 = {18, 0, NONE, NONE, 0, 1, 2, 3, 4, 5, 6, 7, 8, 9, 11, 12, 13, 14, 15, 16, 17, 18, 19};
        fits(with("account 0;", ONE, "rule 1;", "tip 1 0;", ""), rule0);
        int[] rule1 = {18, 1, NONE, NONE, 0, 21, 22, 23, 24, 25, 26, 27, 28, 29, 31, 32, 33, 34, 35, 36, 37, 38, 39};
        fits(with("account 0;", ONE, "rule 0;", "tip 1 0;", ""), rule1);
        // by step 2 alone 4 is of more work than 2
        fits(with("account 0;", "block 0 10 0;block 1 10 0;block 0 5 0;block 3 5 0;", comes(1, 2, 3, 4), "tip 8 4;", ""), 4, NONE, NONE, 2, 0, 2, 12, 22, 32);
        // by step 2 alone 3 and 5 are of one weight, and 5 became whole first
        String blocks = "block 0 4 0;block 1 10 0;block 2 13 0;block 0 2 0;block 4 7 0;";
        fits(with("account 0;target 4;", blocks, comes(3, 5, 1, 4, 2), "tip 10 5;", ""), 1, 0, 0, 2, 0, 2);
        DUE.says("ASK: how many DEEDS, 0 .. 40, such that of all that FIT the greatest number by which one BLOCK is the TIP behind them, or there is no such STATE, is least, of several the least.");
        ask("", "", "", 0);
        ask(TWO, comes(2, 1), "", 4);
        ask(TWO, comes(2, 1), "tip 4 1;", 0);
        ask(TWO, "head 1;drop 1;".repeat(18) + comes(2, 1), "", 40);
        ask(TWO, "head 1;drop 1;".repeat(17) + comes(2, 1), "", 38);
        ask(ONE, comes(1) + "rule 1;", "", 3);
        ask(ONE, "rule 1;", "", 1);
        ask(ONE, "rule 1;rule 1;", "", 1);
        ask(ONE, "rule 1;", "tip 1 0;", 0);
        ask(ONE, "", "tip 40 1;", NONE);
        // behind 16 deeds 16 tip 5, but not those of step 1; behind 28 again 16 do, but not those of step 2
        String broader = "block 0 10 0;block 1 10 0;block 2 10 0;block 0 10 0;" + "block 4 20 0;".repeat(6) + "block 0 2 0;block 11 2 0;block 11 2 0;";
        ask(broader, "rule 0;rule 1;" + comes(1, 2, 3, 4, 5, 6, 7, 8, 9, 10, 11, 12, 13), "tip 1 0;", 16);
        ask(ONE.repeat(14), comes(14, 13), "", 4);
        ask(ONE.repeat(14), comes(14, 13), "tip 4 14;", 0);
        DUE.says("ODDS of a RULE: all that FIT being alike, how likely it is it, a fraction in least terms.");
        odds(with("account 0;", "", "", "", ""), 1, 2, 1, 2);
        odds(with("account 0;", ONE, "rule 1;", "tip 1 0;", ""), 1, 1, 0, 1);
        odds(with("account 0;", ONE, "rule 0;", "tip 1 0;", ""), 0, 1, 1, 1);
        odds(with("account 0;", BROAD, comes(1, 2, 3, 4, 5, 6, 7), "tip 14 3;", ""), 9, 11, 2, 11);
        odds(with("account 0;", "", "", "tip 1 0;", ""), NONE, NONE, NONE, NONE);
        odds(with("account 0;target 4;", blocks, comes(3, 5, 1, 4, 2), "tip 10 5;", ""), 1, 1, 0, 1);
    }

    private static void ask(String blocks, String feed, String log, int due) {
        DUE.due("ask by " + feed + " and " + log, with("account 0;", blocks, feed, log, "").fits(0, 0, 0, 0, 4), due);
    }

    private static void odds(WorkChains x, int... due) {
        for (int i = 0; i < 4; i++) DUE.due("odds of " + i / 2 + (i % 2 == 1 ? ", under" : ""), x.odds(0, 0, 0, 0, i / 2, i % 2 == 1), due[i]);
        for (int rule : new int[] {-1, 2, MAX, MIN}) DUE.due("odds of " + rule, x.odds(0, 0, 0, 0, rule, true), NONE);
    }

    private static void draws() {
        DUE.says("x becomes x * 1103515245 + 12345 (of 32 bits), it is x shifted right by 16 without sign, remainder by n");
        int[] seeds = {0, 1, -1, 2, 16, 4711, 0x8000, 0x10000, 0x7fff0000, MAX, MIN, MIN + 1, MAX - 1, -65536, -4711};
        for (int seed : seeds) for (int n : new int[] {1, 2, 9, 30}) drawn("account 0;", TWO, seed, n);
        for (int seed : seeds) drawn("account 0;rule 1;", BROAD, seed, 30);
        for (int seed : seeds) drawn("account 0;tie 1;", ONE.repeat(14), seed, 30);
        for (int seed : seeds) drawn("account 0;", BAD, seed, 30);
        DUE.says("n times, 0 to 60: a number below 10: 0 to 3: head, 4 to 7: body, 8: drop, then 1 more than a number below how many BLOCKS there are but 0; 9: rule, a number below 2; each, if it may.");
        WorkChains x = with("account 3;", TWO);
        for (int seed : seeds) DUE.due("none drawn", x.drawn(0, 0, seed, 0, 2), 1);
        for (int n : new int[] {61, 62, -1, MAX, MIN}) DUE.due("drawn " + n, x.drawn(0, 0, 5, n, 2), NONE);
        for (int seed : seeds) for (int n = 1; n < 9; n++) drawn("account 0;", ONE, seed, n);
        for (int seed : seeds) drawn("account 0;", ONE, seed, 60);
        for (int seed = 100; seed < 160; seed++) drawn("account 0;", chain(3), seed, 60);
        DUE.says("(Without such BLOCKS 0 to 8 draw no more, nothing is done.)");
        for (int seed : seeds) for (int n : new int[] {0, 1, 5, 60}) drawn("account 0;", "", seed, n);
    }

    /** What is drawn, one deed after the other, is told as a feed: each deed that can't be is left out. */
    private static void drawn(String net, String blocks, int seed, int n) {
        WorkChains x = with(net, blocks);
        int last = x.block(0, NONE, 0);
        long[] stirred = {seed & 0xffffffffL};
        List<String> deeds = new ArrayList<>();
        for (int i = 0; i < n; i++) {
            int what = below(stirred, 10);
            if (what == 9) deeds.add("rule " + below(stirred, 2) + ";");
            else if (last > 0) deeds.add((what < 4 ? "head " : what < 8 ? "body " : "drop ") + (1 + below(stirred, last)) + ";");
        }
        String feed = "";
        int size = 0;
        for (String deed : deeds) {
            Due.put(x, feed + deed);
            x.text(2, x.count(2) - 1);
            if (x.stop(0, 0, 0) == size) continue;
            feed += deed;
            size++;
        }
        Due.put(x, feed);
        DUE.due("text " + feed, x.text(2, x.count(2) - 1), 0);
        for (int what = 0; what < 12; what++) {
            DUE.due("drawn by " + seed + ", " + n + " times, " + what + ", as " + feed, x.drawn(0, 0, seed, n, what), x.state(0, 0, 0, size, what));
        }
    }

    private static int below(long[] x, int n) {
        x[0] = (x[0] * 1103515245L + 12345L) % 4294967296L;
        return (int) (x[0] / 65536 % n);
    }

    // ---- terms 5

    private static void leaves(String net, String blocks, int what, int due) {
        DUE.due("leaves " + what + " of " + blocks + " in " + net, with(net, blocks).leaves(0, 0, what), due);
    }

    private static void leaves() {
        String flat = "account 0;step 9;";
        DUE.says("LEAVES: SOUND BLOCKS (bits) that no SOUND one is the child of.");
        leaves(flat, "", 0, bits(0));
        leaves("", ONE, 0, bits(0));
        leaves(flat, BAD, 0, bits(1));
        leaves(flat, BROAD, 0, bits(3, 5, 6, 7));
        leaves(flat, ONE.repeat(14), 0, 0x7ffe);
        leaves(flat, chain(14), 0, bits(14));
        DUE.says("FORKS: how many SOUND ones have two SOUND children or more.");
        leaves(flat, "", 1, 0);
        leaves(flat, ONE, 1, 0);
        leaves(flat, TWO, 1, 1);
        leaves(flat, ONE + "block 0 0 1;", 1, 0);
        leaves(flat, BROAD, 1, 2);
        leaves(flat, ONE.repeat(14), 1, 1);
        leaves(flat, "block 0 0 1;block 1 0 0;block 1 0 0;", 1, 0);
        DUE.says("DEEPEST: the SOUND one of greatest HEIGHT, of several the least.");
        leaves(flat, "", 2, 0);
        leaves(flat, TWO, 2, 1);
        leaves(flat, BAD, 2, 1);
        leaves(flat, "block 0 0 0;block 0 0 0;block 2 0 0;block 1 0 0;", 2, 3);
        leaves(flat, chain(14), 2, 14);
        DUE.says("HARDEST: the SOUND one of most WORK, of several the least.");
        leaves(flat, BROAD, 3, 0);
        leaves("account 0;target 1;start 99;", "block 0 9 0;block 1 9 0;", 3, 0);
        leaves("account 0;step 1;", TWO, 3, 1);
        leaves("account 0;step 1;", BAD, 3, 1);
        leaves("account 0;step 1;", chain(14), 3, 14);
        DUE.says("BAD: BLOCKS (bits) that are not SOUND;");
        leaves(flat, "", 4, 0);
        leaves(flat, chain(14), 4, 0);
        leaves("", chain(14), 4, 0x7ffe);
        leaves(flat, BAD, 4, bits(2, 3, 4));
        DUE.says("EVEN: couples of SOUND LEAVES of one WEIGHT.");
        leaves(flat, "", 7, 0);
        leaves(flat, ONE, 7, 0);
        leaves(flat, TWO, 7, 1);
        leaves(flat, ONE.repeat(3), 7, 3);
        leaves(flat, ONE.repeat(14), 7, 91);
        leaves(flat, BROAD, 7, 3);
        leaves(flat, ONE + "block 0 0 1;", 7, 0);
        leaves(flat, "block 0 0 0;block 1 0 0;block 0 0 0;", 7, 0);
    }

    private static void roots() {
        String flat = "account 0;step 9;";
        DUE.says("ROOT of a BLOCK that is not SOUND: the first one on its way from BLOCK 0 on that is not.");
        WorkChains x = with(flat, BAD);
        int[] due = {NONE, NONE, 2, 2, 4};
        for (int k = 0; k < 5; k++) DUE.due("root of " + k, x.root(0, 0, k, 0), due[k]);
        x = with("", chain(14));
        for (int k = 0; k <= 14; k++) DUE.due("root of " + k, x.root(0, 0, k, 0), k == 0 ? NONE : 1);
        DUE.says("UNCLES of a SOUND one: SOUND ones (bits) that are not on its way, but children of one on it that is ahead of its PARENT (siblings of its PARENT, too, its own none).");
        uncles("", 0, 0);
        uncles(TWO, 1, 0);
        uncles(TWO, 0, 0);
        uncles("block 0 0 0;block 1 0 0;block 1 0 0;", 2, 0);
        uncles("block 0 0 0;block 1 0 0;block 0 0 0;", 2, bits(3));
        uncles("block 0 0 0;block 1 0 0;block 0 0 0;block 3 0 0;", 2, bits(3));
        uncles("block 0 0 0;block 1 0 0;block 0 0 1;", 2, 0);
        uncles(TWO + "block 2 0 0;", 3, bits(1));
        uncles("block 0 0 0;block 1 0 0;block 2 0 0;block 1 0 0;block 0 0 0;block 2 0 0;block 3 0 0;", 3, bits(4, 5));
        uncles(ONE + "block 1 0 0;" + ONE.repeat(12), 2, 0x7ffe & ~bits(1, 2));
        DUE.says("SPEED of a BLOCK, k, 1 .. 9: how much later it was made than the one k ahead (none: there is none).");
        x = with("", "block 0 99 0;block 1 0 0;block 2 0 0;" + "block 3 7 0;block 4 7 0;block 5 7 0;block 6 7 0;block 7 7 0;block 8 7 0;block 9 99 0;");
        int[][] speeds = {{1, 1, 99}, {2, 1, -99}, {3, 1, 0}, {2, 2, 0}, {3, 3, 0}, {3, 2, -99}, {1, 2, -999}, {3, 4, -999}, {0, 1, -999}, {9, 9, 7}, {10, 9, 0},
            {10, 10, -999}, {10, 0, -999}, {10, -1, -999}, {10, MAX, -999}, {10, MIN, -999}, {11, 1, -999}, {-1, 1, -999}, {MAX, 1, -999}, {MIN, 1, -999}};
        for (int[] s : speeds) DUE.due("speed(0, " + s[0] + ", " + s[1] + ")", x.speed(0, s[0], s[1]), s[2]);
        DUE.says("RICH of a SOUND one: the ACCOUNT that has most in its LEDGER, of several the least (none: none).");
        DUE.due("none", with("", "").root(0, 0, 0, 2), NONE);
        DUE.due("nothing in it", with("account 0;", "").root(0, 0, 0, 2), 0);
        DUE.due("of several", with("account 7;account 8;account 8;", "").root(0, 0, 0, 2), 1);
        DUE.due("the last", with("account 0;".repeat(5) + "account 1;", "").root(0, 0, 0, 2), 5);
        DUE.due("by a reward", with("account 4;account 0;", "block 0 0 1;").root(0, 0, 1, 2), 1);
        DUE.says("MADE of an ACCOUNT, a SOUND BLOCK: how many BLOCKS of its way it made.");
        x = with("account 0;account 0;", chain(14));
        for (int k = 0; k <= 14; k++) {
            DUE.due("made of 0", x.root(0, 0, k, 10), k);
            DUE.due("made of 1", x.root(0, 0, k, 11), 0);
        }
    }

    private static void uncles(String blocks, int k, int due) {
        DUE.due("uncles of " + k + " of " + blocks, with("account 0;", blocks).root(0, 0, k, 1), due);
    }

    private static void gains() {
        DUE.says("GAIN of an ACCOUNT: the SOUND BLOCK by the LEDGER of which it has most, of several the least; how much; by how many SOUND ones it has as much.");
        gain("account 9;", "", 0, 0, 9, 1);
        gain("account 9;account 0;", "block 0 0 1;block 0 0 1;", 0, 0, 9, 3);
        gain("account 9;account 0;", "block 0 0 1;block 0 0 1;", 1, 1, 5, 2);
        gain("account 9;account 0;reward 0;", BAD, 0, 0, 9, 3);
        gain("account 9;", BAD, 0, 1, 14, 1);
        gain("account 0;reward 0;", BAD, 0, 0, 0, 2);
        gain("account 9;reward 1;", TWO, 0, 1, 10, 2);
        gain("account 9;reward 1;", "block 0 0 0;block 1 0 0;", 0, 2, 11, 1);
        gain("account 9;account 0;", "block 0 0 1;pay 0 1 9;", 0, 0, 9, 1);
        gain("account 0;account 0;", "block 0 0 0;block 1 0 0;block 0 0 1;block 2 0 1;", 0, 2, 10, 2);
        DUE.says("TWICE of an ACCOUNT, two SOUND BLOCKS: by how much more there is in its LEDGER by the first one than by the second.");
        WorkChains x = with("account 99;account 0;reward 99;", chain(14));
        int[][] due = {{0, 0, 0, 0}, {0, 14, 14, 0}, {0, 14, 0, 1386}, {0, 0, 14, -1386}, {1, 14, 0, 0}, {0, 7, 8, -99}};
        for (int[] d : due) DUE.due("twice of " + d[0], x.twice(0, 0, d[0], d[1], d[2]), d[3]);
    }

    private static void gain(String net, String blocks, int account, int... due) {
        WorkChains x = with(net, blocks);
        for (int what = 0; what < 3; what++) DUE.due("gain of " + account + ", " + what + " of " + blocks, x.gain(0, 0, account, what), due[what]);
    }

    private static void flips() {
        String flat = "account 0;step 9;";
        DUE.says("FLIP: whether the TIP is another one by the other RULE (1, else 0);");
        for (String rule : new String[] {"rule 0;", "rule 1;"}) {
            leaves(flat + rule, "", 5, 0);
            leaves(flat + rule, chain(14), 5, 0);
            leaves(flat + rule, BROAD, 5, 1);
            leaves(flat + rule, TWO, 5, 0);
            leaves(rule, BROAD, 5, 0);
        }
        DUE.says("LATE: the greatest number of BLOCKS that one is UNDONE at once, if they come by numbers, heads and bodies together.");
        leaves(flat, "", 6, 0);
        leaves(flat, chain(14), 6, 0);
        leaves(flat, TWO, 6, 0);
        leaves(flat, "block 0 0 1;", 6, 0);
        leaves(flat, "block 0 0 0;block 0 0 0;block 2 0 0;", 6, 1);
        leaves(flat, "block 0 0 0;block 0 0 0;block 2 0 1;", 6, 0);
        leaves(flat, BROAD, 6, 0);
        leaves(flat + "rule 1;", BROAD, 6, 3);
        leaves(flat, chain(6) + "block 0 0 0;block 7 0 0;block 8 0 0;block 9 0 0;block 10 0 0;block 11 0 0;block 12 0 0;", 6, 6);
        leaves(flat, chain(6) + "block 0 0 0;block 7 0 0;block 8 0 0;block 9 0 0;block 10 0 0;block 11 0 0;", 6, 0);
    }

    private static void afters() {
        String flat = "account 0;step 9;";
        String all = comes(1, 2, 3, 4, 5, 6, 7);
        DUE.says("Of a FEED, behind all DEEDS up to STOP: SWITCHES: how often the TIP became one that is not behind the old one; UNDONE, DONE: how many BLOCKS in all; LONGEST: the most UNDONE at once;");
        after(flat, BROAD, "", 0, 0, 0, 0, 0, NONE);
        after(flat, BROAD, all, 0, 0, 3, 0, 0, 1);
        after(flat, BROAD, all + "head 1;rule 1;", 0, 0, 3, 0, 0, 1);
        after(flat, BROAD, all + "rule 1;", 1, 3, 5, 3, 0, 1);
        after(flat, BROAD, all + "rule 1;rule 0;", 2, 5, 8, 3, 0, 1);
        after(flat, BROAD, all + "rule 1;rule 1;rule 0;", 1, 3, 5, 3, 0, 1);
        after(flat, "block 0 0 0;block 0 0 0;block 2 0 0;", comes(1, 2, 3), 1, 1, 3, 1, 0, 1);
        DUE.says("WAITING: BLOCKS (bits) of which anything came, and that are not WHOLE;");
        after(flat, chain(3), "head 1;", 0, 0, 0, 0, bits(1), NONE);
        after(flat, chain(3), "body 1;", 0, 0, 0, 0, bits(1), NONE);
        after(flat, chain(3), "body 1;head 3;head 1;body 3;body 2;", 0, 0, 1, 0, bits(2, 3), 2);
        after(flat, chain(3), "body 1;drop 1;", 0, 0, 0, 0, 0, NONE);
        after(flat, BAD, comes(1, 2, 3, 4), 0, 0, 1, 0, bits(2, 3, 4), 1);
        DUE.says("FIRST: the DEED by which the TIP was first another one than BLOCK 0 (none).");
        after(flat, "", "head 1;", 0, 0, 0, 0, 0, NONE);
        after(flat, TWO, "head 1;head 2;", 0, 0, 0, 0, bits(1, 2), NONE);
        after(flat, TWO, "head 1;head 1;body 1;", 0, 0, 0, 0, bits(1), NONE);
        after(flat, TWO, "head 2;drop 2;".repeat(19) + comes(1), 0, 0, 1, 0, 0, 39);
        after(flat, TWO, comes(2, 1) + "rule 1;", 0, 0, 1, 0, 0, 1);
    }

    private static void after(String net, String blocks, String feed, int... due) {
        WorkChains x = with(net, blocks, feed);
        for (int what = 0; what < 6; what++) DUE.due("after " + what + " of " + feed, x.after(0, 0, 0, what), due[what]);
    }

    // ---- promises: no call leaves anything behind but what it says

    private static void nothingElse() {
        DUE.says("Nothing is promised beyond the answers and state changes described above");
        String all = comes(1, 2, 3, 4, 5, 6, 7) + "rule 1;rule 0;";
        WorkChains x = with("account 9;account 0;step 9;", BROAD, all, "tip 14 5;", "pay 0 1 1 1;pay 0 1 1 2;pay 0 1 1 3;");
        String[] small = {"account 1;account 0;", ONE, comes(1), "", "pay 0 1 1 0;"};
        for (int sort = 0; sort < 5; sort++) DUE.due("a second of " + sort, Due.tell(x, sort, small[sort]), 1);
        for (int times = 0; times < 2; times++) {
            int[] large = {2, 5, 8, 3, 0, 1};
            for (int what = 0; what < 6; what++) DUE.due("after " + what, x.after(0, 0, 0, what), large[what]);
            DUE.due("fill", x.fill(0, 0, 7, 0, 2), 2);
            DUE.due("fits", x.fits(0, 0, 0, 0, 1), 1);
            DUE.due("flip", x.leaves(0, 0, 5), 1);
            DUE.due("flip", x.leaves(1, 1, 5), 0);
            int[] one = {0, 0, 1, 0, 0, 1};
            for (int what = 0; what < 6; what++) DUE.due("after " + what, x.after(1, 1, 1, what), one[what]);
            DUE.due("fill", x.fill(1, 1, 0, 1, NONE), 0);
            DUE.due("fill", x.fill(1, 1, 0, 1, 0), NONE);
            DUE.due("fits", x.fits(1, 1, 1, 1, 0), 36);
            DUE.due("gain", x.gain(1, 1, 0, 2), 1);
            DUE.due("state", x.state(1, 1, 1, 0, 6), 0);
        }
        Due.put(x, "block 0 0 2;block 0 0 0;");
        DUE.due("1 is not sound", x.text(1, 1), 1);
        DUE.due("flip", x.leaves(0, 0, 5), 1);
        DUE.due("flip", x.leaves(1, 1, 5), 0);
        // what is told in the place of more has no more than it tells
        String[] less = {"account 5;account 0;", "block 0 0 1;", "head 1;", "tip 1 0;", "pay 0 1 1 1;"};
        for (int sort = 0; sort < 5; sort++) {
            Due.put(x, less[sort]);
            DUE.due("in its place", x.text(sort, 0), 0);
        }
        DUE.due("one pay", x.fill(0, 0, 1, 0, NONE), 1);
        DUE.due("one deed", x.stop(0, 0, 0), 1);
        DUE.due("one fact", x.fits(0, 0, 0, 0, 0), 36);
        DUE.due("no second pay", x.fill(0, 0, 1, 0, 1), NONE);
    }

    private static void manyCalls() {
        DUE.says("An object is used for at most 512 calls after it has been made; what later calls answer is free.");
        String all = comes(1, 2, 3, 4, 5, 6, 7) + "rule 1;rule 0;";
        WorkChains x = with("account 9;account 0;step 9;", BROAD, all, "tip 14 5;", "pay 0 1 1 1;pay 0 1 1 2;pay 0 1 1 3;");
        // the texts took fewer than 100 calls
        for (int call = 100; call < 508; call += 4) {
            DUE.due("fits, call " + call, x.fits(0, 0, 0, 0, 1), 1);
            DUE.due("late, call " + call, x.leaves(0, 0, 6), 0);
            DUE.due("image, call " + call, x.image(call / 4 % 3), true);
            DUE.due("again, call " + call, x.again(call / 4 % 3), true);
        }
        DUE.due("undone, call 509", x.after(0, 0, 0, 1), 5);
        DUE.due("withheld, call 510", x.tip(0, 0, 3), bits(1));
        DUE.due("drawn, call 511", x.drawn(0, 0, 0, 1, 3), 0);
        DUE.due("stop, call 512", x.stop(0, 0, 0), 16);
    }

    // ---- promises: there is none such, and other whats

    /** A net of one account, blocks 0 to 4 of which 2, 3, 4 are not sound, a feed, a log and a pool. */
    private static WorkChains bad() {
        return with("account 9;", BAD, comes(1, 2), "", "pay 0 1 1 1;");
    }

    private static void noneSuch() {
        WorkChains x = bad();
        int[] noBlocks = {-1, 5, 14, 15, 31, 32, MAX, MIN};
        int[] noAccounts = {-1, 1, 5, 6, MAX, MIN};
        DUE.says("STOP. NONE: there is none such (of any).");
        for (int no : NO_PLACES) DUE.due("stop", x.stop(no, 0, 0) == NONE && x.stop(0, no, 0) == NONE && x.stop(0, 0, no) == NONE, true);
        DUE.says("10 + a: what is in an ACCOUNT by the TIP's LEDGER. NONE: there is no such STATE, or for another what.");
        for (int no : NO_PLACES) {
            DUE.due("state", x.state(no, 0, 0, 0, 2) == NONE && x.state(0, no, 0, 0, 2) == NONE && x.state(0, 0, no, 0, 2) == NONE, true);
        }
        for (int n : new int[] {-1, 5, 41, MAX, MIN}) DUE.due("state of " + n, x.state(0, 0, 0, n, 2), NONE);
        for (int what : new int[] {-1, 9, 11, 16, MAX, MIN}) DUE.due("state, what " + what, x.state(0, 0, 0, 4, what), NONE);
        DUE.due("account 0", x.state(0, 0, 0, 4, 10), 14);
        DUE.says("NONE: it is not SOUND (3, 10 and more), there is none such (of any), or for another what.");
        for (int no : NO_PLACES) DUE.due("work", x.work(no, 0, 0, 0) == NONE && x.work(0, no, 0, 0) == NONE, true);
        for (int k : noBlocks) for (int what = 0; what < 5; what++) DUE.due("work of " + k, x.work(0, 0, k, what), NONE);
        for (int k = 2; k < 5; k++) {
            DUE.due("work of " + k, x.work(0, 0, k, 0) > 0 && x.work(0, 0, k, 1) > 0 && x.work(0, 0, k, 2) > 0, true);
            DUE.due("4 of " + k, x.work(0, 0, k, 4), 0);
            DUE.due("3 of " + k, x.work(0, 0, k, 3), NONE);
            DUE.due("10 of " + k, x.work(0, 0, k, 10), NONE);
        }
        for (int what : new int[] {-1, 5, 9, 11, 16, MAX, MIN}) DUE.due("work, what " + what, x.work(0, 0, 1, what), NONE);
        DUE.says("2: WITHHELD, how many, 3: which (bits) (NONE of both: by none of 3). -2: there is none such (of either), or for another what.");
        for (int no : NO_PLACES) DUE.due("tip", x.tip(no, 0, 0) == -2 && x.tip(0, no, 0) == -2, true);
        for (int what : new int[] {-1, 4, 10, MAX, MIN}) DUE.due("tip, what " + what, x.tip(0, 0, what), -2);
        WorkChains none = with("", BAD);
        DUE.due("none of 3", none.tip(0, 0, 2), NONE);
        DUE.due("none of 3", none.tip(0, 0, 3), NONE);
        DUE.says("FILL of a BLOCK by a POOL: how much (k NONE), or the k-th PAY. NONE: not so many, it is not SOUND, or there is none such (of any).");
        for (int no : NO_PLACES) DUE.due("fill", x.fill(no, 0, 0, 0, NONE) == NONE && x.fill(0, no, 0, 0, NONE) == NONE && x.fill(0, 0, 0, no, NONE) == NONE, true);
        for (int k : noBlocks) DUE.due("fill of " + k, x.fill(0, 0, k, 0, NONE), NONE);
        for (int k = 2; k < 5; k++) DUE.due("fill of " + k, x.fill(0, 0, k, 0, NONE), NONE);
        for (int k : new int[] {0, 1, 3, -2, MAX, MIN}) DUE.due("fill of 1, " + k, x.fill(0, 0, 1, 0, k), NONE);
        DUE.due("fill of 1", x.fill(0, 0, 1, 0, NONE), 0);
        DUE.says("REPLAY of two: how many are done, or (not) how many are not. NONE: one is not SOUND, or there is none such (of any).");
        for (int no : NO_PLACES) DUE.due("replay", x.replay(no, 0, 0, 0, false) == NONE && x.replay(0, no, 0, 0, true) == NONE, true);
        for (int k : noBlocks) DUE.due("replay of " + k, x.replay(0, 0, k, 0, false) == NONE && x.replay(0, 0, 0, k, true) == NONE, true);
        for (int k = 2; k < 5; k++) DUE.due("replay of " + k, x.replay(0, 0, k, 1, true) == NONE && x.replay(0, 0, 1, k, false) == NONE, true);
        DUE.says("PATH of two: how many (k NONE), or the k-th. NONE: not so many, or there is none such (of any).");
        for (int no : NO_PLACES) DUE.due("path", x.path(no, 0, 0, NONE), NONE);
        for (int k : noBlocks) DUE.due("path of " + k, x.path(0, k, 1, NONE) == NONE && x.path(0, 1, k, NONE) == NONE, true);
        DUE.due("of those that are not sound", x.path(0, 3, 4, NONE), 3);
        DUE.says("MEET of two. NONE: there is none such (of any).");
        for (int no : NO_PLACES) DUE.due("meet", x.meet(no, 0, 0), NONE);
        for (int k : noBlocks) DUE.due("meet of " + k, x.meet(0, k, 1) == NONE && x.meet(0, 1, k) == NONE, true);
        DUE.says("1: how many, 2: N, 3: D (NONE of both: none). -2: there is none such (of any), or for another what.");
        for (int no : NO_PLACES) DUE.due("own", x.own(no, 0, 0, 0) == -2 && x.own(0, no, 0, 0) == -2, true);
        for (int a : noAccounts) for (int what = 0; what < 4; what++) DUE.due("own of " + a, x.own(0, 0, a, what), -2);
        for (int what : new int[] {-1, 4, 10, MAX, MIN}) DUE.due("own, what " + what, x.own(0, 0, 0, what), -2);
        for (int a : noAccounts) DUE.due("own of " + a + " without blocks", with("account 1;", "").own(0, 0, a, 2), -2);
        noneSuchOfMore(x, noBlocks, noAccounts);
    }

    private static void noneSuchOfMore(WorkChains x, int[] noBlocks, int[] noAccounts) {
        DUE.says("DRAWN, n times, what as state(). NONE: there is none such (of either), another n, or for another what.");
        for (int no : NO_PLACES) DUE.due("drawn", x.drawn(no, 0, 0, 0, 2) == NONE && x.drawn(0, no, 0, 0, 2) == NONE, true);
        for (int n : new int[] {-1, 61, MAX, MIN}) DUE.due("drawn " + n, x.drawn(0, 0, 0, n, 2), NONE);
        for (int what : new int[] {-1, 9, 11, 16, MAX, MIN}) DUE.due("drawn, what " + what, x.drawn(0, 0, 0, 60, what), NONE);
        DUE.says("5: FLIP, 6: LATE, 7: EVEN, 8: TURNS (bits), 9: STEEPEST (NONE). -2: there is none such (of either), or for another what.");
        for (int no : NO_PLACES) DUE.due("leaves", x.leaves(no, 0, 0) == -2 && x.leaves(0, no, 0) == -2, true);
        for (int what : new int[] {-1, 10, 11, MAX, MIN}) DUE.due("leaves, what " + what, x.leaves(0, 0, what), -2);
        DUE.says("Of a BLOCK, what 0: ROOT (NONE: it is SOUND), 1: UNCLES (bits), 2: RICH (NONE), 10 + a: MADE of an ACCOUNT. -2: it is not SOUND (1 and more), there is none such (of any), or for another what.");
        for (int no : NO_PLACES) DUE.due("root", x.root(no, 0, 0, 0) == -2 && x.root(0, no, 0, 0) == -2, true);
        for (int k : noBlocks) for (int what = 0; what < 3; what++) DUE.due("root of " + k, x.root(0, 0, k, what), -2);
        for (int k = 2; k < 5; k++) {
            DUE.due("0 of " + k, x.root(0, 0, k, 0), k == 3 ? 2 : k);
            for (int what : new int[] {1, 2, 10}) DUE.due(what + " of " + k, x.root(0, 0, k, what), -2);
        }
        for (int what : new int[] {-1, 3, 9, 11, 16, MAX, MIN}) DUE.due("root, what " + what, x.root(0, 0, 1, what), -2);
        DUE.due("sound", x.root(0, 0, 1, 0), NONE);
        DUE.due("made", x.root(0, 0, 1, 10), 1);
        DUE.says("GAIN of an ACCOUNT, what 0: the BLOCK, 1: how much, 2: by how many. NONE: there is none such (of any), or for another what.");
        for (int no : NO_PLACES) DUE.due("gain", x.gain(no, 0, 0, 0) == NONE && x.gain(0, no, 0, 0) == NONE, true);
        for (int a : noAccounts) for (int what = 0; what < 3; what++) DUE.due("gain of " + a, x.gain(0, 0, a, what), NONE);
        for (int what : new int[] {-1, 3, 10, MAX, MIN}) DUE.due("gain, what " + what, x.gain(0, 0, 0, what), NONE);
        DUE.says("SPEED (below 0: made ahead). -999: none, another k, or there is none such (of either).");
        for (int no : NO_PLACES) DUE.due("speed", x.speed(no, 1, 1), -999);
        for (int k : noBlocks) DUE.due("speed of " + k, x.speed(0, k, 1), -999);
        for (int k : new int[] {0, 2, 10, -1, MAX, MIN}) DUE.due("speed of 1, " + k, x.speed(0, 1, k), -999);
        DUE.due("made ahead", x.speed(0, 2, 1), -1);
        DUE.says("TWICE. -9999: one is not SOUND, or there is none such (of any).");
        for (int no : NO_PLACES) DUE.due("twice", x.twice(no, 0, 0, 0, 0) == -9999 && x.twice(0, no, 0, 0, 0) == -9999, true);
        for (int a : noAccounts) DUE.due("twice of " + a, x.twice(0, 0, a, 0, 0), -9999);
        for (int k : noBlocks) DUE.due("twice by " + k, x.twice(0, 0, 0, k, 0) == -9999 && x.twice(0, 0, 0, 0, k) == -9999, true);
        for (int k = 2; k < 5; k++) DUE.due("twice by " + k, x.twice(0, 0, 0, k, 1) == -9999 && x.twice(0, 0, 0, 1, k) == -9999, true);
    }

    private static void noneSuchOfLaws() {
        WorkChains x = bad();
        DUE.says("What 0: how many FIT, 1, 2, 3: SURE of RULE, of TIE, of STEP (NONE: not one, or nothing FITS), 4: ASK (NONE: nothing FITS), 10 + k: the k-th. -2: there is none such (of any), or for another what.");
        for (int no : NO_PLACES) {
            for (int what : new int[] {0, 1, 4, 10}) {
                DUE.due("fits", x.fits(no, 0, 0, 0, what) == -2 && x.fits(0, no, 0, 0, what) == -2, true);
                DUE.due("fits", x.fits(0, 0, no, 0, what) == -2 && x.fits(0, 0, 0, no, what) == -2, true);
            }
        }
        for (int what : new int[] {-1, 5, 9, 46, 47, MAX, MIN}) DUE.due("fits, what " + what, x.fits(0, 0, 0, 0, what), -2);
        DUE.due("the 36th", x.fits(0, 0, 0, 0, 45), 39);
        DUE.says("ODDS of a RULE, N, or (under) D. NONE: nothing FITS, another RULE, or there is none such (of any).");
        for (int no : NO_PLACES) {
            DUE.due("odds", x.odds(no, 0, 0, 0, 0, true) == NONE && x.odds(0, no, 0, 0, 0, true) == NONE, true);
            DUE.due("odds", x.odds(0, 0, no, 0, 0, true) == NONE && x.odds(0, 0, 0, no, 0, true) == NONE, true);
        }
        for (int rule : new int[] {-1, 2, 20, MAX, MIN}) DUE.due("odds of " + rule, x.odds(0, 0, 0, 0, rule, false), NONE);
        DUE.says("What 0: SWITCHES, 1: UNDONE, 2: DONE, 3: LONGEST, 4: WAITING (bits), 5: FIRST (NONE). -2: there is none such (of any), or for another what.");
        for (int no : NO_PLACES) DUE.due("after", x.after(no, 0, 0, 2) == -2 && x.after(0, no, 0, 2) == -2 && x.after(0, 0, no, 2) == -2, true);
        for (int what : new int[] {-1, 6, 10, MAX, MIN}) DUE.due("after, what " + what, x.after(0, 0, 0, what), -2);
        DUE.says("CHANCE of p, z, n, N, or (under) D. NONE: other numbers.");
        DUE.due("chance(5, 1, 13)", x.chance(5, 1, 13, false), NONE);
        DUE.due("chance(5, 7, 1)", x.chance(5, 7, 1, true), NONE);
        DUE.due("chance(11, 1, 1)", x.chance(11, 1, 1, true), NONE);
        DUE.says("RACE of z, n. NONE: other numbers.");
        DUE.due("race(7, 0)", x.race(7, 0), NONE);
        DUE.due("race(0, 7)", x.race(0, 7), NONE);
    }
}
