/** Each sentence of the document on the tape, on texts and on what is told that names an edge: a test of its own. */
public final class EdgesOfTextsTest {
    private static final Due DUE = new Due();
    private static final int NONE = -1;
    private static final int MIN = Integer.MIN_VALUE;
    private static final int MAX = Integer.MAX_VALUE;
    private static final int BLANKS = 0x20202020;
    /** A text of each sort, what is first in it, and the same with another number. */
    private static final String[] TEXTS = {"start 31;", "block 0 31 0;", "head 1;", "tip 31 1;", "pay 1 0 3 1;"};
    private static final String[] OTHERS = {"start 32;", "block 0 32 0;", "head 2;", "tip 32 1;", "pay 2 0 3 1;"};
    private static final int[] FIRSTS = {31, 31, 1, 31, 1};
    private static final int[] SECONDS = {32, 32, 2, 32, 2};

    public static void main(String[] args) throws Exception {
        DUE.read(args[0]);
        netNumbers();
        blockNumbers();
        payNumbers();
        deedsFactsAndPools();
        tokens();
        grammar();
        struckOrFurther();
        faultsOfText();
        faultsByPlace();
        manyTexts();
        newObject();
        tape();
        textCalls();
        faultCalls();
        netCalls();
        blockCalls();
        rowCalls();
        countCalls();
        imageCalls();
        DUE.close("EdgesOfTextsTest");
    }

    // ---- helpers

    private static String times(int n, String text) {
        return text.repeat(n);
    }

    private static WorkChains telling(int sort, String text) {
        WorkChains x = new WorkChains();
        DUE.due("text " + text, Due.tell(x, sort, text), 0);
        return x;
    }

    private static void good(int sort, String text) {
        WorkChains x = telling(sort, text);
        DUE.due("fault(0) of " + text, x.fault(0), 0);
        DUE.due("fault(1) of " + text, x.fault(1), NONE);
        DUE.due("count behind " + text, x.count(sort), 1);
    }

    private static void bad(int sort, String text, int fault, int place) {
        WorkChains x = new WorkChains();
        DUE.due("text " + text, Due.tell(x, sort, text), NONE);
        DUE.due("fault(0) of " + text, x.fault(0), fault);
        DUE.due("fault(1) of " + text, x.fault(1), place);
        DUE.due("count behind " + text, x.count(sort), 0);
    }

    /** What is told first in a text of TEXTS or OTHERS. */
    private static int firstOf(WorkChains x, int sort, int at) {
        switch (sort) {
            case 0: return x.net(at, 2);
            case 1: return x.block(at, 1, 1);
            case 2: return x.deed(at, 0, 1);
            case 3: return x.fact(at, 0, 0);
            default: return x.pool(at, 0, 0);
        }
    }

    private static String chain(int n) {
        StringBuilder s = new StringBuilder();
        for (int k = 0; k < n; k++) s.append("block ").append(k).append(" 0 0;");
        return s.toString();
    }

    // ---- terms 1: numbers that can be

    private static void netNumbers() {
        says1("STEP, 1 .. 9 (2 at first)", "step", 0, 1, 9, 2);
        says1("TARGET, 1 .. 99 (10 at first)", "target", 1, 1, 99, 10);
        says1("START, 1 .. 99 (10 at first)", "start", 2, 1, 99, 10);
        says1("RULE, 0 or 1 (0 at first)", "rule", 3, 0, 1, 0);
        says1("TIE, 0 or 1 (0 at first)", "tie", 4, 0, 1, 0);
        says1("REWARD, 0 .. 99 (5 at first)", "reward", 5, 0, 99, 5);
        DUE.says("ACCOUNTS, at most 6, from 0 on: what is in each at first, 0 .. 99.");
        DUE.due("none", telling(0, "").net(0, 6), 0);
        DUE.due("none", telling(0, "").net(0, 10), NONE);
        WorkChains x = telling(0, "account 0;account 11;account 12;account 13;account 14;account 99;");
        DUE.due("6", x.net(0, 6), 6);
        int[] in = {0, 11, 12, 13, 14, 99, NONE, NONE};
        for (int a = 0; a < in.length; a++) DUE.due("in account " + a, x.net(0, 10 + a), in[a]);
        bad(0, times(7, "account 0;"), 3, 60);
        bad(0, "account 100;", 1, 8);
    }

    private static void says1(String words, String word, int what, int least, int most, int atFirst) {
        DUE.says(words);
        DUE.due("at first", telling(0, "").net(0, what), atFirst);
        for (int n = 0; n <= 99; n++) {
            if (n < least || n > most) bad(0, word + " " + n + ";", 2, word.length() + 1);
            else DUE.due(word + " " + n, telling(0, word + " " + n + ";").net(0, what), n);
        }
        bad(0, word + " 100;", 1, word.length() + 1);
        bad(0, word + " -1;", 1, word.length() + 1);
    }

    private static void blockNumbers() {
        DUE.says("BLOCKS have BLOCK 0, that is always there, made at time 0 by nobody, and at most 14 more, from 1 on");
        WorkChains x = telling(1, "");
        DUE.due("but 0", x.block(0, NONE, 0), 0);
        DUE.due("time of 0", x.block(0, 0, 1), 0);
        DUE.due("maker of 0", x.block(0, 0, 2), NONE);
        DUE.due("no 1", x.block(0, 1, 1), -2);
        x = telling(1, times(14, "block 0 9 5;"));
        DUE.due("14", x.block(0, NONE, 0), 14);
        DUE.due("time of 0", x.block(0, 0, 1), 0);
        DUE.due("the 14th", x.block(0, 14, 1), 9);
        DUE.due("no 15th", x.block(0, 15, 1), -2);
        bad(1, times(15, "block 0 9 5;"), 3, 168);
        DUE.says("a PARENT, a BLOCK of a lesser number, the TIME, 0 .. 99, a MAKER, an ACCOUNT, 0 .. 5");
        x = telling(1, "block 0 0 0;block 1 99 5;block 0 1 1;");
        DUE.due("parent of 1", x.block(0, 1, 0), 0);
        DUE.due("parent of 2", x.block(0, 2, 0), 1);
        DUE.due("parent of 3", x.block(0, 3, 0), 0);
        DUE.due("time of 2", x.block(0, 2, 1), 99);
        DUE.due("maker of 2", x.block(0, 2, 2), 5);
        good(1, chain(14));
        bad(1, "block 1 0 0;", 2, 6);
        bad(1, chain(3) + "block 4 0 0;", 2, 42);
        bad(1, chain(3) + "block 5 0 0;", 2, 42);
        bad(1, "block 0 100 0;", 1, 8);
        bad(1, "block 0 0 6;", 2, 10);
        bad(1, "block 0 0 99;", 2, 10);
    }

    private static void payNumbers() {
        DUE.says("PAYS, at most 3 of each, from one ACCOUNT to an unlike one, 1 .. 99.");
        String block = "block 0 0 0;";
        DUE.due("none", telling(1, block).block(0, 1, 3), 0);
        WorkChains x = telling(1, block + times(3, "pay 0 5 99;") + block + "pay 5 0 1;");
        DUE.due("3", x.block(0, 1, 3), 3);
        DUE.due("of the next", x.block(0, 2, 3), 1);
        DUE.due("from", x.block(0, 1, 30), 0);
        DUE.due("to", x.block(0, 1, 31), 5);
        DUE.due("how much", x.block(0, 1, 32), 99);
        DUE.due("how much", x.block(0, 2, 12), 1);
        bad(1, block + times(4, "pay 0 5 99;"), 3, 45);
        bad(1, block + "pay 0 0 1;", 2, 18);
        bad(1, block + "pay 5 5 1;", 2, 18);
        bad(1, block + "pay 6 0 1;", 2, 16);
        bad(1, block + "pay 0 6 1;", 2, 18);
        bad(1, block + "pay 0 5 0;", 2, 20);
        bad(1, block + "pay 0 5 100;", 1, 20);
    }

    private static void deedsFactsAndPools() {
        DUE.says("A FEED has DEEDS, at most 40, from 0 on.");
        DUE.due("none", telling(2, "").deed(0, NONE, 0), 0);
        WorkChains x = telling(2, times(39, "head 1;") + "drop 14;");
        DUE.due("40", x.deed(0, NONE, 0), 40);
        DUE.due("0", x.deed(0, 0, 1), 1);
        DUE.due("39", x.deed(0, 39, 1), 14);
        bad(2, times(41, "head 1;"), 3, 280);
        DUE.says("A LOG has FACTS, at most 8, from 0 on: behind so many DEEDS, 0 .. 40, a BLOCK, 0 .. 14, was the TIP.");
        DUE.due("none", telling(3, "").fact(0, NONE, 0), 0);
        x = telling(3, times(7, "tip 0 0;") + "tip 40 14;");
        DUE.due("8", x.fact(0, NONE, 0), 8);
        DUE.due("0 deeds", x.fact(0, 0, 0), 0);
        DUE.due("block 0", x.fact(0, 0, 1), 0);
        DUE.due("40 deeds", x.fact(0, 7, 0), 40);
        DUE.due("block 14", x.fact(0, 7, 1), 14);
        bad(3, times(9, "tip 0 0;"), 3, 64);
        bad(3, "tip 41 0;", 2, 4);
        bad(3, "tip 99 0;", 2, 4);
        bad(3, "tip 0 15;", 2, 6);
        bad(3, "tip 41 15;", 2, 4);
        DUE.says("A POOL has PAYS, at most 6, from 0 on, each with a FEE, 0 .. 9.");
        DUE.due("none", telling(4, "").pool(0, NONE, 0), 0);
        x = telling(4, times(5, "pay 0 1 1 0;") + "pay 5 0 99 9;");
        DUE.due("6", x.pool(0, NONE, 0), 6);
        DUE.due("fee 0", x.pool(0, 0, 3), 0);
        int[] last = {5, 0, 99, 9};
        for (int what = 0; what < 4; what++) DUE.due("the last, " + what, x.pool(0, 5, what), last[what]);
        bad(4, times(7, "pay 0 1 1 0;"), 3, 72);
        bad(4, "pay 0 1 1 10;", 2, 10);
        bad(4, "pay 0 1 1 100;", 1, 10);
        bad(4, "pay 6 1 1 0;", 2, 4);
        bad(4, "pay 0 6 1 0;", 2, 6);
        bad(4, "pay 1 1 1 0;", 2, 6);
        bad(4, "pay 0 1 0 0;", 2, 8);
        DUE.says("(a BLOCK, 1 .. 14; rule: 0, 1)");
        for (String word : new String[] {"head", "body", "drop"}) {
            bad(2, word + " 0;", 2, 5);
            DUE.due(word + " 1", telling(2, word + " 1;").deed(0, 0, 1), 1);
            DUE.due(word + " 14", telling(2, word + " 14;").deed(0, 0, 1), 14);
            bad(2, word + " 15;", 2, 5);
            bad(2, word + " 99;", 2, 5);
        }
        DUE.due("rule 0", telling(2, "rule 0;").deed(0, 0, 1), 0);
        DUE.due("rule 1", telling(2, "rule 1;").deed(0, 0, 1), 1);
        bad(2, "rule 2;", 2, 5);
    }

    // ---- terms 1: texts

    private static void tokens() {
        DUE.says("TOKENS, as long as they go, blanks (10, 32) between");
        good(0, "\n  step \n 3\n;\n\n");
        good(0, "step3;tie1;");
        good(1, "block 0 0 0;pay 0 1 1;");
        bad(1, "block 000;", 1, 6);
        bad(1, "block 0 00;", 1, 10);
        bad(0, "stepstep 3;", 1, 0);
        bad(0, "st ep 3;", 1, 0);
        for (char c : new char[] {0, 9, 11, 13, 31, 33, 127, 128, 160, 138, 255}) bad(0, "step" + c + "3;", 1, 4);
        DUE.says("words, rows of letters a .. z");
        for (char c : new char[] {'`', '{', 'A', 'Z', 'T', 'Y', '@', '[', 0xe1}) bad(0, "tie 0;" + c + "ie 0;", 1, 6);
        bad(0, "sTep 3;", 1, 0);
        bad(0, "tiez 0;", 1, 0);
        bad(0, "tiea 0;", 1, 0);
        String[] words = {"step 1;target 1;start 1;rule 1;tie 1;reward 1;account 1;", "block 0 0 0;pay 0 1 1;", "head 1;body 1;drop 1;rule 1;", "tip 0 0;", "pay 0 1 1 1;"};
        for (int sort = 0; sort < 5; sort++) for (int i = 0; i < words[sort].length(); i++) notTheWord(sort, words[sort], i);
        DUE.says("NUMBERS, 1 or 2 digits");
        DUE.due("one", telling(0, "start 9;").net(0, 2), 9);
        DUE.due("two", telling(0, "start 09;").net(0, 2), 9);
        DUE.due("two", telling(0, "start 90;").net(0, 2), 90);
        bad(0, "start ;", 1, 6);
        bad(0, "start 009;", 1, 6);
        bad(0, "start 123456789012345678901234567890;", 1, 6);
        bad(0, "start /;", 1, 6);
        bad(0, "start :;", 1, 6);
        DUE.says("; one byte.");
        bad(0, "tie 0;;tie 0;", 1, 6);
        bad(0, ";", 1, 0);
        bad(0, "tie 0:", 1, 5);
    }

    /** A letter of a word is another one, doubled or left out. */
    private static void notTheWord(int sort, String text, int i) {
        if (!Character.isLetter(text.charAt(i))) return;
        int first = i;
        while (first > 0 && Character.isLetter(text.charAt(first - 1))) first--;
        String ahead = text.substring(0, i), behind = text.substring(i + 1);
        char c = text.charAt(i);
        bad(sort, ahead + (char) (c + 1) + behind, 1, first);
        bad(sort, ahead + (char) (c - 1) + behind, 1, first);
        bad(sort, ahead + c + c + behind, 1, first);
        bad(sort, ahead + behind, 1, first);
    }

    private static void grammar() {
        DUE.says("A NET's text: {('step' | 'target' | 'start' | 'rule' | 'tie' | 'reward' | 'account') NUMBER ';'} (account: what is in a further one).");
        lines(0, "step 1;", "target 1;", "start 1;", "rule 1;", "tie 1;", "reward 1;", "account 1;");
        DUE.says("A text of BLOCKS: {('block' NUMBER NUMBER NUMBER | 'pay' NUMBER NUMBER NUMBER) ';'} (block: PARENT, TIME, MAKER; pay, of the BLOCK that was told last: from, to, how much).");
        lines(1, "block 0 1 1;", "pay 0 1 1;", "block 1 1 1;");
        WorkChains x = telling(1, "block 0 3 4;block 1 5 2;pay 1 2 9;");
        DUE.due("none of 1", x.block(0, 1, 3), 0);
        DUE.due("one of 2", x.block(0, 2, 3), 1);
        DUE.says("A FEED's text: {(('head' | 'body' | 'drop') NUMBER | 'rule' NUMBER) ';'}");
        lines(2, "head 1;", "body 1;", "drop 1;", "rule 1;");
        DUE.says("A LOG's text: {'tip' NUMBER NUMBER ';'} (behind how many DEEDS, the BLOCK).");
        lines(3, "tip 1 1;", "tip 2 2;");
        DUE.says("A POOL's text: {'pay' NUMBER NUMBER NUMBER NUMBER ';'} (from, to, how much, FEE).");
        lines(4, "pay 0 1 1 1;", "pay 1 0 2 2;");
    }

    /** None of these lines, one, or all are a text; none is with a number less or more, without its mark, or broken off. */
    private static void lines(int sort, String... lines) {
        good(sort, "");
        good(sort, String.join("", lines));
        for (String line : lines) {
            int mark = line.length() - 1;
            String ahead = lines[0];
            int from = ahead.length();
            good(sort, ahead + line);
            bad(sort, ahead + line.substring(0, mark - 2) + ";", 1, from + mark - 2);
            bad(sort, ahead + line.substring(0, mark) + " 1;", 1, from + mark + 1);
            bad(sort, ahead + line.substring(0, mark) + ahead, 1, from + mark);
            bad(sort, ahead + line.substring(line.indexOf(' ')), 1, from + 1);
            bad(sort, ahead + line + ";", 1, from + line.length());
            for (int n = 1; n <= mark; n++) {
                String cut = line.substring(0, n);
                boolean word = n < line.indexOf(' ');
                bad(sort, ahead + cut, 1, word ? from : from + n);
            }
        }
    }

    private static void struckOrFurther() {
        DUE.says("Later ones strike (step, target, start, rule, tie, reward), but all others, which are further ones.");
        WorkChains x = telling(0, "step 1;target 1;start 1;rule 1;tie 1;reward 1;account 7;step 9;target 9;start 9;rule 0;tie 0;reward 9;account 8;");
        int[] due = {9, 9, 9, 0, 0, 9, 2};
        for (int what = 0; what < due.length; what++) DUE.due("net " + what, x.net(0, what), due[what]);
        DUE.due("the first account", x.net(0, 10), 7);
        DUE.due("the second account", x.net(0, 11), 8);
        x = telling(1, "block 0 7 0;pay 0 1 7;pay 0 1 8;block 0 8 0;");
        DUE.due("blocks", x.block(0, NONE, 0), 2);
        DUE.due("the first", x.block(0, 1, 1), 7);
        DUE.due("the first pay", x.block(0, 1, 12), 7);
        DUE.due("the second pay", x.block(0, 1, 22), 8);
        DUE.due("deeds", telling(2, "rule 0;rule 1;rule 0;").deed(0, NONE, 0), 3);
        DUE.due("facts", telling(3, "tip 0 0;tip 0 0;").fact(0, NONE, 0), 2);
        DUE.due("pays", telling(4, "pay 0 1 1 0;pay 0 1 1 0;").pool(0, NONE, 0), 2);
    }

    private static void faultsOfText() {
        DUE.says("FAULTS of all, with places (a token's first byte; the end's)");
        bad(0, "step 0;", 2, 5);
        bad(0, "step \n 77;", 2, 7);
        bad(0, "step", 1, 4);
        bad(0, "step 2", 1, 6);
        bad(0, "step 2; tie ", 1, 12);
        bad(0, times(85, "step 2;") + "tie 1", 1, 600);
        bad(0, times(85, "step 2;") + "tiexy", 1, 595);
        DUE.says("1 the first byte or token with which no text goes on (a longer row of digits is no token)");
        for (int sort = 0; sort < 5; sort++) {
            good(sort, "");
            good(sort, "\n ");
            good(sort, TEXTS[sort]);
            good(sort, TEXTS[sort] + OTHERS[sort]);
            bad(sort, ";", 1, 0);
            bad(sort, "7;", 1, 0);
            bad(sort, "x 7;", 1, 0);
            bad(sort, "?", 1, 0);
            bad(sort, TEXTS[sort] + "?", 1, TEXTS[sort].length());
            bad(sort, TEXTS[sort].substring(0, TEXTS[sort].length() - 1) + " 1;", 1, TEXTS[sort].length());
            bad(sort, TEXTS[sort].replace(" ", " 000"), 1, TEXTS[sort].indexOf(' ') + 1);
            for (int n = 1; n < TEXTS[sort].length(); n++) {
                if (!TEXTS[sort].startsWith(" ", n) && !Character.isLetter(TEXTS[sort].charAt(n))) bad(sort, TEXTS[sort].substring(0, n), 1, n);
            }
            for (int other = 0; other < 5; other++) if (other != sort) bad(sort, TEXTS[other], 1, sort == 1 && other == 4 ? 10 : 0);
        }
        bad(4, "pay 0 1 1;", 1, 9);
        bad(1, "block 0 0 0;pay 0 1 1 1;", 1, 22);
        // the first one, whatever comes behind it
        bad(0, "step tie;", 1, 5);
        bad(0, "step step 1;", 1, 5);
        bad(0, "step step ?;", 1, 5);
        bad(0, "tie 1 tie 1;?", 1, 6);
        bad(0, "tie ? 123", 1, 4);
        DUE.says("If there is none, the first by place, of one place the least");
        bad(0, "step 0;tie 2;account 100;", 1, 21);
        bad(0, times(7, "account 1;") + "step 0;!", 1, 77);
        bad(0, "step 0;tie 2;", 2, 5);
        bad(0, "step 1;tie 2;step 0;", 2, 11);
        bad(0, times(7, "account 1;") + "step 0;", 3, 60);
        bad(0, "step 0;" + times(7, "account 1;"), 2, 5);
        bad(2, times(40, "rule 1;") + "rule 2;", 3, 280);
        bad(2, times(39, "rule 1;") + "rule 2;rule 1;", 2, 278);
    }

    private static void faultsByPlace() {
        DUE.says("a PARENT that is not of a lesser number; to whom is paid, if it is who pays;");
        bad(1, "block 1 0 9;", 2, 6);
        bad(1, "block 0 0 9;block 2 0 0;", 2, 10);
        bad(1, "block 0 0 0;block 2 0 0;", 2, 18);
        bad(1, "block 0 0 0;pay 3 3 0;", 2, 18);
        bad(1, "block 0 0 0;pay 7 7 0;", 2, 16);
        bad(4, "pay 3 3 0 0;", 2, 6);
        bad(4, "pay 3 7 0 99;", 2, 6);
        bad(4, "pay 3 4 0 99;", 2, 8);
        bad(4, "pay 3 4 1 99;", 2, 10);
        DUE.says("a line with such a NUMBER tells its ACCOUNT, BLOCK, PAY, DEED, FACT all the same");
        // what such a line tells is seen by nobody: its fault is the first by place, whatever comes behind it
        bad(1, "block 9 0 0;pay 0 1 1;block 1 0 0;", 2, 6);
        bad(1, "block 0 0 9;pay 0 1 1;block 1 0 0;block 2 0 0;", 2, 10);
        bad(1, "block 0 0 0;pay 0 0 1;" + times(3, "pay 0 1 1;"), 2, 18);
        bad(2, "head 0;" + times(40, "head 1;"), 2, 5);
        bad(3, "tip 41 0;" + times(8, "tip 0 0;"), 2, 4);
        bad(4, "pay 1 1 1 1;" + times(6, "pay 0 1 1 1;"), 2, 6);
        DUE.says("3 a 7th ACCOUNT, a 15th BLOCK (but 0), a 4th PAY of a BLOCK, a PAY ahead of any BLOCK, a 41st DEED, a 9th FACT, a 7th PAY of a POOL, at its first token.");
        good(0, times(6, "account 0;"));
        bad(0, times(6, "account 0;") + "tie 0; account 0;", 3, 67);
        good(1, times(14, "block 0 0 0;"));
        bad(1, times(14, "block 0 0 0;") + " block 99 0 99;", 3, 169);
        good(1, "block 0 0 0;" + times(3, "pay 0 1 1;"));
        bad(1, "block 0 0 0;" + times(3, "pay 0 1 1;") + "\npay 0 0 0;", 3, 43);
        bad(1, "pay 0 1 1;", 3, 0);
        bad(1, " pay 9 9 0;block 0 0 0;", 3, 1);
        good(2, times(40, "head 1;"));
        bad(2, times(40, "head 1;") + " head 0;", 3, 281);
        good(3, times(8, "tip 0 0;"));
        bad(3, times(8, "tip 0 0;") + " tip 41 15;", 3, 65);
        good(4, times(6, "pay 0 1 1 0;"));
        bad(4, times(6, "pay 0 1 1 0;") + " pay 0 0 0 10;", 3, 73);
    }

    private static void manyTexts() {
        DUE.says("NETS, at most 2 (sort 0), texts of BLOCKS, at most 2 (1), FEEDS, at most 2 (2), LOGS, at most 2 (3), POOLS, at most 2 (4), from 0 on.");
        for (int sort = 0; sort < 5; sort++) {
            WorkChains x = new WorkChains();
            DUE.due("the first of " + sort, Due.tell(x, sort, TEXTS[sort]), 0);
            DUE.due("the second of " + sort, Due.tell(x, sort, OTHERS[sort]), 1);
            DUE.due("a third of " + sort, Due.tell(x, sort, TEXTS[sort]), -2);
            DUE.due("how many of " + sort, x.count(sort), 2);
            DUE.due("0 of " + sort, firstOf(x, sort, 0), FIRSTS[sort]);
            DUE.due("1 of " + sort, firstOf(x, sort, 1), SECONDS[sort]);
            for (int other = 0; other < 5; other++) if (other != sort) DUE.due("how many of " + other, x.count(other), 0);
        }
    }

    // ---- promises

    private static void newObject() {
        DUE.says("The constants: `NONE = -1`: There is none.");
        DUE.due("NONE", WorkChains.NONE, -1);
        DUE.says("No NETS, BLOCKS, FEEDS, LOGS; no images.");
        WorkChains x = new WorkChains();
        DUE.due("net", x.net(0, 0), NONE);
        DUE.due("block", x.block(0, 0, 1), -2);
        DUE.due("deed", x.deed(0, NONE, 0), -2);
        DUE.due("fact", x.fact(0, NONE, 0), -2);
        DUE.due("pool", x.pool(0, NONE, 0), -2);
        for (int sort = 0; sort < 5; sort++) DUE.due("count of " + sort, x.count(sort), 0);
        for (int k = 0; k < 3; k++) DUE.due("again " + k, x.again(k), false);
        DUE.due("end(0)", x.end(0), 0);
        DUE.due("end(1)", x.end(1), NONE);
        DUE.due("fault(0)", x.fault(0), 0);
        DUE.due("fault(1)", x.fault(1), NONE);
        DUE.due("-2 of an empty tape", x.text(0, 0), -2);
        DUE.due("an empty tape is a text", x.text(0, NONE), 0);
        x = new WorkChains();
        WorkChains y = telling(0, "step 9;");
        DUE.due("objects have nothing in common", x.count(0), 0);
        DUE.due("objects have nothing in common", y.count(0), 1);
    }

    private static void tape() {
        DUE.says("The tape: twenty bytes come behind it, of each number the highest first: how many it has.");
        WorkChains x = new WorkChains();
        DUE.due("feed", x.feed(0x74617267, 0x65742031, 0x323b7374, 0x61727420, 0x33343b20), 20);
        DUE.due("feed", x.feed(0x72657761, 0x72642035, 0x363b7374, 0x65702037, 0x3b202020), 40);
        DUE.due("text", x.text(0, NONE), 0);
        int[] due = {7, 12, 34, 0, 0, 56};
        for (int what = 0; what < due.length; what++) DUE.due("net " + what, x.net(0, what), due[what]);
        x.feed(0x80202020, -1, MIN, MAX, 0);
        DUE.due("a byte above 127 is none of a text", x.text(0, NONE), NONE);
        DUE.due("at 0", x.fault(1), 0);
        DUE.says("THE TAPE has at most 600 bytes.");
        x = new WorkChains();
        for (int n = 20; n <= 600; n += 20) DUE.due("feed", x.feed(BLANKS, BLANKS, BLANKS, BLANKS, BLANKS), n);
        DUE.due("feed", x.feed(BLANKS, BLANKS, BLANKS, BLANKS, BLANKS), NONE);
        DUE.due("600", x.end(600), 600);
        DUE.says("NONE, and nothing comes, if there would be more than 600.");
        for (int has : new int[] {581, 582, 599, 600}) {
            x = new WorkChains();
            Due.put(x, "start 77;" + " ".repeat(has - 9));
            DUE.due("feed behind " + has, x.feed(MAX, MAX, MAX, MAX, MAX), NONE);
            DUE.due("has " + has, x.end(has + 1), NONE);
            DUE.due("text of " + has, x.text(0, NONE), 0);
            DUE.due("start", x.net(0, 2), 77);
        }
        for (int has : new int[] {0, 1, 579, 580}) {
            x = new WorkChains();
            Due.put(x, " ".repeat(has));
            DUE.due("feed behind " + has, x.feed(BLANKS, BLANKS, BLANKS, BLANKS, 0x2020203f), has + 20);
            DUE.due("text", x.text(0, NONE), NONE);
            DUE.due("the last byte came", x.fault(1), has + 19);
        }
        DUE.says("The tape has its first n bytes alone: n.");
        x = new WorkChains();
        Due.put(x, "step 3;step 4;step 5");
        DUE.due("end(14)", x.end(14), 14);
        DUE.due("end(14) again", x.end(14), 14);
        DUE.due("end(15)", x.end(15), NONE);
        DUE.due("text", x.text(0, NONE), 0);
        DUE.due("step 4", x.net(0, 0), 4);
        Due.put(x, "?");
        DUE.due("end(0)", x.end(0), 0);
        DUE.due("end(1)", x.end(1), NONE);
        DUE.due("nothing", x.text(0, NONE), 1);
        DUE.says("NONE if it has not so many, or n is below 0.");
        x = new WorkChains();
        Due.put(x, "step 3;");
        for (int n : new int[] {8, 600, 601, MAX, -1, -7, MIN}) DUE.due("end(" + n + ")", x.end(n), NONE);
        DUE.due("all is there", x.end(7), 7);
        DUE.due("all is there", x.text(0, NONE), 0);
        DUE.due("step", x.net(0, 0), 3);
    }

    private static void textCalls() {
        DUE.says("The tape is taken (and is empty then) as a text of a sort, a further one (at NONE), or in the place of one: its number.");
        for (int sort = 0; sort < 5; sort++) {
            WorkChains x = telling(sort, TEXTS[sort]);
            DUE.due("empty", x.end(1), NONE);
            Due.put(x, OTHERS[sort]);
            DUE.due("in the place of 0", x.text(sort, 0), 0);
            DUE.due("empty", x.end(1), NONE);
            DUE.due("one", x.count(sort), 1);
            DUE.due("the other", firstOf(x, sort, 0), SECONDS[sort]);
            DUE.due("a further one", Due.tell(x, sort, TEXTS[sort]), 1);
            DUE.due("the first stays", firstOf(x, sort, 0), SECONDS[sort]);
            Due.put(x, OTHERS[sort]);
            DUE.due("in the place of 1", x.text(sort, 1), 1);
            DUE.due("two", x.count(sort), 2);
            DUE.due("the other", firstOf(x, sort, 1), SECONDS[sort]);
        }
        // nothing of what was there is left: all that is not told is as at first
        WorkChains x = telling(0, "step 9;target 9;start 9;rule 1;tie 1;reward 9;account 9;account 8;");
        DUE.due("in its place", x.text(0, 0), 0);
        int[] atFirst = {2, 10, 10, 0, 0, 5, 0};
        for (int what = 0; what < 7; what++) DUE.due("net " + what, x.net(0, what), atFirst[what]);
        x = telling(1, "block 0 7 0;pay 0 1 7;block 0 7 0;");
        Due.put(x, "block 0 7 0;");
        DUE.due("in its place", x.text(1, 0), 0);
        DUE.due("one block", x.block(0, NONE, 0), 1);
        DUE.due("no pay", x.block(0, 1, 3), 0);
        DUE.says("NONE: a FAULT.");
        for (int sort = 0; sort < 5; sort++) {
            x = telling(sort, TEXTS[sort]);
            for (int at = NONE; at < 1; at++) {
                Due.put(x, OTHERS[sort] + "?");
                DUE.due("a fault", x.text(sort, at), NONE);
                DUE.due("FAULT 1", x.fault(0), 1);
                DUE.due("the tape is empty", x.end(1), NONE);
                DUE.due("one", x.count(sort), 1);
                DUE.due("as it was", firstOf(x, sort, 0), FIRSTS[sort]);
            }
        }
        noText();
    }

    private static void noText() {
        DUE.says("-2: there is none such, there are as many as may be, or no such sort (the tape is empty then, too; no text is read, FAULT 0).");
        for (int sort = -1; sort < 6; sort++) {
            boolean is = sort >= 0 && sort < 5;
            WorkChains x = new WorkChains();
            if (is) Due.tell(x, sort, TEXTS[sort]);
            for (int at : new int[] {1, 2, -2, MAX, MIN}) noText(x, sort, at);
            if (!is) noText(x, sort, 0);
            if (!is) noText(x, sort, NONE);
            if (is) DUE.due("one of " + sort, x.count(sort), 1);
            if (is) Due.tell(x, sort, TEXTS[sort]);
            for (int at : new int[] {NONE, 2, -2, MAX, MIN}) noText(x, sort, at);
            if (is) DUE.due("two of " + sort, x.count(sort), 2);
            if (is) DUE.due("as it was", firstOf(x, sort, 1), FIRSTS[sort]);
        }
        noText(new WorkChains(), MAX, NONE);
        noText(new WorkChains(), MIN, NONE);
    }

    private static void noText(WorkChains x, int sort, int at) {
        String call = "text(" + sort + ", " + at + ")";
        // a FAULT 1 at 2 was there, if a net can be told in place of 0 or as the first
        Due.put(x, "  ?");
        x.text(0, x.count(0) - 1);
        Due.put(x, "?");
        DUE.due(call, x.text(sort, at), -2);
        DUE.due(call + ": fault(0)", x.fault(0), 0);
        DUE.due(call + ": fault(1)", x.fault(1), NONE);
        DUE.due(call + ": the tape", x.end(1), NONE);
    }

    private static void faultCalls() {
        DUE.says("Of the latest text(), what 0: the FAULT, 0 without, 1: its place, NONE without.");
        WorkChains x = new WorkChains();
        DUE.due("no text yet", x.fault(0), 0);
        DUE.due("no text yet", x.fault(1), NONE);
        Due.tell(x, 0, "step 0;");
        DUE.due("fault", x.fault(0), 2);
        DUE.due("place", x.fault(1), 5);
        Due.put(x, "?");
        DUE.due("of the latest text, not of the tape", x.fault(0), 2);
        x.text(0, NONE);
        DUE.due("fault", x.fault(0), 1);
        DUE.due("place", x.fault(1), 0);
        Due.tell(x, 1, "");
        DUE.due("without", x.fault(0), 0);
        DUE.due("without", x.fault(1), NONE);
        DUE.says("NONE for another what.");
        Due.tell(x, 0, "step 0;");
        for (int what : new int[] {-1, 2, 3, 10, -2, MAX, MIN}) DUE.due("fault(" + what + ")", x.fault(what), NONE);
        DUE.due("as it was", x.fault(0), 2);
    }

    private static void netCalls() {
        DUE.says("Of a NET, what 0: STEP, 1: TARGET, 2: START, 3: RULE, 4: TIE, 5: REWARD, 6: ACCOUNTS, 10 + a: what is in an ACCOUNT at first. NONE: there is none such (of either), or for another what.");
        WorkChains x = telling(0, "step 3;target 4;start 5;rule 1;tie 1;reward 6;account 7;account 8;");
        int[] due = {3, 4, 5, 1, 1, 6, 2, NONE, NONE, NONE, 7, 8, NONE, NONE, NONE, NONE, NONE};
        for (int what = 0; what < due.length; what++) DUE.due("net " + what, x.net(0, what), due[what]);
        for (int what : new int[] {-1, -10, 100, MAX, MIN, MIN + 10}) DUE.due("net " + what, x.net(0, what), NONE);
        for (int net : new int[] {-1, 1, 2, MAX, MIN}) {
            for (int what : new int[] {0, 6, 10}) DUE.due("net(" + net + ", " + what + ")", x.net(net, what), NONE);
        }
        x = telling(0, times(6, "account 9;"));
        DUE.due("account 5", x.net(0, 15), 9);
        DUE.due("account 6", x.net(0, 16), NONE);
    }

    private static void blockCalls() {
        DUE.says("How many BLOCKS there are, but 0 (k NONE, what 0)");
        WorkChains x = telling(1, "block 0 3 4;pay 1 2 5;pay 3 4 6;block 1 7 2;");
        DUE.due("blocks", x.block(0, NONE, 0), 2);
        for (int what : new int[] {1, 2, 3, 10, -1, MAX, MIN}) DUE.due("what " + what, x.block(0, NONE, what), -2);
        DUE.says("(of BLOCK 0 NONE of 0, 2, 3)");
        int[] zero = {NONE, 0, NONE, NONE};
        for (int what = 0; what < 4; what++) DUE.due("of 0, " + what, x.block(0, 0, what), zero[what]);
        for (int what : new int[] {10, 11, 12}) DUE.due("of 0, " + what, x.block(0, 0, what), -2);
        DUE.says("10 + 10 i, 11 + 10 i, 12 + 10 i: of the i-th PAY from whom, to whom, how much. -2: there is none such (of any), or for another what.");
        int[] pays = {1, 2, 5, -2, -2, -2, -2, -2, -2, -2, 3, 4, 6, -2, -2, -2, -2, -2, -2, -2, -2, -2, -2, -2};
        for (int i = 0; i < pays.length; i++) DUE.due("of 1, " + (10 + i), x.block(0, 1, 10 + i), pays[i]);
        for (int what = 4; what < 10; what++) DUE.due("of 1, " + what, x.block(0, 1, what), -2);
        for (int what : new int[] {-1, -8, -9, -10, 1000000000, MAX, MIN}) DUE.due("of 1, " + what, x.block(0, 1, what), -2);
        DUE.due("no pays of 2", x.block(0, 2, 3), 0);
        DUE.due("no pay of 2", x.block(0, 2, 10), -2);
        for (int k : new int[] {3, 15, -2, MAX, MIN}) DUE.due("block " + k, x.block(0, k, 1), -2);
        for (int blocks : new int[] {-1, 1, 2, MAX, MIN}) {
            DUE.due("blocks " + blocks, x.block(blocks, NONE, 0), -2);
            DUE.due("blocks " + blocks, x.block(blocks, 0, 1), -2);
        }
    }

    private static void rowCalls() {
        DUE.says("How many DEEDS (k NONE, what 0); of DEED k, what 0: 0 head, 1 body, 2 drop, 3 rule, 1: its number. -2: there is none such (of either), or for another what.");
        WorkChains x = telling(2, "head 14;body 3;drop 4;rule 1;");
        int[][] deeds = {{0, 14}, {1, 3}, {2, 4}, {3, 1}};
        for (int k = 0; k < 4; k++) for (int what = 0; what < 2; what++) DUE.due("deed " + k, x.deed(0, k, what), deeds[k][what]);
        DUE.due("deeds", x.deed(0, NONE, 0), 4);
        for (int what : new int[] {1, 2, -1, MAX, MIN}) DUE.due("k NONE, what " + what, x.deed(0, NONE, what), -2);
        for (int what : new int[] {2, 3, -1, MAX, MIN}) DUE.due("k 0, what " + what, x.deed(0, 0, what), -2);
        for (int k : new int[] {4, 40, -2, MAX, MIN}) DUE.due("k " + k, x.deed(0, k, 0), -2);
        for (int feed : new int[] {-1, 1, 2, MAX, MIN}) for (int k = NONE; k < 1; k++) DUE.due("feed " + feed, x.deed(feed, k, 0), -2);
        DUE.says("How many PAYS a POOL has (k NONE, what 0); of PAY k, what 0: from whom, 1: to whom, 2: how much, 3: the FEE. -2: there is none such (of either), or for another what.");
        x = telling(4, "pay 1 2 3 4;pay 5 0 99 0;");
        int[][] pays = {{1, 2, 3, 4}, {5, 0, 99, 0}};
        for (int k = 0; k < 2; k++) for (int what = 0; what < 4; what++) DUE.due("pay " + k, x.pool(0, k, what), pays[k][what]);
        DUE.due("pays", x.pool(0, NONE, 0), 2);
        for (int what : new int[] {1, 3, 4, -1, MAX, MIN}) DUE.due("k NONE, what " + what, x.pool(0, NONE, what), -2);
        for (int what : new int[] {4, 5, -1, MAX, MIN}) DUE.due("k 0, what " + what, x.pool(0, 0, what), -2);
        for (int k : new int[] {2, 6, -2, MAX, MIN}) DUE.due("k " + k, x.pool(0, k, 0), -2);
        for (int pool : new int[] {-1, 1, 2, MAX, MIN}) for (int k = NONE; k < 1; k++) DUE.due("pool " + pool, x.pool(pool, k, 0), -2);
        DUE.says("How many FACTS (k NONE, what 0); of FACT k, what 0: how many DEEDS, 1: the BLOCK. -2: there is none such (of either), or for another what.");
        x = telling(3, "tip 0 14;tip 40 0;");
        int[][] facts = {{0, 14}, {40, 0}};
        for (int k = 0; k < 2; k++) for (int what = 0; what < 2; what++) DUE.due("fact " + k, x.fact(0, k, what), facts[k][what]);
        DUE.due("facts", x.fact(0, NONE, 0), 2);
        for (int what : new int[] {1, 2, -1, MAX, MIN}) DUE.due("k NONE, what " + what, x.fact(0, NONE, what), -2);
        for (int what : new int[] {2, 3, -1, MAX, MIN}) DUE.due("k 0, what " + what, x.fact(0, 0, what), -2);
        for (int k : new int[] {2, 8, -2, MAX, MIN}) DUE.due("k " + k, x.fact(0, k, 0), -2);
        for (int log : new int[] {-1, 1, 2, MAX, MIN}) for (int k = NONE; k < 1; k++) DUE.due("log " + log, x.fact(log, k, 0), -2);
    }

    private static void countCalls() {
        DUE.says("How many there are of a sort. -2 for another one.");
        WorkChains x = new WorkChains();
        for (int sort = 0; sort < 5; sort++) {
            for (int n = 0; n < 3; n++) {
                DUE.due("count(" + sort + ")", x.count(sort), n);
                Due.tell(x, sort, "");
            }
            DUE.due("count(" + sort + "), full", x.count(sort), 2);
        }
        for (int sort : new int[] {-1, 5, 6, MAX, MIN}) DUE.due("count(" + sort + ")", x.count(sort), -2);
    }

    private static void imageCalls() {
        DUE.says("Image k (0 .. 2) is all that is told (the tape, the FAULT, too), as it is now: true; false for another k.");
        for (int k = 0; k < 3; k++) imaged(k);
        WorkChains x = new WorkChains();
        for (int k : new int[] {-1, 3, MAX, MIN}) DUE.due("image(" + k + ")", x.image(k), false);
        for (int k = 0; k < 3; k++) DUE.due("no image " + k, x.again(k), false);
        // each image is one of its own
        for (int k = 0; k < 3; k++) {
            x.end(0);
            Due.put(x, "?".repeat(k + 1));
            DUE.due("image", x.image(k), true);
        }
        for (int k = 2; k >= 0; k--) {
            DUE.due("again", x.again(k), true);
            DUE.due("its tape", x.end(k + 2), NONE);
            DUE.due("its tape", x.end(k + 1), k + 1);
        }
        x.end(0);
        DUE.due("an image anew", x.image(1), true);
        DUE.due("again", x.again(2), true);
        DUE.due("again", x.again(1), true);
        DUE.due("its tape", x.end(1), NONE);
        DUE.says("All that is as image k has it: true; false if there is none such.");
        x = telling(0, "step 9;");
        DUE.due("image", x.image(1), true);
        Due.put(x, "step 8;");
        DUE.due("in its place", x.text(0, 0), 0);
        for (int k : new int[] {-1, 0, 2, 3, MAX, MIN}) DUE.due("again(" + k + ")", x.again(k), false);
        DUE.due("nothing is as it was", x.net(0, 0), 8);
        DUE.due("again", x.again(1), true);
        DUE.due("as the image has it", x.net(0, 0), 9);
        Due.put(x, "step 7;");
        DUE.due("in its place", x.text(0, 0), 0);
        DUE.due("again, once more", x.again(1), true);
        DUE.due("as the image has it", x.net(0, 0), 9);
    }

    /** All of each sort, the tape and the FAULT are imaged; what is told later is told no more. */
    private static void imaged(int k) {
        WorkChains x = new WorkChains();
        for (int sort = 0; sort < 5; sort++) Due.tell(x, sort, TEXTS[sort]);
        Due.tell(x, 0, OTHERS[0]);
        Due.put(x, "step 10;");
        x.text(0, 0);
        Due.put(x, "step 6;");
        DUE.due("image", x.image(k), true);
        DUE.due("the tape", x.text(0, 0), 0);
        for (int sort = 0; sort < 5; sort++) {
            Due.put(x, OTHERS[sort]);
            x.text(sort, 0);
            Due.tell(x, sort, OTHERS[sort]);
        }
        DUE.due("again", x.again(k), true);
        for (int sort = 0; sort < 5; sort++) {
            DUE.due("count of " + sort, x.count(sort), sort == 0 ? 2 : 1);
            DUE.due("0 of " + sort, firstOf(x, sort, 0), FIRSTS[sort]);
        }
        DUE.due("1 of 0", firstOf(x, 0, 1), SECONDS[0]);
        DUE.due("the fault", x.fault(0), 2);
        DUE.due("its place", x.fault(1), 5);
        DUE.due("the tape", x.end(8), NONE);
        DUE.due("the tape", x.text(0, 0), 0);
        DUE.due("the tape's net", x.net(0, 0), 6);
    }
}
