/** How to use the class: README.md tells this, and what it prints, word by word. */
public final class Example {
    public static void main(String[] args) {
        WorkChains x = new WorkChains();
        int net = tell(x, 0, "step 9; account 9; account 0;");
        int blocks = tell(x, 1, "block 0 1 0; pay 0 1 4; block 0 2 1; block 2 3 1;");
        int feed = tell(x, 2, "head 1; body 1; head 3; head 2; body 2; body 3;");
        int log = tell(x, 3, "tip 2 1;");
        int pool = tell(x, 4, "pay 0 1 3 2; pay 1 0 1 1;");

        show("the tip, all blocks having come", x.tip(net, blocks, 0));
        show("all work up to it", x.work(net, blocks, 3, 2));
        show("how many deeds can be", x.stop(net, blocks, feed));
        show("the tip behind 2 deeds", x.state(net, blocks, feed, 2, 0));
        show("orphans behind 3 deeds, in bits", x.state(net, blocks, feed, 3, 3));
        show("blocks undone behind 6 deeds", x.state(net, blocks, feed, 6, 4));
        show("blocks on the path from 1 to 3", x.path(blocks, 1, 3, WorkChains.NONE));
        show("the most fees behind block 3", x.fill(net, blocks, 3, pool, WorkChains.NONE));
        show("laws that fit", x.fits(net, blocks, feed, log, 0));

        show("a text with a fault", tell(x, 0, "step 10;"));
        show("its fault", x.fault(0));
        show("its place", x.fault(1));
    }

    /** Tells a text of a sort, a further one: its number. A tape takes 20 bytes a call, so blanks fill up the last ones. */
    private static int tell(WorkChains x, int sort, String text) {
        x.end(0);
        for (int i = 0; i < text.length(); i += 20) {
            x.feed(four(text, i), four(text, i + 4), four(text, i + 8), four(text, i + 12), four(text, i + 16));
        }
        x.end(text.length());
        return x.text(sort, WorkChains.NONE);
    }

    private static int four(String text, int from) {
        int bytes = 0;
        for (int i = from; i < from + 4; i++) bytes = bytes << 8 | (i < text.length() ? text.charAt(i) : ' ');
        return bytes;
    }

    private static void show(String what, long answer) {
        System.out.println(what + ": " + answer);
    }
}
