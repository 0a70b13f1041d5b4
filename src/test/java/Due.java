/** What the tests share: counting right and wrong answers, and telling texts to an object. */
final class Due {
    private int right;
    private int wrong;

    void due(String call, long got, long want) {
        if (got == want) {
            right++;
            return;
        }
        wrong++;
        if (wrong <= 20) System.out.println(call + " answered " + got + ", due is " + want);
    }

    void due(String call, boolean got, boolean want) {
        due(call, got ? 1 : 0, want ? 1 : 0);
    }

    /** Ends the test: its exit code is 1 if an answer was wrong. */
    void close(String test) {
        System.out.println(test + ": " + right + " answers as due, " + wrong + " not");
        if (wrong != 0 || right == 0) System.exit(1);
    }

    static int[] five(byte[] bytes, int from) {
        int[] out = new int[5];
        for (int i = 0; i < 20; i++) {
            int b = from + i < bytes.length ? bytes[from + i] & 255 : ' ';
            out[i / 4] = out[i / 4] << 8 | b;
        }
        return out;
    }

    /** Puts a text on an empty tape, byte by byte as it is. */
    static void put(WorkChains x, String text) {
        byte[] bytes = text.getBytes(java.nio.charset.StandardCharsets.ISO_8859_1);
        for (int i = 0; i < bytes.length; i += 20) {
            int[] n = five(bytes, i);
            x.feed(n[0], n[1], n[2], n[3], n[4]);
        }
        x.end(bytes.length);
    }

    static int tell(WorkChains x, int sort, String text) {
        put(x, text);
        return x.text(sort, WorkChains.NONE);
    }
}
