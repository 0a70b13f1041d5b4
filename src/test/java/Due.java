import java.io.IOException;
import java.nio.file.Files;
import java.nio.file.Path;

/** What the tests share: counting right and wrong answers, and telling texts to an object. */
final class Due {
    private int right;
    private int wrong;
    private String document = "";
    private String sentence = "";
    private int sentences;
    private int atSentence;

    void due(String call, long got, long want) {
        if (got == want) {
            right++;
            return;
        }
        wrong++;
        if (wrong <= 20) System.out.println(sentence + call + " answered " + got + ", due is " + want);
    }

    /** The document that the sentences are of. */
    void read(String path) throws IOException {
        document = Files.readString(Path.of(path)).replaceAll("\\s+", " ");
    }

    /** What follows is the test of this sentence, which has to stand in the document, word by word. */
    void says(String words) {
        heard();
        sentence = "'" + words + "': ";
        sentences++;
        atSentence = right + wrong;
        if (document.contains(words)) return;
        wrong++;
        System.out.println(sentence + "does not stand in the document");
    }

    private void heard() {
        if (sentences == 0 || atSentence < right + wrong) return;
        wrong++;
        System.out.println(sentence + "has no test");
    }

    void due(String call, boolean got, boolean want) {
        due(call, got ? 1 : 0, want ? 1 : 0);
    }

    /** Ends the test: its exit code is 1 if an answer was wrong. */
    void close(String test) {
        heard();
        String of = sentences == 0 ? "" : " of " + sentences + " sentences";
        System.out.println(test + ": " + right + " answers" + of + " as due, " + wrong + " not");
        if (wrong != 0 || right == 0) System.exit(1);
    }

    static int[] five(byte[] bytes, int from) {
        int[] out = new int[5];
        for (int i = 0; i < 20; i++) {
            int b = from + i < bytes.length ? bytes[from + i] & 255 : ' ';
            out[i / 4] = out[i / 4] << 8 | b;
        }
        return out;
    }

    /** Puts a text on an empty tape, byte by byte as it is. */
    static void put(WorkChains x, String text) {
        byte[] bytes = text.getBytes(java.nio.charset.StandardCharsets.ISO_8859_1);
        for (int i = 0; i < bytes.length; i += 20) {
            int[] n = five(bytes, i);
            x.feed(n[0], n[1], n[2], n[3], n[4]);
        }
        x.end(bytes.length);
    }

    static int tell(WorkChains x, int sort, String text) {
        put(x, text);
        return x.text(sort, WorkChains.NONE);
    }
}
