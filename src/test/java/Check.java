/** Counts what a test found, and feeds texts to a TenFingers as its bytes. */
final class Check {
    private final String name;
    private String part = "";
    private int passed = 0;
    private int failed = 0;

    Check(String name) {
        this.name = name;
    }

    void part(String part) {
        this.part = part;
    }

    void due(String call, long want, long got) {
        if (got == want) {
            passed++;
        } else {
            failed++;
            System.out.println(name + ", " + part + ": " + call + " answered " + got + ", due is " + want);
        }
    }

    /** Prints the sum and ends the run with 1 if anything was wrong. */
    void end() {
        System.out.println(name + ": " + passed + " answers as due, " + failed + " not");
        if (failed > 0 || passed == 0) {
            System.exit(1);
        }
    }

    /** The text goes on THE TAPE in feeds of up to eight bytes. */
    static void feed(TenFingers x, String text) {
        for (int from = 0; from < text.length(); from += 8) {
            int n = Math.min(8, text.length() - from);
            x.feed(n, packed(text.substring(from, from + n)));
        }
    }

    static long packed(String text) {
        long bytes = 0;
        for (int i = 0; i < text.length(); i++) {
            bytes |= (text.charAt(i) & 255L) << (8 * i);
        }
        return bytes;
    }

    static int board(TenFingers x, int board, String text) {
        feed(x, text);
        return x.board(board);
    }

    static int meant(TenFingers x, String text) {
        feed(x, text);
        return x.text(true);
    }

    static int written(TenFingers x, String text) {
        feed(x, text);
        return x.text(false);
    }

    static int word(TenFingers x, String text) {
        feed(x, text);
        return x.word();
    }
}
