/** Counts the answers that are as due, prints those that are not, ends with exit code 1 if there was one. */
final class Check {
    private final String name;
    private int passed;
    private int failed;

    Check(String name) {
        this.name = name;
    }

    void due(String call, long got, long want) {
        if (got == want) {
            passed++;
            return;
        }
        failed++;
        if (failed <= 40) {
            System.out.println(name + ": " + call + " answered " + got + ", due is " + want);
        }
    }

    void holds(String what, boolean so) {
        due(what, so ? 1 : 0, 1);
    }

    void close() {
        System.out.println(name + ": " + passed + " passed, " + failed + " failed");
        if (failed != 0) {
            System.exit(1);
        }
    }

    /** Eight bytes a call, for an object has 512 calls at most. */
    static void writeText(LotsBid bid, String text) {
        for (int at = 0; at < text.length(); at += 8) {
            int n = Math.min(8, text.length() - at);
            long v = 0;
            for (int k = at; k < at + n; k++) {
                v = v << 8 | text.charAt(k);
            }
            bid.write(n, v);
        }
    }

    static LotsBid written(String text) {
        LotsBid bid = new LotsBid();
        writeText(bid, text);
        return bid;
    }

    /** An object with the text laid. */
    static LotsBid laid(String text) {
        LotsBid bid = written(text);
        if (bid.lay() < 1) {
            throw new IllegalStateException("not laid: " + text);
        }
        return bid;
    }
}
