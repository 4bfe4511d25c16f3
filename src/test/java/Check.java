/** Counts the answers that are as due, prints those that are not, ends with exit code 1 if there was one. */
final class Check {
    private final String name;
    private int passed;
    private int failed;

    Check(String name) {
        this.name = name;
    }

    void due(String call, long got, long want) {
        if (got == want) {
            passed++;
            return;
        }
        failed++;
        if (failed <= 40) {
            System.out.println(name + ": " + call + " answered " + got + ", due is " + want);
        }
    }

    void holds(String what, boolean so) {
        due(what, so ? 1 : 0, 1);
    }

    void close() {
        System.out.println(name + ": " + passed + " passed, " + failed + " failed");
        if (failed != 0) {
            System.exit(1);
        }
    }

    static void writeText(LotsBid bid, String text) {
        for (int k = 0; k < text.length(); k++) {
            bid.write(1, text.charAt(k));
        }
    }

    /** An object with the text laid. */
    static LotsBid laid(String text) {
        LotsBid bid = new LotsBid();
        writeText(bid, text);
        if (bid.lay() < 1) {
            throw new IllegalStateException("not laid: " + text);
        }
        return bid;
    }
}
