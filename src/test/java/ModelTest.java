import java.util.Random;

/** Runs of chance calls (by fixed seeds), each answer held against the model's. */
public final class ModelTest {
    private static final Check CHECK = new Check("ModelTest");
    private static final int RUNS = 700;
    /** A new text takes up to a hundred and more, and an object has 512 at most. */
    private static final int CALLS = 360;

    public static void main(String[] args) {
        for (int seed = 1; seed <= RUNS; seed++) {
            run(seed);
        }
        CHECK.close();
    }

    private static void run(int seed) {
        Random chance = new Random(seed);
        LotsBid bid = new LotsBid();
        FairModel model = new FairModel();
        int calls = 0;
        while (calls < CALLS) {
            if (chance.nextInt(40) == 0) {
                calls += layNew(seed, chance, bid, model);
            } else {
                oneCall(seed, chance, bid, model);
                calls++;
            }
        }
    }

    private static int layNew(int seed, Random chance, LotsBid bid, FairModel model) {
        String text = text(chance);
        String name = "seed " + seed + " with " + text + ": ";
        CHECK.due(name + "wipe", bid.wipe(), model.wipe());
        int calls = 3;
        for (int at = 0; at < text.length(); calls++) {
            int n = Math.min(1 + chance.nextInt(8), text.length() - at);
            long v = chance.nextLong();
            for (int k = 0; k < n; k++) {
                v = v << 8 | text.charAt(at + k);
            }
            CHECK.due(name + "write", bid.write(n, v), model.write(n, v));
            at += n;
        }
        CHECK.due(name + "fault", bid.fault(), model.fault());
        CHECK.due(name + "lay", bid.lay(), model.lay());
        return calls;
    }

    private static String text(Random chance) {
        StringBuilder text = new StringBuilder();
        int masters = 1 + chance.nextInt(3);
        int lads = 1 + chance.nextInt(5);
        for (int m = 0; m < masters; m++) {
            text.append('m').append(1 + chance.nextInt(3)).append(';');
        }
        for (int i = 0; i < lads; i++) {
            text.append('l').append(1 + chance.nextInt(10)).append(',').append(chance.nextInt(4)).append(';');
        }
        int wants = chance.nextInt(25);
        for (int k = 0; k < wants; k++) {
            text.append('w').append(chance.nextInt(lads)).append(',').append(chance.nextInt(masters)).append(',')
                .append(chance.nextInt(3) == 0 ? 10 - chance.nextInt(3) : chance.nextInt(11)).append(';');
        }
        if (chance.nextBoolean()) {
            text.append('c').append(chance.nextInt(3)).append(';');
        }
        if (chance.nextBoolean()) {
            text.append('s').append(1 + chance.nextInt(3)).append(';');
        }
        if (chance.nextInt(3) == 0) {
            spoil(text, chance);
        }
        return text.toString();
    }

    private static void spoil(StringBuilder text, Random chance) {
        String signs = "mlwcs0123456789,;; x";
        char sign = chance.nextInt(10) == 0 ? (char) chance.nextInt(256) : signs.charAt(chance.nextInt(signs.length()));
        int at = chance.nextInt(text.length());
        switch (chance.nextInt(4)) {
            case 0 -> text.setCharAt(at, sign);
            case 1 -> text.insert(at, sign);
            case 2 -> text.deleteCharAt(at);
            default -> text.setLength(at);
        }
    }

    /** Mostly a number within, now and then one at the edge, beyond it or far off. */
    private static int number(Random chance, int least, int most) {
        switch (chance.nextInt(30)) {
            case 0: return least - 1;
            case 1: return most + 1;
            case 2: return chance.nextBoolean() ? Integer.MIN_VALUE : Integer.MAX_VALUE;
            default: return least + chance.nextInt(most - least + 1);
        }
    }

    private static void oneCall(int seed, Random chance, LotsBid x, FairModel y) {
        int i = number(chance, 0, Math.max(0, y.count(1) - 1));
        int j = number(chance, 0, Math.max(0, y.count(1) - 1));
        int m = number(chance, 0, y.count(0) - 1);
        int v = number(chance, 0, 10);
        int two = number(chance, 0, 1);
        int three = number(chance, 0, 2);
        int which = chance.nextInt(60);
        String name = "seed " + seed + ", call " + which + " (" + i + " " + j + " " + m + " " + v + " " + two + " "
            + three + ")";
        switch (which) {
            case 0: CHECK.due(name, x.write(v, seed * 77777L), y.write(v, seed * 77777L)); break;
            case 1: CHECK.due(name, x.fault(), y.fault()); break;
            case 2: case 3: case 4: case 5: case 6: case 7:
                int five = number(chance, 0, 4);
                CHECK.due(name + five, x.lad(i, five), y.lad(i, five));
                break;
            case 8: case 9: case 10: case 11: CHECK.due(name, x.master(m, three), y.master(m, three)); break;
            case 12: case 13: case 14: CHECK.due(name, x.wants(i, m, two), y.wants(i, m, two)); break;
            case 15: case 16: case 17: CHECK.due(name, x.all(three), y.all(three)); break;
            case 18: case 19: case 20: case 21: CHECK.due(name, x.limit(i, v), y.limit(i, v)); break;
            case 22: case 23: CHECK.due(name, x.calls(three), y.calls(three)); break;
            case 24: case 25: CHECK.due(name, x.step(three), y.step(three)); break;
            case 26: case 27: case 28: CHECK.due(name, x.undo(), y.undo()); break;
            case 29: case 30: case 31: CHECK.due(name, x.lie(i, two), y.lie(i, two)); break;
            case 32: CHECK.due(name, x.game(i, j, three), y.game(i, j, three)); break;
            case 33:
                if (chance.nextInt(10) == 0) {
                    boolean greatest = chance.nextBoolean();
                    int n = number(chance, -1, y.count(0) - 1);
                    CHECK.due(name + n + greatest, x.rest(n, greatest), y.rest(n, greatest));
                }
                break;
            case 34: case 35: CHECK.due(name, x.joint(i), y.joint(i)); break;
            case 36: CHECK.due(name, x.joint(-1), y.joint(-1)); break;
            case 37: case 38: CHECK.due(name, x.pay(i), y.pay(i)); break;
            case 39: case 40:
                CHECK.due(name, x.seen(m, v), y.seen(m, v));
                break;
            case 41:
                int most = Math.max(0, y.master(m, 2));
                CHECK.due(name, x.seen(m, most), y.seen(m, most));
                break;
            case 42: CHECK.due(name, x.forget(), y.forget()); break;
            case 43: case 44: case 45: case 46: CHECK.due(name, x.cousins(), y.cousins()); break;
            case 47: case 48: case 49: case 50: CHECK.due(name, x.span(i, m, two), y.span(i, m, two)); break;
            case 51: case 52: case 53:
                int z = number(chance, 0, 9999);
                CHECK.due(name + z, x.year(z, two), y.year(z, two));
                break;
            case 54: CHECK.due(name, x.keep(), y.keep()); break;
            case 55: CHECK.due(name, x.back(), y.back()); break;
            case 56: CHECK.due(name, x.lay(), y.lay()); break;
            default:
                int eight = number(chance, 0, 7);
                CHECK.due(name + eight, x.count(eight), y.count(eight));
        }
    }
}
