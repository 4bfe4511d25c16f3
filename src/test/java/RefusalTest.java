import java.util.ArrayList;
import java.util.List;

/**
 * "BAD: a number is none that is told .. Of several the first in this order; nothing changes then.": each number of
 * each call just inside, just outside and far outside, with nothing there, something, and all places taken.
 */
public final class RefusalTest {
    private static final Check CHECK = new Check("RefusalTest");
    private static final Twins TWINS = new Twins(CHECK);
    private static final int BAD = -1, NO = -2, FULL = -3, NONE = -4;
    /** Some would be within if only their lowest byte or two were looked at. */
    private static final int[] FAR = {Integer.MIN_VALUE, Integer.MIN_VALUE + 1, -65536, -65535, -256, -255, -100, -11,
        -4, -3, 100, 255, 256, 257, 65535, 65536, 65537, 1 << 24, 1 << 30, Integer.MAX_VALUE - 1, Integer.MAX_VALUE};
    private static final long BYTES = 0x6D313B6C312C303BL;

    interface Asked {
        int with(LotsBid x, int number);
    }

    /** A number of a call, with the least and the most that are told for it; the call's other numbers are so. */
    private static final class Spot {
        final String name;
        final int least;
        final int most;
        final Asked call;

        Spot(String name, int least, int most, Asked call) {
            this.name = name;
            this.least = least;
            this.most = most;
            this.call = call;
        }
    }

    public static void main(String[] args) {
        everySpot("new", LotsBid::new, 1, 2);
        everySpot("least", RefusalTest::least, 1, 1);
        everySpot("middle", RefusalTest::middle, 2, 3);
        everySpot("most", RefusalTest::most, 3, 5);
        badAheadOfFull();
        badAheadOfNone();
        badByTwoNumbers();
        gameOfOneAndTheSame();
        noAndFull();
        badBehindALargerFair();
        CHECK.close();
    }

    private static LotsBid least() {
        return Check.laid("m1;l1,0;");
    }

    /** Something of each; the text has a fault. */
    private static LotsBid middle() {
        LotsBid x = Check.laid("m2;m1;l9,0;l4,1;l7,2;w0,0,9;w1,1,8;w2,0,7;c1;s2;");
        x.limit(0, 3);
        x.keep();
        x.calls(2);
        x.seen(0, 7);
        Check.writeText(x, "m4;");
        return x;
    }

    /** All places taken: masters, lads, bytes, seen, undone, kept. */
    private static LotsBid most() {
        StringBuilder text = new StringBuilder("m3;m2;m1;l10,0;l9,1;l8,2;l7,3;l6,0;");
        text.append("w0,0,9;w1,1,8;w2,2,7;w3,0,6;w4,1,5;c1;s2;");
        while (text.length() < 300) {
            text.append(text.length() % 3 == 0 ? "c1;" : "c01;");
        }
        LotsBid x = Check.laid(text.toString());
        for (int k = 0; k < 6; k++) {
            x.limit(k % 5, k + 2);
            x.keep();
            x.seen(k % 3, x.master(k % 3, 2));
        }
        x.calls(2);
        x.step(3);
        x.calls(0);
        return x;
    }

    private static List<Spot> spots(int masters, int lads) {
        List<Spot> all = new ArrayList<>();
        spotsOfFairs(all, masters, lads);
        spotsOfGames(all, masters, lads);
        all.add(new Spot("write n", 1, 8, (x, n) -> x.write(n, BYTES)));
        all.add(new Spot("all", 0, 2, LotsBid::all));
        all.add(new Spot("limit i", 0, lads - 1, (x, n) -> x.limit(n, 1)));
        all.add(new Spot("limit i", 0, lads - 1, (x, n) -> x.limit(n, 10)));
        all.add(new Spot("limit l", 1, 10, (x, n) -> x.limit(0, n)));
        all.add(new Spot("limit l of the last", 1, 10, (x, n) -> x.limit(lads - 1, n)));
        all.add(new Spot("calls", 0, 2, LotsBid::calls));
        all.add(new Spot("step", 1, 3, LotsBid::step));
        all.add(new Spot("seen m", 0, masters - 1, (x, n) -> x.seen(n, 0)));
        all.add(new Spot("seen p", 0, 10, (x, n) -> x.seen(masters - 1, n)));
        all.add(new Spot("year z", 0, 9999, (x, n) -> x.year(n, 0)));
        all.add(new Spot("year z, masters", 0, 9999, (x, n) -> x.year(n, 1)));
        all.add(new Spot("year what", 0, 1, (x, n) -> x.year(9999, n)));
        all.add(new Spot("count", 0, 7, LotsBid::count));
        return all;
    }

    private static void spotsOfFairs(List<Spot> all, int masters, int lads) {
        for (int k = 0; k <= 4; k++) {
            int what = k;
            all.add(new Spot("lad i, " + what, 0, lads - 1, (x, n) -> x.lad(n, what)));
        }
        for (int k = 0; k <= 2; k++) {
            int what = k;
            all.add(new Spot("master m, " + what, 0, masters - 1, (x, n) -> x.master(n, what)));
        }
        for (int k = 0; k <= 1; k++) {
            int what = k;
            all.add(new Spot("wants i, " + what, 0, lads - 1, (x, n) -> x.wants(n, 0, what)));
            all.add(new Spot("wants m, " + what, 0, masters - 1, (x, n) -> x.wants(0, n, what)));
            all.add(new Spot("span i, " + what, 0, lads - 1, (x, n) -> x.span(n, 0, what)));
            all.add(new Spot("span m, " + what, 0, masters - 1, (x, n) -> x.span(0, n, what)));
        }
        all.add(new Spot("lad what", 0, 4, (x, n) -> x.lad(lads - 1, n)));
        all.add(new Spot("master what", 0, 2, (x, n) -> x.master(masters - 1, n)));
        all.add(new Spot("wants what", 0, 1, (x, n) -> x.wants(lads - 1, masters - 1, n)));
        all.add(new Spot("span what", 0, 1, (x, n) -> x.span(lads - 1, masters - 1, n)));
    }

    private static void spotsOfGames(List<Spot> all, int masters, int lads) {
        all.add(new Spot("lie i, limit", 0, lads - 1, (x, n) -> x.lie(n, 0)));
        all.add(new Spot("lie i, more", 0, lads - 1, (x, n) -> x.lie(n, 1)));
        all.add(new Spot("lie what", 0, 1, (x, n) -> x.lie(lads - 1, n)));
        all.add(new Spot("rest m, least", -1, masters - 1, (x, n) -> x.rest(n, false)));
        all.add(new Spot("rest m, greatest", -1, masters - 1, (x, n) -> x.rest(n, true)));
        all.add(new Spot("joint", -1, lads - 1, LotsBid::joint));
        all.add(new Spot("pay", 0, lads - 1, LotsBid::pay));
        for (int k = 0; k <= 2; k++) {
            int what = k;
            // The lad himself is none that is told either.
            all.add(new Spot("game i, " + what, 1, lads - 1, (x, n) -> x.game(n, 0, what)));
            all.add(new Spot("game j, " + what, 1, lads - 1, (x, n) -> x.game(0, n, what)));
        }
        if (lads > 1) {
            all.add(new Spot("game what", 0, 2, (x, n) -> x.game(lads - 1, 0, n)));
        }
    }

    private static void everySpot(String state, Twins.Make make, int masters, int lads) {
        for (Spot spot : spots(masters, lads)) {
            String name = state + " fair, " + spot.name + " ";
            for (int n = spot.least; n <= spot.most; n += spot.most - n > 20 ? 997 : 1) {
                CHECK.holds(name + n + " is told", spot.call.with(make.make(), n) != BAD);
            }
            refused(name, make, spot, spot.least - 1);
            refused(name, make, spot, spot.most + 1);
            refused(name, make, spot, spot.least - 2);
            refused(name, make, spot, spot.most + 2);
            for (int far : FAR) {
                if (far < spot.least || far > spot.most) {
                    refused(name, make, spot, far);
                }
            }
        }
    }

    private static void refused(String name, Twins.Make make, Spot spot, int number) {
        TWINS.unchanged(name + number, make, x -> spot.call.with(x, number), BAD);
    }

    /** BAD is ahead of FULL: a wrong number when there is no room, either. */
    private static void badAheadOfFull() {
        for (int n : new int[] {Integer.MIN_VALUE, -1, 0, 9, 300, Integer.MAX_VALUE}) {
            TWINS.unchanged("write by " + n + " when full", RefusalTest::most, x -> x.write(n, BYTES), BAD);
        }
        for (int n = 1; n <= 8; n++) {
            int bytes = n;
            TWINS.unchanged("write by " + n + " when full", RefusalTest::most, x -> x.write(bytes, BYTES), FULL);
        }
        TWINS.unchanged("seen of no master when full", RefusalTest::most, x -> x.seen(3, 0), BAD);
        TWINS.unchanged("seen of master -1 when full", RefusalTest::most, x -> x.seen(-1, 0), BAD);
        TWINS.unchanged("seen of 11 years when full", RefusalTest::most, x -> x.seen(0, 11), BAD);
        TWINS.unchanged("seen of -1 years when full", RefusalTest::most, x -> x.seen(0, -1), BAD);
        TWINS.unchanged("seen when full", RefusalTest::most, x -> x.seen(2, 10), FULL);
        TWINS.unchanged("seen of nothing when full", RefusalTest::most, x -> x.seen(0, 0), FULL);
    }

    /** BAD is ahead of NONE: a wrong number where there is none, either. */
    private static void badAheadOfNone() {
        Twins.Make noRest = () -> Check.laid("m1;m1;l1,0;l9,3;w0,0,5;w1,0,9;w1,1,6;c2;");
        TWINS.unchanged("game without rest", noRest, x -> x.game(0, 1, 1), NONE);
        TWINS.unchanged("game without rest, of 3", noRest, x -> x.game(0, 1, 3), BAD);
        TWINS.unchanged("game without rest, of -1", noRest, x -> x.game(0, 1, -1), BAD);
        TWINS.unchanged("game without rest, alike", noRest, x -> x.game(1, 1, 1), BAD);
        TWINS.unchanged("game without rest, no lad", noRest, x -> x.game(0, 2, 2), BAD);
        TWINS.unchanged("a lad without a master", LotsBid::new, x -> x.lad(1, 2), NONE);
        TWINS.unchanged("no lad, no master", LotsBid::new, x -> x.lad(2, 2), BAD);
        TWINS.unchanged("joint without a master", LotsBid::new, x -> x.joint(1), NONE);
        TWINS.unchanged("joint of no lad", LotsBid::new, x -> x.joint(2), BAD);
        // NONE is no number of a lad, a master, or of what is asked.
        TWINS.unchanged("lad(NONE, 2)", LotsBid::new, x -> x.lad(NONE, 2), BAD);
        TWINS.unchanged("joint(NONE)", LotsBid::new, x -> x.joint(NONE), BAD);
        TWINS.unchanged("master(NONE, 1)", LotsBid::new, x -> x.master(NONE, 1), BAD);
    }

    private static void badByTwoNumbers() {
        int[] wrong = {Integer.MIN_VALUE, -2, 10000, Integer.MAX_VALUE};
        for (int a : wrong) {
            for (int b : wrong) {
                TWINS.unchanged("lad", RefusalTest::middle, x -> x.lad(a, b), BAD);
                TWINS.unchanged("master", RefusalTest::middle, x -> x.master(a, b), BAD);
                TWINS.unchanged("limit", RefusalTest::middle, x -> x.limit(a, b), BAD);
                TWINS.unchanged("lie", RefusalTest::middle, x -> x.lie(a, b), BAD);
                TWINS.unchanged("seen", RefusalTest::middle, x -> x.seen(a, b), BAD);
                TWINS.unchanged("year", RefusalTest::middle, x -> x.year(a, b), BAD);
                for (int c : wrong) {
                    TWINS.unchanged("wants", RefusalTest::middle, x -> x.wants(a, b, c), BAD);
                    TWINS.unchanged("game", RefusalTest::middle, x -> x.game(a, b, c), BAD);
                    TWINS.unchanged("span", RefusalTest::middle, x -> x.span(a, b, c), BAD);
                }
            }
        }
    }

    /** "BAD (i and j alike, too)" */
    private static void gameOfOneAndTheSame() {
        for (int lad = 0; lad < 5; lad++) {
            int i = lad;
            for (int k = -1; k <= 3; k++) {
                int what = k;
                TWINS.unchanged("game of " + i + " alone", RefusalTest::most, x -> x.game(i, i, what), BAD);
            }
        }
        TWINS.unchanged("game in a fair of one", RefusalTest::least, x -> x.game(0, 0, 0), BAD);
        TWINS.unchanged("game with nobody", RefusalTest::least, x -> x.game(0, 1, 0), BAD);
    }

    /** Calls without numbers: as things stand, and nothing changes. */
    private static void noAndFull() {
        TWINS.unchanged("lay of nothing", LotsBid::new, LotsBid::lay, NO);
        TWINS.unchanged("lay of a fault", RefusalTest::middle, LotsBid::lay, NO);
        TWINS.unchanged("undo of nothing", RefusalTest::least, LotsBid::undo, NO);
        TWINS.unchanged("back of nothing", RefusalTest::least, LotsBid::back, NO);
        TWINS.unchanged("keep when full", RefusalTest::most, LotsBid::keep, FULL);
        TWINS.unchanged("fault of nothing", LotsBid::new, LotsBid::fault, NONE);
        TWINS.unchanged("wipe of nothing", LotsBid::new, LotsBid::wipe, 0);
        TWINS.unchanged("forget nothing", LotsBid::new, LotsBid::forget, 0);
    }

    /** "(MASTERS, LADS: such as there are)": those of an earlier, larger fair are there no more. */
    private static void badBehindALargerFair() {
        Twins.Make make = () -> {
            LotsBid x = most();
            x.wipe();
            Check.writeText(x, "m1;l5,0;w0,0,5;");
            x.lay();
            return x;
        };
        due("lads", make.make().count(1), 1);
        due("masters", make.make().count(0), 1);
        for (int k = 1; k <= 4; k++) {
            int i = k;
            TWINS.unchanged("lad " + i, make, x -> x.lad(i, 0), BAD);
            TWINS.unchanged("limit of " + i, make, x -> x.limit(i, 5), BAD);
            TWINS.unchanged("wants of " + i, make, x -> x.wants(i, 0, 0), BAD);
            TWINS.unchanged("span of " + i, make, x -> x.span(i, 0, 0), BAD);
            TWINS.unchanged("lie of " + i, make, x -> x.lie(i, 0), BAD);
            TWINS.unchanged("joint of " + i, make, x -> x.joint(i), BAD);
            TWINS.unchanged("pay of " + i, make, x -> x.pay(i), BAD);
            TWINS.unchanged("game with " + i, make, x -> x.game(0, i, 0), BAD);
            TWINS.unchanged("master " + i, make, x -> x.master(i, 0), BAD);
            TWINS.unchanged("seen of " + i, make, x -> x.seen(i, 0), BAD);
            TWINS.unchanged("rest of " + i, make, x -> x.rest(i, true), BAD);
            TWINS.unchanged("wants of master " + i, make, x -> x.wants(0, i, 1), BAD);
        }
    }

    private static void due(String call, long got, long want) {
        CHECK.due(call, got, want);
    }
}
