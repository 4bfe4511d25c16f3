/** Each promise of the document by hand: ordinary inputs, the edges that it names, wrong inputs. */
public final class PromiseTest {
    private static final Check CHECK = new Check("PromiseTest");
    private static final int BAD = -1, NO = -2, FULL = -3, NONE = -4;
    private static final int FAR = Integer.MAX_VALUE, FAR_BELOW = Integer.MIN_VALUE;

    /** Bounds 9, 5, 5 for a master with room for two. */
    private static final String STEPS = "m2;l9,0;l5,0;l5,0;w0,0,10;w1,0,10;w2,0,10;";
    /** Two masters; the sick lad gets the second one. */
    private static final String TWO =
        "m2;m1;l10,0;l10,0;l10,0;l10,1;w0,0,7;w1,0,7;w2,0,4;w3,0,10;w2,1,3;w3,1,9;";

    public static void main(String[] args) {
        newObject();
        write();
        wipe();
        fault();
        lay();
        ladsBelow();
        ladsAbove();
        ladsSealed();
        ladsWrong();
        masters();
        wants();
        all();
        limit();
        calls();
        step();
        undo();
        lie();
        game();
        rest();
        joint();
        pay();
        seenAndForget();
        cousins();
        span();
        year();
        keepAndBack();
        count();
        fullHouse();
        CHECK.close();
    }

    private static void due(String call, long got, long want) {
        CHECK.due(call, got, want);
    }

    private static void counts(String name, LotsBid x, int... want) {
        for (int what = 0; what < want.length; what++) {
            due(name + " count(" + what + ")", x.count(what), want[what]);
        }
    }

    private static void hired(String name, LotsBid x, int i, int master, int years) {
        due(name + " lad(" + i + ", 2)", x.lad(i, 2), master);
        due(name + " lad(" + i + ", 3)", x.lad(i, 3), years);
    }

    private static void newObject() {
        LotsBid x = new LotsBid();
        counts("1", x, 1, 2, 0, 1, 0, 0, 0, 0);
        due("1 lad(0, 0)", x.lad(0, 0), 8);
        due("1 lad(1, 0)", x.lad(1, 0), 5);
        due("1 lad(0, 1)", x.lad(0, 1), 0);
        due("1 lad(1, 1)", x.lad(1, 1), 0);
        due("1 wants(0, 0, 0)", x.wants(0, 0, 0), 9);
        due("1 wants(1, 0, 0)", x.wants(1, 0, 0), 6);
        due("1 master(0, 0)", x.master(0, 0), 1);
        due("1 fault", x.fault(), NONE);
        due("1 lay", x.lay(), NO);
        due("1 undo", x.undo(), NO);
        due("1 back", x.back(), NO);
        due("1 wipe", x.wipe(), 0);
        due("1 forget", x.forget(), 0);
    }

    private static void write() {
        LotsBid x = new LotsBid();
        due("2 none", x.write(0, 7), BAD);
        due("2 nine", x.write(9, 7), BAD);
        due("2 less", x.write(-1, 7), BAD);
        due("2 far", x.write(FAR, 7), BAD);
        due("2 far below", x.write(FAR_BELOW, 7), BAD);
        due("2 still empty", x.count(7), 0);
        // m2; with bytes above that do not count, then l7,0;
        due("2 three", x.write(3, 0x5555556D323BL), 3);
        due("2 five", x.write(5, 0x6C372C303BL), 8);
        due("2 lay", x.lay(), 1);
        due("2 room", x.master(0, 0), 2);
        due("2 limit", x.lad(0, 0), 7);
        for (int length = 16; length <= 296; length += 8) {
            due("2 fill", x.write(8, -1L), length);
        }
        due("2 full by five", x.write(5, 0), FULL);
        due("2 nothing changed", x.count(7), 296);
        due("2 to the last", x.write(4, 0), 300);
        due("2 full by one", x.write(1, 0), FULL);
        due("2 bad first", x.write(9, 0), BAD);
        due("2 fault", x.fault(), 8);
    }

    private static void wipe() {
        LotsBid x = Check.laid("m3;l4,2;");
        due("3 wipe", x.wipe(), 8);
        due("3 again", x.wipe(), 0);
        due("3 empty", x.count(7), 0);
        due("3 laid stays", x.master(0, 0), 3);
        due("3 fault", x.fault(), NONE);
        due("3 write", x.write(1, 'm'), 1);
    }

    private static void faultOf(String text, int place) {
        LotsBid x = new LotsBid();
        Check.writeText(x, text);
        due("4 fault of " + text, x.fault(), place);
        due("4 twice of " + text, x.fault(), place);
    }

    private static void fault() {
        for (String text : new String[] {"", "m1;", "m3;", "m03;", "m1;m2;m3;", "l1,0;", "l10,3;", "l01,03;", "c0;",
            "c2;", "c02;", "s1;", "s3;", "s3;s1;c1;c0;", "m1;l1,0;w0,0,0;", "m1;l1,0;w00,00,10;",
            "l1,0;m1;w0,0,5;w0,0,6;", "l1,0;l1,0;l1,0;l1,0;l1,0;", "l1,0;l1,0;l1,0;l1,0;l1,0;m1;m1;m1;w4,2,10;"}) {
            faultOf(text, NONE);
        }
        for (String text : new String[] {"m0;", "m4;", "m003;", "m;", "m", "m1", "m1,", "m1,1;", "M1;", "m-1;", "m 1;",
            " m1;", "1;", ";", ",", "x1;", "l0,0;", "l11,0;", "l1,4;", "l1;", "l1,;", "l,1;", "l1,0", "l1,0,0;",
            "l1;0;", "l1,000;", "l100,0;", "c3;", "c;", "c1,1;", "s0;", "s4;", "s10;", "w0,0,1;", "\u00ed1;", "\0",
            "m1:", "m/;"}) {
            faultOf(text, 0);
        }
        faultOf("m1;m1;m1;m1;", 9);
        faultOf("l1,0;l1,0;l1,0;l1,0;l1,0;l1,0;", 25);
        faultOf("m1;w0,0,1;l1,0;", 3);
        faultOf("l1,0;w0,0,1;m1;", 5);
        faultOf("m1;l1,0;w0,1,1;", 8);
        faultOf("m1;l1,0;w1,0,1;", 8);
        faultOf("m1;l1,0;w0,0,11;", 8);
        faultOf("m1;l1,0;w0,0;", 8);
        faultOf("m1;l1,0;w0,0,1,1;", 8);
        faultOf("m1;l1,0;w0,0,1;w0,0,", 15);
        faultOf("m1;;", 3);
        faultOf("m1; ", 3);
        faultOf("m1;c9;m9;", 3);
        // What was written is read only as far as it goes now.
        LotsBid x = new LotsBid();
        Check.writeText(x, "m1;l5,0;");
        x.wipe();
        Check.writeText(x, "m1;l5,");
        due("4 old bytes", x.fault(), 3);
    }

    private static void lay() {
        LotsBid x = new LotsBid();
        Check.writeText(x, "m1;");
        due("5 no lad", x.lay(), NO);
        x.wipe();
        Check.writeText(x, "l3,0;c2;");
        due("5 no master", x.lay(), NO);
        Check.writeText(x, "m1;m");
        due("5 fault", x.lay(), NO);
        counts("5 as it was", x, 1, 2, 0, 1, 0, 0, 0, 12);
        due("5 limit as it was", x.lad(0, 0), 8);
        x.seen(0, 1);
        x.limit(0, 3);
        x.keep();
        due("5 still no", x.lay(), NO);
        counts("5 nothing lost", x, 1, 2, 0, 1, 1, 1, 1, 12);
        Check.writeText(x, "2;l4,3;s2;");
        due("5 lay", x.lay(), 2);
        counts("5 laid", x, 2, 2, 2, 2, 0, 0, 0, 22);
        due("5 undo", x.undo(), NO);
        due("5 back", x.back(), NO);
        due("5 wants anew", x.wants(0, 0, 0), 0);
        due("5 limit", x.lad(1, 0), 4);
        due("5 kind", x.lad(1, 1), 3);
        x.calls(0);
        due("5 once more", x.lay(), 2);
        counts("5 laid once more", x, 2, 2, 2, 2, 0, 0, 0, 22);
        LotsBid y = Check.laid("m1;l9,0;c1;c2;s3;s2;w0,0,3;w0,0,7;c1;");
        due("5 last calls", y.count(2), 1);
        due("5 last step", y.count(3), 2);
        due("5 last want", y.wants(0, 0, 0), 7);
    }

    private static void ladsBelow() {
        LotsBid x = Check.laid(TWO);
        hired("6 two", x, 0, 0, 6);
        hired("6 two", x, 1, 0, 6);
        hired("6 two", x, 2, NONE, 0);
        hired("6 two", x, 3, 1, 4);
        due("6 gain", x.lad(0, 4), 1);
        due("6 gain of none", x.lad(2, 4), 0);
        due("6 gain of the sick", x.lad(3, 4), 5);
        due("6 kind", x.lad(3, 1), 1);
        LotsBid tie = Check.laid("m2;l7,0;l7,0;l7,0;w0,0,9;w1,0,9;w2,0,9;");
        hired("6 tie", tie, 0, 0, 7);
        hired("6 tie", tie, 1, 0, 7);
        hired("6 tie", tie, 2, NONE, 0);
        LotsBid steps = Check.laid(STEPS + "s3;");
        hired("6 step 3", steps, 0, 0, 7);
        hired("6 step 3", steps, 1, 0, 4);
        hired("6 step 3", steps, 2, NONE, 0);
        steps.step(2);
        hired("6 step 2", steps, 0, 0, 7);
        hired("6 step 2", steps, 1, 0, 5);
        LotsBid alone = Check.laid("m3;l1,0;l10,0;w0,0,4;");
        hired("6 at once", alone, 0, 0, 1);
        hired("6 bound 0", alone, 1, NONE, 0);
        LotsBid top = Check.laid("m1;l10,0;l10,0;w0,0,10;w1,0,10;s3;");
        hired("6 beyond ten", top, 0, 0, 10);
        hired("6 beyond ten", top, 1, NONE, 0);
    }

    private static void ladsAbove() {
        LotsBid x = Check.laid(STEPS + "c1;");
        hired("6 above", x, 0, 0, 9);
        hired("6 above", x, 1, 0, 5);
        hired("6 above", x, 2, NONE, 0);
        x.step(2);
        hired("6 above 2", x, 0, 0, 8);
        hired("6 above 2", x, 1, 0, 4);
        x.step(3);
        hired("6 above 3", x, 0, 0, 7);
        hired("6 above 3", x, 1, 0, 4);
        LotsBid low = Check.laid("m1;l1,0;w0,0,9;c1;s2;");
        hired("6 above, never called", low, 0, NONE, 0);
        low.step(3);
        hired("6 above, called last", low, 0, 0, 1);
        LotsBid ahead = Check.laid("m1;m1;l5,0;l9,0;w0,0,9;w1,0,9;w0,1,9;w1,1,9;c1;");
        hired("6 above, in no more", ahead, 1, 0, 9);
        hired("6 above, the next master", ahead, 0, 1, 5);
    }

    private static void ladsSealed() {
        LotsBid x = Check.laid(STEPS + "c2;s3;");
        hired("6 sealed", x, 0, 0, 9);
        hired("6 sealed", x, 1, 0, 5);
        hired("6 sealed", x, 2, NONE, 0);
        LotsBid odd = Check.laid("m1;l8,3;l8,2;l9,1;w0,0,7;w1,0,4;w2,0,9;c2;");
        hired("6 even bids six", odd, 0, 0, 6);
        hired("6 proud bids nothing", odd, 1, NONE, 0);
        LotsBid none = Check.laid("m2;l8,0;l1,1;w1,0,9;c2;");
        hired("6 bound 0 bids nothing", none, 0, NONE, 0);
        hired("6 half of one", none, 1, NONE, 0);
    }

    private static void ladsWrong() {
        LotsBid x = new LotsBid();
        for (int what = -1; what <= 5; what++) {
            due("6 lad -1", x.lad(-1, what), BAD);
            due("6 lad 2", x.lad(2, what), BAD);
            due("6 far", x.lad(FAR, what), BAD);
            due("6 far below", x.lad(FAR_BELOW, what), BAD);
        }
        due("6 what -1", x.lad(0, -1), BAD);
        due("6 what 5", x.lad(0, 5), BAD);
        due("6 what far", x.lad(0, FAR), BAD);
    }

    private static void masters() {
        LotsBid x = Check.laid(TWO);
        due("7 room", x.master(0, 0), 2);
        due("7 lads", x.master(0, 1), 3);
        due("7 years", x.master(0, 2), 6);
        due("7 room of 1", x.master(1, 0), 1);
        due("7 lads of 1", x.master(1, 1), 8);
        due("7 years of 1", x.master(1, 2), 4);
        LotsBid steps = Check.laid(STEPS + "s3;");
        due("7 lads at two years", steps.master(0, 1), 3);
        due("7 the most of two", steps.master(0, 2), 7);
        LotsBid alone = Check.laid("m1;m3;l1,0;w0,0,1;");
        due("7 nobody", alone.master(1, 1), 0);
        due("7 no years", alone.master(1, 2), 0);
        due("7 master 2", alone.master(2, 0), BAD);
        due("7 master -1", alone.master(-1, 0), BAD);
        due("7 what -1", alone.master(0, -1), BAD);
        due("7 what 3", alone.master(0, 3), BAD);
        due("7 far", alone.master(FAR_BELOW, FAR), BAD);
    }

    private static void boundOf(int kind, int limit, int want, int bound) {
        LotsBid x = Check.laid("m1;l" + limit + "," + kind + ";w0,0," + want + ";");
        due("8 W of kind " + kind, x.wants(0, 0, 0), want);
        due("8 bound of kind " + kind + " by " + limit + ", " + want, x.wants(0, 0, 1), bound);
    }

    private static void wants() {
        boundOf(0, 8, 9, 8);
        boundOf(0, 9, 4, 4);
        boundOf(0, 10, 0, 0);
        boundOf(1, 10, 9, 4);
        boundOf(1, 1, 9, 0);
        boundOf(1, 8, 10, 4);
        boundOf(2, 3, 5, 3);
        boundOf(2, 9, 4, 0);
        boundOf(2, 10, 10, 10);
        boundOf(3, 7, 9, 6);
        boundOf(3, 9, 8, 8);
        boundOf(3, 1, 9, 0);
        LotsBid x = Check.laid("m1;m1;l5,0;w0,1,7;");
        due("8 without", x.wants(0, 0, 0), 0);
        due("8 master 1", x.wants(0, 1, 0), 7);
        due("8 lad 1", x.wants(1, 0, 0), BAD);
        due("8 lad -1", x.wants(-1, 0, 0), BAD);
        due("8 master 2", x.wants(0, 2, 0), BAD);
        due("8 master -1", x.wants(0, -1, 1), BAD);
        due("8 what 2", x.wants(0, 0, 2), BAD);
        due("8 what -1", x.wants(0, 0, -1), BAD);
    }

    private static void all() {
        LotsBid x = Check.laid(TWO);
        due("9 years", x.all(0), 16);
        due("9 gains", x.all(1), 7);
        due("9 lads", x.all(2), 3);
        due("9 what 3", x.all(3), BAD);
        due("9 what -1", x.all(-1), BAD);
        LotsBid none = Check.laid("m1;l8,0;");
        due("9 no years", none.all(0), 0);
        due("9 no gains", none.all(1), 0);
        due("9 no lads", none.all(2), 0);
    }

    private static void limit() {
        LotsBid x = new LotsBid();
        due("10 limit", x.limit(1, 10), 5);
        due("10 what it was", x.limit(1, 1), 10);
        due("10 lad", x.lad(1, 0), 1);
        due("10 fair", x.lad(0, 3), 2);
        due("10 bound", x.wants(1, 0, 1), 1);
        due("10 l 0", x.limit(0, 0), BAD);
        due("10 l 11", x.limit(0, 11), BAD);
        due("10 lad 2", x.limit(2, 5), BAD);
        due("10 lad -1", x.limit(-1, 5), BAD);
        due("10 nothing changes", x.lad(0, 0), 8);
        due("10 two", x.count(5), 2);
    }

    private static void calls() {
        LotsBid x = new LotsBid();
        due("11 calls", x.calls(2), 0);
        due("11 sealed", x.lad(0, 3), 8);
        due("11 what it was", x.calls(1), 2);
        due("11 -1", x.calls(-1), BAD);
        due("11 3", x.calls(3), BAD);
        due("11 far", x.calls(FAR), BAD);
        due("11 count", x.count(2), 1);
        due("11 two", x.count(5), 2);
    }

    private static void step() {
        LotsBid x = new LotsBid();
        due("12 step", x.step(3), 1);
        due("12 fair", x.lad(0, 3), 7);
        due("12 what it was", x.step(2), 3);
        due("12 0", x.step(0), BAD);
        due("12 4", x.step(4), BAD);
        due("12 far", x.step(FAR_BELOW), BAD);
        due("12 count", x.count(3), 2);
        due("12 two", x.count(5), 2);
    }

    private static void undo() {
        LotsBid x = new LotsBid();
        x.limit(0, 3);
        x.calls(2);
        x.step(2);
        x.limit(0, 3);
        due("13 nothing becomes another", x.undo(), 3);
        due("13 limit stays", x.lad(0, 0), 3);
        due("13 step", x.undo(), 2);
        due("13 step is", x.count(3), 1);
        due("13 calls", x.undo(), 1);
        due("13 calls are", x.count(2), 0);
        due("13 limit", x.undo(), 0);
        due("13 limit is", x.lad(0, 0), 8);
        due("13 no", x.undo(), NO);
        for (int l = 1; l <= 10; l++) {
            x.limit(1, l);
        }
        due("13 eight", x.count(5), 8);
        for (int left = 7; left >= 0; left--) {
            due("13 left", x.undo(), left);
            due("13 limit as then", x.lad(1, 0), left + 2);
        }
        due("13 the ninth stays", x.lad(1, 0), 2);
        due("13 no more", x.undo(), NO);
        undoOfAllKinds();
        x.limit(9, 9);
        x.step(9);
        due("13 bad ones are none", x.undo(), NO);
    }

    private static void undoOfAllKinds() {
        LotsBid x = new LotsBid();
        x.limit(0, 1);
        x.limit(1, 2);
        x.calls(1);
        x.step(2);
        x.limit(0, 3);
        x.calls(2);
        x.step(3);
        x.limit(1, 4);
        x.limit(0, 5);
        x.undo();
        x.undo();
        due("13 latest limits", 10 * x.lad(0, 0) + x.lad(1, 0), 32);
        x.undo();
        x.undo();
        due("13 latest laws", 10 * x.count(2) + x.count(3), 12);
        while (x.undo() != NO) {
            due("13 none is left out", x.lad(0, 0), 1);
        }
        due("13 limits at last", 10 * x.lad(0, 0) + x.lad(1, 0), 15);
        due("13 laws at last", 10 * x.count(2) + x.count(3), 1);
    }

    private static void lie() {
        LotsBid x = new LotsBid();
        // By 5 he gets him at 5 (both are in at 5, none at 6), by 4 he does not.
        due("14 limit", x.lie(0, 0), 5);
        due("14 more", x.lie(0, 1), 1);
        due("14 never gains", x.lie(1, 0), 1);
        due("14 no more", x.lie(1, 1), 0);
        due("14 nothing changes", x.lad(0, 0), 8);
        due("14 nothing to undo", x.count(5), 0);
        x.calls(2);
        due("14 sealed", x.lie(0, 0), 5);
        due("14 sealed more", x.lie(0, 1), 3);
        x.limit(0, 5);
        due("14 best already", x.lie(0, 1), 0);
        // The even one is in at 9 only by a limit of 10, and gets him for 9 then, as the lowest.
        LotsBid even = Check.laid("m1;l1,3;l9,0;w0,0,10;w1,0,9;s2;");
        due("14 the last limit", even.lie(0, 0), 10);
        due("14 one more", even.lie(0, 1), 1);
        due("14 lad 2", x.lie(2, 0), BAD);
        due("14 lad -1", x.lie(-1, 0), BAD);
        due("14 what 2", x.lie(0, 2), BAD);
        due("14 what -1", x.lie(0, -1), BAD);
    }

    private static void game() {
        // A room for each: whatever they say, each has him for a year.
        LotsBid x = Check.laid("m2;l3,0;l4,0;w0,0,5;w1,0,5;");
        due("15 all are rests", x.game(0, 1, 0), 100);
        due("15 first of one", x.game(0, 1, 1), 1);
        due("15 first of other", x.game(0, 1, 2), 1);
        LotsBid y = new LotsBid();
        due("15 as told", y.game(0, 1, 0), 6);
        due("15 turned", y.game(1, 0, 0), 6);
        due("15 turned, one", y.game(1, 0, 1), 5);
        // Sealed, lad 1 rests at one above the bound of lad 0, who must not come cheaper: 3 and 4, 4 to 10 and 5.
        LotsBid sealed = Check.laid("m1;l1,0;l9,0;w0,0,4;w1,0,9;c2;");
        due("15 sealed", sealed.game(0, 1, 0), 8);
        due("15 sealed, one", sealed.game(0, 1, 1), 3);
        due("15 sealed, other", sealed.game(0, 1, 2), 4);
        due("15 sealed, turned", sealed.game(1, 0, 1), 4);
        // 8 or 9 and 7 or 8; 10 and 9 or 10: but not 8 and 9, for the even one would say 10.
        LotsBid even = Check.laid("m1;l1,3;l9,0;w0,0,10;w1,0,9;s2;");
        due("15 up to the last limit", even.game(0, 1, 0), 6);
        due("15 up to the last limit, one", even.game(0, 1, 1), 8);
        due("15 up to the last limit, other", even.game(0, 1, 2), 7);
        due("15 nothing changes", y.lad(0, 0) * 10 + y.lad(1, 0), 85);
        due("15 alike", y.game(1, 1, 0), BAD);
        due("15 lad 2", y.game(0, 2, 0), BAD);
        due("15 lad -1", y.game(-1, 0, 0), BAD);
        due("15 what 3", y.game(0, 1, 3), BAD);
        due("15 what -1", y.game(0, 1, -1), BAD);
        LotsBid none = Check.laid("m3;m1;l6,0;l1,1;l4,3;l5,2;l4,0;w0,0,5;w0,1,9;w1,0,0;w1,1,2;w2,0,6;w2,1,8;"
            + "w3,0,6;w3,1,0;w4,0,7;w4,1,5;c2;s3;");
        due("15 none, how many", none.game(3, 4, 0), 0);
        due("15 none, one", none.game(3, 4, 1), NONE);
        due("15 none, other", none.game(3, 4, 2), NONE);
    }

    private static void rest() {
        LotsBid x = new LotsBid();
        due("16 least", x.rest(0, false), 6);
        due("16 greatest", x.rest(0, true), 9);
        due("16 sum", x.rest(-1, false), 6);
        due("16 greatest sum", x.rest(-1, true), 9);
        x.limit(0, 1);
        due("16 not by limits", x.rest(0, false), 6);
        // Each lad wants either master by ten: both cost ten with three lads, alike with two.
        LotsBid three = Check.laid("m1;m1;l1,0;l1,0;l1,0;w0,0,10;w0,1,10;w1,0,10;w1,1,10;w2,0,10;w2,1,10;");
        due("16 ten and ten", three.rest(-1, false), 20);
        due("16 ten and ten at the most", three.rest(-1, true), 20);
        LotsBid two = Check.laid("m1;m1;l1,0;l1,0;w0,0,7;w0,1,4;w1,0,9;w1,1,3;");
        due("16 two least 0", two.rest(0, false), 3);
        due("16 two least 1", two.rest(1, false), 0);
        due("16 two greatest 0", two.rest(0, true), 9);
        due("16 two greatest 1", two.rest(1, true), 4);
        due("16 two greatest sum", two.rest(-1, true), 13);
        // The fourth would come for less than 4; all three masters are alike to the others.
        LotsBid four = Check.laid("m1;m1;m1;l1,0;l1,0;l1,0;l1,0;w0,0,5;w0,1,5;w0,2,5;w1,0,5;w1,1,5;w1,2,5;"
            + "w2,0,5;w2,1,5;w2,2,5;w3,2,4;");
        for (int m = 0; m < 3; m++) {
            due("16 four least", four.rest(m, false), 4);
            due("16 four greatest", four.rest(m, true), 5);
        }
        due("16 four least sum", four.rest(-1, false), 12);
        due("16 four greatest sum", four.rest(-1, true), 15);
        LotsBid room = Check.laid("m3;l1,0;l1,0;w0,0,10;w1,0,10;");
        due("16 not all room taken", room.rest(0, true), 0);
        LotsBid just = Check.laid("m2;l1,0;l1,0;w0,0,8;w1,0,5;");
        due("16 room just taken", just.rest(0, true), 5);
        due("16 master 1", just.rest(1, true), BAD);
        due("16 master -2", just.rest(-2, false), BAD);
        due("16 far", just.rest(FAR, false), BAD);
    }

    private static void joint() {
        LotsBid x = Check.laid("m1;m1;l1,0;l1,0;l1,0;w0,0,7;w0,1,4;w1,0,9;w1,1,3;w2,0,2;");
        due("17 sum", x.joint(-1), 13);
        due("17 lad 0", x.joint(0), 1);
        due("17 lad 1", x.joint(1), 0);
        due("17 lad 2", x.joint(2), NONE);
        due("17 lad 3", x.joint(3), BAD);
        due("17 -2", x.joint(-2), BAD);
        LotsBid even = Check.laid("m1;m1;l1,0;l1,0;w0,0,5;w0,1,5;w1,0,5;w1,1,5;");
        due("17 the first way, lad 0", even.joint(0), 0);
        due("17 the first way, lad 1", even.joint(1), 1);
        LotsBid nothing = Check.laid("m1;m2;l1,0;l1,0;");
        due("17 none as the last, lad 0", nothing.joint(0), 0);
        due("17 none as the last, lad 1", nothing.joint(1), 1);
        due("17 nothing wanted", nothing.joint(-1), 0);
        LotsBid room = Check.laid("m3;l1,0;l1,0;l1,0;l1,0;w0,0,1;w1,0,2;w2,0,3;w3,0,4;");
        due("17 room for three", room.joint(-1), 9);
        due("17 without the least", room.joint(0), NONE);
    }

    private static void pay() {
        LotsBid x = Check.laid("m1;m1;l1,0;l1,0;l1,0;w0,0,7;w0,1,4;w1,0,9;w1,1,3;w2,0,2;");
        // Without lad 0: 9 by lad 1 with 0; lad 2 wants 1 by nothing. The others have 9.
        due("18 lad 0", x.pay(0), 0);
        // Without lad 1: 7 by lad 0 with 0. The others have 4.
        due("18 lad 1", x.pay(1), 3);
        due("18 lad 2", x.pay(2), 0);
        due("18 lad 3", x.pay(3), BAD);
        due("18 lad -1", x.pay(-1), BAD);
        due("18 as told", new LotsBid().pay(0), 6);
        LotsBid room = Check.laid("m3;l1,0;l1,0;l1,0;l1,0;w0,0,1;w1,0,2;w2,0,3;w3,0,4;");
        due("18 room for three", room.pay(3), 1);
        due("18 who has none", room.pay(0), 0);
    }

    private static void seenAndForget() {
        LotsBid x = Check.laid("m1;m1;l5,0;");
        due("19 master 2", x.seen(2, 0), BAD);
        due("19 master -1", x.seen(-1, 0), BAD);
        due("19 p 11", x.seen(0, 11), BAD);
        due("19 p -1", x.seen(0, -1), BAD);
        for (int many = 1; many <= 6; many++) {
            due("19 seen", x.seen(many % 2, many == 6 ? 10 : 0), many);
        }
        due("19 full", x.seen(0, 0), FULL);
        due("19 bad first", x.seen(0, 11), BAD);
        due("19 count", x.count(4), 6);
        due("20 forget", x.forget(), 6);
        due("20 again", x.forget(), 0);
        due("20 count", x.count(4), 0);
        due("20 seen anew", x.seen(1, 0), 1);
        due("20 one", x.forget(), 1);
    }

    private static void cousins() {
        // With all, and without lad 2: 8 years, one above lad 1; without lad 0 or lad 1: 5, one above lad 2.
        LotsBid x = Check.laid("m1;l9,0;l7,0;l4,0;w0,0,9;w1,0,7;w2,0,4;");
        due("21 nothing seen", x.cousins(), 39);
        x.seen(0, 8);
        due("21 all, without 2", x.cousins(), 36);
        x.forget();
        x.seen(0, 5);
        due("21 without 0 or 1", x.cousins(), 3);
        x.seen(0, 8);
        due("21 seen both", x.cousins(), 0);
        x.forget();
        x.seen(0, 5);
        x.calls(2);
        due("21 sealed", x.cousins(), 0);
        x.forget();
        x.seen(0, 7);
        due("21 sealed without 0", x.cousins(), 1);
        LotsBid one = Check.laid("m1;l9,0;w0,0,9;");
        one.seen(0, 0);
        due("21 nobody got him", one.cousins(), 1);
        one.forget();
        one.seen(0, 1);
        due("21 with all alone", one.cousins(), 32);
        due("21 nothing changes", one.lad(0, 3), 1);
    }

    private static void spanOf(LotsBid x, int i, int m, int from, int to) {
        due("22 span(" + i + ", " + m + ", 0)", x.span(i, m, 0), from);
        due("22 span(" + i + ", " + m + ", 1)", x.span(i, m, 1), to);
    }

    private static void span() {
        LotsBid x = Check.laid(STEPS + "m1;w0,1,9;w2,1,5;s3;c2;");
        // Called are 1, 4, 7 for master 0, whatever the kind of calls; then 1 alone for master 1.
        spanOf(x, 0, 0, 7, 10);
        spanOf(x, 1, 0, 4, 6);
        spanOf(x, 2, 0, 4, 6);
        spanOf(x, 0, 1, 0, 10);
        spanOf(x, 1, 1, 0, 10);
        spanOf(x, 2, 1, 1, 10);
        due("22 calls stay", x.count(2), 2);
        LotsBid none = Check.laid("m1;l9,0;l9,0;w1,0,5;");
        spanOf(none, 0, 0, 0, 0);
        spanOf(none, 1, 0, 1, 10);
        // By the words: one below the 13 at which he was in no more.
        LotsBid top = Check.laid("m1;l10,0;l10,0;w0,0,10;w1,0,10;s3;");
        spanOf(top, 0, 0, 10, 12);
        top.step(2);
        spanOf(top, 1, 0, 9, 10);
        due("22 lad 2", top.span(2, 0, 0), BAD);
        due("22 lad -1", top.span(-1, 0, 0), BAD);
        due("22 master 1", top.span(0, 1, 0), BAD);
        due("22 master -1", top.span(0, -1, 0), BAD);
        due("22 what 2", top.span(0, 0, 2), BAD);
        due("22 what -1", top.span(0, 0, -1), BAD);
    }

    private static void year() {
        LotsBid x = new LotsBid();
        // z 0: W of lad 0 is 1; 6152 squared is 41487 modulo 65521, so that of lad 1 is 6, his bound 5.
        x.calls(2);
        due("23 sealed", x.year(0, 0), 5);
        due("23 nobody alone", x.year(0, 1), 0);
        x.calls(0);
        due("23 below", x.year(0, 0), 2);
        // z 9999: x is 79182082, then 79188233: their squares are far beyond an int.
        due("23 last", x.year(9999, 0), yearsBelow(79182082L, 79188233L));
        due("23 nothing changes", x.wants(0, 0, 0), 9);
        LotsBid alone = Check.laid("m3;m1;l5,0;");
        due("23 who is alone", alone.year(0, 1), 1);
        due("23 the only one is alone", Check.laid("m1;l5,2;").year(0, 1), 1);
        due("23 z -1", x.year(-1, 0), BAD);
        due("23 z 10000", x.year(10000, 0), BAD);
        due("23 what 2", x.year(0, 2), BAD);
        due("23 what -1", x.year(0, -1), BAD);
    }

    /** The years by calls from below of limits 8 and 5 for one room: one above the lower bound, or as many. */
    private static int yearsBelow(long one, long other) {
        int a = Math.min(8, (int) (one * one % 65521 % 11));
        int b = Math.min(5, (int) (other * other % 65521 % 11));
        return a == b ? a : Math.min(a, b) + 1;
    }

    private static void keepAndBack() {
        LotsBid x = new LotsBid();
        due("25 none", x.back(), NO);
        x.limit(0, 3);
        x.calls(1);
        due("24 one", x.keep(), 1);
        x.limit(0, 7);
        x.step(2);
        due("24 two", x.keep(), 2);
        due("24 full", x.keep(), FULL);
        due("24 still two", x.count(6), 2);
        due("24 undo as ever", x.count(5), 4);
        x.limit(1, 1);
        x.calls(0);
        x.step(3);
        x.seen(0, 4);
        x.write(1, 'm');
        due("25 back", x.back(), 1);
        counts("25 as kept last", x, 1, 2, 1, 2, 1, 0, 1, 1);
        due("25 limit 0", x.lad(0, 0), 7);
        due("25 limit 1", x.lad(1, 0), 5);
        due("25 nothing is undone", x.undo(), NO);
        x.step(3);
        due("25 back again", x.back(), 0);
        counts("25 as kept first", x, 1, 2, 1, 1, 1, 0, 0, 1);
        due("25 limit 0 again", x.lad(0, 0), 3);
        due("25 no more", x.back(), NO);
        due("24 anew", x.keep(), 1);
    }

    private static void count() {
        LotsBid x = Check.laid("m1;m2;l3,0;l4,0;l5,0;c1;s2;");
        x.seen(1, 3);
        x.seen(0, 3);
        x.limit(0, 1);
        x.keep();
        counts("26", x, 2, 3, 1, 2, 2, 1, 1, 27);
        due("26 -1", x.count(-1), BAD);
        due("26 8", x.count(8), BAD);
        due("26 far", x.count(FAR), BAD);
        due("26 far below", x.count(FAR_BELOW), BAD);
    }

    /** As many masters and lads as there can be: each has the one he wants. */
    private static void fullHouse() {
        LotsBid x = Check.laid("m2;m2;m1;l9,0;l9,0;l9,0;l9,0;l9,0;w0,0,5;w1,0,5;w2,1,6;w3,1,6;w4,2,7;");
        counts("full", x, 3, 5, 0, 1);
        due("full years", x.all(0), 5);
        due("full gains", x.all(1), 24);
        due("full lads", x.all(2), 5);
        due("full lads of 1", x.master(1, 1), 12);
        due("full last lad", x.master(2, 1), 16);
        due("full joint", x.joint(-1), 29);
        due("full joint, last", x.joint(4), 2);
        due("full pay", x.pay(4), 0);
        due("full least", x.rest(-1, false), 0);
        due("full greatest", x.rest(-1, true), 18);
        due("full cousins", x.cousins(), 63);
        x.seen(2, 0);
        due("full cousin", x.cousins(), 16);
        due("full lie", x.lie(4, 0), 1);
        due("full game", x.game(3, 4, 0), 100);
        due("full span", x.span(4, 2, 0), 1);
        due("full nobody's span", x.span(4, 0, 1), 0);
    }
}
