import java.math.BigInteger;

/** The edges that part 4 of the document names (seen, cousins, spans, years, changes, kept): 10 to 13, 19 to 26. */
public final class EdgeStateTest {
    private static final Check CHECK = new Check("EdgeStateTest");
    private static final Twins TWINS = new Twins(CHECK);
    private static final int NO = -2, FULL = -3;
    private static final int BELOW = 0, ABOVE = 1, SEALED = 2;

    public static void main(String[] args) {
        whatItWas();
        undoTheLatest();
        undoTheLastEight();
        undoWhatBecameNoOther();
        undoNo();
        undoThenChange();
        keptTwoAtMost();
        keptAsTheyStand();
        backToTheLast();
        backLeavesSeenAndText();
        backThenNothingIsUndone();
        backNo();
        seenSixAtMost();
        seenNoughtToTen();
        forgotten();
        cousinsOfNothingSeen();
        cousinsByNobodyGotHim();
        cousinsByTheMostYears();
        cousinsByEachSeen();
        cousinsInNowhere();
        cousinsByTheLaws();
        spanWhereHeWasIn();
        spanAtTheLastP();
        spanWhoHadGotAnother();
        spanFromBelowAlways();
        spanBeyondTen();
        yearByDraws();
        yearByTheLaws();
        yearMastersNobodyGets();
        nothingChanges();
        counts();
        fiveHundredAndTwelveCalls();
        CHECK.close();
    }

    private static void due(String call, long got, long want) {
        CHECK.due(call, got, want);
    }

    private static void laws(String name, LotsBid x, int limit0, int limit1, int calls, int step) {
        due(name + ": limit of 0", x.lad(0, 0), limit0);
        due(name + ": limit of 1", x.lad(1, 0), limit1);
        due(name + ": calls", x.count(2), calls);
        due(name + ": step", x.count(3), step);
    }

    private static void span(String name, LotsBid x, int i, int m, int from, int to) {
        due(name + ": span(" + i + ", " + m + ", 0)", x.span(i, m, 0), from);
        due(name + ": span(" + i + ", " + m + ", 1)", x.span(i, m, 1), to);
    }

    /** One master; each lad's bound as told (his limit is 10, he wants by it). */
    private static LotsBid oneMaster(int room, int calls, int step, int... bounds) {
        StringBuilder text = new StringBuilder("m" + room + ";c" + calls + ";s" + step + ";");
        for (int i = 0; i < bounds.length; i++) {
            text.append("l10,0;w").append(i).append(",0,").append(bounds[i]).append(';');
        }
        return Check.laid(text.toString());
    }

    /** Each number that is told is taken, and what it was is answered. */
    private static void whatItWas() {
        LotsBid x = new LotsBid();
        int was = 5;
        for (int l = 1; l <= 10; l++) {
            due("limit(1, " + l + ")", x.limit(1, l), was);
            due("limit is", x.lad(1, 0), l);
            due("the other lad's is as it was", x.lad(0, 0), 8);
            was = l;
        }
        due("calls(1)", x.calls(1), 0);
        due("calls(2)", x.calls(2), 1);
        due("calls(0)", x.calls(0), 2);
        due("calls are", x.count(2), 0);
        due("step(2)", x.step(2), 1);
        due("step(3)", x.step(3), 2);
        due("step(1)", x.step(1), 3);
        due("step is", x.count(3), 1);
    }

    /** "UNDONE is the latest of these": of each kind, one after the other. */
    private static void undoTheLatest() {
        LotsBid x = new LotsBid();
        x.limit(0, 1);
        x.step(3);
        x.limit(1, 2);
        x.calls(2);
        x.limit(0, 10);
        due("undo of limit 0", x.undo(), 4);
        laws("limit 0", x, 1, 2, 2, 3);
        due("undo of calls", x.undo(), 3);
        laws("calls", x, 1, 2, 0, 3);
        due("undo of limit 1", x.undo(), 2);
        laws("limit 1", x, 1, 5, 0, 3);
        due("undo of step", x.undo(), 1);
        laws("step", x, 1, 5, 0, 1);
        due("undo of the first", x.undo(), 0);
        laws("the first", x, 8, 5, 0, 1);
        TWINS.alike("all undone", x, new LotsBid());
    }

    /** "the last 8 can be": by 7, 8, 9 and many more changes. */
    private static void undoTheLastEight() {
        for (int many = 7; many <= 30; many++) {
            LotsBid x = new LotsBid();
            for (int k = 1; k <= many; k++) {
                x.limit(0, 1 + k % 10);
                due("can be undone behind " + k, x.count(5), Math.min(k, 8));
            }
            int can = Math.min(many, 8);
            for (int left = can - 1; left >= 0; left--) {
                due("undo of " + many, x.undo(), left);
                int behind = many - can + left;
                due("as behind " + behind, x.lad(0, 0), behind == 0 ? 8 : 1 + behind % 10);
            }
            due("no more of " + many, x.undo(), NO);
        }
        // The oldest goes, of whatever kind it is.
        LotsBid x = new LotsBid();
        x.calls(2);
        x.step(2);
        for (int l = 1; l <= 7; l++) {
            x.limit(1, l);
        }
        for (int left = 7; left >= 0; left--) {
            due("undo", x.undo(), left);
        }
        laws("the calls stay, the step does not", x, 8, 5, 2, 1);
        undoTheLastEightOfAllKinds();
    }

    /** Behind any number of changes of all kinds, each of the last 8 is undone as what it was. */
    private static void undoTheLastEightOfAllKinds() {
        for (int many = 8; many <= 20; many++) {
            LotsBid x = new LotsBid();
            int[][] then = new int[many + 1][];
            then[0] = new int[] {8, 5, 0, 1};
            for (int k = 1; k <= many; k++) {
                then[k] = then[k - 1].clone();
                change(x, then[k], k);
            }
            for (int k = many - 1; k >= many - 8; k--) {
                due("undo to " + k + " of " + many, x.undo(), k - many + 8);
                laws("as behind " + k + " of " + many, x, then[k][0], then[k][1], then[k][2], then[k][3]);
            }
            due("no more than eight of " + many, x.undo(), NO);
        }
    }

    /** A limit, the step, the other limit, the calls, in turns. */
    private static void change(LotsBid x, int[] laws, int k) {
        switch (k % 4) {
            case 0:
                laws[2] = (laws[2] + 1) % 3;
                x.calls(laws[2]);
                break;
            case 1:
                laws[0] = 1 + laws[0] % 10;
                x.limit(0, laws[0]);
                break;
            case 2:
                laws[3] = 1 + laws[3] % 3;
                x.step(laws[3]);
                break;
            default:
                laws[1] = 1 + laws[1] % 10;
                x.limit(1, laws[1]);
        }
    }

    /** "such by which nothing becomes another, too" */
    private static void undoWhatBecameNoOther() {
        LotsBid x = new LotsBid();
        x.limit(0, 3);
        due("the same limit", x.limit(0, 3), 3);
        due("the same calls", x.calls(0), 0);
        due("the same step", x.step(1), 1);
        due("four can be undone", x.count(5), 4);
        due("the step", x.undo(), 3);
        due("the calls", x.undo(), 2);
        due("the limit", x.undo(), 1);
        laws("nothing became another", x, 3, 5, 0, 1);
        due("the limit that was one", x.undo(), 0);
        laws("as at first", x, 8, 5, 0, 1);
        // Eight of these, and what was changed ahead of them cannot be undone.
        x.limit(0, 4);
        for (int k = 0; k < 8; k++) {
            x.step(1);
        }
        for (int left = 7; left >= 0; left--) {
            due("undo of the same", x.undo(), left);
        }
        due("no more", x.undo(), NO);
        laws("the limit stays", x, 4, 5, 0, 1);
    }

    /** "NO": there is nothing, or no more, to be undone; what is refused or only asked for is no change. */
    private static void undoNo() {
        TWINS.unchanged("undo at first", LotsBid::new, LotsBid::undo, NO);
        TWINS.unchanged("undo behind other calls", EdgeStateTest::withoutChange, LotsBid::undo, NO);
        LotsBid x = new LotsBid();
        x.limit(0, 0);
        x.limit(2, 5);
        x.calls(3);
        x.step(0);
        due("refused ones are none", x.undo(), NO);
        x.limit(0, 1);
        x.limit(0, 11);
        due("a refused one behind", x.undo(), 0);
        laws("not the refused one", x, 8, 5, 0, 1);
        due("once more", x.undo(), NO);
    }

    private static LotsBid withoutChange() {
        LotsBid x = new LotsBid();
        Check.writeText(x, "m3;l4,1;s3;");
        x.seen(0, 1);
        x.keep();
        x.lie(0, 0);
        x.year(3, 0);
        x.span(0, 0, 1);
        return x;
    }

    private static void undoThenChange() {
        LotsBid x = new LotsBid();
        x.limit(0, 1);
        x.limit(0, 2);
        x.undo();
        x.limit(0, 3);
        due("the undone one is gone", x.undo(), 1);
        due("as ahead of it", x.lad(0, 0), 1);
        due("the first", x.undo(), 0);
        due("as at first", x.lad(0, 0), 8);
        for (int k = 0; k < 20; k++) {
            x.calls(k % 3);
            x.undo();
        }
        due("none is left", x.count(5), 0);
        laws("as at first", x, 8, 5, 0, 1);
    }

    /** "2 at most"; FULL, and nothing changes then. */
    private static void keptTwoAtMost() {
        LotsBid x = new LotsBid();
        due("one", x.keep(), 1);
        due("two", x.keep(), 2);
        due("three", x.keep(), FULL);
        due("still two", x.count(6), 2);
        due("back", x.back(), 1);
        due("room for one again", x.keep(), 2);
        due("for one alone", x.keep(), FULL);
        TWINS.unchanged("keep when full", () -> {
            LotsBid y = new LotsBid();
            y.limit(0, 1);
            y.keep();
            y.limit(0, 2);
            y.keep();
            y.limit(0, 3);
            y.seen(0, 2);
            return y;
        }, LotsBid::keep, FULL);
    }

    /** "all of these as they stand": every lad's limit, the calls, the step. */
    private static void keptAsTheyStand() {
        LotsBid x = Check.laid("m1;l1,0;l2,0;l3,0;l4,0;l5,0;c1;s2;");
        due("keep", x.keep(), 1);
        for (int i = 0; i < 5; i++) {
            x.limit(i, 10);
        }
        x.calls(SEALED);
        x.step(3);
        due("back", x.back(), 0);
        for (int i = 0; i < 5; i++) {
            due("limit of " + i, x.lad(i, 0), i + 1);
        }
        due("calls", x.count(2), ABOVE);
        due("step", x.count(3), 2);
        // What is changed or undone later does not change what is kept.
        LotsBid y = new LotsBid();
        y.limit(0, 2);
        y.keep();
        due("keep leaves what can be undone", y.undo(), 0);
        laws("undone", y, 8, 5, 0, 1);
        y.back();
        laws("as kept", y, 2, 5, 0, 1);
    }

    /** "As KEPT last (it is KEPT no more then)" */
    private static void backToTheLast() {
        LotsBid x = new LotsBid();
        x.limit(0, 1);
        x.keep();
        x.limit(0, 2);
        x.calls(2);
        x.keep();
        x.step(3);
        due("to the second", x.back(), 1);
        laws("the second", x, 2, 5, 2, 1);
        x.limit(1, 9);
        due("to the first", x.back(), 0);
        laws("the first", x, 1, 5, 0, 1);
        due("no more", x.back(), NO);
        laws("still the first", x, 1, 5, 0, 1);
        x.limit(1, 7);
        due("keep anew", x.keep(), 1);
        x.limit(1, 6);
        due("to the new one", x.back(), 0);
        laws("the new one", x, 1, 7, 0, 1);
    }

    /** "(not SEEN, THE TEXT)" */
    private static void backLeavesSeenAndText() {
        LotsBid x = new LotsBid();
        x.seen(0, 6);
        Check.writeText(x, "m2;");
        x.keep();
        x.seen(0, 5);
        Check.writeText(x, "l3,0;");
        due("back", x.back(), 0);
        due("seen stays", x.count(4), 2);
        due("what was seen stays", x.cousins(), 0);
        due("the text stays", x.count(7), 8);
        due("what was written stays", x.lay(), 1);
        due("room", x.master(0, 0), 2);
        LotsBid y = new LotsBid();
        y.seen(0, 6);
        y.keep();
        y.forget();
        y.back();
        due("what was forgotten stays so", y.count(4), 0);
    }

    /** "nothing is UNDONE then" */
    private static void backThenNothingIsUndone() {
        LotsBid x = new LotsBid();
        x.limit(0, 1);
        x.keep();
        x.limit(0, 2);
        x.step(2);
        x.back();
        due("none can be", x.count(5), 0);
        due("undo", x.undo(), NO);
        laws("as kept", x, 1, 5, 0, 1);
        x.calls(1);
        due("what is changed then can be", x.undo(), 0);
        laws("as kept again", x, 1, 5, 0, 1);
    }

    private static void backNo() {
        TWINS.unchanged("back at first", LotsBid::new, LotsBid::back, NO);
        TWINS.unchanged("back without, changes stay", () -> {
            LotsBid x = new LotsBid();
            x.keep();
            x.back();
            x.limit(0, 1);
            x.step(2);
            x.seen(0, 3);
            return x;
        }, LotsBid::back, NO);
    }

    /** "(6 at most)"; FULL, and nothing changes then. */
    private static void seenSixAtMost() {
        LotsBid x = Check.laid("m1;m1;m1;l5,0;");
        for (int many = 1; many <= 6; many++) {
            due("seen", x.seen(many % 3, many), many);
        }
        due("the seventh", x.seen(0, 0), FULL);
        due("still six", x.count(4), 6);
        due("forget", x.forget(), 6);
        due("room again", x.seen(2, 10), 1);
        TWINS.unchanged("seen when full", () -> {
            LotsBid y = new LotsBid();
            for (int k = 0; k < 6; k++) {
                y.seen(0, 6);
            }
            return y;
        }, y -> y.seen(0, 1), FULL);
    }

    /** "(0 to 10": each is taken, and means just so many years. */
    private static void seenNoughtToTen() {
        for (int paid = 0; paid <= 10; paid++) {
            LotsBid x = oneMaster(1, SEALED, 1, paid);
            for (int p = 0; p <= 10; p++) {
                due("seen(0, " + p + ")", x.seen(0, p), 1);
                int without = p == 0 ? 1 : 0;
                due("cousins by " + p + " of " + paid, x.cousins(), (p == paid ? 32 : 0) + without);
                x.forget();
            }
        }
    }

    /** "Nothing is SEEN: how many were." */
    private static void forgotten() {
        LotsBid x = new LotsBid();
        due("forget nothing", x.forget(), 0);
        for (int many = 1; many <= 6; many++) {
            for (int k = 0; k < many; k++) {
                x.seen(0, 10);
            }
            due("as seen", x.cousins(), 0);
            due("forget " + many, x.forget(), many);
            due("forgotten", x.count(4), 0);
            due("nothing is seen", x.cousins(), 35);
        }
        due("forget again", x.forget(), 0);
        // One that is seen anew stands alone.
        x.seen(0, 6);
        due("the old ones do not count", x.cousins(), 32);
        LotsBid changed = new LotsBid();
        changed.limit(0, 3);
        changed.keep();
        LotsBid forgot = new LotsBid();
        forgot.limit(0, 3);
        forgot.seen(0, 4);
        forgot.keep();
        forgot.forget();
        TWINS.alike("forget leaves the rest", forgot, changed);
    }

    /** By nothing seen all are cousins, and it is so with all: bits of the lads there are, and 32. */
    private static void cousinsOfNothingSeen() {
        for (int lads = 1; lads <= 5; lads++) {
            LotsBid x = Check.laid("m1;" + "l1,0;".repeat(lads));
            due("cousins of " + lads, x.cousins(), (1 << lads) - 1 + 32);
            x.seen(0, 1);
            due("cousins of nobody of " + lads, x.cousins(), 0);
        }
    }

    /** "0: nobody got him" */
    private static void cousinsByNobodyGotHim() {
        LotsBid one = oneMaster(1, BELOW, 1, 9);
        one.seen(0, 0);
        due("without the only one", one.cousins(), 1);
        LotsBid last = oneMaster(1, BELOW, 1, 0, 0, 0, 0, 9);
        last.seen(0, 0);
        due("without the last one", last.cousins(), 16);
        LotsBid two = oneMaster(1, BELOW, 1, 9, 9);
        two.seen(0, 0);
        due("another one gets him", two.cousins(), 0);
        LotsBid none = oneMaster(1, BELOW, 1, 0, 0);
        none.seen(0, 0);
        due("nobody anyway", none.cousins(), 35);
    }

    /** "as many years were paid at the most": by the lad of the most years, not by each. */
    private static void cousinsByTheMostYears() {
        LotsBid x = oneMaster(2, BELOW, 1, 3, 9, 3);
        // With all: 3 and 4; without any one of them both that are left serve a year.
        x.seen(0, 4);
        due("the most of two", x.cousins(), 32);
        x.forget();
        x.seen(0, 3);
        due("not the other one's", x.cousins(), 0);
        x.forget();
        x.seen(0, 1);
        due("without any one", x.cousins(), 7);
    }

    /** Each of the six counts, the first and the last. */
    private static void cousinsByEachSeen() {
        for (int wrong = 0; wrong < 6; wrong++) {
            LotsBid x = new LotsBid();
            for (int k = 0; k < 6; k++) {
                due("so far", x.cousins(), k > wrong ? 0 : k == 0 ? 35 : 32);
                x.seen(0, k == wrong ? 7 : 6);
            }
            due("one is not so", x.cousins(), 0);
        }
        LotsBid x = Check.laid("m1;m1;m1;l9,0;l8,0;l7,0;w0,0,3;w1,1,3;w2,2,3;");
        x.seen(0, 1);
        due("by master 0", x.cousins(), 32 + 6);
        x.seen(2, 0);
        due("by masters 0 and 2", x.cousins(), 4);
        x.seen(1, 1);
        due("by all three", x.cousins(), 4);
        x.seen(1, 0);
        due("by one too many", x.cousins(), 0);
    }

    /** "(he is IN nowhere)": he is away from every master, by each kind of calls. */
    private static void cousinsInNowhere() {
        // Lad 0 gets master 0, and would get master 1 if he were away from master 0 alone.
        for (int calls = BELOW; calls <= SEALED; calls++) {
            LotsBid x = Check.laid("m1;m1;l10,0;l4,0;w0,0,9;w0,1,9;w1,1,4;c" + calls + ";");
            x.seen(0, 0);
            x.seen(1, calls == BELOW ? 1 : 4);
            due("without lad 0, calls " + calls, x.cousins(), 1);
        }
    }

    private static void cousinsByTheLaws() {
        LotsBid x = Check.laid("m1;l9,0;l7,0;l4,0;w0,0,9;w1,0,7;w2,0,4;");
        x.seen(0, 7);
        due("below", x.cousins(), 0);
        x.calls(SEALED);
        due("sealed", x.cousins(), 1);
        x.calls(ABOVE);
        x.step(3);
        due("above by 3", x.cousins(), 32 + 1 + 2 + 4);
        x.limit(1, 6);
        due("another limit", x.cousins(), 32 + 2 + 4);
    }

    /** "the greatest p at which he was IN .. (0 if none)"; "one below the p at which he was IN no more (0, ..)" */
    private static void spanWhereHeWasIn() {
        int[][] from = {{0, 1, 2, 3, 4, 5, 6, 7, 8}, {0, 1, 1, 3, 3, 5, 5, 7, 7}, {0, 1, 1, 1, 4, 4, 4, 7, 7}};
        int[][] to = {{0, 1, 2, 3, 4, 5, 6, 7, 8}, {0, 2, 2, 4, 4, 6, 6, 8, 8}, {0, 3, 3, 3, 6, 6, 6, 9, 9}};
        for (int step = 1; step <= 3; step++) {
            for (int bound = 0; bound <= 8; bound++) {
                // The others drive it beyond 8 in any case.
                LotsBid x = oneMaster(1, BELOW, step, 10, 8, bound);
                span("step " + step + ", bound " + bound, x, 2, 0, from[step - 1][bound], to[step - 1][bound]);
            }
        }
    }

    /** "10, if he was IN at the last p": at 1, at a later one; who is out there has one below it. */
    private static void spanAtTheLastP() {
        LotsBid once = oneMaster(1, BELOW, 1, 4, 0);
        span("in at 1, the last", once, 0, 0, 1, 10);
        span("not in at 1", once, 1, 0, 0, 0);
        LotsBid x = oneMaster(2, BELOW, 1, 3, 9, 3);
        span("in at 4, the last", x, 1, 0, 4, 10);
        span("got him at the p ahead", x, 0, 0, 3, 3);
        span("got nobody", x, 2, 0, 3, 3);
        LotsBid alike = oneMaster(1, BELOW, 2, 6, 6);
        span("both out at 7, who gets him", alike, 0, 0, 5, 6);
        span("both out at 7, who does not", alike, 1, 0, 5, 6);
        LotsBid ten = oneMaster(1, BELOW, 3, 10, 9);
        span("in at 10, the last", ten, 0, 0, 10, 10);
        span("out at 10", ten, 1, 0, 7, 9);
    }

    /** "or had got another one ahead": he was in nowhere then; one that he gets behind does not matter. */
    private static void spanWhoHadGotAnother() {
        LotsBid x = Check.laid("m1;m1;m1;l9,0;l9,0;w0,1,9;w0,0,0;w0,2,9;w1,1,9;w1,2,5;");
        // Lad 0 gets master 1 for 9 years, lad 1 master 2 for a year.
        span("the one ahead of it", x, 0, 0, 0, 0);
        span("his own", x, 0, 1, 9, 9);
        span("the one behind", x, 0, 2, 0, 10);
        span("who gets one behind", x, 1, 1, 9, 9);
        span("who gets the last", x, 1, 2, 1, 10);
        // Whether he would have been in there or not.
        LotsBid nothing = Check.laid("m1;m1;l9,0;l9,0;l9,0;w0,0,9;w1,1,9;w2,1,9;w0,1,3;");
        span("a bound below the last p", nothing, 0, 1, 0, 10);
        nothing.limit(0, 1);
        span("a bound of 1", nothing, 0, 1, 0, 10);
        span("a bound of nothing", Check.laid("m1;m1;l9,0;w0,0,9;"), 0, 1, 0, 10);
    }

    /** "by THE FAIR from BELOW with the STEP": whatever the calls are. */
    private static void spanFromBelowAlways() {
        for (int calls = BELOW; calls <= SEALED; calls++) {
            LotsBid x = oneMaster(2, calls, 3, 9, 5, 5);
            span("calls " + calls, x, 0, 0, 7, 10);
            span("calls " + calls, x, 1, 0, 4, 6);
            x.step(1);
            span("calls " + calls + ", step 1", x, 0, 0, 6, 10);
            span("calls " + calls + ", step 1", x, 1, 0, 5, 5);
            due("the calls stay", x.count(2), calls);
        }
        // Sealed, lad 1 gets master 0; from below both are in at 7, none at 10, so lad 0 does.
        LotsBid ahead = Check.laid("m1;m1;l7,0;l8,0;w0,0,9;w1,0,9;w0,1,9;w1,1,9;c2;s3;");
        due("sealed, lad 1 gets master 0", ahead.lad(1, 2), 0);
        span("who had got another from below", ahead, 0, 1, 0, 10);
        span("who had not from below", ahead, 1, 1, 1, 10);
    }

    /** More are in at the last p up to 10 than there is room for: one below the p beyond it, by the words. */
    private static void spanBeyondTen() {
        int[] from = {10, 9, 10};
        int[] to = {10, 10, 12};
        for (int step = 1; step <= 3; step++) {
            LotsBid x = oneMaster(1, BELOW, step, 10, 10);
            span("step " + step, x, 0, 0, from[step - 1], to[step - 1]);
            span("step " + step, x, 1, 0, from[step - 1], to[step - 1]);
        }
    }

    private static int drawn(int z, int i, int m) {
        BigInteger x = BigInteger.valueOf(7919L * z + 6151L * i + 3571L * m + 1);
        return x.multiply(x).mod(BigInteger.valueOf(65521)).mod(BigInteger.valueOf(11)).intValue();
    }

    /** "by z (0 to 9999 ..": sealed, a lad alone serves as many years as he wants the first he wants at all by. */
    private static void yearByDraws() {
        for (int i = 0; i < 5; i++) {
            // The bound of a sick one of limit 1 is nothing, however much he wants.
            String others = "l1,1;".repeat(i) + "l10,0;" + "l1,1;".repeat(4 - i);
            LotsBid x = Check.laid("m1;m3;m2;c2;s2;" + others);
            for (int k = 0; k <= 100; k++) {
                int z = k == 100 ? 9999 : k * 101;
                int years = 0;
                for (int m = 0; m < 3 && years == 0; m++) {
                    years = drawn(z, i, m);
                }
                due("year(" + z + ", 0) of lad " + i, x.year(z, 0), years);
                due("year(" + z + ", 1) of lad " + i, x.year(z, 1), years == 0 ? 3 : 2);
            }
        }
        for (int z = 0; z <= 9999; z += 500) {
            LotsBid x = Check.laid("m1;l10,0;c2;");
            for (int k = z; k < z + 500; k++) {
                due("year(" + k + ", 0)", x.year(k, 0), drawn(k, 0, 0));
            }
        }
    }

    /** By the limits, kinds, calls and step as they stand, not by what the text tells of wants. */
    private static void yearByTheLaws() {
        int z = 0;
        while (drawn(z, 0, 0) != 10) {
            z++;
        }
        LotsBid x = Check.laid("m1;l10,0;w0,0,1;");
        due("below, alone", x.year(z, 0), 1);
        x.calls(ABOVE);
        due("above", x.year(z, 0), 10);
        x.limit(0, 9);
        due("above by a limit of 9", x.year(z, 0), 9);
        x.step(3);
        due("above by a step of 3", x.year(z, 0), 7);
        x.calls(SEALED);
        due("sealed", x.year(z, 0), 9);
        due("the sick one", Check.laid("m1;l10,1;c2;").year(z, 0), 5);
        due("the even one", Check.laid("m1;l9,3;c2;").year(z, 0), 8);
    }

    private static void yearMastersNobodyGets() {
        LotsBid none = Check.laid("m1;m1;m1;l1,1;w0,0,10;");
        due("nobody gets any", none.year(1, 1), 3);
        due("no years", none.year(1, 0), 0);
        int z = 0;
        while (someWantNothing(z)) {
            z++;
        }
        LotsBid all = Check.laid("m1;m1;m1;l10,0;l10,0;l10,0;c2;");
        due("each has one", all.year(z, 1), 0);
        LotsBid room = Check.laid("m3;m1;m1;l10,0;l10,0;l10,0;c2;");
        due("one has all", room.year(z, 1), 2);
        due("all years of one", room.year(z, 0), drawn(z, 0, 0) + drawn(z, 1, 0) + drawn(z, 2, 0));
    }

    private static boolean someWantNothing(int z) {
        int product = 1;
        for (int i = 0; i < 3; i++) {
            for (int m = 0; m < 3; m++) {
                product *= drawn(z, i, m) == 0 ? 0 : 1;
            }
        }
        return product == 0;
    }

    /** "(nothing changes by it)" of a year; nor by cousins, spans, counts. */
    private static void nothingChanges() {
        Twins.Make make = () -> {
            LotsBid x = Check.laid("m2;m1;l9,0;l4,1;l7,2;w0,0,9;w1,1,8;w2,0,7;c1;s2;");
            x.limit(0, 3);
            x.keep();
            x.calls(2);
            x.seen(0, 7);
            return x;
        };
        for (int what = 0; what <= 7; what++) {
            int asked = what;
            TWINS.unchanged("year", make, x -> x.year(9999 - asked, asked % 2));
            TWINS.unchanged("span", make, x -> x.span(asked % 3, asked % 2, asked / 4));
            TWINS.unchanged("count", make, x -> x.count(asked));
            TWINS.unchanged("lad", make, x -> x.lad(asked % 3, asked % 5));
            TWINS.unchanged("master", make, x -> x.master(asked % 2, asked % 3));
            TWINS.unchanged("wants", make, x -> x.wants(asked % 3, asked % 2, asked / 4));
            TWINS.unchanged("all", make, x -> x.all(asked % 3));
        }
        TWINS.unchanged("cousins", make, LotsBid::cousins);
    }

    /** Each count from its least to its most. */
    private static void counts() {
        int[] least = {1, 1, 0, 1, 0, 0, 0, 8};
        LotsBid x = Check.laid("m1;l1,0;");
        for (int what = 0; what < least.length; what++) {
            due("least count(" + what + ")", x.count(what), least[what]);
        }
        LotsBid y = Check.laid("m1;m1;m1;" + "l1,0;".repeat(5));
        for (int k = 0; k < 8; k++) {
            y.calls(2);
            y.step(3);
            y.seen(0, 0);
            y.keep();
        }
        for (int k = 0; k < 40; k++) {
            y.write(7, 0);
        }
        y.write(7, 0);
        int[] most = {3, 5, 2, 3, 6, 8, 2, 34 + 7 * 38};
        for (int what = 0; what < most.length; what++) {
            due("most count(" + what + ")", y.count(what), most[what]);
        }
    }

    /** "at most 512 calls": the last of them is answered as the first. */
    private static void fiveHundredAndTwelveCalls() {
        LotsBid x = new LotsBid();
        for (int k = 0; k < 500; k++) {
            due("limit", x.limit(0, 1 + k % 10), k == 0 ? 8 : 1 + (k - 1) % 10);
        }
        due("eight can be undone", x.count(5), 8);
        for (int left = 7; left >= 0; left--) {
            due("undo", x.undo(), left);
        }
        due("no more", x.undo(), NO);
        due("the fair", x.lad(1, 3), 3);
        due("the 512th", x.lad(0, 0), 2);
    }
}
