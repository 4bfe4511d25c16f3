/** The edges that part 2 of the document names (bounds, the fair by each kind of calls, gains): promises 6 to 9. */
public final class EdgeFairTest {
    private static final Check CHECK = new Check("EdgeFairTest");
    private static final int NONE = -4;
    private static final int BELOW = 0, ABOVE = 1, SEALED = 2;
    /** In rows of years: this lad gets nobody. */
    private static final int OUT = 0;

    public static void main(String[] args) {
        plainBounds();
        sickBounds();
        proudBounds();
        evenBounds();
        boundsOfEach();
        masterNoughtFirst();
        inNoMore();
        inAtJustHisBound();
        belowAtOnce();
        belowTillNoMoreThanRoom();
        belowBySteps();
        belowAtThePAhead();
        belowBeyondTen();
        aboveFromTen();
        aboveToOne();
        aboveAsLongAsThereIsRoom();
        sealedGreatest();
        sealedOneOrMore();
        sealedTheNext();
        kindsAtTheFair();
        gains();
        bitsAndMostYears();
        sumsOfAll();
        CHECK.close();
    }

    private static void due(String call, long got, long want) {
        CHECK.due(call, got, want);
    }

    /** One master; each lad's bound as told (his limit is 10, he wants by it). */
    private static LotsBid oneMaster(int room, int calls, int step, int... bounds) {
        StringBuilder text = new StringBuilder("m" + room + ";c" + calls + ";s" + step + ";");
        for (int i = 0; i < bounds.length; i++) {
            text.append("l10,0;w").append(i).append(",0,").append(bounds[i]).append(';');
        }
        return Check.laid(text.toString());
    }

    /** With one master: each lad's years; who has OUT gets nobody. */
    private static void years(String name, LotsBid x, int... years) {
        int bits = 0;
        int most = 0;
        int sum = 0;
        for (int i = 0; i < years.length; i++) {
            due(name + ", years of " + i, x.lad(i, 3), years[i]);
            due(name + ", master of " + i, x.lad(i, 2), years[i] == OUT ? NONE : 0);
            bits |= years[i] == OUT ? 0 : 1 << i;
            most = Math.max(most, years[i]);
            sum += years[i];
        }
        due(name + ", lads", x.master(0, 1), bits);
        due(name + ", most years", x.master(0, 2), most);
        due(name + ", all years", x.all(0), sum);
        due(name + ", all lads", x.all(2), Integer.bitCount(bits));
    }

    private static void has(String name, LotsBid x, int i, int master, int years) {
        due(name + ", master of " + i, x.lad(i, 2), master);
        due(name + ", years of " + i, x.lad(i, 3), years);
    }

    private static int boundOf(int kind, int limit, int want) {
        return Check.laid("m1;l" + limit + "," + kind + ";w0,0," + want + ";").wants(0, 0, 1);
    }

    /** "a PLAIN one's is the less of W and L" */
    private static void plainBounds() {
        for (int limit = 1; limit <= 10; limit++) {
            for (int want = 0; want <= 10; want++) {
                due("plain " + limit + ", " + want, boundOf(0, limit, want), want < limit ? want : limit);
            }
        }
    }

    /** "a SICK one's half of that, cut" */
    private static void sickBounds() {
        int[] half = {0, 0, 1, 1, 2, 2, 3, 3, 4, 4, 5};
        for (int less = 0; less <= 10; less++) {
            due("sick by W " + less, boundOf(1, 10, less), half[less]);
            if (less >= 1) {
                due("sick by L " + less, boundOf(1, less, 10), half[less]);
            }
        }
    }

    /** "a PROUD one's that, if W is 5 or more, else 0": by W alone, not by his limit. */
    private static void proudBounds() {
        for (int want = 0; want <= 10; want++) {
            due("proud by W " + want, boundOf(2, 10, want), want >= 5 ? want : 0);
        }
        for (int limit = 1; limit <= 10; limit++) {
            due("proud by L " + limit + " at W 4", boundOf(2, limit, 4), 0);
            due("proud by L " + limit + " at W 5", boundOf(2, limit, 5), Math.min(limit, 5));
            due("proud by L " + limit + " at W 10", boundOf(2, limit, 10), limit);
        }
    }

    /** "an EVEN one's that, or one less, if it is odd" */
    private static void evenBounds() {
        int[] even = {0, 0, 2, 2, 4, 4, 6, 6, 8, 8, 10};
        for (int less = 0; less <= 10; less++) {
            due("even by W " + less, boundOf(3, 10, less), even[less]);
            if (less >= 1) {
                due("even by L " + less, boundOf(3, less, 10), even[less]);
            }
        }
    }

    /** Each lad's own, for each master, by the limit he has now. */
    private static void boundsOfEach() {
        LotsBid x = Check.laid("m1;m1;m1;l3,0;l10,1;l9,2;l9,3;l1,0;w0,2,9;w1,1,9;w2,0,5;w2,1,4;w3,0,7;w4,2,1;");
        int[][] bounds = {{0, 0, 3}, {0, 4, 0}, {5, 0, 0}, {6, 0, 0}, {0, 0, 1}};
        for (int i = 0; i < 5; i++) {
            for (int m = 0; m < 3; m++) {
                due("bound of " + i + " for " + m, x.wants(i, m, 1), bounds[i][m]);
            }
        }
        x.limit(0, 10);
        x.limit(3, 1);
        due("by the new limit", x.wants(0, 2, 1), 9);
        due("W is as it was", x.wants(0, 2, 0), 9);
        due("even by a limit of one", x.wants(3, 0, 1), 0);
    }

    /** "MASTERS are called, 0 first": he gets the first he bids for, though he wants the next one more. */
    private static void masterNoughtFirst() {
        for (int calls = BELOW; calls <= SEALED; calls++) {
            LotsBid x = Check.laid("m1;m1;m1;l10,0;w0,1,1;w0,2,9;c" + calls + ";");
            has("the first he bids for, calls " + calls, x, 0, 1, 1);
            due("nobody has the one ahead", x.master(0, 1), 0);
            due("nobody has the one behind", x.master(2, 1), 0);
        }
    }

    /** "who has got one is IN no more": neither gets he another, nor drives he the years up. */
    private static void inNoMore() {
        String text = "m1;m1;m1;l9,0;l5,0;l3,0;w0,0,9;w0,1,9;w0,2,9;w1,0,9;w1,1,9;w1,2,9;w2,0,9;w2,1,9;w2,2,9;c";
        LotsBid below = Check.laid(text + "0;");
        has("below", below, 0, 0, 6);
        has("below", below, 1, 1, 4);
        has("below", below, 2, 2, 1);
        LotsBid above = Check.laid(text + "1;");
        has("above", above, 0, 0, 9);
        has("above", above, 1, 1, 5);
        has("above", above, 2, 2, 3);
        LotsBid sealed = Check.laid(text + "2;");
        has("sealed", sealed, 0, 0, 9);
        has("sealed", sealed, 1, 1, 5);
        has("sealed", sealed, 2, 2, 3);
        // Lad 1 gets master 0 only behind the others at the p ahead, and is in no more all the same.
        LotsBid behind = Check.laid("m2;m1;l9,0;l5,0;l5,0;w0,0,9;w1,0,9;w2,0,9;w1,1,9;w2,1,9;");
        has("the p ahead", behind, 1, 0, 5);
        has("the p ahead", behind, 2, 1, 1);
    }

    /** "whose BOUND for the one called is p or more" */
    private static void inAtJustHisBound() {
        for (int p = 1; p <= 9; p++) {
            years("both in at " + p, oneMaster(1, BELOW, 1, p, p), p, OUT);
            years("one in at " + (p + 1), oneMaster(1, BELOW, 1, p, p + 1), OUT, p + 1);
            years("in at " + p + " from above", oneMaster(1, ABOVE, 1, p), p);
        }
    }

    /** "p is 1": as many as there is room for, or fewer, have him for a year; nobody without one. */
    private static void belowAtOnce() {
        for (int step = 1; step <= 3; step++) {
            years("one of one", oneMaster(1, BELOW, step, 10), 1);
            years("two of two", oneMaster(2, BELOW, step, 10, 1), 1, 1);
            years("three of three", oneMaster(3, BELOW, step, 1, 10, 10), 1, 1, 1);
            years("one of three", oneMaster(3, BELOW, step, 4), 1);
            years("none of one", oneMaster(1, BELOW, step, 0), OUT);
            years("none of three", oneMaster(3, BELOW, step, 0, 0, 0, 0, 0), OUT, OUT, OUT, OUT, OUT);
            // No p is ahead of 1: who was not in gets nobody though there is room.
            years("two of three, bounds of nothing", oneMaster(3, BELOW, step, 0, 9, 0, 9, 0), OUT, 1, OUT, 1, OUT);
        }
    }

    /** "till first no more are IN than there is room for": one more than room goes on, as many do not. */
    private static void belowTillNoMoreThanRoom() {
        years("one too many for one", oneMaster(1, BELOW, 1, 3, 9), OUT, 4);
        years("one too many for two", oneMaster(2, BELOW, 1, 9, 3, 9), 4, OUT, 4);
        years("one too many for three", oneMaster(3, BELOW, 1, 9, 9, 3, 9), 4, 4, OUT, 4);
        years("four too many for one", oneMaster(1, BELOW, 1, 2, 4, 6, 8, 7), OUT, OUT, OUT, 8, OUT);
        years("two too many for three", oneMaster(3, BELOW, 1, 10, 1, 2, 10, 10), 3, OUT, OUT, 3, 3);
        years("they are in no more at one", oneMaster(1, BELOW, 1, 0, 7, 0), OUT, 1, OUT);
    }

    /** "then S more each time": for one above the lower bound, or the next p that is called. */
    private static void belowBySteps() {
        int[][] paid = {{2, 3, 4, 5, 6, 7, 8, 9, 10}, {3, 3, 5, 5, 7, 7, 9, 9}, {4, 4, 4, 7, 7, 7, 10, 10, 10}};
        for (int step = 1; step <= 3; step++) {
            for (int lower = 1; lower <= paid[step - 1].length; lower++) {
                years("step " + step + ", lower " + lower, oneMaster(1, BELOW, step, lower, 10), OUT,
                    paid[step - 1][lower - 1]);
            }
        }
        // By steps of 2, 9 is called, then 11: both are in at 9, none at 11.
        years("step 2, lower 9", oneMaster(1, BELOW, 2, 9, 10), 9, OUT);
    }

    /** "the lowest of those who were IN at the p ahead .., but are not now, get him for that one" */
    private static void belowAtThePAhead() {
        years("one now, the lowest ahead", oneMaster(2, BELOW, 1, 3, 9, 3), 3, 4, OUT);
        years("one now, two ahead", oneMaster(3, BELOW, 1, 3, 3, 9, 3), 3, 3, 4, OUT);
        years("two now, one ahead", oneMaster(3, BELOW, 1, 9, 5, 5, 9, 5), 6, 5, OUT, 6, OUT);
        years("none now, as many ahead as there is room", oneMaster(2, BELOW, 1, 4, 4, 4), 4, 4, OUT);
        years("none now, five ahead", oneMaster(3, BELOW, 1, 6, 6, 6, 6, 6), 6, 6, 6, OUT, OUT);
        years("not who was out ahead of that", oneMaster(2, BELOW, 1, 1, 5, 5, 5), OUT, 5, 5, OUT);
        years("no room is left", oneMaster(2, BELOW, 1, 3, 9, 9), OUT, 4, 4);
        years("by steps of 3", oneMaster(2, BELOW, 3, 5, 9, 6), 4, 7, OUT);
        years("by steps of 2", oneMaster(2, BELOW, 2, 2, 4, 9, 3), OUT, 3, 5, OUT);
    }

    /** From below p goes on as long as more are in than there is room for: beyond 10 nobody is. */
    private static void belowBeyondTen() {
        int[] last = {10, 9, 10};
        for (int step = 1; step <= 3; step++) {
            int p = last[step - 1];
            years("two at ten, step " + step, oneMaster(1, BELOW, step, 10, 10), p, OUT);
            years("five at ten, step " + step, oneMaster(3, BELOW, step, 10, 10, 10, 10, 10), p, p, p, OUT, OUT);
        }
        years("one at ten, one at nine", oneMaster(1, BELOW, 1, 9, 10), OUT, 10);
    }

    /** "p is 10, then S less each time": what a lad alone serves by each bound. */
    private static void aboveFromTen() {
        int[][] paid = {{0, 1, 2, 3, 4, 5, 6, 7, 8, 9, 10}, {0, 0, 2, 2, 4, 4, 6, 6, 8, 8, 10},
            {0, 1, 1, 1, 4, 4, 4, 7, 7, 7, 10}};
        for (int step = 1; step <= 3; step++) {
            for (int bound = 0; bound <= 10; bound++) {
                years("from above, step " + step + ", bound " + bound, oneMaster(1, ABOVE, step, bound),
                    paid[step - 1][bound]);
            }
        }
    }

    /** "as long as it is 1 or more": 1 is called by steps of 1 and 3; 0 is not by steps of 2. */
    private static void aboveToOne() {
        years("called at 1", oneMaster(1, ABOVE, 1, 0, 1), OUT, 1);
        years("not called at 1", oneMaster(1, ABOVE, 2, 0, 1), OUT, OUT);
        years("called at 1 by 3", oneMaster(1, ABOVE, 3, 0, 1), OUT, 1);
        years("nobody is in at 0", oneMaster(3, ABOVE, 2, 0, 0, 0), OUT, OUT, OUT);
    }

    /** "the lowest of those IN get him for p years, as long as there is room" */
    private static void aboveAsLongAsThereIsRoom() {
        years("the lowest of two", oneMaster(1, ABOVE, 1, 6, 6), 6, OUT);
        years("the greatest, not the lowest", oneMaster(1, ABOVE, 1, 5, 6), OUT, 6);
        years("alike by the step, the lowest", oneMaster(1, ABOVE, 3, 7, 9), 7, OUT);
        years("two of three at one p", oneMaster(2, ABOVE, 1, 8, 8, 8), 8, 8, OUT);
        years("one, then the lowest of two", oneMaster(2, ABOVE, 1, 3, 9, 3), 3, 9, OUT);
        years("three at three p", oneMaster(3, ABOVE, 1, 2, 9, 1, 5), 2, 9, OUT, 5);
        years("five for three at 10", oneMaster(3, ABOVE, 2, 10, 10, 10, 10, 10), 10, 10, 10, OUT, OUT);
        years("room is left", oneMaster(3, ABOVE, 1, 0, 4, 0), OUT, 4, OUT);
    }

    /** "whose BOUND is greatest .. (the lowest of several), gets him for as many years": by any step. */
    private static void sealedGreatest() {
        for (int step = 1; step <= 3; step++) {
            for (int bound = 1; bound <= 10; bound++) {
                years("sealed " + bound, oneMaster(1, SEALED, step, bound), bound);
                years("sealed alike " + bound, oneMaster(1, SEALED, step, bound, bound), bound, OUT);
                years("sealed, one less " + bound, oneMaster(1, SEALED, step, bound - 1, bound), OUT, bound);
            }
        }
    }

    private static void sealedOneOrMore() {
        years("a bound of 0", oneMaster(1, SEALED, 1, 0), OUT);
        years("a bound of 1", oneMaster(1, SEALED, 1, 0, 1), OUT, 1);
        years("bounds of 0 with room left", oneMaster(3, SEALED, 1, 0, 1, 0, 0), OUT, 1, OUT, OUT);
        years("nobody", oneMaster(3, SEALED, 1, 0, 0, 0, 0, 0), OUT, OUT, OUT, OUT, OUT);
    }

    /** "then the next, as long as there is room" */
    private static void sealedTheNext() {
        years("two of three", oneMaster(2, SEALED, 1, 4, 2, 7), 4, OUT, 7);
        years("two alike, then none", oneMaster(2, SEALED, 1, 4, 7, 7), OUT, 7, 7);
        years("one, then the lowest", oneMaster(2, SEALED, 1, 4, 7, 4), 4, 7, OUT);
        years("three of five", oneMaster(3, SEALED, 1, 1, 2, 3, 4, 5), OUT, OUT, 3, 4, 5);
        years("five alike for three", oneMaster(3, SEALED, 3, 10, 10, 10, 10, 10), 10, 10, 10, OUT, OUT);
        years("just as many", oneMaster(2, SEALED, 1, 9, 1), 9, 1);
    }

    /** It is the bound that bids, not the limit: the sick, the proud, the even one at each kind of calls. */
    private static void kindsAtTheFair() {
        String text = "m1;l9,1;l9,2;l9,3;l3,0;w0,0,9;w1,0,4;w2,0,3;w3,0,9;c";
        // Bounds 4, 0, 2, 3.
        years("kinds below", Check.laid(text + "0;"), 4, OUT, OUT, OUT);
        years("kinds above", Check.laid(text + "1;"), 4, OUT, OUT, OUT);
        years("kinds sealed", Check.laid(text + "2;"), 4, OUT, OUT, OUT);
        LotsBid x = Check.laid("m3;l1,1;l1,3;l10,2;w0,0,10;w1,0,10;w2,0,4;");
        for (int calls = BELOW; calls <= SEALED; calls++) {
            x.calls(calls);
            years("bounds of nothing, calls " + calls, x, OUT, OUT, OUT);
        }
    }

    /** "by how much he wants whom he has got, less his years; 0 if he has got none": W, not his bound. */
    private static void gains() {
        LotsBid x = Check.laid("m1;m1;l4,0;l10,1;l10,0;w0,0,10;w1,1,9;w2,0,3;w2,1,0;c2;");
        due("W less years", x.lad(0, 4), 6);
        due("the sick one's W, not half", x.lad(1, 4), 5);
        due("nobody, though he wants one", x.lad(2, 4), 0);
        due("all gains", x.all(1), 11);
        LotsBid nothing = oneMaster(1, SEALED, 1, 7);
        due("no gain by as many years", nothing.lad(0, 4), 0);
        due("a master all the same", nothing.lad(0, 2), 0);
        LotsBid most = oneMaster(1, BELOW, 1, 10);
        due("the greatest gain", most.lad(0, 4), 9);
        LotsBid none = oneMaster(1, BELOW, 1, 0);
        due("no gain without", none.lad(0, 4), 0);
    }

    private static void bitsAndMostYears() {
        LotsBid x = oneMaster(3, SEALED, 1, 0, 0, 7, 3, 5);
        due("bits of the last three", x.master(0, 1), 28);
        due("the most of three", x.master(0, 2), 7);
        LotsBid last = oneMaster(2, BELOW, 1, 3, 3, 3, 3, 9);
        due("the most is not the first lad's", last.master(0, 2), 4);
        due("bits of the first and the last", last.master(0, 1), 17);
        LotsBid nobody = oneMaster(3, ABOVE, 1, 0);
        due("no bits", nobody.master(0, 1), 0);
        due("no years", nobody.master(0, 2), 0);
        due("room stays as told", x.master(0, 0), 3);
    }

    private static void sumsOfAll() {
        StringBuilder text = new StringBuilder("m2;m2;m1;");
        for (int i = 0; i < 5; i++) {
            text.append("l10,0;w").append(i).append(',').append(i / 2).append(",10;");
        }
        LotsBid x = Check.laid(text.toString());
        due("the least years of five", x.all(0), 5);
        due("the greatest gains of five", x.all(1), 45);
        due("five lads", x.all(2), 5);
        x.calls(SEALED);
        due("the most years of five", x.all(0), 50);
        due("no gains of five", x.all(1), 0);
        due("still five lads", x.all(2), 5);
        LotsBid none = Check.laid("m1;l10,0;");
        for (int what = 0; what <= 2; what++) {
            due("all(" + what + ") of nobody", none.all(what), 0);
        }
    }
}
