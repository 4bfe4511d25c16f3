/** The edges that part 3 of the document names (lies, games, years at rest, the joint way, pay): promises 14 to 18. */
public final class EdgeGameTest {
    private static final Check CHECK = new Check("EdgeGameTest");
    private static final Twins TWINS = new Twins(CHECK);
    private static final int NONE = -4;
    /** Sealed; whatever two lads say here, one of them would rather say another limit. */
    private static final String NO_REST = "m1;m1;l1,0;l9,3;w0,0,5;w1,0,9;w1,1,6;c2;";

    public static void main(String[] args) {
        lieOfLimitsOneToTen();
        lieTheLowest();
        lieTheOthersAsTheyAre();
        lieHowMuchMore();
        gameOfLimitsOneToTen();
        gameOfAll();
        gameOfNone();
        gameTheFirst();
        gameOfEachTwo();
        gameTheOthersAsTheyAre();
        restFromNoughtToTen();
        restWithJustAsMany();
        restNotLessThanNothing();
        restNoOtherMaster();
        restByWantsAlone();
        restLeastAndGreatest();
        restOfThree();
        jointNoneWithMoreThanOne();
        jointNoMoreThanRoom();
        jointTheFirst();
        jointNoneAsTheLast();
        jointByWantsAlone();
        payWithoutHim();
        payOfNobody();
        oneFairBehindAnother();
        nothingChanges();
        CHECK.close();
    }

    private static void due(String call, long got, long want) {
        CHECK.due(call, got, want);
    }

    private static void lie(String name, LotsBid x, int i, int limit, int more) {
        due(name + ": lie(" + i + ", 0)", x.lie(i, 0), limit);
        due(name + ": lie(" + i + ", 1)", x.lie(i, 1), more);
    }

    private static void game(String name, LotsBid x, int i, int j, int... due) {
        for (int what = 0; what < 3; what++) {
            due(name + ": game(" + i + ", " + j + ", " + what + ")", x.game(i, j, what), due[what]);
        }
    }

    private static void rest(String name, LotsBid x, boolean greatest, int... years) {
        int sum = 0;
        for (int m = 0; m < years.length; m++) {
            due(name + ": rest(" + m + ", " + greatest + ")", x.rest(m, greatest), years[m]);
            sum += years[m];
        }
        due(name + ": rest(-1, " + greatest + ")", x.rest(-1, greatest), sum);
    }

    private static void joint(String name, LotsBid x, int sum, int... masters) {
        due(name + ": joint(-1)", x.joint(-1), sum);
        for (int i = 0; i < masters.length; i++) {
            due(name + ": joint(" + i + ")", x.joint(i), masters[i]);
        }
    }

    private static void pays(String name, LotsBid x, int... due) {
        for (int i = 0; i < due.length; i++) {
            due(name + ": pay(" + i + ")", x.pay(i), due[i]);
        }
    }

    /** Lads of limit 1 who want the one master by what is told. */
    private static LotsBid oneMaster(int room, int... wants) {
        StringBuilder text = new StringBuilder("m" + room + ";");
        for (int i = 0; i < wants.length; i++) {
            text.append("l1,0;w").append(i).append(",0,").append(wants[i]).append(';');
        }
        return Check.laid(text.toString());
    }

    /** "of all LIMITS 1 to 10 that a LAD could say": the first and the last of them can be the best. */
    private static void lieOfLimitsOneToTen() {
        lie("sealed alone", Check.laid("m1;l10,0;w0,0,10;c2;"), 0, 1, 9);
        // The sick one outbids 4 only by 5, half of 10; for 1 to 9 he has nobody.
        lie("the sick one's 10", Check.laid("m1;l4,0;l1,1;w0,0,4;w1,0,10;c2;"), 1, 10, 5);
        lie("the even one's 10", Check.laid("m1;l1,3;l9,0;w0,0,10;w1,0,9;s2;"), 0, 10, 1);
        lie("the last lad", Check.laid("m1;l1,0;l1,0;l1,0;l3,0;l9,0;w3,0,3;w4,0,9;c2;"), 4, 4, 5);
    }

    /** "that by which his GAIN is greatest, the lowest" */
    private static void lieTheLowest() {
        lie("below alone: all alike", Check.laid("m1;l7,0;w0,0,9;"), 0, 1, 0);
        lie("nobody is wanted: all alike", Check.laid("m1;l7,0;"), 0, 1, 0);
        lie("2 and 3 are halved alike", Check.laid("m1;l9,1;w0,0,9;c2;"), 0, 2, 3);
        lie("above by 3: 4 to 6 alike", Check.laid("m1;l9,0;l5,0;w0,0,9;w1,0,5;c1;s3;"), 0, 4, 3);
        lie("no gain by any", Check.laid("m1;l10,0;l3,0;w0,0,10;w1,0,3;c2;"), 1, 1, 0);
        // By 10 he gets master 0 for all he is worth; by less another one does, and he has master 1 for a year.
        lie("the other master", Check.laid("m1;m1;l10,0;l9,0;w0,0,10;w0,1,9;w1,0,9;c2;"), 0, 1, 8);
    }

    private static void lieTheOthersAsTheyAre() {
        LotsBid x = new LotsBid();
        x.calls(2);
        for (int other = 1; other <= 5; other++) {
            x.limit(1, other);
            lie("the other says " + other, x, 0, other, 8 - other);
        }
    }

    /** "how much more that is than by the LIMIT he has": 0 at the least. */
    private static void lieHowMuchMore() {
        LotsBid x = Check.laid("m1;l10,0;w0,0,10;c2;");
        for (int limit = 1; limit <= 10; limit++) {
            x.limit(0, limit);
            lie("he says " + limit, x, 0, 1, limit - 1);
        }
    }

    /** "each says a LIMIT from 1 to 10" */
    private static void gameOfLimitsOneToTen() {
        // 8 or 9 and 7 or 8; 10 and 9 or 10.
        game("up to 10", Check.laid("m1;l1,3;l9,0;w0,0,10;w1,0,9;s2;"), 0, 1, 6, 8, 7);
        // Sealed, each has a master of his own: both say 1.
        game("down to 1", Check.laid("m1;m1;l9,0;l9,0;w0,0,9;w1,1,9;c2;"), 0, 1, 1, 1, 1);
        // Sealed, the sick one gets master 0 ahead of the 4 by 10 alone; the other one has his own by 1.
        game("just 10 and 1", Check.laid("m1;m1;l4,0;l1,1;l9,0;w0,0,4;w1,0,10;w2,1,9;c2;"), 1, 2, 1, 10, 1);
        game("just 1 and 10", Check.laid("m1;m1;l4,0;l1,1;l9,0;w0,0,4;w1,0,10;w2,1,9;c2;"), 2, 1, 1, 1, 10);
    }

    private static void gameOfAll() {
        game("room for both", Check.laid("m2;l3,0;l4,0;w0,0,5;w1,0,5;"), 0, 1, 100, 1, 1);
        game("nobody is wanted", Check.laid("m1;l3,0;l4,0;"), 1, 0, 100, 1, 1);
    }

    /** "NONE": how many there are is 0 then, but there is no first one. */
    private static void gameOfNone() {
        LotsBid x = Check.laid(NO_REST);
        game("no rest", x, 0, 1, 0, NONE, NONE);
        game("no rest, turned", x, 1, 0, 0, NONE, NONE);
        // The first one's limits of an earlier game are not answered.
        x.calls(0);
        CHECK.holds("a rest from below", x.game(0, 1, 0) > 0);
        x.calls(2);
        game("no rest again", x, 0, 1, 0, NONE, NONE);
    }

    /** "those of the first (by the first LAD's, then the other one's)" */
    private static void gameTheFirst() {
        // The even one's 8, 9, 10 with any limit of lad 0's; his 1 with 7 to 10 of lad 0's, whom he outbids by 8 only.
        LotsBid x = Check.laid("m1;l6,0;l8,3;w0,0,7;w1,0,8;");
        game("by lad 0, then lad 1", x, 0, 1, 34, 1, 8);
        game("by lad 1, then lad 0", x, 1, 0, 34, 1, 7);
        // Sealed: 3 and 4, 4 to 10 and 5.
        LotsBid sealed = Check.laid("m1;l1,0;l9,0;w0,0,4;w1,0,9;c2;");
        game("sealed", sealed, 0, 1, 8, 3, 4);
        game("sealed, turned", sealed, 1, 0, 8, 4, 3);
    }

    /** Any two of five: what they gain is their own. */
    private static void gameOfEachTwo() {
        StringBuilder text = new StringBuilder("m2;m2;m1;c2;");
        for (int i = 0; i < 5; i++) {
            text.append("l9,0;w").append(i).append(',').append(i / 2).append(",9;");
        }
        LotsBid x = Check.laid(text.toString());
        for (int i = 0; i < 5; i++) {
            for (int j = 0; j < 5; j++) {
                if (i != j) {
                    game("each has his own", x, i, j, 1, 1, 1);
                }
            }
        }
    }

    private static void gameTheOthersAsTheyAre() {
        LotsBid x = Check.laid("m1;l5,0;l5,0;l9,0;w0,0,5;w1,0,5;w2,0,9;c2;");
        game("the third one outbids both", x, 0, 1, 100, 1, 1);
        // He bids 1: 4 and 4; 5 or more of lad 1 with 4 or more of lad 0, for nobody gains then.
        x.limit(2, 1);
        game("the third one bids 1", x, 0, 1, 43, 4, 4);
        x.limit(0, 1);
        x.limit(1, 10);
        game("what the two say now does not count", x, 0, 1, 43, 4, 4);
    }

    /** "a number from 0 to 10" */
    private static void restFromNoughtToTen() {
        for (int want = 0; want <= 10; want++) {
            rest("one wants by " + want, oneMaster(1, want), false, 0);
            rest("one wants by " + want, oneMaster(1, want), true, want);
            rest("two want by " + want, oneMaster(1, want, want), false, want);
            rest("two want by " + want, oneMaster(1, want, want), true, want);
        }
        LotsBid three = Check.laid("m1;m1;m1;l1,0;l1,0;l1,0;w0,0,10;w1,1,10;w2,2,10;");
        rest("three by ten", three, false, 0, 0, 0);
        rest("three by ten", three, true, 10, 10, 10);
    }

    /** "each of more than 0 years with just as many" */
    private static void restWithJustAsMany() {
        rest("one of two", oneMaster(2, 10), true, 0);
        rest("two of two", oneMaster(2, 10, 10), true, 10);
        rest("two of three", oneMaster(3, 10, 10), true, 0);
        rest("three of three", oneMaster(3, 10, 10, 10), true, 10);
        rest("three of three", oneMaster(3, 10, 10, 10), false, 0);
        rest("nobody of one, he costs nothing", Check.laid("m1;m1;l1,0;w0,0,5;"), true, 5, 0);
        // Room for six, five lads: one master has room left and costs nothing, so the other one costs 5 just.
        LotsBid six = Check.laid("m3;m3;l1,0;l1,0;l1,0;l1,0;l1,0;w0,0,10;w1,0,10;w2,0,10;w3,0,10;w4,0,10;"
            + "w0,1,5;w1,1,5;w2,1,5;w3,1,5;w4,1,5;");
        rest("five for six", six, false, 5, 0);
        rest("five for six", six, true, 5, 0);
    }

    /** "nor less than 0": who has one, and who has none. */
    private static void restNotLessThanNothing() {
        rest("the lower of two", oneMaster(2, 10, 4), true, 4);
        rest("the lower of two", oneMaster(2, 10, 4), false, 0);
        rest("the third one stays out", oneMaster(2, 10, 4, 3), false, 3);
        rest("the third one stays out", oneMaster(2, 10, 4, 3), true, 4);
        rest("the lowest of three", oneMaster(3, 1, 9, 9), true, 1);
        rest("one wants by nothing", oneMaster(2, 9, 0), true, 0);
    }

    /** "so that no LAD would have more of W less years with another MASTER" */
    private static void restNoOtherMaster() {
        LotsBid tied = Check.laid("m1;m1;l1,0;l1,0;w0,0,10;w0,1,2;w1,0,8;");
        rest("8 and 0 alone", tied, false, 8, 0);
        rest("8 and 0 alone", tied, true, 8, 0);
        LotsBid alike = Check.laid("m1;m1;l1,0;l1,0;l1,0;w0,0,6;w0,1,6;w1,0,6;w1,1,6;w2,0,6;w2,1,6;");
        rest("three for two alike", alike, false, 6, 6);
        LotsBid two = Check.laid("m1;m1;l1,0;l1,0;w0,0,7;w0,1,4;w1,0,9;w1,1,3;");
        rest("two for two", two, false, 3, 0);
        rest("two for two", two, true, 9, 4);
    }

    /** W counts, not limits, kinds or calls. */
    private static void restByWantsAlone() {
        for (int kind = 0; kind <= 3; kind++) {
            for (int calls = 0; calls <= 2; calls++) {
                LotsBid x = Check.laid("m1;l1," + kind + ";l10," + kind + ";w0,0,9;w1,0,4;s3;c" + calls + ";");
                rest("kind " + kind, x, false, 4);
                rest("kind " + kind, x, true, 9);
            }
        }
    }

    private static void restLeastAndGreatest() {
        LotsBid x = new LotsBid();
        rest("at first", x, false, 6);
        rest("at first", x, true, 9);
        rest("least again behind greatest", x, false, 6);
    }

    /** The years of the third master count as those of the first. */
    private static void restOfThree() {
        LotsBid x = Check.laid("m1;m1;m1;l1,0;l1,0;l1,0;l1,0;l1,0;w0,0,9;w1,1,8;w2,2,7;w3,2,5;w4,1,1;w4,2,6;");
        rest("three masters", x, false, 0, 1, 6);
        rest("three masters", x, true, 9, 8, 7);
    }

    private static void jointNoneWithMoreThanOne() {
        joint("one lad, three masters", Check.laid("m1;m1;m1;l1,0;w0,0,5;w0,1,9;w0,2,7;"), 9, 1);
        joint("the last master", Check.laid("m1;m1;m1;l1,0;w0,0,5;w0,1,6;w0,2,7;"), 7, 2);
    }

    private static void jointNoMoreThanRoom() {
        joint("room for one", oneMaster(1, 2, 3), 3, NONE, 0);
        joint("room for two", oneMaster(2, 2, 1, 3), 5, 0, NONE, 0);
        joint("room for three", oneMaster(3, 1, 2, 3, 4), 9, NONE, 0, 0, 0);
        joint("five for three", oneMaster(3, 10, 10, 10, 10, 10), 30, 0, 0, 0, NONE, NONE);
        joint("three rooms of one", Check.laid("m1;m1;m1;l1,0;l1,0;l1,0;l1,0;l1,0;w0,0,1;w1,0,2;w2,1,3;w3,1,2;w4,2,1;"),
            6, NONE, 0, 1, NONE, 2);
        joint("the greatest sum", Check.laid("m2;m2;m1;l1,0;l1,0;l1,0;l1,0;l1,0;"
            + "w0,0,10;w1,0,10;w2,1,10;w3,1,10;w4,2,10;"), 50, 0, 0, 1, 1, 2);
    }

    /** "of several the first (by the MASTER of LAD 0, .., then 1, ..)" */
    private static void jointTheFirst() {
        joint("alike", Check.laid("m1;m1;l1,0;l1,0;w0,0,5;w0,1,5;w1,0,5;w1,1,5;"), 10, 0, 1);
        joint("3 and 4 or 5 and 2", Check.laid("m1;m1;l1,0;l1,0;w0,0,3;w0,1,5;w1,0,2;w1,1,4;"), 7, 0, 1);
        joint("the lowest lad of two", oneMaster(1, 6, 6), 6, 0, NONE);
        joint("by lad 0 ahead of lad 1",
            Check.laid("m1;m1;l1,0;l1,0;l1,0;w0,0,4;w0,1,4;w1,0,4;w1,1,4;w2,0,4;w2,1,4;"), 8, 0, 1, NONE);
        joint("one more is not alike", Check.laid("m1;m1;l1,0;l1,0;w0,0,3;w0,1,5;w1,0,3;w1,1,4;"), 8, 1, 0);
    }

    /** "none as the last": who wants nobody has one all the same, as long as nobody loses by it. */
    private static void jointNoneAsTheLast() {
        joint("nothing is wanted", Check.laid("m1;m1;m1;l1,0;l1,0;l1,0;l1,0;"), 0, 0, 1, 2, NONE);
        joint("nothing is wanted, more room", Check.laid("m2;m3;l1,0;l1,0;l1,0;l1,0;l1,0;"), 0, 0, 0, 1, 1, 1);
        joint("another one wants him", oneMaster(1, 0, 1), 1, NONE, 0);
        joint("another one wants one of them", Check.laid("m1;m1;l1,0;l1,0;w1,0,1;"), 1, 1, 0);
    }

    private static void jointByWantsAlone() {
        for (int kind = 0; kind <= 3; kind++) {
            LotsBid x = Check.laid("m1;l1," + kind + ";l10,0;w0,0,4;w1,0,3;c1;s3;");
            joint("kind " + kind, x, 4, 0, NONE);
            pays("kind " + kind, x, 3, 0);
        }
    }

    /** "the greatest sum there would be without him, less that of the others in this one" */
    private static void payWithoutHim() {
        pays("the next one's", oneMaster(1, 9, 6), 6, 0);
        pays("alike", oneMaster(1, 10, 10), 10, 0);
        pays("alone", oneMaster(1, 10), 0);
        pays("two of three", oneMaster(2, 9, 5, 4), 4, 4, 0);
        pays("three of five", oneMaster(3, 1, 2, 3, 4, 5), 0, 0, 2, 2, 2);
        // Without lad 0 the last one gets master 0; without lad 1 lad 0 gets master 1, the last one master 0.
        pays("one behind the other", Check.laid("m1;m1;l1,0;l1,0;l1,0;w0,0,6;w0,1,5;w1,1,9;w2,0,4;"), 4, 3, 0);
    }

    private static void payOfNobody() {
        pays("room is left", oneMaster(3, 9, 8), 0, 0);
        pays("nothing is wanted", oneMaster(1, 0, 0), 0, 0);
        pays("who has none", oneMaster(1, 1, 2, 3, 4, 5), 0, 0, 0, 0, 4);
    }

    private static void layAnew(LotsBid x, String text) {
        x.wipe();
        Check.writeText(x, text);
        x.lay();
    }

    /** What was found for an earlier, larger fair does not count for the next one. */
    private static void oneFairBehindAnother() {
        String large = "m3;m3;m3;l9,0;l9,0;l9,0;l9,0;l9,0;w0,0,10;w1,0,10;w2,1,10;w3,1,10;w4,2,10;";
        LotsBid x = Check.laid(large);
        rest("the large one", x, false, 0, 0, 0);
        joint("the large one", x, 50, 0, 0, 1, 1, 2);
        layAnew(x, "m1;l1,0;l1,0;w0,0,6;w1,0,6;");
        rest("least, more than ahead", x, false, 6);
        joint("the first of two, behind five", x, 6, 0, NONE);
        pays("behind five", x, 6, 0);
        layAnew(x, "m1;m1;l1,0;l1,0;w0,0,5;w0,1,5;w1,0,5;w1,1,5;");
        joint("the first of two ways", x, 10, 0, 1);
        rest("greatest", x, true, 5, 5);
        layAnew(x, "m1;l1,0;w0,0,2;");
        rest("greatest, less than ahead", x, true, 2);
        lie("alone", x, 0, 1, 0);
        layAnew(x, large);
        rest("the large one again", x, false, 0, 0, 0);
        game("the large one", x, 4, 0, 100, 1, 1);
    }

    /** To ask for lies, games, years at rest, the joint way or pay changes nothing. */
    private static void nothingChanges() {
        Twins.Make make = () -> {
            LotsBid x = Check.laid(NO_REST);
            x.limit(0, 7);
            x.keep();
            x.step(2);
            x.seen(0, 6);
            return x;
        };
        for (int what = 0; what <= 2; what++) {
            int asked = what;
            TWINS.unchanged("lie", make, x -> x.lie(1, asked % 2));
            TWINS.unchanged("game", make, x -> x.game(1, 0, asked));
            TWINS.unchanged("rest", make, x -> x.rest(asked - 1, asked == 1));
            TWINS.unchanged("joint", make, x -> x.joint(asked - 1));
            TWINS.unchanged("pay", make, x -> x.pay(asked % 2));
        }
    }
}
