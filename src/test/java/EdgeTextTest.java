/** The edges that part 1 of the document names (the text, its items, the fault, what is laid): promises 1 to 5. */
public final class EdgeTextTest {
    private static final Check CHECK = new Check("EdgeTextTest");
    private static final Twins TWINS = new Twins(CHECK);
    private static final int NO = -2, FULL = -3, NONE = -4;
    private static final int MOST_BYTES = 300;

    /** One of each letter, each right behind m1;l1,0; (8 bytes). */
    private static final String AHEAD = "m1;l1,0;";
    private static final String[] ITEMS = {"m1;", "l1,1;", "w0,0,1;", "c1;", "s1;"};

    public static void main(String[] args) {
        atFirst();
        lowestBytesHighestFirst();
        threeHundredBytes();
        wipedFromFull();
        readToTheLastByte();
        letters();
        howManyNumbers();
        figures();
        howManyFigures();
        signsBetween();
        behindTheLastOneToo();
        rooms();
        threeMasters();
        limitsAndKinds();
        fiveLads();
        toldAhead();
        wantedBy();
        wantedByWithout();
        lastWantOfEach();
        kindsOfCalls();
        steps();
        firstFault();
        faultChangesNothing();
        laidOrNo();
        laidAnew();
        CHECK.close();
    }

    private static void due(String call, long got, long want) {
        CHECK.due(call, got, want);
    }

    /** What fault answers, and with a fault lay answers NO. */
    private static void faultOf(String name, String text, int place) {
        LotsBid x = Check.written(text);
        due(name + ": fault of " + text, x.fault(), place);
        if (place != NONE) {
            due(name + ": lay of " + text, x.lay(), NO);
        }
    }

    private static String many(String item, int times) {
        return item.repeat(times);
    }

    /** A text without fault that is laid, filled by calls to just so many bytes (12 or more). */
    private static String filled(String ahead, int length) {
        StringBuilder text = new StringBuilder(ahead);
        while ((length - text.length()) % 3 != 0) {
            text.append("c00;");
        }
        while (text.length() < length) {
            text.append("c0;");
        }
        return text.toString();
    }

    /** "at first m1;l8,0;l5,0;w0,0,9;w1,0,6;", "THE TEXT is empty", and nothing else is there. */
    private static void atFirst() {
        LotsBid laid = Check.laid("m1;l8,0;l5,0;w0,0,9;w1,0,6;");
        laid.wipe();
        TWINS.alike("as told at first", new LotsBid(), laid);
        int[] counts = {1, 2, 0, 1, 0, 0, 0, 0};
        LotsBid x = new LotsBid();
        for (int what = 0; what < counts.length; what++) {
            due("at first count(" + what + ")", x.count(what), counts[what]);
        }
        due("at first no text is laid", x.lay(), NO);
        due("at first nothing is undone", x.undo(), NO);
        due("at first nothing is kept", x.back(), NO);
    }

    /** "The lowest n bytes (1 to 8) of v, the highest of these first": what lies above does not count. */
    private static void lowestBytesHighestFirst() {
        String text = "m2;l7,3;";
        for (int n = 1; n <= 8; n++) {
            LotsBid x = new LotsBid();
            int at = 0;
            while (at < text.length()) {
                int now = Math.min(n, text.length() - at);
                long v = -1L;
                for (int k = 0; k < now; k++) {
                    v = v << 8 | text.charAt(at + k);
                }
                at += now;
                due("write by " + n, x.write(now, v), at);
            }
            due("written by " + n + " is laid", x.lay(), 1);
            due("written by " + n + ", room", x.master(0, 0), 2);
            due("written by " + n + ", limit", x.lad(0, 0), 7);
            due("written by " + n + ", kind", x.lad(0, 1), 3);
        }
        for (long v : new long[] {0, -1, Long.MIN_VALUE, Long.MAX_VALUE}) {
            LotsBid x = new LotsBid();
            due("any bytes", x.write(8, v), 8);
            due("any byte", x.write(1, v), 9);
            due("any bytes are a fault", x.fault(), 0);
        }
    }

    /** "300 at most": as many as fit are taken, one more is FULL, and nothing of it is written then. */
    private static void threeHundredBytes() {
        for (int length = 290; length <= MOST_BYTES; length++) {
            String text = filled(AHEAD, length);
            for (int n = 1; n <= 8; n++) {
                int bytes = n;
                if (length + n <= MOST_BYTES) {
                    due("write to " + (length + n), Check.written(text).write(n, 0), length + n);
                } else {
                    TWINS.unchanged("write to " + (length + n), () -> Check.written(text),
                        x -> x.write(bytes, 0x6D313B6D313B6D31L), FULL);
                }
            }
        }
        LotsBid x = Check.written(filled(AHEAD, 296));
        due("five do not fit", x.write(5, 0x6D3031303BL), FULL);
        due("four still do", x.write(4, 0x6D30323BL), MOST_BYTES);
        due("the four are read", x.fault(), NONE);
        due("the four are laid", x.lay(), 1);
        due("the four are a master", x.master(1, 0), 2);
        due("one does not fit", x.write(1, ';'), FULL);
    }

    /** "THE TEXT is empty: how long it was": of nothing, of one, of all places; then there is room as before. */
    private static void wipedFromFull() {
        due("wipe of nothing", new LotsBid().wipe(), 0);
        due("wipe of one", Check.written("m").wipe(), 1);
        LotsBid x = Check.written(filled(AHEAD, MOST_BYTES));
        due("wipe of all", x.wipe(), MOST_BYTES);
        due("wiped", x.count(7), 0);
        due("nothing is a fault", x.fault(), NONE);
        due("nothing is laid", x.lay(), NO);
        due("again", x.wipe(), 0);
        Check.writeText(x, filled("m3;l9,2;", MOST_BYTES));
        due("full again", x.count(7), MOST_BYTES);
        due("laid again", x.lay(), 1);
        due("room", x.master(0, 0), 3);
        // What is longer than the new text lies still where it was, but does not count.
        LotsBid y = Check.written(AHEAD + "s2;");
        y.wipe();
        Check.writeText(y, "m1;l1,0");
        due("no sign of what was wiped", y.fault(), 3);
        Check.writeText(y, ";");
        due("the new one alone", y.lay(), 1);
        due("the step of what was wiped", y.count(3), 1);
        LotsBid wiped = inUse();
        Check.writeText(wiped, AHEAD);
        due("wipe of eight", wiped.wipe(), 8);
        TWINS.alike("wipe leaves the rest", wiped, inUse());
    }

    /** Laid, changed, seen and kept, with an empty text. */
    private static LotsBid inUse() {
        LotsBid x = Check.laid("m2;m1;l9,0;l4,1;w0,0,9;w1,1,8;c1;");
        x.limit(0, 3);
        x.keep();
        x.step(2);
        x.seen(0, 3);
        x.wipe();
        return x;
    }

    private static void readToTheLastByte() {
        String text = filled(AHEAD, MOST_BYTES);
        faultOf("300 bytes", text, NONE);
        due("300 bytes are laid", Check.written(text).lay(), 1);
        faultOf("the last byte is missing", text.substring(0, 299), 297);
        faultOf("the last byte is another", text.substring(0, 299) + ",", 297);
        faultOf("the last byte is an item's first", filled(AHEAD, 299) + "m", 299);
        faultOf("the last two bytes", filled(AHEAD, 298) + "m1", 298);
        LotsBid x = Check.laid(filled(AHEAD, 297) + "s3;");
        due("the last item counts", x.count(3), 3);
        faultOf("a hundred items", many("c1;", 100), NONE);
        faultOf("a hundred items, the last one wrong", many("c1;", 99) + "c3;", 297);
    }

    /** "each a letter": m, l, w, c, s with as many numbers as are told; no other byte with any. */
    private static void letters() {
        String[] numbers = {"", "1", "1,1", "0,0,1", "0,0,1,1"};
        String[] fit = {"", "mcs", "l", "w", ""};
        for (int letter = 0; letter < 256; letter++) {
            for (int k = 0; k < numbers.length; k++) {
                boolean told = fit[k].indexOf(letter) >= 0;
                faultOf("letter " + letter, AHEAD + (char) letter + numbers[k] + ";", told ? NONE : 8);
            }
            faultOf("letter " + letter + " alone", AHEAD + (char) letter, 8);
        }
        faultOf("no letter", AHEAD + "1;", 8);
        faultOf("nothing but a sign", AHEAD + ";", 8);
        faultOf("two letters", AHEAD + "mm1;", 8);
        faultOf("a blank ahead", " " + AHEAD, 0);
        faultOf("a blank between", "m1; l1,0;", 3);
        faultOf("a blank behind", AHEAD + " ", 8);
    }

    private static void howManyNumbers() {
        for (String text : new String[] {"m;", "m1,1;", "c;", "c1,1;", "s;", "s1,1;", "l;", "l1;", "l1,1,1;", "w;",
            "w0;", "w0,0;", "w0,0,1,1;", "m,;", "m,1;", "m1,;", "l,1;", "l1,;", "l,;", "w,0,1;", "w0,,1;", "w0,0,;",
            "w,,;"}) {
            faultOf("numbers", AHEAD + text, 8);
        }
    }

    /** Each byte in the place of a figure: none but 0 to 9, and of these such as are told. */
    private static void figures() {
        String[] told = {"m?;", "l?,1;", "l1,?;", "w?,0,1;", "w0,?,1;", "w0,0,?;", "c?;", "s?;"};
        String[] fit = {"123", "123456789", "0123", "0", "0", "0123456789", "012", "123"};
        for (int sign = 0; sign < 256; sign++) {
            for (int k = 0; k < told.length; k++) {
                String item = told[k].replace('?', (char) sign);
                faultOf("figure " + sign, AHEAD + item, fit[k].indexOf(sign) >= 0 ? NONE : 8);
                if (sign != ',' && sign != ';') {
                    faultOf("second figure " + sign, AHEAD + told[k].replace("?", "0" + (char) sign),
                        fit[k].indexOf(sign) >= 0 ? NONE : 8);
                }
            }
        }
    }

    /** "one or two figures": none and three are a fault, whatever they say. */
    private static void howManyFigures() {
        for (String form : new String[] {"m?;", "l?,1;", "l1,?;", "c?;", "s?;", "w0,0,?;"}) {
            faultOf("one figure", AHEAD + form.replace("?", "1"), NONE);
            faultOf("two figures", AHEAD + form.replace("?", "01"), NONE);
            faultOf("three figures", AHEAD + form.replace("?", "001"), 8);
            faultOf("four figures", AHEAD + form.replace("?", "0001"), 8);
            faultOf("no figure", AHEAD + form.replace("?", ""), 8);
            faultOf("a sign of more", AHEAD + form.replace("?", "+1"), 8);
            faultOf("a sign of less", AHEAD + form.replace("?", "-1"), 8);
            faultOf("a blank", AHEAD + form.replace("?", " 1"), 8);
        }
        for (String form : new String[] {"w?,0,1;", "w0,?,1;"}) {
            faultOf("one figure", AHEAD + form.replace("?", "0"), NONE);
            faultOf("two figures", AHEAD + form.replace("?", "00"), NONE);
            faultOf("three figures", AHEAD + form.replace("?", "000"), 8);
            faultOf("no figure", AHEAD + form.replace("?", ""), 8);
        }
    }

    /** "parted by , and ;": each byte in the place of each sign; the right one alone is so. */
    private static void signsBetween() {
        for (String item : ITEMS) {
            for (int at = 1; at < item.length(); at++) {
                char due = item.charAt(at);
                if (due != ',' && due != ';') {
                    continue;
                }
                for (int sign = 0; sign < 256; sign++) {
                    String text = AHEAD + item.substring(0, at) + (char) sign + item.substring(at + 1);
                    faultOf("sign " + sign, text, sign == due ? NONE : 8);
                }
            }
        }
    }

    /** "(behind the last one, too)": an item that breaks off anywhere is a fault at its first byte. */
    private static void behindTheLastOneToo() {
        for (String item : ITEMS) {
            for (int length = 1; length < item.length(); length++) {
                faultOf("broken off", AHEAD + item.substring(0, length), 8);
            }
            faultOf("whole", AHEAD + item, NONE);
            faultOf("one ; more", AHEAD + item + ";", 8 + item.length());
        }
    }

    /** Each number from 0 to 99 in the place of ?, by one figure and by two. */
    private static void numbersOf(String ahead, String item, int least, int most) {
        for (int number = 0; number <= 99; number++) {
            int place = number >= least && number <= most ? NONE : ahead.length();
            faultOf(item, ahead + item.replace("?", Integer.toString(number)), place);
            faultOf(item, ahead + item.replace("?", "" + number / 10 + number % 10), place);
        }
    }

    private static void rooms() {
        numbersOf("", "m?;", 1, 3);
        for (int c = 1; c <= 3; c++) {
            due("room", Check.laid("m" + c + ";l1,0;").master(0, 0), c);
            due("room by two figures", Check.laid("m0" + c + ";l1,0;").master(0, 0), c);
        }
    }

    /** "3 at most, 0, 1, ..": in the order of the text, whatever stands between. */
    private static void threeMasters() {
        faultOf("three masters", many("m1;", 3), NONE);
        faultOf("four masters", many("m1;", 4), 9);
        faultOf("a fourth behind others", "m1;m1;l1,0;c1;m1;w0,2,1;m1;", 24);
        LotsBid x = Check.laid("m3;l1,0;m1;s1;m2;");
        due("masters", x.count(0), 3);
        due("master 0", x.master(0, 0), 3);
        due("master 1", x.master(1, 0), 1);
        due("master 2", x.master(2, 0), 2);
        LotsBid full = Check.written("m1;m1;m1;l1,0;m1;");
        due("four are not laid", full.lay(), NO);
        due("four leave one", full.count(0), 1);
    }

    private static void limitsAndKinds() {
        numbersOf("", "l?,0;", 1, 10);
        numbersOf("", "l1,?;", 0, 3);
        for (int l = 1; l <= 10; l++) {
            due("limit", Check.laid("m1;l" + l + ",0;").lad(0, 0), l);
        }
        for (int k = 0; k <= 3; k++) {
            due("kind", Check.laid("m1;l5," + k + ";").lad(0, 1), k);
            due("kind by two figures", Check.laid("m1;l05,0" + k + ";").lad(0, 1), k);
        }
    }

    /** "5 at most, 0, 1, ..": in the order of the text, whatever stands between. */
    private static void fiveLads() {
        faultOf("five lads", many("l1,0;", 5), NONE);
        faultOf("six lads", many("l1,0;", 6), 25);
        faultOf("a sixth behind others", many("l1,0;", 4) + "m1;l1,0;w4,0,1;l1,0;", 35);
        LotsBid x = Check.laid("l6,0;l7,1;m1;l8,2;c0;l9,3;l10,0;");
        due("lads", x.count(1), 5);
        for (int i = 0; i < 5; i++) {
            due("limit of lad " + i, x.lad(i, 0), 6 + i);
            due("kind of lad " + i, x.lad(i, 1), i % 4);
        }
        LotsBid full = Check.written("m1;" + many("l1,0;", 6));
        due("six are not laid", full.lay(), NO);
        due("six leave two", full.count(1), 2);
    }

    /** "(both told ahead)": every lad and master there is so far, none beyond. */
    private static void toldAhead() {
        faultOf("no lad, no master", "w0,0,1;", 0);
        faultOf("no lad", "m1;w0,0,1;l1,0;", 3);
        faultOf("no master", "l1,0;w0,0,1;m1;", 5);
        faultOf("the lad behind", "m1;l1,0;w1,0,1;l1,0;", 8);
        faultOf("the master behind", "m1;l1,0;w0,1,1;m1;", 8);
        for (int lads = 1; lads <= 5; lads++) {
            numbersOf("m1;" + many("l1,0;", lads), "w?,0,1;", 0, lads - 1);
        }
        for (int masters = 1; masters <= 3; masters++) {
            numbersOf("l1,0;" + many("m1;", masters), "w0,?,1;", 0, masters - 1);
        }
    }

    private static void wantedBy() {
        numbersOf(AHEAD, "w0,0,?;", 0, 10);
        for (int w = 0; w <= 10; w++) {
            due("W", Check.laid("m1;l1,0;w0,0," + w + ";").wants(0, 0, 0), w);
        }
    }

    /** "0 without": of each pair that is not told, though others are, and though an earlier text told it. */
    private static void wantedByWithout() {
        LotsBid x = Check.laid("m1;l1,0;w0,0,7;m1;l1,0;w1,1,3;");
        due("told", x.wants(0, 0, 0), 7);
        due("not told, the other master", x.wants(0, 1, 0), 0);
        due("not told, the other lad", x.wants(1, 0, 0), 0);
        due("told, both others", x.wants(1, 1, 0), 3);
        x.wipe();
        Check.writeText(x, "m1;m1;l1,0;l1,0;");
        due("without", x.lay(), 2);
        for (int i = 0; i < 2; i++) {
            for (int m = 0; m < 2; m++) {
                due("not told in the later text", x.wants(i, m, 0), 0);
            }
        }
    }

    private static void lastWantOfEach() {
        LotsBid x = Check.laid("m1;m1;l1,0;l1,0;w0,0,5;w0,1,6;w1,0,7;w0,0,10;w1,0,0;");
        due("the last one, more", x.wants(0, 0, 0), 10);
        due("the last one, nothing", x.wants(1, 0, 0), 0);
        due("another master's stays", x.wants(0, 1, 0), 6);
        due("nobody's", x.wants(1, 1, 0), 0);
        due("the last one, less", Check.laid("m1;l1,0;w0,0,9;w0,0,2;").wants(0, 0, 0), 2);
    }

    /** "0 BELOW, 1 ABOVE, 2 SEALED (0 without; of several the last one counts)" */
    private static void kindsOfCalls() {
        numbersOf("", "c?;", 0, 2);
        for (int k = 0; k <= 2; k++) {
            LotsBid x = Check.laid("m1;l1,0;c" + k + ";");
            due("calls", x.count(2), k);
            x.wipe();
            Check.writeText(x, "m1;l1,0;");
            x.lay();
            due("calls without", x.count(2), 0);
            for (int other = 0; other <= 2; other++) {
                due("calls, the last one", Check.laid("c" + other + ";m1;l1,0;c" + k + ";").count(2), k);
            }
        }
        faultOf("an earlier one is wrong", "c3;c0;", 0);
    }

    /** "a STEP of S (1 to 3; 1 without; of several the last one counts)" */
    private static void steps() {
        numbersOf("", "s?;", 1, 3);
        for (int s = 1; s <= 3; s++) {
            LotsBid x = Check.laid("m1;l1,0;s" + s + ";");
            due("step", x.count(3), s);
            x.wipe();
            Check.writeText(x, "m1;l1,0;");
            x.lay();
            due("step without", x.count(3), 1);
            for (int other = 1; other <= 3; other++) {
                due("step, the last one", Check.laid("s" + other + ";m1;l1,0;s" + s + ";").count(3), s);
            }
        }
        faultOf("an earlier one is wrong", "s4;s1;", 0);
    }

    /** "the place (from 0 on) of the first byte of the first ITEM that is not so"; NONE without. */
    private static void firstFault() {
        faultOf("no text", "", NONE);
        faultOf("no fault", AHEAD, NONE);
        faultOf("the first of two", "m4;l0,0;", 0);
        faultOf("the second is the first", "m1;l0,0;m4;", 3);
        faultOf("what stands behind does not help", "m1;x;m1;", 3);
        faultOf("not the byte, but the item", "m1;l1,0;w0,0,11;", 8);
        faultOf("a wrong number ahead of a wrong sign", "l1,4,", 0);
        StringBuilder text = new StringBuilder();
        for (int items = 0; items < 100; items++) {
            faultOf("behind " + items + " items", text + "c3;", text.length());
            text.append("c2;");
        }
    }

    private static void faultChangesNothing() {
        for (String text : new String[] {"", "m", AHEAD, "m3;l9,1;c2;s3;", "m2;l3,0;x", "l1,0;"}) {
            TWINS.unchanged("fault of " + text, () -> {
                LotsBid x = inUse();
                Check.writeText(x, text);
                return x;
            }, LotsBid::fault);
        }
    }

    /** "a TEXT without FAULT, of a MASTER and a LAD at least (NO else": what is laid stays then. */
    private static void laidOrNo() {
        for (String text : new String[] {"", "m1;", "m3;m3;m3;", "l1,0;", many("l10,3;", 5), "c2;", "s3;c1;",
            "l1,0;c2;s2;", "m1;s2;", "m1;l1,0", "m1;l1,0;x", "x;m1;l1,0;", "m1;l1,0;m1;m1;m1;", "m4;l1,0;"}) {
            TWINS.unchanged("lay of " + text, () -> {
                LotsBid x = inUse();
                Check.writeText(x, text);
                return x;
            }, LotsBid::lay, NO);
        }
        for (int masters = 1; masters <= 3; masters++) {
            for (int lads = 1; lads <= 5; lads++) {
                LotsBid x = Check.written(many("l1,0;", lads) + many("m1;", masters));
                due("laid: how many lads", x.lay(), lads);
                due("laid: lads", x.count(1), lads);
                due("laid: masters", x.count(0), masters);
            }
        }
    }

    /** "nothing SEEN, UNDONE, KEPT (THE TEXT stays)": as if it were a new object's first text, when all was full. */
    private static void laidAnew() {
        String text = "m2;m1;l9,0;l4,1;w0,0,9;w1,1,8;c1;s2;";
        LotsBid x = Check.laid("m1;m1;m1;" + many("l10,0;", 5) + "c2;s3;w4,2,10;w0,1,9;");
        for (int k = 0; k < 9; k++) {
            x.limit(k % 5, k + 1);
            x.seen(k % 3, k);
            x.keep();
        }
        due("all is full, seen", x.count(4), 6);
        due("all is full, undone", x.count(5), 8);
        due("all is full, kept", x.count(6), 2);
        x.wipe();
        Check.writeText(x, text);
        due("laid anew", x.lay(), 2);
        due("the text stays", x.count(7), text.length());
        due("nothing seen", x.count(4), 0);
        due("nothing undone", x.count(5), 0);
        due("nothing kept", x.count(6), 0);
        TWINS.alike("laid anew", x, Check.laid(text));
        LotsBid twice = Check.laid(text);
        twice.limit(0, 1);
        twice.calls(2);
        twice.step(3);
        due("the same text once more", twice.lay(), 2);
        TWINS.alike("the same text once more", twice, Check.laid(text));
    }
}
