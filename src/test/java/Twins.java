import java.util.ArrayList;
import java.util.List;

/** Two objects made alike, of which one gets calls more: by all that can be asked they must still be alike. */
final class Twins {
    interface Make {
        LotsBid make();
    }

    interface Call {
        int on(LotsBid x);
    }

    private final Check check;

    Twins(Check check) {
        this.check = check;
    }

    /** The call answers what is due, and nothing changes by it. */
    void unchanged(String name, Make make, Call call, int due) {
        LotsBid called = make.make();
        check.due(name, call.on(called), due);
        alike(name + ", nothing changes", called, make.make());
    }

    /** The call answers anything, and nothing changes by it. */
    void unchanged(String name, Make make, Call call) {
        LotsBid called = make.make();
        call.on(called);
        alike(name + ", nothing changes", called, make.make());
    }

    /** Both are used up: what is seen, undone, kept and written can be told only so. */
    void alike(String name, LotsBid one, LotsBid other) {
        List<Integer> a = story(one);
        List<Integer> b = story(other);
        check.holds(name + ": " + a + " is " + b, a.equals(b));
    }

    private static List<Integer> story(LotsBid x) {
        List<Integer> told = new ArrayList<>();
        tellAll(x, told);
        for (int k = 0; k < 9; k++) {
            told.add(x.undo());
            tellLaws(x, told);
        }
        for (int k = 0; k < 3; k++) {
            told.add(x.back());
            tellLaws(x, told);
        }
        told.add(x.lay());
        tellAll(x, told);
        told.add(x.wipe());
        return told;
    }

    private static void tellLaws(LotsBid x, List<Integer> told) {
        int lads = x.count(1);
        for (int i = 0; i < lads; i++) {
            told.add(x.lad(i, 0));
        }
        told.add(x.count(2));
        told.add(x.count(3));
        told.add(x.cousins());
    }

    private static void tellAll(LotsBid x, List<Integer> told) {
        int masters = x.count(0);
        int lads = x.count(1);
        for (int what = 0; what <= 7; what++) {
            told.add(x.count(what));
        }
        for (int i = 0; i < lads; i++) {
            for (int what = 0; what <= 4; what++) {
                told.add(x.lad(i, what));
            }
            for (int m = 0; m < masters; m++) {
                told.add(x.wants(i, m, 0));
                told.add(x.wants(i, m, 1));
            }
        }
        for (int m = 0; m < masters; m++) {
            for (int what = 0; what <= 2; what++) {
                told.add(x.master(m, what));
            }
        }
        for (int what = 0; what <= 2; what++) {
            told.add(x.all(what));
        }
        told.add(x.fault());
        told.add(x.cousins());
    }
}
