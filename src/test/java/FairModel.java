import java.util.ArrayList;
import java.util.List;
import java.util.regex.Matcher;
import java.util.regex.Pattern;

/** The document once more, by other means: everything is tried out, nothing is clever. */
final class FairModel {
    static final int BAD = -1, NO = -2, FULL = -3, NONE = -4;
    private static final Pattern ITEM = Pattern.compile(
        "m(?<c>\\d{1,2});|l(?<l>\\d{1,2}),(?<k>\\d{1,2});|w(?<i>\\d{1,2}),(?<m>\\d{1,2}),(?<w>\\d{1,2});"
        + "|c(?<calls>\\d{1,2});|s(?<step>\\d{1,2});");

    static final class Setting {
        List<Integer> rooms = new ArrayList<>();
        List<Integer> limits = new ArrayList<>();
        List<Integer> kinds = new ArrayList<>();
        int[][] w = new int[5][3];
        int calls = 0;
        int step = 1;

        Setting copy() {
            Setting s = new Setting();
            s.rooms = new ArrayList<>(rooms);
            s.limits = new ArrayList<>(limits);
            s.kinds = new ArrayList<>(kinds);
            for (int i = 0; i < 5; i++) {
                s.w[i] = w[i].clone();
            }
            s.calls = calls;
            s.step = step;
            return s;
        }

        int bound(int i, int m) {
            int b = w[i][m] < limits.get(i) ? w[i][m] : limits.get(i);
            if (kinds.get(i) == 1) {
                b = b >> 1;
            } else if (kinds.get(i) == 2 && w[i][m] < 5) {
                b = 0;
            } else if (kinds.get(i) == 3 && (b & 1) == 1) {
                b--;
            }
            return b;
        }
    }

    static final class Fair {
        int[] master = {NONE, NONE, NONE, NONE, NONE};
        int[] years = new int[5];
        /** The p at which each lad was IN, a list a master and a lad, and the p that were called. */
        List<List<Integer>> called = new ArrayList<>();
        boolean[][] gone = new boolean[3][5];
    }

    private final StringBuilder text = new StringBuilder();
    private Setting now;
    private final List<int[]> seen = new ArrayList<>();
    private final List<Setting> past = new ArrayList<>();
    private final List<Setting> kept = new ArrayList<>();

    FairModel() {
        now = read("m1;l8,0;l5,0;w0,0,9;w1,0,6;", new int[1]);
    }

    private static Setting read(String text, int[] fault) {
        Setting s = new Setting();
        Matcher item = ITEM.matcher(text);
        int at = 0;
        fault[0] = NONE;
        while (at < text.length()) {
            item.region(at, text.length());
            if (!item.lookingAt() || !tell(s, item)) {
                fault[0] = at;
                return s;
            }
            at = item.end();
        }
        return s;
    }

    private static boolean tell(Setting s, Matcher item) {
        if (item.group("c") != null) {
            int c = Integer.parseInt(item.group("c"));
            s.rooms.add(c);
            return c >= 1 && c <= 3 && s.rooms.size() <= 3;
        }
        if (item.group("l") != null) {
            int l = Integer.parseInt(item.group("l"));
            int k = Integer.parseInt(item.group("k"));
            s.limits.add(l);
            s.kinds.add(k);
            return l >= 1 && l <= 10 && k <= 3 && s.limits.size() <= 5;
        }
        if (item.group("i") != null) {
            int i = Integer.parseInt(item.group("i"));
            int m = Integer.parseInt(item.group("m"));
            int w = Integer.parseInt(item.group("w"));
            if (i >= s.limits.size() || m >= s.rooms.size() || w > 10) {
                return false;
            }
            s.w[i][m] = w;
            return true;
        }
        if (item.group("calls") != null) {
            s.calls = Integer.parseInt(item.group("calls"));
            return s.calls <= 2;
        }
        s.step = Integer.parseInt(item.group("step"));
        return s.step >= 1 && s.step <= 3;
    }

    private static List<Integer> in(Setting s, Fair f, int m, int p, int absent) {
        List<Integer> in = new ArrayList<>();
        for (int i = 0; i < s.limits.size(); i++) {
            if (i != absent && f.master[i] == NONE && s.bound(i, m) >= p) {
                in.add(i);
            }
        }
        return in;
    }

    private static Fair fair(Setting s, int absent) {
        Fair f = new Fair();
        for (int m = 0; m < s.rooms.size(); m++) {
            for (int i = 0; i < 5; i++) {
                f.gone[m][i] = f.master[i] != NONE;
            }
            f.called.add(new ArrayList<>());
            int room = s.rooms.get(m);
            if (s.calls == 0) {
                below(s, f, m, room, absent);
            } else if (s.calls == 1) {
                for (int p = 10; p >= 1; p -= s.step) {
                    for (int i : in(s, f, m, p, absent)) {
                        if (room > 0) {
                            f.master[i] = m;
                            f.years[i] = p;
                            room--;
                        }
                    }
                }
            } else {
                sealed(s, f, m, room, absent);
            }
        }
        return f;
    }

    private static void below(Setting s, Fair f, int m, int room, int absent) {
        List<Integer> ahead = new ArrayList<>();
        int p = 1;
        List<Integer> in = in(s, f, m, p, absent);
        f.called.get(m).add(p);
        while (in.size() > room) {
            ahead = in;
            p += s.step;
            in = in(s, f, m, p, absent);
            f.called.get(m).add(p);
        }
        for (int i : in) {
            f.master[i] = m;
            f.years[i] = p;
        }
        int left = room - in.size();
        for (int i : ahead) {
            if (!in.contains(i) && left > 0) {
                f.master[i] = m;
                f.years[i] = p - s.step;
                left--;
            }
        }
    }

    private static void sealed(Setting s, Fair f, int m, int room, int absent) {
        for (int r = 0; r < room; r++) {
            int who = -1;
            for (int i : in(s, f, m, 1, absent)) {
                if (who < 0 || s.bound(i, m) > s.bound(who, m)) {
                    who = i;
                }
            }
            if (who >= 0) {
                f.years[who] = s.bound(who, m);
                f.master[who] = m;
            }
        }
    }

    private static int gain(Setting s, Fair f, int i) {
        return f.master[i] == NONE ? 0 : s.w[i][f.master[i]] - f.years[i];
    }

    private static int most(Fair f, int m) {
        int most = 0;
        for (int i = 0; i < 5; i++) {
            if (f.master[i] == m && f.years[i] > most) {
                most = f.years[i];
            }
        }
        return most;
    }

    private boolean lad(int i) {
        return i >= 0 && i < now.limits.size();
    }

    private boolean master(int m) {
        return m >= 0 && m < now.rooms.size();
    }

    int write(int n, long v) {
        if (n < 1 || n > 8) {
            return BAD;
        }
        if (text.length() + n > 300) {
            return FULL;
        }
        for (int k = n - 1; k >= 0; k--) {
            text.append((char) (v >>> (8 * k) & 255));
        }
        return text.length();
    }

    int wipe() {
        int was = text.length();
        text.setLength(0);
        return was;
    }

    int fault() {
        int[] fault = new int[1];
        read(text.toString(), fault);
        return fault[0];
    }

    int lay() {
        int[] fault = new int[1];
        Setting s = read(text.toString(), fault);
        if (fault[0] != NONE || s.rooms.isEmpty() || s.limits.isEmpty()) {
            return NO;
        }
        now = s;
        seen.clear();
        past.clear();
        kept.clear();
        return s.limits.size();
    }

    int lad(int i, int what) {
        if (!lad(i) || what < 0 || what > 4) {
            return BAD;
        }
        Fair f = fair(now, -1);
        int[] answers = {now.limits.get(i), now.kinds.get(i), f.master[i], f.years[i], gain(now, f, i)};
        return answers[what];
    }

    int master(int m, int what) {
        if (!master(m) || what < 0 || what > 2) {
            return BAD;
        }
        Fair f = fair(now, -1);
        int bits = 0;
        for (int i = 0; i < 5; i++) {
            bits += f.master[i] == m ? 1 << i : 0;
        }
        return what == 0 ? now.rooms.get(m) : what == 1 ? bits : most(f, m);
    }

    int wants(int i, int m, int what) {
        if (!lad(i) || !master(m) || what < 0 || what > 1) {
            return BAD;
        }
        return what == 0 ? now.w[i][m] : now.bound(i, m);
    }

    int all(int what) {
        if (what < 0 || what > 2) {
            return BAD;
        }
        Fair f = fair(now, -1);
        int[] sums = new int[3];
        for (int i = 0; i < now.limits.size(); i++) {
            sums[0] += f.years[i];
            sums[1] += gain(now, f, i);
            sums[2] += f.master[i] == NONE ? 0 : 1;
        }
        return sums[what];
    }

    private void remember() {
        past.add(now.copy());
        if (past.size() > 8) {
            past.remove(0);
        }
    }

    int limit(int i, int l) {
        if (!lad(i) || l < 1 || l > 10) {
            return BAD;
        }
        remember();
        return now.limits.set(i, l);
    }

    int calls(int k) {
        if (k < 0 || k > 2) {
            return BAD;
        }
        remember();
        int was = now.calls;
        now.calls = k;
        return was;
    }

    int step(int s) {
        if (s < 1 || s > 3) {
            return BAD;
        }
        remember();
        int was = now.step;
        now.step = s;
        return was;
    }

    int undo() {
        if (past.isEmpty()) {
            return NO;
        }
        now = past.remove(past.size() - 1);
        return past.size();
    }

    private int gainBy(int i, int a, int j, int b, int of) {
        Setting s = now.copy();
        s.limits.set(i, a);
        s.limits.set(j, b);
        return gain(s, fair(s, -1), of);
    }

    int lie(int i, int what) {
        if (!lad(i) || what < 0 || what > 1) {
            return BAD;
        }
        int best = 10;
        for (int l = 9; l >= 1; l--) {
            if (gainBy(i, l, i, l, i) >= gainBy(i, best, i, best, i)) {
                best = l;
            }
        }
        return what == 0 ? best : gainBy(i, best, i, best, i) - gain(now, fair(now, -1), i);
    }

    int game(int i, int j, int what) {
        if (!lad(i) || !lad(j) || i == j || what < 0 || what > 2) {
            return BAD;
        }
        int[][][] gains = new int[11][11][2];
        for (int a = 1; a <= 10; a++) {
            for (int b = 1; b <= 10; b++) {
                gains[a][b][0] = gainBy(i, a, j, b, i);
                gains[a][b][1] = gainBy(i, a, j, b, j);
            }
        }
        List<int[]> rests = new ArrayList<>();
        for (int a = 1; a <= 10; a++) {
            for (int b = 1; b <= 10; b++) {
                boolean still = true;
                for (int o = 1; o <= 10; o++) {
                    still &= gains[o][b][0] <= gains[a][b][0] && gains[a][o][1] <= gains[a][b][1];
                }
                if (still) {
                    rests.add(new int[] {a, b});
                }
            }
        }
        return what == 0 ? rests.size() : rests.isEmpty() ? NONE : rests.get(0)[what - 1];
    }

    /** All ways, in the order of the document: a row of masters a way, the number of them for none. */
    private List<int[]> ways(int absent) {
        int masters = now.rooms.size();
        int lads = now.limits.size();
        List<int[]> ways = new ArrayList<>();
        int all = (int) Math.pow(masters + 1, lads);
        for (int code = 0; code < all; code++) {
            int[] way = new int[lads];
            int[] held = new int[masters + 1];
            int rest = code;
            for (int i = lads - 1; i >= 0; i--) {
                way[i] = rest % (masters + 1);
                held[way[i]]++;
                rest /= masters + 1;
            }
            boolean fits = absent < 0 || way[absent] == masters;
            for (int m = 0; m < masters; m++) {
                fits &= held[m] <= now.rooms.get(m);
            }
            if (fits) {
                ways.add(way);
            }
        }
        return ways;
    }

    private int worth(int[] way) {
        int sum = 0;
        for (int i = 0; i < way.length; i++) {
            sum += way[i] == now.rooms.size() ? 0 : now.w[i][way[i]];
        }
        return sum;
    }

    private int[] bestWay(int absent) {
        int[] best = null;
        for (int[] way : ways(absent)) {
            if (best == null || worth(way) > worth(best)) {
                best = way;
            }
        }
        return best;
    }

    private boolean restsWith(int[] way, int[] price) {
        int masters = now.rooms.size();
        int[] held = new int[masters + 1];
        for (int i = 0; i < way.length; i++) {
            held[way[i]]++;
            int has = way[i] == masters ? 0 : now.w[i][way[i]] - price[way[i]];
            if (has < 0) {
                return false;
            }
            for (int m = 0; m < masters; m++) {
                if (now.w[i][m] - price[m] > has) {
                    return false;
                }
            }
        }
        for (int m = 0; m < masters; m++) {
            if (price[m] > 0 && held[m] != now.rooms.get(m)) {
                return false;
            }
        }
        return true;
    }

    int rest(int m, boolean greatest) {
        if (m != -1 && !master(m)) {
            return BAD;
        }
        int masters = now.rooms.size();
        List<int[]> ways = ways(-1);
        int[] best = null;
        int bestSum = 0;
        for (int code = 0; code < (int) Math.pow(11, masters); code++) {
            int[] price = new int[masters];
            int rest = code;
            int sum = 0;
            for (int k = masters - 1; k >= 0; k--) {
                price[k] = rest % 11;
                sum += price[k];
                rest /= 11;
            }
            if (best != null && (greatest ? sum <= bestSum : sum >= bestSum)) {
                continue;
            }
            for (int[] way : ways) {
                if (restsWith(way, price)) {
                    best = price;
                    bestSum = sum;
                    break;
                }
            }
        }
        return best == null ? NONE : m == -1 ? bestSum : best[m];
    }

    int joint(int i) {
        if (i != -1 && !lad(i)) {
            return BAD;
        }
        int[] way = bestWay(-1);
        return i == -1 ? worth(way) : way[i] == now.rooms.size() ? NONE : way[i];
    }

    int pay(int i) {
        if (!lad(i)) {
            return BAD;
        }
        int[] way = bestWay(-1).clone();
        way[i] = now.rooms.size();
        return worth(bestWay(i)) - worth(way);
    }

    int seen(int m, int p) {
        if (!master(m) || p < 0 || p > 10) {
            return BAD;
        }
        if (seen.size() == 6) {
            return FULL;
        }
        seen.add(new int[] {m, p});
        return seen.size();
    }

    int forget() {
        int were = seen.size();
        seen.clear();
        return were;
    }

    int cousins() {
        int bits = 0;
        for (int i = -1; i < now.limits.size(); i++) {
            Fair f = fair(now, i);
            boolean as = true;
            for (int[] s : seen) {
                as &= most(f, s[0]) == s[1];
            }
            bits += !as ? 0 : i < 0 ? 32 : 1 << i;
        }
        return bits;
    }

    int span(int i, int m, int what) {
        if (!lad(i) || !master(m) || what < 0 || what > 1) {
            return BAD;
        }
        Setting s = now.copy();
        s.calls = 0;
        Fair f = fair(s, -1);
        if (f.gone[m][i]) {
            return what == 0 ? 0 : 10;
        }
        int from = 0;
        int to = 10;
        List<Integer> called = f.called.get(m);
        for (int k = called.size() - 1; k >= 0; k--) {
            if (s.bound(i, m) < called.get(k)) {
                to = called.get(k) - 1;
            } else {
                from = Math.max(from, called.get(k));
            }
        }
        return what == 0 ? from : to;
    }

    int year(int z, int what) {
        if (z < 0 || z > 9999 || what < 0 || what > 1) {
            return BAD;
        }
        Setting s = now.copy();
        for (int i = 0; i < 5; i++) {
            for (int m = 0; m < 3; m++) {
                java.math.BigInteger x = java.math.BigInteger.valueOf(7919L * z + 6151L * i + 3571L * m + 1);
                s.w[i][m] = x.multiply(x).mod(java.math.BigInteger.valueOf(65521)).intValue() % 11;
            }
        }
        Fair f = fair(s, -1);
        int years = 0;
        int alone = 0;
        for (int i = 0; i < 5; i++) {
            years += f.years[i];
        }
        for (int m = 0; m < s.rooms.size(); m++) {
            alone += most(f, m) == 0 ? 1 : 0;
        }
        return what == 0 ? years : alone;
    }

    int keep() {
        if (kept.size() == 2) {
            return FULL;
        }
        kept.add(now.copy());
        return kept.size();
    }

    int back() {
        if (kept.isEmpty()) {
            return NO;
        }
        now = kept.remove(kept.size() - 1);
        past.clear();
        return kept.size();
    }

    int count(int what) {
        if (what < 0 || what > 7) {
            return BAD;
        }
        int[] counts = {now.rooms.size(), now.limits.size(), now.calls, now.step, seen.size(), past.size(),
            kept.size(), text.length()};
        return counts[what];
    }
}
