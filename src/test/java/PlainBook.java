import java.math.BigInteger;
import java.util.ArrayList;
import java.util.Arrays;
import java.util.HashMap;
import java.util.List;
import java.util.Map;
import java.util.TreeMap;

/** The document once more, told as slowly and plainly as it can be: RandomRunsTest asks both. */
final class PlainBook {
    static final int NONE = -1;

    static final class P { int kind, told; }

    static final class T {
        int no, partner, seat, begin, years, left;
        Integer end;
        T heir;
        boolean word;
        long credit, hidden, borne, lent, payable, paid, dues;

        boolean in(int day) { return begin <= day && (end == null || day < end); }
    }

    static final class R {
        int day, thousandths;
        int[][] of = new int[6][4];

        String text() { return thousandths + Arrays.deepToString(of); }
    }

    static final class L {
        int sort, n;
        List<Long> entries = new ArrayList<>();
    }

    static final class M { T t; int day; long v; }

    static final class S {
        int day, days;
        long result, nobody;
        List<T> in = new ArrayList<>();
        Map<T, Long> due = new HashMap<>();

        void add(T t, long v) { due.merge(t, v, Long::sum); }

        long all() { return due.values().stream().mapToLong(v -> v).sum(); }
    }

    static final class H {
        int no, first, closed;
        List<Integer> ends = new ArrayList<>();
        int[] letter = new int[6];
        T[] held = new T[6];
        List<T> ts = new ArrayList<>();
        List<R> rules = new ArrayList<>();
        Map<Integer, L> leaves = new TreeMap<>();
        Map<Integer, Long> income = new TreeMap<>();
        long loose, nobody;
        List<M> moves = new ArrayList<>();
        List<int[]> mends = new ArrayList<>();
        List<Object> log = new ArrayList<>();
        List<S> stretches = new ArrayList<>();

        int to() { return closed == 0 ? first - 1 : ends.get(closed - 1); }

        boolean free(int day) { return day > to() && day <= 999; }

        R rule(int day) {
            R found = null;
            for (R r : rules) if (r.day <= day) found = r;
            return found;
        }

        boolean open(int day) {
            L l = leaves.get(day);
            return l == null || l.entries.size() < l.n;
        }

        long entries(int day) {
            L l = leaves.get(day);
            return l == null ? 0 : l.entries.stream().mapToLong(v -> v).sum();
        }

        List<T> in(int day) {
            List<T> found = new ArrayList<>();
            for (int seat = 0; seat < 6; seat++) for (T t : ts) if (t.seat == seat && t.in(day)) found.add(t);
            return found;
        }
    }

    final List<H> hs = new ArrayList<>();
    final List<P> ps = new ArrayList<>();
    List<Integer> circle = List.of();
    final long[] sheet = new long[25];
    int status, where = NONE;
    H bearOf;
    Map<T, Long> bears = new HashMap<>();
    long bearNobody;

    int no(int why) { return no(why, NONE); }

    int no(int why, int place) { status = why; where = place; return NONE; }

    int ok(long v) { status = 0; where = NONE; return (int) v; }

    H h(int n) { return n < 0 || n >= hs.size() ? null : hs.get(n); }

    P p(int n) { return n < 0 || n >= ps.size() ? null : ps.get(n); }

    T t(int house, int n) {
        H h = h(house);
        return h == null || n < 0 || n >= h.ts.size() ? null : h.ts.get(n);
    }

    static boolean seat(int s) { return s >= 0 && s < 6; }

    static boolean sum(int s) { return s >= 1 && s <= 1_000_000_000; }

    boolean limited(T t) { int k = ps.get(t.partner).kind; return k == 1 || k == 2 || k == 4; }

    int house(int first) {
        if (first < 0 || first > 900) return no(2);
        if (hs.size() == 8) return no(9);
        H h = new H();
        h.no = hs.size();
        h.first = first;
        hs.add(h);
        return ok(h.no);
    }

    int partner(int kind, int told) {
        if (kind < 0 || kind > 5) return no(2);
        if ((kind == 1 || kind == 2 || kind == 4) && (told < 0 || told > 1_000_000_000)) return no(2);
        if (kind == 5 && h(told) == null) return no(1);
        if (ps.size() == 40) return no(9);
        P p = new P();
        p.kind = kind;
        p.told = told;
        ps.add(p);
        return ok(ps.size() - 1);
    }

    int letter(int house, int seat, int letter) {
        H h = h(house);
        if (h == null || !seat(seat)) return no(1);
        if (letter < 1 || letter > 1_000_000) return no(2);
        int holds = held(h, seat);
        if (holds == 1 || holds == 2) return no(4);
        h.letter[seat] = letter;
        h.held[seat] = null;
        return ok(1);
    }

    int held(H h, int seat) {
        if (h.letter[seat] > 0) return 1;
        if (h.held[seat] == null) return 0;
        return h.held[seat].end == null ? 2 : 3;
    }

    int unseal(int house, int seat) {
        H h = h(house);
        if (h == null || !seat(seat)) return no(1);
        int was = h.letter[seat];
        if (was == 0) return no(4);
        h.letter[seat] = 0;
        return ok(was);
    }

    int holds(int house, int seat) {
        H h = h(house);
        return h == null || !seat(seat) ? no(1) : ok(held(h, seat));
    }

    boolean owns(int a, int b) {
        for (T t : hs.get(b).ts) {
            P p = ps.get(t.partner);
            if (p.kind == 5 && p.told == a) return true;
        }
        return false;
    }

    void paths(List<Integer> way, int goal, List<List<Integer>> found) {
        int at = way.get(way.size() - 1);
        if (at == goal) {
            found.add(new ArrayList<>(way));
            return;
        }
        for (int n = 0; n < hs.size(); n++) {
            if (!way.contains(n) && owns(at, n)) {
                way.add(n);
                paths(way, goal, found);
                way.remove(way.size() - 1);
            }
        }
    }

    int join(int house, int seat, int partner, int day, boolean word) {
        circle = List.of();
        H h = h(house);
        P p = p(partner);
        if (h == null || p == null || !seat(seat)) return no(1);
        if (!h.free(day)) return no(3);
        if (h.letter[seat] > 0) return no(4);
        for (T t : h.ts) if (t.seat == seat && (t.end == null || t.end > day)) return no(4);
        if (p.kind == 5) {
            List<List<Integer>> found = new ArrayList<>();
            paths(new ArrayList<>(List.of(house)), p.told, found);
            List<Integer> best = null;
            // the search meets the least numbers first, so only a shorter one is better
            for (List<Integer> way : found) if (best == null || way.size() < best.size()) best = way;
            if (best != null) {
                circle = best;
                return no(8);
            }
        }
        if (h.ts.size() == 24) return no(9);
        return ok(sit(h, seat, partner, day, word).no);
    }

    T sit(H h, int seat, int partner, int day, boolean word) {
        T t = new T();
        t.no = h.ts.size();
        t.partner = partner;
        t.seat = seat;
        t.begin = day;
        t.word = word;
        h.ts.add(t);
        h.held[seat] = t;
        return t;
    }

    int leave(int house, int seat, int day, int instalments, int years) {
        H h = h(house);
        if (h == null || !seat(seat)) return no(1);
        if (held(h, seat) != 2) return no(4);
        if (instalments < 1 || instalments > 10 || years < 0 || years > 5) return no(2);
        T t = h.held[seat];
        if (!h.free(day) || day <= t.begin) return no(3);
        t.end = day;
        t.left = instalments;
        t.years = years;
        return ok(t.no);
    }

    int die(int house, int seat, int day, int heir) {
        H h = h(house);
        if (h == null || !seat(seat) || p(heir) == null) return no(1);
        if (held(h, seat) != 2) return no(4);
        if (ps.get(heir).kind != 4) return no(2);
        T t = h.held[seat];
        if (!h.free(day) || day <= t.begin) return no(3);
        if (h.ts.size() == 24) return no(9);
        t.end = day;
        t.left = 1;
        t.heir = sit(h, seat, heir, day, false);
        return ok(t.heir.no);
    }

    int circle(int i) { return i < 0 || i >= circle.size() ? NONE : circle.get(i); }

    int rule(int house, int day) {
        H h = h(house);
        if (h == null) return no(1);
        if (!h.free(day)) return no(3);
        R ahead = h.rules.isEmpty() ? null : h.rules.get(h.rules.size() - 1);
        if (ahead == null ? day != h.first : day <= ahead.day) return no(3);
        if (h.rules.size() == 16) return no(9);
        R r = new R();
        r.day = day;
        if (ahead != null) {
            r.thousandths = ahead.thousandths;
            for (int s = 0; s < 6; s++) r.of[s] = ahead.of[s].clone();
        }
        h.rules.add(r);
        return ok(h.rules.size());
    }

    int term(int house, int seat, int what, int v) {
        H h = h(house);
        if (h == null || h.rules.isEmpty()) return no(1);
        if (what != 4 && !seat(seat)) return no(1);
        if (what < 0 || what > 4 || v < 0) return no(2);
        if (v > List.of(1_000_000, 1_000_000_000, 1000, 1000, 500).get(what)) return no(2);
        R r = h.rules.get(h.rules.size() - 1);
        if (!h.free(r.day)) return no(3);
        int was = what == 4 ? r.thousandths : r.of[seat][what];
        if (what == 4) r.thousandths = v; else r.of[seat][what] = v;
        return ok(was);
    }

    int leaf(int house, int day, int sort, int n) {
        H h = h(house);
        if (h == null) return no(1);
        if (sort < 0 || sort > 2 || n < 0 || n > 6) return no(2);
        if (!h.free(day)) return no(3);
        L l = new L();
        l.sort = sort;
        l.n = n;
        h.leaves.put(day, l);
        h.log.clear();
        return ok(n);
    }

    int tear(int house, int day) {
        H h = h(house);
        if (h == null) return no(1);
        if (!h.free(day)) return no(3);
        L l = h.leaves.remove(day);
        if (l == null) return no(10);
        h.log.clear();
        return ok(l.entries.size());
    }

    int enter(int house, int day, int sum, int sign) {
        H h = h(house);
        if (h == null) return no(1);
        if (!sum(sum)) return no(2);
        if (!h.free(day)) return no(3);
        L l = h.leaves.get(day);
        if (l == null || l.entries.size() >= l.n) return no(10);
        int v = sign * sum;
        if (l.sort == 0 && (short) v != v) return no(2);
        l.entries.add((long) v);
        note(h, l);
        return ok(l.entries.size());
    }

    void note(H h, Object what) {
        h.log.add(what);
        if (h.log.size() > 60) h.log.remove(0);
    }

    int loose(int house, int v) {
        H h = h(house);
        if (h == null) return no(1);
        if (Math.abs((long) v) > 1_000_000_000) return no(2);
        if (Math.abs(h.loose + v) > 1_000_000_000_000L) return no(9);
        h.loose += v;
        return ok(1);
    }

    int move(int house, int tenure, int day, int sum, boolean out) {
        H h = h(house);
        T t = t(house, tenure);
        if (t == null) return no(1);
        if (!sum(sum)) return no(2);
        if (!h.free(day) || !t.in(day)) return no(3);
        if (h.moves.size() == 120) return no(9);
        M m = new M();
        m.t = t;
        m.day = day;
        m.v = out ? -sum : sum;
        h.moves.add(m);
        note(h, m);
        return ok(h.moves.size());
    }

    int lend(int house, int tenure, int sum, boolean back) {
        T t = t(house, tenure);
        if (t == null) return no(1);
        if (!sum(sum) || back && sum > t.lent) return no(2);
        if (!back && t.lent + sum > 1_000_000_000) return no(9);
        t.lent += back ? -sum : sum;
        return ok(t.lent);
    }

    int undo(int house) {
        H h = h(house);
        if (h == null) return no(1);
        if (h.log.isEmpty()) return ok(0);
        Object latest = h.log.remove(h.log.size() - 1);
        if (latest instanceof L l) l.entries.remove(l.entries.size() - 1);
        else h.moves.removeIf(m -> m == latest);
        return ok(1);
    }

    int end(int house, int day) {
        H h = h(house);
        if (h == null) return no(1);
        int first = h.ends.isEmpty() ? h.first : h.ends.get(h.ends.size() - 1) + 1;
        if (day < 0 || day > 999 || day < first || day > first + 99) return no(3);
        if (h.ends.size() == 12) return no(9);
        h.ends.add(day);
        return ok(h.ends.size());
    }

    static long[] cut(long s, List<Long> weights) {
        int n = weights.size();
        long[] parts = new long[n];
        BigInteger total = BigInteger.valueOf(weights.stream().mapToLong(w -> w).sum());
        if (total.signum() == 0) return parts;
        BigInteger size = BigInteger.valueOf(s).abs();
        List<Integer> order = new ArrayList<>();
        BigInteger[] rest = new BigInteger[n];
        long left = size.longValue();
        for (int i = 0; i < n; i++) {
            BigInteger[] qr = size.multiply(BigInteger.valueOf(weights.get(i))).divideAndRemainder(total);
            parts[i] = qr[0].longValue();
            rest[i] = qr[1];
            left -= parts[i];
            order.add(i);
        }
        order.sort((a, b) -> rest[b].compareTo(rest[a]));
        for (int i = 0; i < left; i++) parts[order.get(i)]++;
        for (int i = 0; i < n && s < 0; i++) parts[i] = -parts[i];
        return parts;
    }

    /** What each bears of a loss above 0. */
    long[] bearing(long loss, List<T> who, List<Long> weights) {
        long[] parts = cut(loss, weights);
        long off = 0;
        List<Long> full = new ArrayList<>();
        for (int i = 0; i < who.size(); i++) {
            T t = who.get(i);
            full.add(limited(t) ? 0L : weights.get(i));
            long room = ps.get(t.partner).told - t.borne;
            if (limited(t) && parts[i] > room) {
                off += parts[i] - room;
                parts[i] = room;
            }
        }
        long[] more = cut(off, full);
        for (int i = 0; i < parts.length; i++) parts[i] += more[i];
        return parts;
    }

    int close(int house) {
        H h = h(house);
        if (h == null) return no(1);
        if (h.closed == h.ends.size()) return no(6);
        if (h.rules.isEmpty()) return no(1);
        int from = h.to() + 1;
        int last = h.ends.get(h.closed);
        for (int day = from; day <= last; day++) if (h.open(day)) return no(5, day);
        for (H other : hs) {
            for (T t : other.ts) {
                P p = ps.get(t.partner);
                if (p.kind != 5 || p.told != house || t.begin > last) continue;
                int need = t.end == null ? last : Math.min(last, t.end - 1);
                if (other.to() < need) return no(7, other.no);
            }
        }
        closeYear(h, from, last);
        return ok(h.closed - 1);
    }

    void closeYear(H h, int from, int last) {
        h.stretches.clear();
        String ahead = null;
        for (int day = from; day <= last; day++) {
            StringBuilder mark = new StringBuilder(h.rule(day).text());
            for (T t : h.in(day)) mark.append(' ').append(t.no);
            if (!mark.toString().equals(ahead)) {
                S s = new S();
                s.day = day;
                s.in = h.in(day);
                h.stretches.add(s);
            }
            ahead = mark.toString();
            h.stretches.get(h.stretches.size() - 1).days++;
        }
        List<Long> days = new ArrayList<>();
        for (S s : h.stretches) days.add((long) s.days);
        long[] loose = cut(h.loose, days);
        h.loose = 0;
        for (int i = 0; i < days.size(); i++) {
            S s = h.stretches.get(i);
            s.result = loose[i];
            for (int day = s.day; day < s.day + s.days; day++)
                s.result += h.entries(day) + h.income.getOrDefault(day, 0L);
            settle(h, s);
        }
        for (int[] mend : h.mends) {
            S s = new S();
            s.day = mend[0];
            s.in = h.in(s.day);
            s.result = mend[1];
            h.stretches.add(s);
            share(h, s, s.result);
        }
        h.mends.clear();
        h.log.clear();
        h.closed++;
        book(h, last);
    }

    void settle(H h, S s) {
        R r = h.rule(s.day);
        long left = s.result;
        for (T t : s.in) {
            long wage = ps.get(t.partner).kind == 3 ? (long) r.of[t.seat][0] * s.days : 0;
            long all = 0;
            for (int day = s.day; day < s.day + s.days; day++) {
                long credit = t.credit;
                for (M m : h.moves) if (m.t == t && m.day <= day) credit += m.v;
                if (credit > 0) all += credit;
            }
            long interest = all * r.thousandths / 360_000;
            s.add(t, wage + interest);
            left -= wage + interest;
        }
        for (T t : s.in) {
            if (left > 0) {
                long fixed = Math.min(left, r.of[t.seat][1]);
                s.add(t, fixed);
                left -= fixed;
            }
        }
        share(h, s, left);
    }

    void share(H h, S s, long left) {
        R r = h.rule(s.day);
        List<Long> weights = new ArrayList<>();
        for (T t : s.in) weights.add((long) r.of[t.seat][left > 0 ? 2 : 3]);
        long[] parts = left > 0 ? cut(left, weights) : bearing(-left, s.in, weights);
        s.nobody = left;
        for (int i = 0; i < parts.length; i++) {
            T t = s.in.get(i);
            long v = left > 0 ? parts[i] : -parts[i];
            s.add(t, v);
            s.nobody -= v;
            if (left < 0) t.borne += parts[i];
        }
    }

    void book(H h, int last) {
        for (S s : h.stretches) h.nobody += s.nobody;
        for (M m : h.moves) if (m.day <= last) m.t.credit += m.v;
        h.moves.removeIf(m -> m.day <= last);
        for (T t : h.ts) {
            t.dues = 0;
            for (S s : h.stretches) t.dues += s.due.getOrDefault(t, 0L);
            t.credit += t.dues;
            P p = ps.get(t.partner);
            if (p.kind != 5) continue;
            H owner = hs.get(p.told);
            int day = Math.max(last, owner.to() + 1);
            if (day > 999) owner.loose += t.dues; else owner.income.merge(day, t.dues, Long::sum);
        }
        for (T t : h.ts) {
            if (t.end == null || t.end > last + 1) continue;
            if (t.heir != null) {
                t.heir.credit += t.credit;
                t.heir.hidden += t.hidden;
                t.credit = 0;
            } else {
                t.payable += Math.max(t.credit, 0) + t.hidden;
                t.credit = Math.min(t.credit, 0);
                long pay = t.payable / t.left;
                t.payable -= pay;
                t.paid += pay;
                if (t.left > 1) t.left--;
            }
            t.hidden = 0;
        }
    }

    int mend(int house, int day, int sum) {
        H h = h(house);
        if (h == null) return no(1);
        if (!sum(sum) && !sum(-sum)) return no(2);
        if (day < h.first || day > h.to()) return no(3);
        if (h.mends.size() == 20) return no(9);
        h.mends.add(new int[] {day, sum});
        return ok(h.mends.size());
    }

    int hidden(int house, int day, int sum) {
        H h = h(house);
        if (h == null || h.rules.isEmpty()) return no(1);
        if (!sum(sum)) return no(2);
        if (day < h.first || day > 999) return no(3);
        List<Long> weights = new ArrayList<>();
        List<T> in = h.in(day);
        for (T t : in) weights.add((long) h.rule(day).of[t.seat][2]);
        long[] parts = cut(sum, weights);
        for (int i = 0; i < parts.length; i++) in.get(i).hidden += parts[i];
        return ok(Arrays.stream(parts).sum());
    }

    int bear(int house, int day, int debt) {
        H h = h(house);
        if (h == null || h.rules.isEmpty()) return no(1);
        if (!sum(debt)) return no(2);
        if (day < h.first || day > 999) return no(3);
        List<T> who = new ArrayList<>();
        List<Long> weights = new ArrayList<>();
        for (T t : h.ts) {
            int since = 0;
            for (int y = 0; y < h.closed && t.end != null; y++) if (h.ends.get(y) >= t.end) since++;
            R r = null;
            if (t.in(day) && (t.end == null || since < t.years)) r = h.rule(day);
            if (t.begin > day && t.word && t.end == null) r = h.rules.get(h.rules.size() - 1);
            if (r == null) continue;
            who.add(t);
            weights.add((long) r.of[t.seat][3]);
        }
        long[] parts = bearing(debt, who, weights);
        bearOf = h;
        bears.clear();
        bearNobody = debt;
        int some = 0;
        for (int i = 0; i < parts.length; i++) {
            bears.put(who.get(i), parts[i]);
            bearNobody -= parts[i];
            if (parts[i] > 0) some++;
        }
        return ok(some);
    }

    int borne(int t) {
        if (bearOf == null) return 0;
        if (t == -1) return (int) bearNobody;
        T who = t(bearOf.no, t);
        return who == null ? 0 : (int) (long) bears.getOrDefault(who, 0L);
    }

    long account(int house, int tenure, int what) {
        T t = t(house, tenure);
        if (t == null || what < 0 || what > 6) return 0;
        return new long[] {t.credit, t.hidden, t.borne, t.lent, t.payable, t.paid, t.dues}[what];
    }

    int tenure(int house, int tenure, int what) {
        T t = t(house, tenure);
        if (t == null || what < 0 || what > 7) return NONE;
        int kind = ps.get(t.partner).kind;
        return new int[] {t.partner, t.seat, t.begin, t.end == null ? NONE : t.end, t.word ? 1 : 0, t.left,
            t.heir == null ? NONE : t.heir.no, kind == 2 || kind == 4 ? NONE : kind}[what];
    }

    int who(int house, int seat, int day) {
        H h = h(house);
        if (h == null || day < 0 || day > 999) return NONE;
        for (T t : h.in(day)) if (t.seat == seat) return t.no;
        return NONE;
    }

    S s(int house, int i) {
        H h = h(house);
        return h == null || i < 0 || i >= h.stretches.size() ? null : h.stretches.get(i);
    }

    long stretch(int house, int i, int what) {
        S s = s(house, i);
        if (s == null || what < 0 || what > 5) return 0;
        return new long[] {s.day, s.days, s.result, s.nobody, s.all(), s.in.size()}[what];
    }

    long due(int house, int i, int tenure) {
        S s = s(house, i);
        T t = t(house, tenure);
        return s == null || t == null ? 0 : s.due.getOrDefault(t, 0L);
    }

    int told(int house, int what) {
        H h = h(house);
        if (h == null || what < 0 || what > 9) return NONE;
        int open = h.to() + 1;
        while (open < 1000 && !h.open(open)) open++;
        return new int[] {h.first, h.to(), h.ends.size(), h.closed, h.ts.size(), h.rules.size(), h.moves.size(),
            h.mends.size(), h.stretches.size(), open}[what];
    }

    long sum(int house, int what, int day) {
        H h = h(house);
        if (h == null || what < 0 || what > 3) return 0;
        return new long[] {h.loose, h.entries(day), h.income.getOrDefault(day, 0L), h.nobody}[what];
    }

    long entry(int house, int day, int i) {
        H h = h(house);
        L l = h == null ? null : h.leaves.get(day);
        return l == null || i < 0 || i >= l.entries.size() ? 0 : l.entries.get(i);
    }

    int sheet(int t, long v) {
        if (t < 0 || t > 24) return no(2);
        sheet[t] = v;
        return ok(1);
    }

    int check(int house) {
        H h = h(house);
        if (h == null || h.closed == 0) return no(1);
        for (int t = 0; t < 24; t++) if (sheet[t] != account(house, t, 6)) return ok(t);
        return ok(sheet[24] == h.stretches.stream().mapToLong(s -> s.nobody).sum() ? -2 : 24);
    }
}
