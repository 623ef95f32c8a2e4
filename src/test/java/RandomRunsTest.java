import java.util.Random;

/** Runs of 512 random calls: PartnersBook and PlainBook answer alike, and nothing is ever thrown. */
public final class RandomRunsTest {
    private static final int RUNS = 1500;
    private static final int CALLS = 512;
    private static final int[] EXTREMES = {Integer.MIN_VALUE, -1_000_000_001, -1000, -2, -1, 6, 7, 24, 25, 1000,
        1_000_001, 1_000_000_001, Integer.MAX_VALUE};

    private final Random random;
    private final PartnersBook x = new PartnersBook();
    private final PlainBook y = new PlainBook();
    private final StringBuilder calls = new StringBuilder();
    private final int span;
    private final int oddity;
    private static long closes;
    private static long answers;

    private RandomRunsTest(long seed) {
        random = new Random(seed);
        span = 3 + random.nextInt(40);
        oddity = 10 + random.nextInt(200);
    }

    public static void main(String[] args) {
        for (int run = 0; run < RUNS; run++) {
            RandomRunsTest test = new RandomRunsTest(run);
            if (!test.runs()) {
                System.out.println("run " + run + test.calls);
                System.exit(1);
            }
        }
        System.out.println("RandomRunsTest: " + answers + " answers, " + closes + " closes, all alike");
    }

    private boolean runs() {
        for (int i = 0; i < 2 + random.nextInt(4); i++) {
            int first = random.nextInt(4) == 0 ? 900 - random.nextInt(3) : random.nextInt(10);
            if (!same("house " + first, x.house(first), y.house(first))) {
                return false;
            }
            x.rule(i, first);
            y.rule(i, first);
        }
        for (int i = 0; i < CALLS; i++) {
            if (!call()) {
                return false;
            }
            if (!same("status", x.status(), y.status) || !same("where", x.where(), y.where)) {
                return false;
            }
            if (i % 16 == 0 && !audit()) {
                return false;
            }
        }
        return audit();
    }

    private boolean same(String what, long got, long want) {
        answers++;
        calls.append('\n').append(what).append(" -> ").append(got);
        if (got != want) {
            calls.append(", plainly ").append(want);
        }
        return got == want;
    }

    private int odd(int value) {
        return random.nextInt(oddity) == 0 ? EXTREMES[random.nextInt(EXTREMES.length)] : value;
    }

    private int below(int bound) {
        return odd(random.nextInt(Math.max(1, bound)));
    }

    private int aHouse() {
        return below(y.hs.size());
    }

    private int aTenure(int house) {
        PlainBook.H h = y.h(house);
        return below(h == null ? 1 : h.ts.size());
    }

    private int aDay(int house) {
        PlainBook.H h = y.h(house);
        int to = h == null ? 0 : h.to();
        return odd(to - 2 + random.nextInt(span));
    }

    private int aSum() {
        int[] most = {5, 50, 1000, 33_000, 1_000_000, 1_000_000_000};
        return odd(1 + random.nextInt(most[random.nextInt(most.length)]));
    }

    private boolean call() {
        int house = aHouse();
        int dice = random.nextInt(100);
        if (dice < 30) {
            return seats(house, dice);
        }
        if (dice < 45) {
            return rules(house, dice);
        }
        return dice < 80 ? entries(house, dice) : years(house, dice);
    }

    private boolean seats(int house, int dice) {
        int seat = below(6);
        int day = aDay(house);
        int p = below(y.ps.size());
        if (dice < 8 || y.ps.size() < 8) {
            int kind = below(6);
            int told = kind == 5 ? below(y.hs.size()) : random.nextInt(3) == 0 ? aSum() : below(200);
            return same("partner " + kind + " " + told, x.partner(kind, told), y.partner(kind, told));
        }
        if (dice < 18) {
            boolean word = random.nextBoolean();
            return same("join " + house + " " + seat + " " + p + " " + day + " " + word,
                x.join(house, seat, p, day, word), y.join(house, seat, p, day, word));
        }
        if (dice < 22) {
            int n = odd(1 + random.nextInt(10));
            int years = below(6);
            return same("leave " + house + " " + seat + " " + day + " " + n + " " + years,
                x.leave(house, seat, day, n, years), y.leave(house, seat, day, n, years));
        }
        if (dice < 26) {
            for (int i = 0; i < 5 && y.p(p) != null && y.p(p).kind != 4; i++) {
                p = below(y.ps.size());
            }
            return same("die " + house + " " + seat + " " + day + " " + p,
                x.die(house, seat, day, p), y.die(house, seat, day, p));
        }
        if (dice < 27) {
            int letter = odd(1 + random.nextInt(1_000_000));
            return same("letter " + house + " " + seat, x.letter(house, seat, letter), y.letter(house, seat, letter));
        }
        if (dice < 29) {
            return same("unseal " + house + " " + seat, x.unseal(house, seat), y.unseal(house, seat));
        }
        return same("holds " + house + " " + seat, x.holds(house, seat), y.holds(house, seat));
    }

    private boolean rules(int house, int dice) {
        if (dice < 32) {
            int day = aDay(house);
            return same("rule " + house + " " + day, x.rule(house, day), y.rule(house, day));
        }
        int seat = below(6);
        int what = below(5);
        int[] most = {1_000_000, 1_000_000_000, 1_001, 1_001, 501};
        int bound = what >= 0 && what < 5 ? most[what] : 5;
        int v = random.nextInt(3) == 0 ? below(bound) : below(7);
        return same("term " + house + " " + seat + " " + what + " " + v,
            x.term(house, seat, what, v), y.term(house, seat, what, v));
    }

    private boolean entries(int house, int dice) {
        int day = random.nextInt(3) == 0 ? aDay(house) : x.told(house, 9);
        int sum = aSum();
        int t = aTenure(house);
        boolean flag = random.nextBoolean();
        if (dice < 56) {
            int sort = below(3);
            int n = random.nextInt(3) == 0 ? below(7) : random.nextInt(2);
            return same("leaf " + house + " " + day + " " + sort + " " + n,
                x.leaf(house, day, sort, n), y.leaf(house, day, sort, n));
        }
        if (dice < 62) {
            return same("earn " + house + " " + day + " " + sum,
                x.earn(house, day, sum), y.enter(house, day, sum, 1));
        }
        if (dice < 68) {
            return same("spend " + house + " " + day + " " + sum,
                x.spend(house, day, sum), y.enter(house, day, sum, -1));
        }
        if (dice < 70) {
            int v = flag ? sum : -sum;
            return same("loose " + house + " " + v, x.loose(house, v), y.loose(house, v));
        }
        if (dice < 75) {
            day = aDay(house);
            return same("move " + house + " " + t + " " + day + " " + sum + " " + flag,
                x.move(house, t, day, sum, flag), y.move(house, t, day, sum, flag));
        }
        if (dice < 77) {
            return same("lend " + house + " " + t + " " + sum + " " + flag,
                x.lend(house, t, sum, flag), y.lend(house, t, sum, flag));
        }
        if (dice < 79) {
            return same("undo " + house, x.undo(house), y.undo(house));
        }
        return same("tear " + house + " " + day, x.tear(house, day), y.tear(house, day));
    }

    private boolean years(int house, int dice) {
        PlainBook.H h = y.h(house);
        int day = aDay(house);
        int sum = aSum();
        if (dice < 84) {
            return same("end " + house + " " + day, x.end(house, day), y.end(house, day));
        }
        if (dice < 92) {
            return closing(house, h);
        }
        if (dice < 94 && h != null) {
            day = odd(h.first + random.nextInt(Math.max(1, h.to() - h.first + 1)));
            int v = random.nextBoolean() ? sum : -sum;
            return same("mend " + house + " " + day + " " + v, x.mend(house, day, v), y.mend(house, day, v));
        }
        if (dice < 96) {
            return same("hidden " + house + " " + day + " " + sum,
                x.hidden(house, day, sum), y.hidden(house, day, sum));
        }
        if (dice < 98) {
            return same("bear " + house + " " + day + " " + sum,
                x.bear(house, day, sum), y.bear(house, day, sum));
        }
        if (dice < 99) {
            return same("check " + house, x.check(house), y.check(house));
        }
        int t = below(25);
        long v = y.account(house, t, 6);
        return same("sheet " + t + " " + v, x.sheet(t, v), y.sheet(t, v));
    }

    /** A close, most often with all that would stop it set right first. */
    private boolean closing(int house, PlainBook.H h) {
        if (h != null && random.nextInt(5) != 0) {
            if (h.closed == h.ends.size()) {
                int day = h.to() + 1 + random.nextInt(8);
                x.end(house, day);
                y.end(house, day);
            }
            for (int day = h.to() + 1; h.closed < h.ends.size() && day <= h.ends.get(h.closed); day++) {
                if (h.open(day)) {
                    int n = random.nextInt(3);
                    int v = aSum();
                    x.leaf(house, day, 2, n);
                    y.leaf(house, day, 2, n);
                    for (int i = 0; i < n; i++) {
                        x.earn(house, day, v);
                        y.enter(house, day, v, 1);
                        x.spend(house, day, i + 3);
                        y.enter(house, day, i + 3, -1);
                    }
                }
            }
        }
        int year = x.close(house);
        closes += year >= 0 ? 1 : 0;
        return same("close " + house, year, y.close(house));
    }

    private boolean audit() {
        for (int i = -1; i < 9; i++) {
            if (!same("circle " + i, x.circle(i), y.circle(i))) {
                return false;
            }
        }
        for (int t = -2; t < 26; t++) {
            if (!same("borne " + t, x.borne(t), y.borne(t))) {
                return false;
            }
        }
        for (int house = -1; house <= y.hs.size(); house++) {
            if (!auditHouse(house) || !auditTenures(house) || !auditDays(house)) {
                return false;
            }
        }
        return same("status at last", x.status(), y.status);
    }

    private boolean auditHouse(int house) {
        for (int what = -1; what <= 10; what++) {
            if (!same("told " + house + " " + what, x.told(house, what), y.told(house, what))) {
                return false;
            }
        }
        int stretches = Math.max(0, x.told(house, 8));
        for (int i = -1; i <= stretches; i++) {
            for (int what = -1; what <= 6; what++) {
                if (!same("stretch " + i + " " + what, x.stretch(house, i, what), y.stretch(house, i, what))) {
                    return false;
                }
            }
            for (int t = -1; t <= Math.max(0, x.told(house, 4)); t++) {
                if (!same("due " + i + " " + t, x.due(house, i, t), y.due(house, i, t))) {
                    return false;
                }
            }
        }
        return true;
    }

    private boolean auditTenures(int house) {
        for (int t = -1; t <= Math.max(0, x.told(house, 4)); t++) {
            for (int what = -1; what <= 8; what++) {
                if (!same("account " + house + " " + t + " " + what,
                        x.account(house, t, what), y.account(house, t, what))
                    || !same("tenure " + house + " " + t + " " + what,
                        x.tenure(house, t, what), y.tenure(house, t, what))) {
                    return false;
                }
            }
        }
        return true;
    }

    private boolean auditDays(int house) {
        int around = Math.max(0, x.told(house, 1));
        for (int day = around - 8; day < around + 12; day++) {
            for (int what = -1; what <= 4; what++) {
                if (!same("sum " + house + " " + what + " " + day,
                        x.sum(house, what, day), y.sum(house, what, day))) {
                    return false;
                }
            }
            for (int i = -1; i <= 6; i++) {
                if (!same("entry " + house + " " + day + " " + i, x.entry(house, day, i), y.entry(house, day, i))
                    || !same("who " + house + " " + i + " " + day, x.who(house, i, day), y.who(house, i, day))) {
                    return false;
                }
            }
        }
        return true;
    }
}
