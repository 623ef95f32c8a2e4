/** Terms V to VII and promises 22 to 26: the edges of CUT, BEARING, a close, and of who bears an old debt. */
public final class CloseEdgesTest {
    private static final int NONE = PartnersBook.NONE;
    private static final int MOST = 1_000_000_000;
    private static final Checks c = new Checks("CloseEdgesTest");

    public static void main(String[] args) {
        coins();
        greatestCut();
        cutsBelowNone();
        nothingToCut();
        limits();
        limitsOfSixKinds();
        nobodyBearsTheRest();
        whatWasTakenOffIsCut();
        wagesOfSixKinds();
        wagesWithoutResult();
        interestToTheCoin();
        interestFromTheDayOfAMove();
        interestOfDaysWithoutCredit();
        interestByStretches();
        movesOfLaterYears();
        manyStretches();
        fewerThanAhead();
        sumsToTheCoin();
        gainsAndLossesOfOne();
        nothingLeft();
        partedDays();
        partsOnTheYearsEdges();
        mendsByTheirDays();
        mendsBehindTheStretches();
        endsOfTenures();
        paidInInstalments();
        heirsAndTheirDays();
        incomeDays();
        incomeBeyondTheBound();
        incomeOfTwoTenures();
        waiting();
        debtsAndYears();
        debtsAndWords();
        c.finish();
    }

    /** House 0 from day 0 on with a rule; partner n (0 .. 5) has the told kind, and kind 5 is house 1. */
    private static PartnersBook book(int... kinds) {
        PartnersBook x = new PartnersBook();
        x.house(0);
        x.house(0);
        for (int kind : kinds) {
            x.partner(kind, kind == 5 ? 1 : 0);
        }
        x.rule(0, 0);
        return x;
    }

    private static void seatAll(PartnersBook x, int day) {
        for (int seat = 0; x.join(0, seat, seat, day, false) != NONE; seat++) {
            c.is("seated", x.status(), 0);
        }
    }

    private static void weigh(PartnersBook x, int what, int... weights) {
        for (int seat = 0; seat < weights.length; seat++) {
            x.term(0, seat, what, weights[seat]);
        }
    }

    /** Closes house 0 to a day; its result is told by loose(), its days have leaves of none. */
    private static void closeTo(PartnersBook x, int last, int result) {
        x.loose(0, result);
        x.end(0, last);
        for (int day = x.told(0, 9); day <= last; day = x.told(0, 9)) {
            x.leaf(0, day, 0, 0);
        }
        c.taken(x, "close to " + last, x.close(0), x.told(0, 3) - 1);
    }

    private static void dues(PartnersBook x, String what, int stretch, long... want) {
        for (int t = 0; t < want.length; t++) {
            c.is(what + ", due of " + t, x.due(0, stretch, t), want[t]);
        }
    }

    private static void coins() {
        for (int s = 1; s <= 13; s++) {
            PartnersBook x = book(0, 0, 0, 0, 0, 0);
            weigh(x, 2, 1, 1, 1, 1, 1, 1);
            seatAll(x, 0);
            closeTo(x, 0, s);
            for (int t = 0; t < 6; t++) {
                c.is("of " + s + " by six, " + t, x.due(0, 0, t), s / 6 + (t < s % 6 ? 1 : 0));
            }
        }
        PartnersBook x = book(0, 0, 0);
        weigh(x, 2, 0, 1, 2);
        seatAll(x, 0);
        closeTo(x, 0, 1);
        dues(x, "the greater remainder", 0, 0, 0, 1);
        closeTo(x, 1, 2);
        dues(x, "the greater remainder again", 0, 0, 1, 1);
    }

    private static void greatestCut() {
        PartnersBook x = book(0, 0);
        weigh(x, 2, 1_000, 1);
        seatAll(x, 0);
        // rests of 1 and of 1,000 by 1,001
        closeTo(x, 0, MOST);
        dues(x, "the most", 0, 999_000_999, 999_001);
        PartnersBook y = book(0, 0);
        weigh(y, 3, 1_000, 1);
        seatAll(y, 0);
        closeTo(y, 0, -MOST);
        dues(y, "the least", 0, -999_000_999, -999_001);
    }

    private static void cutsBelowNone() {
        int[] sums = {-1, -2, -3, -4, -5, 1, 2, 3, 4, 5};
        int[] firsts = {0, -1, -1, -1, -2, 0, 1, 1, 1, 2};
        for (int i = 0; i < sums.length; i++) {
            PartnersBook x = book(0);
            x.rule(0, 1);
            x.term(0, 0, 0, 1);
            closeTo(x, 2, sums[i]);
            c.is("one of three days, of " + sums[i], x.stretch(0, 0, 2), firsts[i]);
            c.is("two of three days, of " + sums[i], x.stretch(0, 1, 2), sums[i] - firsts[i]);
        }
        PartnersBook x = book(0);
        x.rule(0, 1);
        x.term(0, 0, 0, 1);
        closeTo(x, 1, -1);
        c.is("alike ones: the earlier", x.stretch(0, 0, 2), -1);
        c.is("alike ones: not the later", x.stretch(0, 1, 2), 0);
    }

    private static void nothingToCut() {
        PartnersBook x = book(0, 0);
        seatAll(x, 0);
        c.taken(x, "hidden without parts", x.hidden(0, 0, 9), 0);
        c.taken(x, "a debt without loss parts", x.bear(0, 0, 9), 0);
        c.is("nobody's debt", x.borne(-1), 9);
        closeTo(x, 0, 9);
        c.is("a gain without parts", x.stretch(0, 0, 3), 9);
        closeTo(x, 1, -9);
        c.is("a loss without loss parts", x.stretch(0, 0, 3), -9);
        c.is("nobody bore", x.account(0, 0, 2), 0);
        closeTo(x, 2, 0);
        c.is("nothing", x.stretch(0, 0, 2), 0);
        c.is("nobody's nothing", x.stretch(0, 0, 3), 0);
    }

    private static void limits() {
        for (int loss = 7; loss <= 12; loss++) {
            PartnersBook x = new PartnersBook();
            x.house(0);
            x.partner(1, 5);
            x.partner(0, 0);
            x.rule(0, 0);
            weigh(x, 3, 1, 1);
            seatAll(x, 0);
            closeTo(x, 0, -loss);
            int limited = Math.min(5, (loss + 1) / 2);
            dues(x, "loss of " + loss, 0, -limited, limited - loss);
            c.is("borne of " + loss, x.account(0, 0, 2), limited);
            c.is("nobody's of " + loss, x.stretch(0, 0, 3), 0);
            // the room is less by what was borne
            x.bear(0, 0, 20);
            c.is("room of " + loss, x.borne(0), 5 - limited);
            c.is("the rest of " + loss, x.borne(1), 15 + limited);
        }
        PartnersBook x = new PartnersBook();
        x.house(0);
        x.partner(2, MOST);
        x.rule(0, 0);
        weigh(x, 3, 1);
        seatAll(x, 0);
        closeTo(x, 0, -MOST);
        c.is("the greatest limit", x.due(0, 0, 0), -MOST);
        closeTo(x, 1, -1);
        c.is("is reached", x.due(0, 0, 0), 0);
        c.is("nobody's", x.stretch(0, 0, 3), -1);
    }

    private static void limitsOfSixKinds() {
        PartnersBook x = book(0, 1, 2, 3, 4, 5);
        weigh(x, 3, 1, 1, 1, 1, 1, 1);
        seatAll(x, 0);
        c.is("all are in", x.told(0, 4), 6);
        c.taken(x, "three bear all", x.bear(0, 0, 12), 3);
        for (int t = 0; t < 6; t++) {
            c.is("debt of kind " + t, x.borne(t), t == 0 || t == 3 || t == 5 ? 4 : 0);
        }
        closeTo(x, 0, -12);
        dues(x, "limits of 0", 0, -4, 0, 0, -4, 0, -4);
        c.is("borne by kind 5", x.account(0, 5, 2), 4);
    }

    private static void nobodyBearsTheRest() {
        PartnersBook x = book(0, 1, 4);
        weigh(x, 3, 0, 1, 1);
        seatAll(x, 0);
        closeTo(x, 0, -7);
        dues(x, "the full one has no loss parts", 0, 0, 0, 0);
        c.is("nobody's", x.stretch(0, 0, 3), -7);
        c.taken(x, "nobody bears", x.bear(0, 0, 7), 0);
        c.is("nobody's debt", x.borne(-1), 7);
    }

    private static void whatWasTakenOffIsCut() {
        PartnersBook x = book(1, 0, 0, 2, 0);
        weigh(x, 3, 2, 3, 3, 1, 0);
        seatAll(x, 0);
        // 9: 2, 3, 3, 1, 0; 3 are taken off: 1.5 each, the earlier has the coin
        closeTo(x, 0, -9);
        dues(x, "taken off together", 0, 0, -5, -4, 0, 0);
        c.is("nobody's", x.stretch(0, 0, 3), 0);
    }

    private static void wagesOfSixKinds() {
        PartnersBook x = book(0, 1, 2, 3, 4, 5);
        weigh(x, 0, 10, 10, 10, 10, 10, 10);
        weigh(x, 3, 1, 0, 0, 0, 0, 0);
        seatAll(x, 0);
        closeTo(x, 2, 30);
        dues(x, "the wage of three days", 0, 0, 0, 0, 30, 0, 0);
        c.is("nothing is left", x.stretch(0, 0, 3), 0);
        closeTo(x, 3, 9);
        dues(x, "a wage beyond the result", 0, -1, 0, 0, 10, 0, 0);
        PartnersBook y = book(3);
        y.term(0, 0, 0, 1_000_000);
        y.join(0, 0, 0, 0, false);
        closeTo(y, 99, 0);
        c.is("the most in a hundred days", y.due(0, 0, 0), 100_000_000);
        c.is("nobody bears it", y.stretch(0, 0, 3), -100_000_000);
    }

    private static void wagesWithoutResult() {
        PartnersBook x = book(3, 0);
        weigh(x, 0, 4, 4);
        weigh(x, 3, 1, 1);
        seatAll(x, 0);
        closeTo(x, 0, 0);
        dues(x, "less what is borne", 0, 2, -2);
        c.is("borne by the working one", x.account(0, 0, 2), 2);
        c.is("all dues are the result", x.stretch(0, 0, 4), 0);
    }

    private static void interestToTheCoin() {
        PartnersBook x = book(0, 0, 0, 0);
        x.term(0, 0, 4, 1);
        seatAll(x, 0);
        x.move(0, 0, 0, 359_999, false);
        x.move(0, 1, 0, 360_000, false);
        x.move(0, 2, 0, 719_999, false);
        x.move(0, 3, 0, 720_000, false);
        closeTo(x, 0, 4);
        dues(x, "by 360,000 downwards", 0, 0, 1, 1, 2);
        c.is("nothing is left", x.stretch(0, 0, 3), 0);
        PartnersBook y = book(0, 0);
        y.term(0, 0, 4, 500);
        seatAll(y, 0);
        y.move(0, 0, 0, 719, false);
        y.move(0, 1, 0, 720, false);
        closeTo(y, 0, 1);
        dues(y, "500 thousandths", 0, 0, 1);
        PartnersBook z = book(0);
        seatAll(z, 0);
        z.move(0, 0, 0, MOST, false);
        closeTo(z, 99, 5);
        c.is("0 thousandths", z.due(0, 0, 0), 0);
        c.is("all is nobody's", z.stretch(0, 0, 3), 5);
        PartnersBook w = book(0);
        w.term(0, 0, 4, 500);
        seatAll(w, 0);
        w.move(0, 0, 0, MOST, false);
        closeTo(w, 99, 0);
        c.is("the most in a hundred days", w.due(0, 0, 0), 138_888_888);
    }

    private static void interestFromTheDayOfAMove() {
        PartnersBook x = book(0);
        x.term(0, 0, 4, 360);
        seatAll(x, 0);
        // 0 | 1,000 | 0 | below 0 | 1: one day of 1,000, the last day's coin lacks a thousandth
        x.move(0, 0, 1, 1_000, false);
        x.move(0, 0, 2, 1_000, true);
        x.move(0, 0, 3, 5_000, true);
        x.move(0, 0, 4, 5_001, false);
        closeTo(x, 4, 1);
        c.is("one day", x.due(0, 0, 0), 1);
        c.is("credit", x.account(0, 0, 0), 2);
        // 998 of the last year's, and a move of this one on its last day
        x.move(0, 0, 6, 998, false);
        closeTo(x, 5, 0);
        c.is("2 of a thousand", x.due(0, 0, 0), 0);
        closeTo(x, 6, 1);
        c.is("with the move of its day", x.due(0, 0, 0), 1);
        x.move(0, 0, 7, 2_001, true);
        closeTo(x, 7, 0);
        c.is("below 0", x.due(0, 0, 0), 0);
        closeTo(x, 8, 0);
        c.is("below 0 from the year ahead", x.due(0, 0, 0), 0);
        c.is("its credit", x.account(0, 0, 0), -1_000);
    }

    private static void interestOfDaysWithoutCredit() {
        // a day of the first credit, then one of the second: 0 counts as 0, below 0 counts as 0, too
        int[] firsts = {359_999, 359_999, 360_000, 360_000};
        int[] seconds = {0, -1, 0, -1};
        for (int i = 0; i < firsts.length; i++) {
            PartnersBook x = book(0);
            x.term(0, 0, 4, 1);
            seatAll(x, 0);
            x.move(0, 0, 0, firsts[i], false);
            x.move(0, 0, 1, firsts[i] - seconds[i], true);
            closeTo(x, 1, 1);
            c.is(firsts[i] + ", then " + seconds[i], x.due(0, 0, 0), firsts[i] / 360_000);
        }
    }

    private static void interestByStretches() {
        PartnersBook x = book(0, 0);
        x.term(0, 0, 4, 360);
        x.join(0, 0, 0, 0, false);
        x.join(0, 1, 1, 2, false);
        x.move(0, 0, 0, 750, false);
        x.move(0, 0, 3, 250, false);
        // 750 * 2 and 750 + 1,000: each stretch downwards
        closeTo(x, 3, 4);
        c.is("first stretch", x.due(0, 0, 0), 1);
        c.is("second stretch", x.due(0, 1, 0), 1);
        c.is("the dues of the first are no credit of the second", x.account(0, 0, 0), 1_002);
    }

    private static void movesOfLaterYears() {
        PartnersBook x = book(0);
        x.term(0, 0, 4, 360);
        seatAll(x, 0);
        for (int day = 98; day <= 102; day++) {
            x.move(0, 0, day, 1_000, false);
        }
        closeTo(x, 0, 0);
        c.is("a year of one day", x.due(0, 0, 0), 0);
        closeTo(x, 99, 3);
        c.is("two days and one", x.due(0, 0, 0), 3);
        c.is("three moves are later", x.told(0, 6), 3);
        closeTo(x, 102, 15);
        c.is("3,003 and 4,003 and 5,003", x.due(0, 0, 0), 12);
        PartnersBook y = book(0);
        y.term(0, 0, 4, 360);
        seatAll(y, 0);
        y.move(0, 0, 99, 1_000, false);
        y.move(0, 0, 100, 1_000, false);
        closeTo(y, 99, 1);
        c.is("the last of a hundred days", y.due(0, 0, 0), 1);
    }

    private static void manyStretches() {
        PartnersBook x = book(0, 0, 0, 0, 0, 0);
        seatAll(x, 0);
        for (int n = 0; n < 12; n++) {
            x.rule(0, n);
            weigh(x, 2, 1 + n, 1, 1, 1, 1, 1);
            weigh(x, 3, 1, 1, 1, 1, 1, 1 + n);
        }
        for (int n = 0; n < 12; n++) {
            // six coins of LOOSE go to the first six stretches: each has 5 or -5 then
            Checks.enter(x, 0, n, (n % 2 == 0 ? 5 : -5) - (n < 6 ? 1 : 0));
        }
        closeTo(x, 11, 6);
        c.is("stretches", x.told(0, 8), 12);
        for (int n = 0; n < 12; n++) {
            // 5 * (1 + n) / (6 + n) goes to the heavy seat; the rests of the others are alike
            int heavy = n % 2 == 0 ? 0 : 5;
            int weight = 5 * (1 + n);
            int total = 6 + n;
            int coins = 5 - weight / total;
            boolean heavyFirst = weight % total > 5 || weight % total == 5 && heavy == 0;
            int heavyPart = weight / total + (heavyFirst && coins > 0 ? 1 : 0);
            int left = 5 - heavyPart;
            for (int t = 0; t < 6; t++) {
                int order = heavy == 0 ? t - 1 : t;
                int part = t == heavy ? heavyPart : order < left ? 1 : 0;
                c.is("due of " + t + " in " + n, x.due(0, n, t), n % 2 == 0 ? part : -part);
            }
            c.is("nobody's of " + n, x.stretch(0, n, 3), 0);
        }
    }

    /** What a greater cut, a greater close or a longer row told is gone with the next one. */
    private static void fewerThanAhead() {
        PartnersBook x = book(0, 0, 0, 0, 0, 0);
        weigh(x, 2, 1, 1, 1, 1, 1, 1);
        weigh(x, 3, 1, 1, 1, 1, 1, 1);
        x.join(0, 0, 0, 0, false);
        x.join(0, 1, 1, 0, false);
        for (int seat = 2; seat < 6; seat++) {
            x.join(0, seat, seat, seat, true);
        }
        c.taken(x, "six bear", x.bear(0, 0, 18), 6);
        c.taken(x, "two have it", x.hidden(0, 0, 7), 7);
        long[] hidden = {4, 3, 0, 0, 0, 0};
        for (int t = 0; t < 6; t++) {
            c.is("hidden of " + t, x.account(0, t, 1), hidden[t]);
            c.is("still borne by " + t, x.borne(t), 3);
        }
        x.leave(0, 5, 5 + 1, 1, 0);
        closeTo(x, 5, 60);
        c.is("stretches", x.told(0, 8), 5);
        closeTo(x, 6, 5);
        c.is("one stretch", x.told(0, 8), 1);
        dues(x, "five", 0, 1, 1, 1, 1, 1, 0);
        for (int i = 1; i < 6; i++) {
            for (int what = 0; what < 6; what++) {
                c.is("no stretch " + i, x.stretch(0, i, what), 0);
            }
            dues(x, "no stretch", i, 0, 0, 0, 0, 0, 0);
        }
        c.taken(x, "a debt of five", x.bear(0, 5, 4), 4);
        c.is("the earlier ones", x.borne(3), 1);
        c.is("not the fifth", x.borne(4), 0);
        c.is("not who left for no years", x.borne(5), 0);
    }

    private static void sumsToTheCoin() {
        int[][] due = {{1, 0, 0}, {4, 0, 0}, {4, 1, 0}, {4, 6, 0}, {4, 6, 0}, {4, 6, 0}};
        int[] results = {1, 4, 5, 10, 11, 15};
        for (int i = 0; i < results.length; i++) {
            PartnersBook x = book(0, 1, 2);
            weigh(x, 1, 4, 6, 0);
            seatAll(x, 0);
            closeTo(x, 0, results[i]);
            dues(x, "sums of " + results[i], 0, due[i][0], due[i][1], due[i][2]);
            c.is("nobody's of " + results[i], x.stretch(0, 0, 3), Math.max(0, results[i] - 10));
        }
        PartnersBook x = book(0, 0);
        weigh(x, 1, MOST, MOST);
        weigh(x, 2, 0, 1);
        seatAll(x, 0);
        closeTo(x, 0, MOST);
        dues(x, "the greatest sum", 0, MOST, 0);
        // sums are given in each stretch anew, whatever its days are
        PartnersBook y = book(0, 0);
        weigh(y, 1, 3, 0);
        weigh(y, 2, 0, 1);
        y.join(0, 0, 0, 0, false);
        y.join(0, 1, 1, 4, false);
        closeTo(y, 4, 25);
        c.is("first stretch", y.due(0, 0, 0), 3);
        c.is("its rest", y.stretch(0, 0, 3), 17);
        c.is("second stretch", y.due(0, 1, 0), 3);
        c.is("its rest is cut", y.due(0, 1, 1), 2);
    }

    private static void gainsAndLossesOfOne() {
        PartnersBook x = book(0);
        weigh(x, 2, 1);
        weigh(x, 3, 1);
        seatAll(x, 0);
        closeTo(x, 0, 1);
        c.is("a gain of one", x.due(0, 0, 0), 1);
        c.is("nothing is borne", x.account(0, 0, 2), 0);
        closeTo(x, 1, -1);
        c.is("a loss of one", x.due(0, 0, 0), -1);
        c.is("one is borne", x.account(0, 0, 2), 1);
        x.mend(0, 0, 1);
        x.mend(0, 0, -1);
        closeTo(x, 2, 0);
        dues(x, "nothing", 0, 0);
        dues(x, "a mend of one", 1, 1);
        dues(x, "a mend of one lost", 2, -1);
        c.is("two are borne", x.account(0, 0, 2), 2);
        c.is("credit", x.account(0, 0, 0), 0);
    }

    private static void nothingLeft() {
        PartnersBook x = book(3, 0);
        weigh(x, 0, 5, 0);
        weigh(x, 1, 7, 7);
        seatAll(x, 0);
        x.leave(0, 0, 1, 1, 0);
        x.join(0, 0, 0, 2, false);
        closeTo(x, 0, 5);
        dues(x, "the wage takes all", 0, 5, 0);
        // what nobody gets in one close is not told of the next one
        closeTo(x, 1, 50);
        c.is("nobody's", x.stretch(0, 0, 3), 43);
        closeTo(x, 2, 5);
        c.is("nothing left: nobody's", x.stretch(0, 0, 3), 0);
        c.is("of all closes", x.sum(0, 3, 0), 43);
        c.is("all dues", x.stretch(0, 0, 4), 5);
    }

    private static void partedDays() {
        PartnersBook x = book(0, 0);
        x.join(0, 0, 0, 3, false);
        x.leave(0, 0, 5, 1, 0);
        x.join(0, 0, 1, 5, false);
        x.join(0, 1, 1, 5, false);
        x.rule(0, 5);
        x.term(0, 0, 2, 1);
        x.rule(0, 6);
        x.rule(0, 7);
        x.term(0, 0, 2, 2);
        x.term(0, 0, 2, 1);
        x.rule(0, 8);
        x.term(0, 5, 3, 1);
        x.rule(0, 9);
        x.term(0, 0, 4, 1);
        closeTo(x, 9, 10);
        int[] firsts = {0, 3, 5, 8, 9};
        c.is("stretches", x.told(0, 8), firsts.length);
        for (int i = 0; i < firsts.length; i++) {
            int next = i + 1 < firsts.length ? firsts[i + 1] : 10;
            c.is("first day of " + i, x.stretch(0, i, 0), firsts[i]);
            c.is("days of " + i, x.stretch(0, i, 1), next - firsts[i]);
            c.is("result of " + i, x.stretch(0, i, 2), next - firsts[i]);
        }
        // each of the numbers of a rule parts
        for (int what = 0; what <= 4; what++) {
            PartnersBook y = book(0);
            y.rule(0, 1);
            y.term(0, 3, what, 1);
            closeTo(y, 1, 0);
            c.is("number " + what + " parts", y.told(0, 8), 2);
        }
    }

    private static void partsOnTheYearsEdges() {
        PartnersBook x = book(0);
        x.join(0, 0, 0, 0, false);
        x.leave(0, 0, 2, 1, 0);
        x.join(0, 1, 0, 2, false);
        x.rule(0, 2);
        x.term(0, 0, 2, 1);
        closeTo(x, 1, 0);
        c.is("the day behind parts nothing", x.told(0, 8), 1);
        c.is("one was in", x.stretch(0, 0, 5), 1);
        x.leave(0, 1, 4, 1, 0);
        closeTo(x, 4, 0);
        c.is("the first day parts nothing, the last does", x.told(0, 8), 2);
        c.is("first", x.stretch(0, 0, 0), 2);
        c.is("its days", x.stretch(0, 0, 1), 2);
        c.is("last", x.stretch(0, 1, 0), 4);
        c.is("its day", x.stretch(0, 1, 1), 1);
        c.is("nobody is in", x.stretch(0, 1, 5), 0);
    }

    private static void mendsByTheirDays() {
        PartnersBook x = book(0, 0);
        weigh(x, 2, 1, 1);
        x.join(0, 0, 0, 0, false);
        x.join(0, 1, 1, 2, false);
        x.rule(0, 3);
        x.term(0, 1, 2, 3);
        x.leave(0, 0, 5, 1, 0);
        closeTo(x, 5, 0);
        for (int day = 5; day >= 0; day--) {
            c.taken(x, "mend", x.mend(0, day, 8), 6 - day);
        }
        closeTo(x, 6, 0);
        long[][] due = {{8, 0}, {8, 0}, {4, 4}, {2, 6}, {2, 6}, {0, 8}};
        int[] in = {1, 1, 2, 2, 2, 1};
        for (int day = 5; day >= 0; day--) {
            int i = 6 - day;
            c.is("day of mend " + i, x.stretch(0, i, 0), day);
            c.is("days of mend " + i, x.stretch(0, i, 1), 0);
            c.is("in on " + day, x.stretch(0, i, 5), in[day]);
            dues(x, "mend of " + day, i, due[day]);
        }
        c.is("who left is paid", x.account(0, 0, 5), 24);
        c.is("dues", x.account(0, 0, 6), 24);
        closeTo(x, 7, 0);
        c.is("no mend waits", x.told(0, 8), 1);
        c.is("no dues", x.account(0, 1, 6), 0);
    }

    private static void mendsBehindTheStretches() {
        PartnersBook x = new PartnersBook();
        x.house(0);
        x.partner(1, 10);
        x.rule(0, 0);
        weigh(x, 3, 1);
        x.join(0, 0, 0, 0, false);
        x.rule(0, 2);
        x.term(0, 1, 3, 1);
        closeTo(x, 0, -3);
        x.mend(0, 0, -4);
        x.mend(0, 0, -4);
        // 3 were borne; stretches of 2 each, then mends with a room of 3
        closeTo(x, 2, -4);
        long[] due = {-2, -2, -3, 0};
        long[] nobody = {0, 0, -1, -4};
        for (int i = 0; i < due.length; i++) {
            c.is("due of " + i, x.due(0, i, 0), due[i]);
            c.is("nobody's of " + i, x.stretch(0, i, 3), nobody[i]);
        }
        c.is("borne", x.account(0, 0, 2), 10);
        c.is("of all closes", x.sum(0, 3, 0), -5);
        // a gain doesn't give room again
        x.rule(0, 3);
        weigh(x, 2, 1);
        closeTo(x, 3, 50);
        c.is("a gain", x.due(0, 0, 0), 50);
        closeTo(x, 4, -1);
        c.is("no room", x.due(0, 0, 0), 0);
    }

    private static void endsOfTenures() {
        int[] credits = {2, 1, 0, -1};
        for (int credit : credits) {
            PartnersBook x = book(0);
            x.join(0, 0, 0, 0, false);
            if (credit != 0) {
                x.move(0, 0, 0, Math.abs(credit), credit < 0);
            }
            x.leave(0, 0, 2, 1, 0);
            closeTo(x, 0, 0);
            c.is("ended two days behind: credit", x.account(0, 0, 0), credit);
            c.is("ended two days behind: paid", x.account(0, 0, 5), 0);
            closeTo(x, 1, 0);
            c.is("ended at the day behind: credit", x.account(0, 0, 0), Math.min(0, credit));
            c.is("ended at the day behind: paid", x.account(0, 0, 5), Math.max(0, credit));
            c.is("nothing is payable", x.account(0, 0, 4), 0);
            closeTo(x, 2, 0);
            c.is("stays", x.account(0, 0, 0), Math.min(0, credit));
        }
        // what is lacking is first filled up by a mend, then the rest is paid
        PartnersBook x = book(0);
        weigh(x, 2, 1);
        x.join(0, 0, 0, 0, false);
        x.move(0, 0, 0, 5, true);
        x.leave(0, 0, 1, 1, 0);
        closeTo(x, 0, 0);
        x.mend(0, 0, 5);
        closeTo(x, 1, 0);
        c.is("none is left", x.account(0, 0, 0), 0);
        c.is("none is paid", x.account(0, 0, 5), 0);
        x.mend(0, 0, 1);
        closeTo(x, 2, 0);
        c.is("one is paid", x.account(0, 0, 5), 1);
    }

    private static void paidInInstalments() {
        PartnersBook x = book(0);
        x.join(0, 0, 0, 0, false);
        x.move(0, 0, 0, 25, false);
        x.lend(0, 0, 9, false);
        x.leave(0, 0, 1, 10, 0);
        int[] paid = {2, 2, 2, 2, 2, 3, 3, 3, 3, 3, 0, 0};
        long left = 25;
        for (int n = 0; n < paid.length; n++) {
            closeTo(x, n, 0);
            left -= paid[n];
            c.is("payable behind " + n, x.account(0, 0, 4), left);
            c.is("paid behind " + n, x.account(0, 0, 5), 25 - left);
            c.is("instalments behind " + n, x.tenure(0, 0, 5), Math.max(1, 9 - n));
        }
        c.is("lent stays", x.account(0, 0, 3), 9);
        // less than the instalments: nothing, until the number is small enough
        PartnersBook y = book(0);
        y.join(0, 0, 0, 0, false);
        y.move(0, 0, 0, 1, false);
        y.leave(0, 0, 1, 3, 0);
        long[] all = {0, 0, 1, 1};
        for (int n = 0; n < all.length; n++) {
            closeTo(y, n, 0);
            c.is("one coin in three, " + n, y.account(0, 0, 5), all[n]);
        }
        // what comes later is payable with the rest
        PartnersBook z = book(0);
        weigh(z, 2, 1);
        z.join(0, 0, 0, 0, false);
        z.move(0, 0, 0, 10, false);
        z.leave(0, 0, 1, 2, 0);
        closeTo(z, 0, 0);
        c.is("half", z.account(0, 0, 5), 5);
        z.mend(0, 0, 3);
        z.hidden(0, 0, 4);
        closeTo(z, 1, 0);
        c.is("the rest with what came", z.account(0, 0, 5), 17);
    }

    private static void heirsAndTheirDays() {
        PartnersBook x = book(0, 4);
        weigh(x, 2, 1);
        x.join(0, 0, 0, 0, true);
        x.move(0, 0, 0, 3, true);
        x.hidden(0, 0, 7);
        x.die(0, 0, 2, 1);
        closeTo(x, 0, 0);
        c.is("not yet", x.account(0, 0, 0), -3);
        c.is("hidden not yet", x.account(0, 0, 1), 7);
        closeTo(x, 1, 0);
        c.is("went over", x.account(0, 0, 0), 0);
        c.is("hidden went over", x.account(0, 0, 1), 0);
        c.is("below 0, too", x.account(0, 1, 0), -3);
        c.is("hidden has come", x.account(0, 1, 1), 7);
        c.is("nothing is payable", x.account(0, 0, 4), 0);
        x.mend(0, 0, 10);
        x.leave(0, 0, 4, 1, 0);
        closeTo(x, 2, 0);
        c.is("a mend of the dead one goes over", x.account(0, 1, 0), 7);
        c.is("its dues are told of the dead one", x.account(0, 0, 6), 10);
        closeTo(x, 3, 0);
        c.is("the heir is paid", x.account(0, 1, 5), 14);
        // of dead ones the years are none
        PartnersBook y = book(0, 4);
        weigh(y, 3, 1);
        y.join(0, 0, 0, 0, true);
        y.die(0, 0, 5, 1);
        c.taken(y, "the dead one doesn't bear", y.bear(0, 4, 9), 0);
        c.taken(y, "the heir, at his limit of 0", y.bear(0, 5, 9), 0);
        c.is("nobody's", y.borne(-1), 9);
    }

    /** House 1 from a day on owns all of house 0, which has closed to day 0 already. */
    private static PartnersBook owned(int ownerFirst) {
        PartnersBook x = new PartnersBook();
        x.house(0);
        x.house(ownerFirst);
        x.partner(5, 1);
        x.rule(0, 0);
        weigh(x, 2, 1);
        weigh(x, 3, 1);
        x.join(0, 0, 0, 0, false);
        x.leave(0, 0, 1, 1, 0);
        closeTo(x, 0, 0);
        x.rule(1, ownerFirst);
        return x;
    }

    private static void closeOwner(PartnersBook x, int last) {
        x.end(1, last);
        Checks.emptyLeaves(x, 1, x.told(1, 1) + 1, last);
        c.taken(x, "the owner's close to " + last, x.close(1), x.told(1, 3) - 1);
    }

    private static void incomeDays() {
        // the year of house 0 ends on 5; the owner is closed to 3, 4, 5, 6
        int[] tos = {3, 4, 5, 6};
        int[] days = {5, 5, 6, 7};
        for (int i = 0; i < tos.length; i++) {
            PartnersBook x = owned(0);
            closeOwner(x, tos[i]);
            x.mend(0, 0, 40 + i);
            closeTo(x, 5, 0);
            for (int day = 0; day < 10; day++) {
                c.is("closed to " + tos[i] + ", income of " + day, x.sum(1, 2, day), day == days[i] ? 40 + i : 0);
            }
            c.is("not loose", x.sum(1, 0, 0), 0);
        }
        PartnersBook later = owned(8);
        later.mend(0, 0, -6);
        closeTo(later, 5, 0);
        c.is("not ahead of FIRST", later.sum(1, 2, 5), 0);
        c.is("on FIRST", later.sum(1, 2, 8), -6);
        later.mend(0, 0, 2);
        closeTo(later, 6, 0);
        c.is("together with what came ahead", later.sum(1, 2, 8), -4);
        for (int last : new int[] {998, 999}) {
            PartnersBook x = owned(900);
            closeOwner(x, last);
            x.mend(0, 0, 9);
            closeTo(x, 1, 0);
            c.is("income of 999, closed to " + last, x.sum(1, 2, 999), last == 998 ? 9 : 0);
            c.is("loose, closed to " + last, x.sum(1, 0, 0), last == 998 ? 0 : 9);
        }
    }

    /** The bound of LOOSE needs 1,000 calls, so this run is longer than any that is promised. */
    private static void incomeBeyondTheBound() {
        for (int sign : new int[] {1, -1}) {
            PartnersBook x = owned(900);
            closeOwner(x, 999);
            for (int i = 0; i < 1_000; i++) {
                x.loose(1, sign * MOST);
            }
            long bound = sign * 1_000_000_000_000L;
            c.is("at the bound", x.sum(1, 0, 0), bound);
            x.mend(0, 0, sign * 9);
            closeTo(x, 1, 0);
            c.is("beyond the bound", x.sum(1, 0, 0), bound + sign * 9);
            c.refused(x, "none more", x.loose(1, 0), 9);
            c.refused(x, "still beyond", x.loose(1, -8 * sign), 9);
            c.is("refused", x.sum(1, 0, 0), bound + sign * 9);
            c.taken(x, "back to the bound", x.loose(1, -9 * sign), 1);
            c.is("at the bound again", x.sum(1, 0, 0), bound);
        }
    }

    private static void incomeOfTwoTenures() {
        PartnersBook x = new PartnersBook();
        x.house(0);
        x.house(0);
        x.partner(5, 1);
        x.partner(0, 0);
        x.rule(0, 0);
        weigh(x, 2, 1, 1, 2);
        x.join(0, 0, 0, 0, false);
        x.join(0, 1, 1, 0, false);
        x.join(0, 2, 0, 0, false);
        closeTo(x, 3, 12);
        c.is("one", x.account(0, 0, 6), 3);
        c.is("the other", x.account(0, 2, 6), 6);
        c.is("together", x.sum(1, 2, 3), 9);
        x.rule(1, 0);
        closeOwner(x, 3);
        c.is("is the owner's result", x.stretch(1, 0, 2), 9);
        c.is("stays told", x.sum(1, 2, 3), 9);
    }

    private static void waiting() {
        // house 1 owns a part of 0 from day 4 on, and of 2 from 2 to 6
        PartnersBook x = new PartnersBook();
        for (int n = 0; n < 3; n++) {
            x.house(0);
            x.rule(n, 0);
            Checks.emptyLeaves(x, n, 0, 9);
        }
        x.partner(5, 1);
        x.join(0, 0, 0, 4, false);
        x.join(2, 0, 0, 2, false);
        x.leave(2, 0, 7, 1, 0);
        int[] ends = {1, 3, 4, 7, 9};
        for (int end : ends) {
            x.end(1, end);
        }
        c.taken(x, "both begin behind 1", x.close(1), 0);
        c.refusedAt(x, "2 began ahead of 3", x.close(1), 7, 2);
        x.end(2, 2);
        x.close(2);
        c.refusedAt(x, "2 is closed to 2", x.close(1), 7, 2);
        x.end(2, 3);
        x.close(2);
        c.taken(x, "2 is closed to 3", x.close(1), 1);
        c.refusedAt(x, "0 began on 4", x.close(1), 7, 0);
        x.end(0, 4);
        x.close(0);
        c.refusedAt(x, "0 is closed to 4, 2 is not", x.close(1), 7, 2);
        x.end(2, 5);
        x.close(2);
        c.taken(x, "both are closed to 4", x.close(1), 2);
        x.end(0, 7);
        x.close(0);
        c.refusedAt(x, "2 is closed to 5, its last day is 6", x.close(1), 7, 2);
        x.end(2, 6);
        x.close(2);
        c.taken(x, "closed to its last day", x.close(1), 3);
        x.end(0, 9);
        x.close(0);
        c.taken(x, "2 has no part in the next", x.close(1), 4);
    }

    private static void debtsAndYears() {
        for (int years = 0; years <= 5; years++) {
            PartnersBook x = book(0);
            weigh(x, 3, 1);
            x.join(0, 0, 0, 0, false);
            closeTo(x, 0, 0);
            c.taken(x, "not ended", x.bear(0, 0, 5), 1);
            x.leave(0, 0, 3, 1, years);
            c.taken(x, "ended, " + years + " years", x.bear(0, 0, 5), years > 0 ? 1 : 0);
            closeTo(x, 2, 0);
            c.taken(x, "a year to the day ahead", x.bear(0, 2, 5), years > 0 ? 1 : 0);
            for (int n = 1; n <= 6; n++) {
                closeTo(x, 2 + n, 0);
                c.taken(x, n + " years of " + years, x.bear(0, 2, 5), n < years ? 1 : 0);
                c.is("nobody's", x.borne(-1), n < years ? 0 : 5);
            }
        }
        // the first year of all counts, too, if it is over behind the end
        PartnersBook x = book(0);
        weigh(x, 3, 1);
        x.join(0, 0, 0, 0, false);
        x.leave(0, 0, 3, 1, 1);
        c.taken(x, "no year yet", x.bear(0, 2, 5), 1);
        closeTo(x, 3, 0);
        c.taken(x, "one year", x.bear(0, 2, 5), 0);
    }

    private static void debtsAndWords() {
        PartnersBook x = book(0, 0, 0);
        weigh(x, 3, 1, 1, 1);
        x.join(0, 0, 0, 4, true);
        x.join(0, 1, 1, 4, false);
        x.rule(0, 6);
        weigh(x, 3, 2, 2, 2);
        c.taken(x, "ahead of both: the word bears", x.bear(0, 3, 10), 1);
        c.is("with a word", x.borne(0), 10);
        c.is("without a word", x.borne(1), 0);
        c.taken(x, "on BEGIN both bear", x.bear(0, 4, 10), 2);
        c.is("with a word, in", x.borne(0), 5);
        c.is("without a word, in", x.borne(1), 5);
        // the word of the latest rule (2), those who were in of the day's (1)
        x.join(0, 2, 2, 5, true);
        c.taken(x, "one more word", x.bear(0, 4, 12), 3);
        c.is("day's rule", x.borne(0), 3);
        c.is("latest rule", x.borne(2), 6);
        x.leave(0, 2, 900, 1, 5);
        c.taken(x, "a word that has ended", x.bear(0, 4, 12), 2);
        c.is("bears nothing", x.borne(2), 0);
        c.taken(x, "but was in on its day", x.bear(0, 899, 12), 3);
        c.taken(x, "not on its end", x.bear(0, 900, 12), 2);
        c.is("borne stays", x.account(0, 0, 2), 0);
        // by numbers: of alike remainders the earlier tenure, not the earlier seat
        PartnersBook y = book(0, 0);
        weigh(y, 3, 1, 1);
        y.join(0, 1, 0, 0, false);
        y.join(0, 0, 1, 0, false);
        c.taken(y, "one coin", y.bear(0, 0, 1), 1);
        c.is("the first tenure", y.borne(0), 1);
        c.is("the first seat", y.borne(1), 0);
        closeTo(y, 0, -1);
        c.is("a close goes by seats", y.due(0, 0, 1), -1);
    }
}
