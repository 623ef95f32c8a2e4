/** Promises 21 to 23 and terms V, VI: how years are told and closed. */
public final class YearsTest {
    private static final int NONE = PartnersBook.NONE;
    private static final Checks c = new Checks("YearsTest");

    public static void main(String[] args) {
        ends();
        refusedCloses();
        stretches();
        looseIsCut();
        wagesInterestSums();
        interestByDays();
        cutting();
        bearingOfLosses();
        nobodysGain();
        mends();
        mendsOfThoseWhoLeft();
        movesOfLaterYears();
        toTheLastDay();
        c.finish();
    }

    private static void ends() {
        PartnersBook x = new PartnersBook();
        c.refused(x, "no house", x.end(0, 0), 1);
        x.house(5);
        c.refused(x, "-1", x.end(0, -1), 3);
        c.refused(x, "ahead of the first day", x.end(0, 4), 3);
        c.refused(x, "101 days", x.end(0, 105), 3);
        c.refused(x, "1000", x.end(0, 1000), 3);
        c.refused(x, "far", x.end(0, Integer.MIN_VALUE), 3);
        c.taken(x, "100 days", x.end(0, 104), 1);
        c.refused(x, "not behind", x.end(0, 104), 3);
        c.taken(x, "one day", x.end(0, 105), 2);
        c.refused(x, "101 days again", x.end(0, 206), 3);
        for (int n = 3; n <= 12; n++) {
            c.taken(x, "year", x.end(0, 103 + n), n);
        }
        c.refused(x, "13th", x.end(0, 116), 9);
        c.refused(x, "13th, day", x.end(0, 115), 3);
        c.is("years told", x.told(0, 2), 12);
        x.house(900);
        x.end(1, 999);
        c.refused(x, "behind 999", x.end(1, 999), 3);
    }

    private static void refusedCloses() {
        PartnersBook x = new PartnersBook();
        c.refused(x, "no house", x.close(0), 1);
        x.house(3);
        c.refused(x, "no end", x.close(0), 6);
        x.end(0, 6);
        c.refused(x, "no rule", x.close(0), 1);
        x.rule(0, 3);
        c.refusedAt(x, "open", x.close(0), 5, 3);
        Checks.emptyLeaves(x, 0, 3, 4);
        x.leaf(0, 5, 0, 2);
        x.leaf(0, 6, 0, 0);
        x.earn(0, 5, 1);
        c.refusedAt(x, "a place is open", x.close(0), 5, 5);
        x.earn(0, 5, 1);
        x.tear(0, 6);
        c.refusedAt(x, "the last day is open", x.close(0), 5, 6);
        x.leaf(0, 6, 0, 0);
        c.taken(x, "close", x.close(0), 0);
        c.is("TO", x.told(0, 1), 6);
        c.is("closed", x.told(0, 3), 1);
        c.refused(x, "no second end", x.close(0), 6);
        c.is("nobody's, without partners", x.sum(0, 3, 0), 2);
        x.end(0, 7);
        x.leaf(0, 7, 0, 0);
        c.taken(x, "second", x.close(0), 1);
        c.is("no result", x.stretch(0, 0, 2), 0);
    }

    private static void stretches() {
        PartnersBook x = new PartnersBook();
        x.house(0);
        x.partner(0, 0);
        x.rule(0, 0);
        x.join(0, 0, 0, 0, false);
        x.rule(0, 2);
        x.term(0, 4, 3, 1);
        x.rule(0, 4);
        x.rule(0, 6);
        x.term(0, 0, 4, 1);
        x.join(0, 1, 0, 8, false);
        x.leave(0, 1, 11, 1, 0);
        x.join(0, 2, 0, 11, false);
        x.rule(0, 13);
        x.term(0, 0, 0, 5);
        x.join(0, 3, 0, 15, false);
        Checks.emptyLeaves(x, 0, 0, 14);
        x.end(0, 14);
        x.close(0);
        int[] firsts = {0, 2, 6, 8, 11, 13};
        int[] days = {2, 4, 2, 3, 2, 2};
        int[] in = {1, 1, 1, 2, 2, 2};
        c.is("stretches", x.told(0, 8), firsts.length);
        for (int i = 0; i < firsts.length; i++) {
            c.is("first day of " + i, x.stretch(0, i, 0), firsts[i]);
            c.is("days of " + i, x.stretch(0, i, 1), days[i]);
            c.is("in of " + i, x.stretch(0, i, 5), in[i]);
        }
        x.leaf(0, 15, 0, 0);
        x.end(0, 15);
        x.close(0);
        c.is("one stretch of the next year", x.told(0, 8), 1);
        c.is("three in", x.stretch(0, 0, 5), 3);
    }

    private static void looseIsCut() {
        PartnersBook x = new PartnersBook();
        x.house(0);
        x.partner(0, 0);
        x.rule(0, 0);
        x.term(0, 0, 3, 1);
        x.join(0, 0, 0, 0, false);
        x.rule(0, 3);
        x.term(0, 0, 3, 2);
        Checks.emptyLeaves(x, 0, 0, 6);
        x.loose(0, -10);
        x.end(0, 6);
        x.close(0);
        c.is("3 of 7 days", x.stretch(0, 0, 2), -4);
        c.is("4 of 7 days", x.stretch(0, 1, 2), -6);
        c.is("loose anew", x.sum(0, 0, 0), 0);
        c.is("credit", x.account(0, 0, 0), -10);
        c.is("borne", x.account(0, 0, 2), 10);
        // alike remainders: the earlier stretch has the coin
        x.rule(0, 8);
        x.term(0, 0, 3, 1);
        Checks.emptyLeaves(x, 0, 7, 8);
        x.loose(0, 5);
        x.end(0, 8);
        x.close(0);
        c.is("earlier", x.stretch(0, 0, 2), 3);
        c.is("later", x.stretch(0, 1, 2), 2);
    }

    private static void wagesInterestSums() {
        PartnersBook x = new PartnersBook();
        x.house(0);
        x.partner(3, 0);
        x.partner(0, 0);
        x.partner(1, 1_000);
        x.rule(0, 0);
        for (int seat = 0; seat < 3; seat++) {
            x.term(0, seat, 0, 10);
        }
        x.term(0, 0, 1, 5);
        x.term(0, 1, 1, 7);
        x.term(0, 2, 1, 50);
        x.term(0, 3, 1, 99);
        // seats are asked in order, not tenures
        x.join(0, 2, 2, 0, false);
        x.join(0, 1, 1, 0, false);
        x.join(0, 0, 0, 0, false);
        Checks.enter(x, 0, 0, 20);
        x.leaf(0, 1, 0, 0);
        x.loose(0, 15);
        x.end(0, 1);
        x.close(0);
        c.is("result", x.stretch(0, 0, 2), 35);
        c.is("wage of two days and sum", x.due(0, 0, 2), 25);
        c.is("sum", x.due(0, 0, 1), 7);
        c.is("what is left", x.due(0, 0, 0), 3);
        c.is("nobody's", x.stretch(0, 0, 3), 0);
        c.is("all dues", x.stretch(0, 0, 4), 35);
    }

    private static void interestByDays() {
        PartnersBook x = new PartnersBook();
        x.house(0);
        x.partner(0, 0);
        x.rule(0, 0);
        x.term(0, 0, 4, 360);
        x.term(0, 0, 3, 1);
        x.join(0, 0, 0, 0, false);
        x.move(0, 0, 2, 3_000, true);
        x.move(0, 0, 0, 1_000, false);
        x.move(0, 0, 4, 5_000, false);
        x.move(0, 0, 6, 1_000_000, false);
        x.rule(0, 3);
        x.term(0, 5, 1, 1);
        Checks.emptyLeaves(x, 0, 0, 6);
        x.end(0, 5);
        x.close(0);
        // 1000, 1000, below 0 | below 0, 3000, 3000
        c.is("loss eats the interest of 2", x.stretch(0, 0, 4), 0);
        c.is("borne", x.account(0, 0, 2), 8);
        c.is("credit", x.account(0, 0, 0), 3_000);
        c.is("the later move waits", x.told(0, 6), 1);
        x.end(0, 6);
        x.loose(0, 5);
        x.close(0);
        c.is("credit and move", x.account(0, 0, 2), 8 + 1_003 - 5);
        c.is("due", x.account(0, 0, 6), 5);
        c.is("credit then", x.account(0, 0, 0), 1_003_005);
    }

    private static void cutting() {
        PartnersBook x = new PartnersBook();
        x.house(0);
        x.partner(0, 0);
        x.rule(0, 0);
        int[] parts = {3, 3, 1, 3, 0, 3};
        for (int seat = 0; seat < 6; seat++) {
            x.term(0, seat, 2, parts[seat]);
            x.join(0, seat, 0, 0, false);
        }
        // 29 * 3 / 13 = 6 rest 9; 29 * 1 / 13 = 2 rest 3: 3 coins are left
        Checks.enter(x, 0, 0, 29);
        x.end(0, 0);
        x.close(0);
        int[] due = {7, 7, 2, 7, 0, 6};
        for (int t = 0; t < 6; t++) {
            c.is("part of " + t, x.due(0, 0, t), due[t]);
        }
    }

    private static void bearingOfLosses() {
        PartnersBook x = new PartnersBook();
        x.house(0);
        x.partner(1, 10);
        x.partner(2, 3);
        x.partner(0, 0);
        x.partner(3, 0);
        x.rule(0, 0);
        int[] weights = {4, 4, 1, 3};
        for (int seat = 0; seat < 4; seat++) {
            x.term(0, seat, 3, weights[seat]);
            x.join(0, seat, seat, 0, false);
        }
        // 30: 10, 10, 2.5, 7.5 -> 10, 10, 3, 7; off 0 and 7 -> 1.75, 5.25 -> 2, 5
        Checks.enter(x, 0, 0, -30);
        x.end(0, 0);
        x.close(0);
        c.is("to its limit", x.due(0, 0, 0), -10);
        c.is("over its limit", x.due(0, 0, 1), -3);
        c.is("full of 1", x.due(0, 0, 2), -5);
        c.is("full of 3", x.due(0, 0, 3), -12);
        c.is("nobody's", x.stretch(0, 0, 3), 0);
        c.is("borne", x.account(0, 1, 2), 3);
        // no room any more: 8 -> 0, 0, 2, 6
        Checks.enter(x, 0, 1, -8);
        x.end(0, 1);
        x.close(0);
        c.is("none", x.due(0, 0, 0), 0);
        c.is("full of 1 again", x.due(0, 0, 2), -2);
        c.is("full of 3 again", x.due(0, 0, 3), -6);
        c.is("borne together", x.account(0, 3, 2), 18);
        // without full ones what is over is nobody's
        x.leave(0, 2, 2, 1, 0);
        x.leave(0, 3, 2, 1, 0);
        Checks.enter(x, 0, 2, -9);
        x.end(0, 2);
        x.close(0);
        c.is("nobody's below 0", x.stretch(0, 0, 3), -9);
        // without weights all is nobody's
        x.leave(0, 0, 3, 1, 0);
        x.leave(0, 1, 3, 1, 0);
        Checks.enter(x, 0, 3, -4);
        x.end(0, 3);
        x.close(0);
        c.is("all nobody's", x.stretch(0, 0, 3), -4);
        c.is("of all closes", x.sum(0, 3, 0), -13);
    }

    private static void nobodysGain() {
        PartnersBook x = new PartnersBook();
        x.house(0);
        x.partner(0, 0);
        x.rule(0, 0);
        x.term(0, 0, 1, 4);
        x.term(0, 1, 2, 4);
        x.join(0, 0, 0, 0, false);
        Checks.enter(x, 0, 0, 10);
        x.end(0, 0);
        x.close(0);
        c.is("its sum", x.due(0, 0, 0), 4);
        c.is("nobody's", x.stretch(0, 0, 3), 6);
    }

    private static void mends() {
        PartnersBook x = new PartnersBook();
        x.house(1);
        x.partner(1, 6);
        x.partner(0, 0);
        x.rule(0, 1);
        x.term(0, 0, 2, 1);
        x.term(0, 0, 3, 1);
        x.term(0, 1, 2, 1);
        x.term(0, 1, 3, 1);
        x.term(0, 0, 1, 100);
        x.join(0, 0, 0, 1, false);
        x.rule(0, 2);
        x.term(0, 1, 2, 3);
        x.join(0, 1, 1, 2, false);
        c.refused(x, "nothing is closed", x.mend(0, 1, 5), 3);
        Checks.emptyLeaves(x, 0, 1, 3);
        x.end(0, 3);
        x.close(0);
        c.refused(x, "no house", x.mend(1, 1, 5), 1);
        c.refused(x, "0", x.mend(0, 1, 0), 2);
        c.refused(x, "too much", x.mend(0, 9, 1_000_000_001), 2);
        c.refused(x, "too little", x.mend(0, 9, -1_000_000_001), 2);
        c.refused(x, "ahead of FIRST", x.mend(0, 0, 5), 3);
        c.refused(x, "behind TO", x.mend(0, 4, 5), 3);
        c.taken(x, "first", x.mend(0, 3, 10), 1);
        c.taken(x, "second", x.mend(0, 1, -4), 2);
        c.taken(x, "third", x.mend(0, 2, -20), 3);
        x.leaf(0, 4, 0, 0);
        x.end(0, 4);
        x.close(0);
        c.is("none waits", x.told(0, 7), 0);
        c.is("stretches", x.told(0, 8), 4);
        c.is("day", x.stretch(0, 1, 0), 3);
        c.is("days", x.stretch(0, 1, 1), 0);
        c.is("result", x.stretch(0, 1, 2), 10);
        // 10 by 1 and 3: 2.5, 7.5: no sums are given of a mend
        c.is("mend, seat 0", x.due(0, 1, 0), 3);
        c.is("mend, seat 1", x.due(0, 1, 1), 7);
        c.is("who was in on day 1", x.stretch(0, 2, 5), 1);
        c.is("loss to the limit", x.due(0, 2, 0), -4);
        c.is("loss over the limit", x.due(0, 3, 0), -2);
        c.is("the full one has the rest", x.due(0, 3, 1), -18);
        c.is("borne", x.account(0, 0, 2), 6);
        c.is("dues", x.account(0, 0, 6), -3);
        c.is("credit", x.account(0, 0, 0), -3);
        c.taken(x, "most", x.mend(0, 4, 1_000_000_000), 1);
        c.taken(x, "least", x.mend(0, 4, -1_000_000_000), 2);
        for (int n = 3; n <= 20; n++) {
            c.taken(x, "mend", x.mend(0, 4, n), n);
        }
        c.refused(x, "21st", x.mend(0, 4, 1), 9);
        c.refused(x, "21st, day", x.mend(0, 5, 1), 3);
    }

    private static void mendsOfThoseWhoLeft() {
        PartnersBook x = new PartnersBook();
        x.house(0);
        x.partner(0, 0);
        x.rule(0, 0);
        x.term(0, 0, 2, 1);
        x.join(0, 0, 0, 0, false);
        x.leave(0, 0, 1, 3, 0);
        Checks.enter(x, 0, 0, 10);
        x.end(0, 0);
        x.close(0);
        c.is("paid a third", x.account(0, 0, 5), 3);
        c.is("payable", x.account(0, 0, 4), 7);
        c.is("two are left", x.tenure(0, 0, 5), 2);
        c.is("credit went", x.account(0, 0, 0), 0);
        for (int day = 1; day <= 2; day++) {
            x.leaf(0, day, 0, 0);
            x.end(0, day);
            x.close(0);
        }
        c.is("all paid", x.account(0, 0, 5), 10);
        c.is("one for later", x.tenure(0, 0, 5), 1);
        x.mend(0, 0, 5);
        x.hidden(0, 0, 2);
        x.leaf(0, 3, 0, 0);
        x.end(0, 3);
        x.close(0);
        c.is("mend and hidden are paid", x.account(0, 0, 5), 17);
        c.is("hidden went", x.account(0, 0, 1), 0);
        c.is("still one", x.tenure(0, 0, 5), 1);
        c.is("no heir", x.tenure(0, 0, 6), NONE);
    }

    private static void movesOfLaterYears() {
        PartnersBook x = new PartnersBook();
        x.house(0);
        x.partner(0, 0);
        x.rule(0, 0);
        x.join(0, 0, 0, 0, false);
        x.join(0, 1, 0, 0, false);
        x.move(0, 0, 0, 1, false);
        x.move(0, 1, 1, 20, false);
        x.move(0, 0, 0, 300, false);
        x.move(0, 1, 2, 4_000, true);
        x.move(0, 0, 1, 50_000, false);
        Checks.emptyLeaves(x, 0, 0, 2);
        long[] first = {301, 50_301, 50_301};
        long[] second = {0, 20, -3_980};
        int[] waiting = {3, 1, 0};
        for (int day = 0; day <= 2; day++) {
            x.end(0, day);
            c.taken(x, "close", x.close(0), day);
            c.is("first credit", x.account(0, 0, 0), first[day]);
            c.is("second credit", x.account(0, 1, 0), second[day]);
            c.is("waiting", x.told(0, 6), waiting[day]);
        }
    }

    private static void toTheLastDay() {
        PartnersBook x = new PartnersBook();
        x.house(900);
        x.partner(0, 0);
        x.rule(0, 900);
        x.term(0, 0, 2, 1);
        x.join(0, 0, 0, 900, false);
        x.end(0, 999);
        Checks.emptyLeaves(x, 0, 900, 998);
        c.is("999 is open", x.told(0, 9), 999);
        c.refusedAt(x, "999 is open", x.close(0), 5, 999);
        Checks.enter(x, 0, 999, 77);
        c.is("none is open", x.told(0, 9), 1000);
        c.taken(x, "a hundred days", x.close(0), 0);
        c.is("days", x.stretch(0, 0, 1), 100);
        c.is("result", x.stretch(0, 0, 2), 77);
        c.refused(x, "no day is free", x.rule(0, 999), 3);
        c.is("none is open behind", x.told(0, 9), 1000);
    }
}
