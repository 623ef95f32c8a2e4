/** Promises 27 to 38: what is told. */
public final class ToldTest {
    private static final int NONE = PartnersBook.NONE;
    private static final Checks c = new Checks("ToldTest");

    public static void main(String[] args) {
        tenures();
        whoIsIn();
        stretchesAndDues();
        houses();
        sums();
        sheets();
        statusStays();
        noneSuch();
        everyNumberOfTheSheet();
        sheetBesideTheLatestClose();
        c.finish();
    }

    private static PartnersBook closedBook() {
        PartnersBook x = new PartnersBook();
        x.house(1);
        x.partner(0, 0);
        x.partner(3, 0);
        x.rule(0, 1);
        x.term(0, 2, 2, 1);
        x.join(0, 2, 1, 1, true);
        x.join(0, 4, 0, 2, false);
        Checks.enter(x, 0, 1, 6);
        Checks.enter(x, 0, 2, 5);
        x.end(0, 2);
        x.close(0);
        return x;
    }

    private static void tenures() {
        PartnersBook x = closedBook();
        int[] facts = {1, 2, 1, NONE, 1, 0, NONE, 3, NONE};
        for (int what = 0; what < facts.length; what++) {
            c.is("fact " + what, x.tenure(0, 0, what), facts[what]);
        }
        c.is("fact -1", x.tenure(0, 0, -1), NONE);
        c.is("no house", x.tenure(1, 0, 0), NONE);
        c.is("no tenure", x.tenure(0, 2, 0), NONE);
        c.is("tenure -1", x.tenure(0, -1, 0), NONE);
        c.is("dues", x.account(0, 0, 6), 11);
        x.leaf(0, 3, 0, 0);
        x.end(0, 3);
        x.close(0);
        c.is("dues anew", x.account(0, 0, 6), 0);
        int[] kinds = {0, 1, NONE, 3, NONE, 5};
        x.house(0);
        for (int kind = 0; kind < 6; kind++) {
            int p = x.partner(kind, 0);
            x.join(1, kind, p, 0, false);
            if (kind < 5) {
                c.is("kind " + kind, x.tenure(1, kind, 7), kinds[kind]);
            }
        }
        x.house(0);
        x.join(2, 0, 7, 0, false);
        c.is("kind of a house", x.tenure(2, 0, 7), 5);
        c.is("account of none", x.account(0, 2, 0), 0);
        c.is("account of no house", x.account(-1, 0, 0), 0);
        c.is("account 7", x.account(0, 0, 7), 0);
        c.is("credit", x.account(0, 0, 0), 11);
    }

    private static void whoIsIn() {
        PartnersBook x = closedBook();
        x.leave(0, 2, 9, 1, 0);
        c.is("ahead of BEGIN", x.who(0, 2, 0), NONE);
        c.is("on BEGIN", x.who(0, 2, 1), 0);
        c.is("last day", x.who(0, 2, 8), 0);
        c.is("on the end", x.who(0, 2, 9), NONE);
        c.is("on 999", x.who(0, 4, 999), 1);
        c.is("no day", x.who(0, 4, 1000), NONE);
        c.is("no seat", x.who(0, 6, 3), NONE);
        c.is("seat -1", x.who(0, -1, 3), NONE);
        c.is("no house", x.who(1, 2, 3), NONE);
        x.join(0, 2, 0, 9, false);
        c.is("the next one", x.who(0, 2, 9), 2);
        c.is("the one ahead stays", x.who(0, 2, 8), 0);
    }

    private static void stretchesAndDues() {
        PartnersBook x = closedBook();
        long[] first = {1, 1, 6, 0, 6, 1, 0};
        long[] second = {2, 1, 5, 0, 5, 2, 0};
        for (int what = 0; what < first.length; what++) {
            c.is("stretch 0, " + what, x.stretch(0, 0, what), first[what]);
            c.is("stretch 1, " + what, x.stretch(0, 1, what), second[what]);
            c.is("stretch 2, " + what, x.stretch(0, 2, what), 0);
            c.is("stretch -1, " + what, x.stretch(0, -1, what), 0);
            c.is("no house", x.stretch(1, 0, what), 0);
        }
        c.is("due 0", x.due(0, 0, 0), 6);
        c.is("due 1", x.due(0, 1, 0), 5);
        c.is("due of another", x.due(0, 1, 1), 0);
        c.is("due of none", x.due(0, 0, 2), 0);
        c.is("due of tenure -1", x.due(0, 0, -1), 0);
        c.is("due of no stretch", x.due(0, 2, 0), 0);
        c.is("due of no house", x.due(1, 0, 0), 0);
        x.close(0);
        c.is("a refused close leaves them", x.due(0, 1, 0), 5);
    }

    private static void houses() {
        PartnersBook x = closedBook();
        x.end(0, 7);
        x.move(0, 0, 5, 1, false);
        x.mend(0, 1, 1);
        x.leaf(0, 3, 0, 0);
        int[] facts = {1, 2, 2, 1, 2, 1, 1, 1, 2, 4, NONE};
        for (int what = 0; what < facts.length; what++) {
            c.is("fact " + what, x.told(0, what), facts[what]);
        }
        c.is("fact -1", x.told(0, -1), NONE);
        c.is("no house", x.told(1, 0), NONE);
        c.is("no house -1", x.told(-1, 0), NONE);
    }

    private static void sums() {
        PartnersBook x = closedBook();
        x.loose(0, -4);
        c.is("loose", x.sum(0, 0, -1), -4);
        c.is("entries", x.sum(0, 1, 2), 5);
        c.is("entries of no leaf", x.sum(0, 1, 3), 0);
        c.is("entries of no day", x.sum(0, 1, 1000), 0);
        c.is("entries of day -1", x.sum(0, 1, -1), 0);
        c.is("income", x.sum(0, 2, 2), 0);
        c.is("income of no day", x.sum(0, 2, 1000), 0);
        c.is("income of day -1", x.sum(0, 2, -1), 0);
        c.is("nobody's", x.sum(0, 3, 1000), 0);
        c.is("what 4", x.sum(0, 4, 2), 0);
        c.is("what -1", x.sum(0, -1, 2), 0);
        c.is("no house", x.sum(1, 1, 2), 0);
        c.is("entry", x.entry(0, 2, 0), 5);
        c.is("entry 1", x.entry(0, 2, 1), 0);
        c.is("entry -1", x.entry(0, 2, -1), 0);
        c.is("entry of no leaf", x.entry(0, 3, 0), 0);
        c.is("entry of no day", x.entry(0, 1000, 0), 0);
        c.is("entry of day -1", x.entry(0, -1, 0), 0);
        c.is("entry of no house", x.entry(-1, 2, 0), 0);
    }

    private static void sheets() {
        PartnersBook x = closedBook();
        x.house(0);
        c.refused(x, "check, no house", x.check(2), 1);
        c.refused(x, "check ahead of any close", x.check(1), 1);
        c.taken(x, "first unlike", x.check(0), 0);
        c.taken(x, "sheet", x.sheet(0, 11), 1);
        c.taken(x, "alike", x.check(0), -2);
        c.taken(x, "sheet of one who isn't", x.sheet(23, Long.MIN_VALUE), 1);
        c.taken(x, "one who isn't", x.check(0), 23);
        c.taken(x, "nobody", x.sheet(24, 4), 1);
        c.taken(x, "still 23", x.check(0), 23);
        x.sheet(23, 0);
        c.taken(x, "nobody's", x.check(0), 24);
        c.refused(x, "sheet 25", x.sheet(25, 0), 2);
        c.refused(x, "sheet -1", x.sheet(-1, 0), 2);
        // 4 of nobody, of a mend of a day without parts
        x.leave(0, 2, 3, 1, 0);
        Checks.enter(x, 0, 3, 1);
        x.end(0, 3);
        x.close(0);
        x.mend(0, 3, 3);
        Checks.enter(x, 0, 4, 1);
        x.end(0, 4);
        x.close(0);
        x.sheet(0, 0);
        c.taken(x, "nobody's of all stretches", x.check(0), -2);
        c.is("of all closes", x.sum(0, 3, 0), 5);
    }

    private static void statusStays() {
        PartnersBook x = closedBook();
        c.refusedAt(x, "refused", x.end(0, 0), 3, NONE);
        x.borne(0);
        x.account(9, 9, 9);
        x.tenure(9, 9, 9);
        x.who(9, 9, 9);
        x.stretch(9, 9, 9);
        x.due(9, 9, 9);
        x.told(9, 9);
        x.told(0, 0);
        x.sum(9, 9, 9);
        x.entry(9, 9, 9);
        x.circle(0);
        x.where();
        c.is("status stays", x.status(), 3);
        x.end(0, 5);
        c.is("0 behind a taken call", x.status(), 0);
        x.close(0);
        c.is("open", x.status(), 5);
        x.told(0, 1);
        c.is("where stays", x.where(), 3);
        x.holds(0, 0);
        c.is("where goes with the next call", x.where(), NONE);
    }

    private static void noneSuch() {
        PartnersBook x = closedBook();
        x.end(0, 7);
        c.refusedAt(x, "open", x.close(0), 5, 3);
        for (int house : new int[] {Integer.MIN_VALUE, -1, 1, 8, Integer.MAX_VALUE}) {
            tellsNothing(x, house, 0, 2, 1, 0);
        }
        for (int no : new int[] {Integer.MIN_VALUE, -1, 2, 24, Integer.MAX_VALUE}) {
            for (int what = 0; what < 8; what++) {
                c.is("account of no tenure", x.account(0, no, what), 0);
                c.is("fact of no tenure", x.tenure(0, no, what), NONE);
            }
            c.is("due of no tenure", x.due(0, 0, no), 0);
            c.is("due of no stretch", x.due(0, no, 0), 0);
            for (int what = 0; what < 6; what++) {
                c.is("no stretch", x.stretch(0, no, what), 0);
            }
        }
        for (int seat : new int[] {Integer.MIN_VALUE, -1, 6, Integer.MAX_VALUE}) {
            c.is("no seat", x.who(0, seat, 2), NONE);
        }
        for (int day : new int[] {Integer.MIN_VALUE, -1, 1000, Integer.MAX_VALUE}) {
            c.is("who, no day", x.who(0, 2, day), NONE);
            c.is("entries, no day", x.sum(0, 1, day), 0);
            c.is("income, no day", x.sum(0, 2, day), 0);
            c.is("entry, no day", x.entry(0, day, 0), 0);
        }
        for (int i : new int[] {Integer.MIN_VALUE, -1, 1, 6, Integer.MAX_VALUE}) {
            c.is("no entry", x.entry(0, 1, i), 0);
        }
        for (int what : new int[] {Integer.MIN_VALUE, -1, 10, Integer.MAX_VALUE}) {
            c.is("told", x.told(0, what), NONE);
            c.is("account", x.account(0, 0, what), 0);
            c.is("tenure", x.tenure(0, 0, what), NONE);
            c.is("stretch", x.stretch(0, 0, what), 0);
            c.is("sum", x.sum(0, what, 1), 0);
        }
        c.is("account 7", x.account(0, 0, 7), 0);
        c.is("tenure 8", x.tenure(0, 0, 8), NONE);
        c.is("stretch 6", x.stretch(0, 0, 6), 0);
        c.is("sum 4", x.sum(0, 4, 1), 0);
        for (int i : new int[] {Integer.MIN_VALUE, -1, 0, 8, Integer.MAX_VALUE}) {
            c.is("no circle", x.circle(i), NONE);
        }
        c.is("status stays", x.status(), 5);
        c.is("where stays", x.where(), 3);
    }

    private static void tellsNothing(PartnersBook x, int house, int tenure, int seat, int day, int i) {
        for (int what = 0; what < 10; what++) {
            c.is("told of no house", x.told(house, what), NONE);
            c.is("sum of no house", x.sum(house, what, day), 0);
            c.is("account of no house", x.account(house, tenure, what), 0);
            c.is("tenure of no house", x.tenure(house, tenure, what), NONE);
            c.is("stretch of no house", x.stretch(house, i, what), 0);
        }
        c.is("who of no house", x.who(house, seat, day), NONE);
        c.is("due of no house", x.due(house, i, tenure), 0);
        c.is("entry of no house", x.entry(house, day, i), 0);
        c.is("status stays", x.status(), 5);
        c.is("where stays", x.where(), 3);
    }

    /** 24 tenures, each with a due of its own, and two coins of nobody. */
    private static PartnersBook fullSheet() {
        PartnersBook x = new PartnersBook();
        x.house(0);
        x.partner(0, 0);
        x.rule(0, 0);
        for (int seat = 0; seat < 6; seat++) {
            x.term(0, seat, 2, 1);
        }
        for (int t = 0; t < 24; t++) {
            x.join(0, t % 6, 0, t, false);
            x.leave(0, t % 6, t + 1, 1, 0);
            Checks.enter(x, 0, t, 100 + t);
        }
        Checks.enter(x, 0, 24, 2);
        x.end(0, 24);
        x.close(0);
        return x;
    }

    private static void everyNumberOfTheSheet() {
        PartnersBook x = fullSheet();
        c.is("tenures", x.told(0, 4), 24);
        for (int t = 0; t < 24; t++) {
            c.taken(x, "the first that isn't alike", x.check(0), t);
            c.taken(x, "sheet", x.sheet(t, 101 + t), 1);
            c.taken(x, "still not alike", x.check(0), t);
            c.taken(x, "sheet", x.sheet(t, 100 + t), 1);
        }
        c.taken(x, "nobody's", x.check(0), 24);
        x.sheet(24, 2);
        c.taken(x, "all alike", x.check(0), -2);
        for (int t = 24; t >= 0; t--) {
            for (long v : new long[] {Long.MIN_VALUE, -1, 0, Long.MAX_VALUE}) {
                c.taken(x, "sheet", x.sheet(t, v), 1);
                c.taken(x, "the first", x.check(0), t);
            }
        }
        c.refused(x, "25", x.sheet(25, 0), 2);
        c.refused(x, "-1", x.sheet(-1, 0), 2);
        c.taken(x, "still the first", x.check(0), 0);
    }

    private static void sheetBesideTheLatestClose() {
        PartnersBook x = closedBook();
        x.sheet(0, 11);
        c.taken(x, "alike", x.check(0), -2);
        x.join(0, 0, 0, 3, false);
        c.taken(x, "a tenure that came behind the close has no dues", x.check(0), -2);
        x.end(0, 3);
        c.refusedAt(x, "a refused close", x.close(0), 5, 3);
        c.taken(x, "leaves the latest one", x.check(0), -2);
        x.leaf(0, 3, 0, 0);
        x.close(0);
        c.taken(x, "the next close has other dues", x.check(0), 0);
        x.sheet(0, 0);
        c.taken(x, "of this close alone", x.check(0), -2);
        x.house(0);
        c.refused(x, "another house", x.check(1), 1);
        c.taken(x, "the sheet is the book's", x.check(0), -2);
    }
}
