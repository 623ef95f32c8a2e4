/** Terms I to IV: the last number and day that is still taken, on both sides; what is empty, and what is full. */
public final class EdgesTest {
    private static final int NONE = PartnersBook.NONE;
    private static final int MOST = 1_000_000_000;
    private static final Checks c = new Checks("EdgesTest");

    public static void main(String[] args) {
        sums();
        mendedSums();
        firstAndLastDays();
        firstFreeDay();
        noFreeDay();
        emptyHouse();
        houseWithoutTenures();
        newTenures();
        seats();
        letters();
        leavesOfAllSizes();
        undoOfSixty();
        ruleOfADay();
        rulesKeepTheirNumbers();
        twelveYears();
        tenYearsToTheLastDay();
        fullHouse();
        fullBook();
        c.finish();
    }

    private static PartnersBook bookFrom(int first) {
        PartnersBook x = new PartnersBook();
        x.house(first);
        x.partner(0, 0);
        x.partner(4, MOST);
        x.rule(0, first);
        x.term(0, 0, 2, 1);
        x.term(0, 0, 3, 1);
        return x;
    }

    private static void sums() {
        PartnersBook x = bookFrom(0);
        x.join(0, 0, 0, 0, false);
        x.leaf(0, 0, 2, 4);
        c.taken(x, "earn 1", x.earn(0, 0, 1), 1);
        c.taken(x, "earn the most", x.earn(0, 0, MOST), 2);
        c.taken(x, "spend 1", x.spend(0, 0, 1), 3);
        c.taken(x, "spend the most", x.spend(0, 0, MOST), 4);
        long[] entries = {1, MOST, -1, -MOST, 0, 0};
        for (int i = 0; i < entries.length; i++) {
            c.is("entry " + i, x.entry(0, 0, i), entries[i]);
        }
        c.taken(x, "move 1 in", x.move(0, 0, 0, 1, false), 1);
        c.taken(x, "move the most in", x.move(0, 0, 0, MOST, false), 2);
        c.taken(x, "move 1 out", x.move(0, 0, 0, 1, true), 3);
        c.taken(x, "move the most out", x.move(0, 0, 0, MOST, true), 4);
        c.taken(x, "lend 1", x.lend(0, 0, 1, false), 1);
        c.taken(x, "1 back", x.lend(0, 0, 1, true), 0);
        c.taken(x, "lend the most", x.lend(0, 0, MOST, false), MOST);
        c.taken(x, "the most back", x.lend(0, 0, MOST, true), 0);
        c.taken(x, "hide 1", x.hidden(0, 0, 1), 1);
        c.taken(x, "hide the most", x.hidden(0, 0, MOST), MOST);
        c.is("hidden", x.account(0, 0, 1), MOST + 1);
        c.taken(x, "bear 1", x.bear(0, 0, 1), 1);
        c.is("1 is borne", x.borne(0), 1);
        c.taken(x, "bear the most", x.bear(0, 0, MOST), 1);
        c.is("the most is borne", x.borne(0), MOST);
        c.taken(x, "the least loose", x.loose(0, -MOST), 1);
        c.taken(x, "none loose", x.loose(0, 0), 1);
        c.taken(x, "the most loose", x.loose(0, MOST), 1);
        c.taken(x, "-1 loose", x.loose(0, -1), 1);
        c.is("loose", x.sum(0, 0, 0), -1);
    }

    private static void mendedSums() {
        PartnersBook x = bookFrom(0);
        x.join(0, 0, 0, 0, false);
        close(x, 0, 0);
        int[] sums = {1, -1, MOST, -MOST};
        for (int i = 0; i < sums.length; i++) {
            c.taken(x, "mend " + sums[i], x.mend(0, 0, sums[i]), i + 1);
        }
        close(x, 0, 1);
        for (int i = 0; i < sums.length; i++) {
            c.is("result of " + sums[i], x.stretch(0, 1 + i, 2), sums[i]);
            c.is("due of " + sums[i], x.due(0, 1 + i, 0), sums[i]);
            c.is("nobody's of " + sums[i], x.stretch(0, 1 + i, 3), 0);
        }
        c.is("borne", x.account(0, 0, 2), MOST + 1);
    }

    /** A year to a day, with leaves without places where none are. */
    private static void close(PartnersBook x, int house, int last) {
        x.end(house, last);
        while (x.told(house, 9) <= last) {
            x.leaf(house, x.told(house, 9), 0, 0);
        }
        x.close(house);
    }

    private static void firstAndLastDays() {
        PartnersBook x = new PartnersBook();
        x.house(3);
        x.partner(0, 0);
        x.partner(4, 5);
        c.taken(x, "rule on FIRST", x.rule(0, 3), 1);
        c.taken(x, "rule on the day behind", x.rule(0, 4), 2);
        c.taken(x, "rule on 999", x.rule(0, 999), 3);
        c.taken(x, "join on FIRST", x.join(0, 0, 0, 3, false), 0);
        c.taken(x, "join on 999", x.join(0, 1, 0, 999, false), 1);
        c.taken(x, "leave on the day behind BEGIN", x.leave(0, 0, 4, 1, 0), 0);
        c.taken(x, "join on the day of the end", x.join(0, 0, 0, 4, false), 2);
        c.taken(x, "leave on 999", x.leave(0, 0, 999, 10, 5), 2);
        c.taken(x, "join on 999 behind it", x.join(0, 0, 0, 999, true), 3);
        c.refused(x, "leave behind 999", x.leave(0, 0, 1000, 1, 0), 3);
        c.taken(x, "join on 997", x.join(0, 2, 0, 997, false), 4);
        c.taken(x, "die on the day behind BEGIN", x.die(0, 2, 998, 1), 5);
        c.taken(x, "die on 999", x.die(0, 2, 999, 1), 6);
        c.taken(x, "leaf on FIRST", x.leaf(0, 3, 0, 6), 6);
        c.taken(x, "leaf on 999", x.leaf(0, 999, 2, 6), 6);
        c.taken(x, "earn on FIRST", x.earn(0, 3, 1), 1);
        c.taken(x, "spend on FIRST", x.spend(0, 3, 1), 2);
        c.taken(x, "earn on 999", x.earn(0, 999, 1), 1);
        c.taken(x, "spend on 999", x.spend(0, 999, 2), 2);
        c.is("sum of 999", x.sum(0, 1, 999), -1);
        c.is("entry of 999", x.entry(0, 999, 1), -2);
        c.taken(x, "move on FIRST", x.move(0, 0, 3, 1, false), 1);
        c.taken(x, "move on 999", x.move(0, 3, 999, 1, true), 2);
        c.taken(x, "hidden on FIRST", x.hidden(0, 3, 1), 0);
        c.taken(x, "hidden on 999", x.hidden(0, 999, 1), 0);
        c.taken(x, "bear on FIRST", x.bear(0, 3, 1), 0);
        c.taken(x, "bear on 999", x.bear(0, 999, 1), 0);
        c.is("who on FIRST", x.who(0, 0, 3), 0);
        c.is("who on 4", x.who(0, 0, 4), 2);
        c.is("who on 998", x.who(0, 0, 998), 2);
        c.is("who on 999", x.who(0, 0, 999), 3);
        c.taken(x, "tear FIRST", x.tear(0, 3), 2);
        c.taken(x, "tear 999", x.tear(0, 999), 2);
    }

    private static void firstFreeDay() {
        PartnersBook x = bookFrom(3);
        x.join(0, 0, 0, 3, false);
        x.join(0, 1, 0, 3, false);
        close(x, 0, 5);
        c.is("TO", x.told(0, 1), 5);
        c.taken(x, "mend on FIRST", x.mend(0, 3, 1), 1);
        c.taken(x, "mend on TO", x.mend(0, 5, 1), 2);
        c.refused(x, "mend behind TO", x.mend(0, 6, 1), 3);
        c.taken(x, "hidden on TO", x.hidden(0, 5, 1), 1);
        c.taken(x, "bear on TO", x.bear(0, 5, 1), 1);
        c.refused(x, "leaf on TO", x.leaf(0, 5, 0, 0), 3);
        c.taken(x, "leaf", x.leaf(0, 6, 1, 2), 2);
        c.taken(x, "earn", x.earn(0, 6, 1), 1);
        c.taken(x, "spend", x.spend(0, 6, 1), 2);
        c.taken(x, "tear", x.tear(0, 6), 2);
        c.refused(x, "rule on TO", x.rule(0, 5), 3);
        c.taken(x, "rule", x.rule(0, 6), 2);
        c.taken(x, "term of a rule that is free", x.term(0, 0, 2, 2), 1);
        c.refused(x, "move on TO", x.move(0, 0, 5, 1, false), 3);
        c.taken(x, "move", x.move(0, 0, 6, 1, false), 1);
        c.refused(x, "join on TO", x.join(0, 2, 0, 5, false), 3);
        c.taken(x, "join", x.join(0, 2, 0, 6, false), 2);
        c.refused(x, "leave on TO", x.leave(0, 0, 5, 1, 0), 3);
        c.taken(x, "leave", x.leave(0, 0, 6, 1, 0), 0);
        c.refused(x, "die on TO", x.die(0, 1, 5, 1), 3);
        c.taken(x, "die", x.die(0, 1, 6, 1), 3);
        c.refused(x, "end on TO", x.end(0, 5), 3);
        c.taken(x, "end", x.end(0, 6), 2);
    }

    private static void noFreeDay() {
        PartnersBook x = bookFrom(900);
        x.join(0, 0, 0, 900, false);
        close(x, 0, 999);
        c.is("TO", x.told(0, 1), 999);
        c.is("no open day", x.told(0, 9), 1000);
        for (int day = 998; day <= 1001; day++) {
            c.refused(x, "join", x.join(0, 1, 0, day, false), 3);
            c.refused(x, "leave", x.leave(0, 0, day, 1, 0), 3);
            c.refused(x, "die", x.die(0, 0, day, 1), 3);
            c.refused(x, "rule", x.rule(0, day), 3);
            c.refused(x, "leaf", x.leaf(0, day, 0, 0), 3);
            c.refused(x, "tear", x.tear(0, day), 3);
            c.refused(x, "earn", x.earn(0, day, 1), 3);
            c.refused(x, "spend", x.spend(0, day, 1), 3);
            c.refused(x, "move", x.move(0, 0, day, 1, false), 3);
            c.refused(x, "end", x.end(0, day), 3);
        }
        c.refused(x, "term", x.term(0, 0, 0, 1), 3);
        c.refused(x, "close", x.close(0), 6);
        c.taken(x, "mend", x.mend(0, 999, 1), 1);
        c.taken(x, "loose", x.loose(0, 1), 1);
        c.taken(x, "hidden", x.hidden(0, 999, 1), 1);
        c.taken(x, "bear", x.bear(0, 999, 1), 1);
        c.taken(x, "lend", x.lend(0, 0, 1, false), 1);
        c.taken(x, "undo", x.undo(0), 0);
    }

    private static void emptyHouse() {
        for (int first : new int[] {0, 900}) {
            PartnersBook x = new PartnersBook();
            x.house(first);
            int[] facts = {first, first - 1, 0, 0, 0, 0, 0, 0, 0, first};
            for (int what = 0; what < facts.length; what++) {
                c.is("told " + what, x.told(0, what), facts[what]);
            }
            for (int what = 0; what < 4; what++) {
                c.is("sum " + what, x.sum(0, what, first), 0);
            }
            for (int seat = 0; seat < 6; seat++) {
                c.taken(x, "holds", x.holds(0, seat), 0);
                c.is("who", x.who(0, seat, first), NONE);
            }
            c.is("entry", x.entry(0, first, 0), 0);
            c.is("account", x.account(0, 0, 0), 0);
            c.is("tenure", x.tenure(0, 0, 0), NONE);
            c.is("stretch", x.stretch(0, 0, 0), 0);
            c.is("due", x.due(0, 0, 0), 0);
            c.taken(x, "undo", x.undo(0), 0);
            c.refused(x, "check", x.check(0), 1);
            c.refused(x, "close", x.close(0), 6);
            c.refused(x, "mend", x.mend(0, first, 1), 3);
            c.refused(x, "tear", x.tear(0, first), 10);
            c.refused(x, "earn", x.earn(0, first, 1), 10);
            c.refused(x, "move", x.move(0, 0, first, 1, false), 1);
            c.refused(x, "leave", x.leave(0, 0, first + 1, 1, 0), 4);
        }
    }

    private static void houseWithoutTenures() {
        PartnersBook x = bookFrom(0);
        c.taken(x, "hidden", x.hidden(0, 0, 5), 0);
        c.taken(x, "bear", x.bear(0, 0, 5), 0);
        c.is("all is nobody's", x.borne(-1), 5);
        x.loose(0, 7);
        close(x, 0, 0);
        c.is("a gain is nobody's", x.stretch(0, 0, 3), 7);
        c.is("no dues", x.stretch(0, 0, 4), 0);
        c.is("none in", x.stretch(0, 0, 5), 0);
        x.loose(0, -9);
        x.mend(0, 0, 4);
        x.mend(0, 0, -3);
        close(x, 0, 1);
        c.is("a loss is nobody's", x.stretch(0, 0, 3), -9);
        c.is("a mend is nobody's", x.stretch(0, 1, 3), 4);
        c.is("a mend of a loss is nobody's", x.stretch(0, 2, 3), -3);
        c.is("of all closes", x.sum(0, 3, 0), -1);
        close(x, 0, 2);
        c.is("nothing comes, and nothing is nobody's", x.stretch(0, 0, 3), 0);
        c.is("one stretch", x.told(0, 8), 1);
        c.is("still", x.sum(0, 3, 0), -1);
    }

    private static void newTenures() {
        PartnersBook x = bookFrom(0);
        x.join(0, 0, 0, 2, true);
        x.die(0, 0, 5, 1);
        for (int what = -1; what <= 7; what++) {
            c.is("account " + what, x.account(0, 0, what), 0);
            c.is("the heir's account " + what, x.account(0, 1, what), 0);
        }
        int[] facts = {0, 0, 2, 5, 1, 1, 1, 0};
        int[] heirs = {1, 0, 5, NONE, 0, 0, NONE, NONE};
        for (int what = 0; what < facts.length; what++) {
            c.is("fact " + what, x.tenure(0, 0, what), facts[what]);
            c.is("the heir's fact " + what, x.tenure(0, 1, what), heirs[what]);
        }
    }

    private static void seats() {
        PartnersBook x = bookFrom(0);
        for (int seat = 0; seat < 6; seat++) {
            c.taken(x, "letter", x.letter(0, seat, seat + 1), 1);
            c.taken(x, "holds a letter", x.holds(0, seat), 1);
            c.taken(x, "unseal", x.unseal(0, seat), seat + 1);
            c.taken(x, "join", x.join(0, seat, 0, seat, false), seat);
            c.is("who", x.who(0, seat, seat), seat);
            c.is("who, ahead", x.who(0, seat, seat - 1), NONE);
            c.is("seat", x.tenure(0, seat, 1), seat);
            int[] most = {1_000_000, MOST, 1_000, 1_000};
            for (int what = 0; what < 4; what++) {
                c.taken(x, "term", x.term(0, seat, what, most[what]), seat == 0 && what > 1 ? 1 : 0);
                c.taken(x, "term 0", x.term(0, seat, what, 0), most[what]);
            }
        }
        for (int seat = 0; seat < 6; seat++) {
            c.taken(x, seat + " leaves", x.leave(0, seat, 50, 1, 0), seat);
            c.taken(x, "holds one that has ended", x.holds(0, seat), 3);
        }
        for (int seat : new int[] {Integer.MIN_VALUE, -1, 0, 5, 6, Integer.MAX_VALUE}) {
            c.taken(x, "thousandths, seat " + seat, x.term(0, seat, 4, 500), 0);
            c.taken(x, "thousandths back, seat " + seat, x.term(0, seat, 4, 0), 500);
        }
    }

    private static void letters() {
        PartnersBook x = bookFrom(0);
        for (int letter : new int[] {1, 2, 999_999, 1_000_000}) {
            c.taken(x, "letter", x.letter(0, 0, letter), 1);
            c.taken(x, "unseal", x.unseal(0, 0), letter);
        }
        x.join(0, 0, 0, 0, false);
        x.leave(0, 0, 9, 1, 0);
        c.taken(x, "a letter in place of one that has ended", x.letter(0, 0, 1), 1);
        c.is("the tenure is still in", x.who(0, 0, 8), 0);
        c.refused(x, "join on a letter", x.join(0, 0, 0, 9, false), 4);
        c.taken(x, "unseal", x.unseal(0, 0), 1);
        c.refused(x, "join ahead of the end", x.join(0, 0, 0, 8, false), 4);
        c.taken(x, "join on the end", x.join(0, 0, 0, 9, false), 1);
    }

    private static void leavesOfAllSizes() {
        PartnersBook x = bookFrom(0);
        for (int sort = 0; sort < 3; sort++) {
            for (int n = 0; n <= 6; n++) {
                c.taken(x, "leaf", x.leaf(0, 0, sort, n), n);
                for (int i = 0; i < n; i++) {
                    c.is("open", x.told(0, 9), 0);
                    c.is("lacks", x.entry(0, 0, i), 0);
                    c.taken(x, "entry", i % 2 == 0 ? x.earn(0, 0, 10 + i) : x.spend(0, 0, 10 + i), i + 1);
                    c.is("one behind the other", x.entry(0, 0, i), i % 2 == 0 ? 10 + i : -10 - i);
                }
                c.is("not open", x.told(0, 9), 1);
                c.refused(x, "no place to earn", x.earn(0, 0, 1), 10);
                c.refused(x, "no place to spend", x.spend(0, 0, 1), 10);
                c.is("behind the places", x.entry(0, 0, n), 0);
                if (n % 2 == 0) {
                    c.taken(x, "tear", x.tear(0, 0), n);
                    c.is("open without a leaf", x.told(0, 9), 0);
                    c.refused(x, "tear again", x.tear(0, 0), 10);
                }
            }
        }
    }

    private static void undoOfSixty() {
        for (int told = 59; told <= 61; told++) {
            PartnersBook x = bookFrom(0);
            x.join(0, 0, 0, 0, false);
            for (int i = 0; i < told; i++) {
                x.move(0, 0, 0, 1, false);
            }
            for (int i = 0; i < Math.min(60, told); i++) {
                c.taken(x, "undo " + i + " of " + told, x.undo(0), 1);
            }
            c.taken(x, "no more of " + told, x.undo(0), 0);
            c.is("left of " + told, x.told(0, 6), Math.max(0, told - 60));
        }
    }

    private static void ruleOfADay() {
        PartnersBook x = bookFrom(0);
        x.join(0, 0, 0, 0, false);
        x.join(0, 1, 0, 0, false);
        x.rule(0, 5);
        x.term(0, 1, 2, 1);
        x.rule(0, 6);
        x.term(0, 0, 2, 0);
        long first = 0;
        long second = 0;
        int[] days = {0, 4, 5, 6, 999};
        int[] firsts = {8, 8, 4, 0, 0};
        for (int i = 0; i < days.length; i++) {
            x.hidden(0, days[i], 8);
            first += firsts[i];
            second += 8 - firsts[i];
            c.is("seat 0, rule of " + days[i], x.account(0, 0, 1), first);
            c.is("seat 1, rule of " + days[i], x.account(0, 1, 1), second);
        }
    }

    private static void rulesKeepTheirNumbers() {
        PartnersBook x = new PartnersBook();
        x.house(0);
        x.rule(0, 0);
        for (int n = 2; n <= 16; n++) {
            for (int what = 0; what <= 4; what++) {
                for (int seat = 0; seat < (what == 4 ? 1 : 6); seat++) {
                    int was = n == 2 ? 0 : n - 1;
                    c.taken(x, "as in the one ahead", x.term(0, seat, what, n), was);
                }
            }
            c.taken(x, "rule", x.rule(0, n), n);
        }
        c.refused(x, "17th", x.rule(0, 17), 9);
        c.taken(x, "the 16th is told on", x.term(0, 0, 2, 0), 16);
    }

    private static void twelveYears() {
        PartnersBook x = bookFrom(0);
        x.join(0, 0, 0, 0, false);
        for (int n = 1; n <= 12; n++) {
            c.taken(x, "end", x.end(0, n - 1), n);
        }
        c.refused(x, "13th end", x.end(0, 12), 9);
        Checks.emptyLeaves(x, 0, 0, 11);
        for (int n = 0; n < 12; n++) {
            x.loose(0, n + 1);
            c.taken(x, "close", x.close(0), n);
            c.is("closed", x.told(0, 3), n + 1);
            c.is("TO", x.told(0, 1), n);
            c.is("dues", x.account(0, 0, 6), n + 1);
        }
        c.refused(x, "13th close", x.close(0), 6);
        c.refused(x, "13th end behind the closes", x.end(0, 12), 9);
        c.is("years told", x.told(0, 2), 12);
        c.is("credit", x.account(0, 0, 0), 78);
        c.taken(x, "a move of a year without number", x.move(0, 0, 12, 1, false), 1);
        c.taken(x, "a leaf of it", x.leaf(0, 12, 0, 1), 1);
        c.taken(x, "an entry of it", x.earn(0, 12, 1), 1);
        c.taken(x, "a mend", x.mend(0, 11, 1), 1);
    }

    private static void tenYearsToTheLastDay() {
        PartnersBook x = new PartnersBook();
        x.house(0);
        for (int n = 1; n <= 10; n++) {
            int first = 100 * (n - 1);
            c.refused(x, "ahead of the first day", x.end(0, first - 1), 3);
            c.refused(x, "100 days behind the first", x.end(0, first + 100), 3);
            c.taken(x, "99 days behind the first", x.end(0, first + 99), n);
        }
        for (int day : new int[] {-1, 0, 999, 1000}) {
            c.refused(x, "no day is left", x.end(0, day), 3);
        }
    }

    /** 24 tenures, 16 rules, 120 moves, 20 mends in one year of 100 days: 64 stretches, and the mends behind. */
    private static void fullHouse() {
        PartnersBook x = new PartnersBook();
        x.house(0);
        x.partner(0, 0);
        x.rule(0, 0);
        close(x, 0, 0);
        for (int k = 0; k < 4; k++) {
            for (int seat = 0; seat < 6; seat++) {
                c.taken(x, "join", x.join(0, seat, 0, 2 + 12 * k + seat, false), 6 * k + seat);
                c.taken(x, "leave", x.leave(0, seat, 8 + 12 * k + seat, 1, 0), 6 * k + seat);
            }
        }
        for (int n = 2; n <= 16; n++) {
            c.taken(x, "rule", x.rule(0, 49 + n), n);
            x.term(0, 5, 0, n);
        }
        for (int n = 1; n <= 120; n++) {
            c.taken(x, "move", x.move(0, 23, 43 + n % 6, 1, n % 4 == 0), n);
        }
        for (int n = 1; n <= 20; n++) {
            c.taken(x, "mend", x.mend(0, 0, n % 2 == 0 ? n : -n), n);
        }
        x.loose(0, 100);
        Checks.emptyLeaves(x, 0, 1, 100);
        c.taken(x, "a hundred days", x.end(0, 100), 2);
        c.taken(x, "close", x.close(0), 1);
        c.is("stretches", x.told(0, 8), 84);
        for (int i = 0; i < 64; i++) {
            int day = i < 49 ? i + 1 : i + 2;
            int days = i == 48 ? 2 : i == 63 ? 36 : 1;
            c.is("first day of " + i, x.stretch(0, i, 0), day);
            c.is("days of " + i, x.stretch(0, i, 1), days);
            c.is("result of " + i, x.stretch(0, i, 2), days);
            c.is("nobody's of " + i, x.stretch(0, i, 3), days);
            c.is("in on " + i, x.stretch(0, i, 5), inOn(x, day));
        }
        for (int n = 1; n <= 20; n++) {
            c.is("day of mend " + n, x.stretch(0, 63 + n, 0), 0);
            c.is("days of mend " + n, x.stretch(0, 63 + n, 1), 0);
            c.is("result of mend " + n, x.stretch(0, 63 + n, 2), n % 2 == 0 ? n : -n);
        }
        c.is("behind them", x.stretch(0, 84, 2), 0);
        c.is("of nobody", x.sum(0, 3, 0), 110);
        c.is("no move is left", x.told(0, 6), 0);
        c.is("no mend waits", x.told(0, 7), 0);
        c.is("the moves were paid", x.account(0, 23, 5), 60);
    }

    private static int inOn(PartnersBook x, int day) {
        int in = 0;
        for (int seat = 0; seat < 6; seat++) {
            in += x.who(0, seat, day) == NONE ? 0 : 1;
        }
        return in;
    }

    private static void fullBook() {
        PartnersBook x = new PartnersBook();
        for (int n = 0; n < 8; n++) {
            c.taken(x, "house", x.house(n), n);
            c.is("its own FIRST", x.told(n, 0), n);
        }
        for (int n = 0; n < 40; n++) {
            c.taken(x, "partner", x.partner(n % 6, n % 8), n);
        }
        for (int n = 0; n < 8; n++) {
            c.taken(x, "the last partner", x.join(n, 5, 39, 999, false), 0);
            c.is("partner", x.tenure(n, 0, 0), 39);
        }
        c.is("behind the last house", x.told(8, 0), NONE);
        c.refused(x, "behind the last partner", x.join(0, 0, 40, 999, false), 1);
    }
}
