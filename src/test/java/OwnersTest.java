/** Promises 22 (status 7), 24 to 26 and terms VI, VII: houses that own, heirs, hidden sums, old debts. */
public final class OwnersTest {
    private static final Checks c = new Checks("OwnersTest");

    public static void main(String[] args) {
        waitingForOthers();
        waitingToTheLastDay();
        income();
        incomeBehindTheLastDay();
        heirs();
        debtsOfThoseWhoLeft();
        hiddenSums();
        bearing();
        bearingForYears();
        bearingOfNobody();
        c.finish();
    }

    private static void oneDayYear(PartnersBook x, int house, int day) {
        x.leaf(house, day, 0, 0);
        x.end(house, day);
        x.close(house);
    }

    private static void waitingForOthers() {
        PartnersBook x = new PartnersBook();
        for (int n = 0; n < 3; n++) {
            x.house(0);
            x.rule(n, 0);
            Checks.emptyLeaves(x, n, 0, 4);
        }
        x.partner(5, 1);
        x.join(2, 0, 0, 2, false);
        x.join(0, 0, 0, 3, false);
        x.end(1, 1);
        c.taken(x, "both began behind the end", x.close(1), 0);
        x.end(1, 2);
        c.refusedAt(x, "one began on the end", x.close(1), 7, 2);
        x.end(2, 2);
        x.close(2);
        c.taken(x, "to day 2", x.close(1), 1);
        x.end(1, 4);
        c.refusedAt(x, "the least one", x.close(1), 7, 0);
        x.end(0, 3);
        x.close(0);
        c.refusedAt(x, "not so far", x.close(1), 7, 0);
        x.end(0, 4);
        x.close(0);
        c.refusedAt(x, "the other one", x.close(1), 7, 2);
        x.tear(1, 3);
        c.refusedAt(x, "an open day comes first", x.close(1), 5, 3);
        x.leaf(1, 3, 0, 0);
        x.end(2, 4);
        x.close(2);
        c.taken(x, "close", x.close(1), 2);
    }

    private static void waitingToTheLastDay() {
        PartnersBook x = new PartnersBook();
        for (int n = 0; n < 2; n++) {
            x.house(0);
            x.rule(n, 0);
            Checks.emptyLeaves(x, n, 0, 9);
        }
        x.partner(5, 0);
        x.join(1, 0, 0, 0, false);
        x.leave(1, 0, 5, 1, 0);
        x.end(0, 9);
        x.end(1, 3);
        x.close(1);
        c.refusedAt(x, "its last day is 4", x.close(0), 7, 1);
        x.end(1, 4);
        x.close(1);
        c.taken(x, "closed to its last day", x.close(0), 0);
    }

    private static void income() {
        PartnersBook x = new PartnersBook();
        x.house(0);
        x.house(0);
        x.partner(5, 0);
        x.partner(0, 0);
        for (int n = 0; n < 2; n++) {
            x.rule(n, 0);
            x.term(n, 0, 2, 1);
            x.term(n, 0, 3, 1);
            x.term(n, 1, 2, 1);
            x.term(n, 1, 3, 1);
        }
        x.join(1, 0, 0, 0, false);
        x.join(1, 1, 0, 0, false);
        x.join(0, 0, 1, 0, false);
        Checks.enter(x, 1, 0, 7);
        x.leaf(1, 1, 0, 0);
        x.end(1, 1);
        x.close(1);
        c.is("on the year's last day", x.sum(0, 2, 1), 7);
        c.is("not on the first", x.sum(0, 2, 0), 0);
        c.is("credit too", x.account(1, 0, 0), 4);
        Checks.emptyLeaves(x, 0, 0, 1);
        x.end(0, 1);
        x.close(0);
        c.is("result", x.stretch(0, 0, 2), 7);
        c.is("due", x.due(0, 0, 0), 7);
        // house 0 is closed to 1; the tenures end, so it closes on, and a mend comes later
        x.leave(1, 0, 2, 1, 0);
        x.leave(1, 1, 2, 1, 0);
        Checks.emptyLeaves(x, 0, 2, 5);
        x.end(0, 5);
        c.taken(x, "closed on", x.close(0), 1);
        x.mend(1, 0, -9);
        oneDayYear(x, 1, 2);
        c.is("on its first day behind TO", x.sum(0, 2, 6), -9);
        c.is("not on the year's last", x.sum(0, 2, 2), 0);
        oneDayYear(x, 0, 6);
        c.is("a loss of the owner", x.due(0, 0, 0), -9);
    }

    private static void incomeBehindTheLastDay() {
        PartnersBook x = new PartnersBook();
        x.house(900);
        x.house(900);
        x.partner(5, 0);
        x.rule(0, 900);
        x.rule(1, 900);
        x.term(1, 0, 2, 1);
        x.join(1, 0, 0, 900, false);
        x.leave(1, 0, 901, 1, 0);
        oneDayYear(x, 1, 900);
        Checks.emptyLeaves(x, 0, 900, 999);
        x.end(0, 999);
        c.taken(x, "to 999", x.close(0), 0);
        c.is("no open day", x.told(0, 9), 1000);
        x.mend(1, 900, 500);
        oneDayYear(x, 1, 901);
        c.is("loose has it", x.sum(0, 0, 0), 500);
        c.refused(x, "no day is free", x.leaf(0, 1000, 0, 0), 3);
    }

    private static void heirs() {
        PartnersBook x = new PartnersBook();
        x.house(0);
        x.partner(0, 0);
        x.partner(4, 5);
        x.rule(0, 0);
        x.term(0, 0, 2, 1);
        x.join(0, 0, 0, 0, false);
        x.move(0, 0, 0, 30, true);
        x.hidden(0, 0, 8);
        x.die(0, 0, 1, 1);
        x.die(0, 0, 2, 1);
        x.die(0, 0, 4, 1);
        Checks.enter(x, 0, 0, 10);
        Checks.enter(x, 0, 1, 3);
        Checks.enter(x, 0, 2, 2);
        x.end(0, 2);
        x.close(0);
        c.is("credit went on", x.account(0, 0, 0), 0);
        c.is("hidden went on", x.account(0, 0, 1), 0);
        c.is("through the second", x.account(0, 1, 0), 0);
        c.is("to the third, below 0", x.account(0, 2, 0), -15);
        c.is("hidden too", x.account(0, 2, 1), 8);
        c.is("nothing is paid", x.account(0, 0, 5), 0);
        c.is("instalments stay", x.tenure(0, 0, 5), 1);
        x.mend(0, 0, 100);
        Checks.emptyLeaves(x, 0, 3, 3);
        x.end(0, 3);
        x.close(0);
        c.is("to the fourth, at the day behind", x.account(0, 3, 0), 85);
        c.is("its hidden", x.account(0, 3, 1), 8);
        c.is("third has none", x.account(0, 2, 0), 0);
        x.leave(0, 0, 5, 2, 0);
        oneDayYear(x, 0, 4);
        c.is("half is paid", x.account(0, 3, 5), 46);
        c.is("rest is payable", x.account(0, 3, 4), 47);
    }

    private static void debtsOfThoseWhoLeft() {
        PartnersBook x = new PartnersBook();
        x.house(0);
        x.partner(0, 0);
        x.rule(0, 0);
        x.term(0, 0, 2, 1);
        x.join(0, 0, 0, 0, false);
        x.move(0, 0, 0, 30, true);
        x.leave(0, 0, 2, 2, 0);
        x.hidden(0, 1, 7);
        oneDayYear(x, 0, 0);
        c.is("not yet", x.account(0, 0, 1), 7);
        c.is("two are left", x.tenure(0, 0, 5), 2);
        oneDayYear(x, 0, 1);
        c.is("below 0 stays", x.account(0, 0, 0), -30);
        c.is("hidden is paid by half", x.account(0, 0, 5), 3);
        c.is("payable", x.account(0, 0, 4), 4);
        c.is("one is left", x.tenure(0, 0, 5), 1);
    }

    private static void hiddenSums() {
        PartnersBook x = new PartnersBook();
        c.refused(x, "no house", x.hidden(0, 0, 1), 1);
        x.house(3);
        x.partner(0, 0);
        c.refused(x, "no rule", x.hidden(0, 3, 1), 1);
        x.rule(0, 3);
        x.term(0, 0, 2, 1);
        x.term(0, 1, 2, 2);
        x.rule(0, 5);
        x.term(0, 0, 2, 2);
        x.join(0, 1, 0, 3, false);
        x.join(0, 0, 0, 4, false);
        c.refused(x, "0", x.hidden(0, 2, 0), 2);
        c.refused(x, "too much", x.hidden(0, 3, 1_000_000_001), 2);
        c.refused(x, "ahead of FIRST", x.hidden(0, 2, 1), 3);
        c.refused(x, "behind 999", x.hidden(0, 1000, 1), 3);
        c.taken(x, "one in", x.hidden(0, 3, 10), 10);
        c.is("all of it", x.account(0, 0, 1), 10);
        c.taken(x, "two in", x.hidden(0, 4, 10), 10);
        c.is("7 of 10", x.account(0, 0, 1), 17);
        c.is("3 of 10", x.account(0, 1, 1), 3);
        // seat 0, tenure 1, has the coin of alike remainders
        c.taken(x, "the later rule", x.hidden(0, 999, 5), 5);
        c.is("seat 1", x.account(0, 0, 1), 19);
        c.is("seat 0", x.account(0, 1, 1), 6);
        x.leave(0, 0, 6, 1, 0);
        x.leave(0, 1, 6, 1, 0);
        c.taken(x, "nobody is in", x.hidden(0, 6, 5), 0);
    }

    private static void bearing() {
        PartnersBook x = new PartnersBook();
        c.refused(x, "no house", x.bear(0, 0, 1), 1);
        x.house(2);
        x.partner(0, 0);
        x.partner(1, 5);
        c.refused(x, "no rule", x.bear(0, 2, 1), 1);
        x.rule(0, 2);
        x.term(0, 0, 3, 1);
        x.term(0, 1, 3, 2);
        x.term(0, 2, 3, 9);
        x.join(0, 0, 0, 2, false);
        x.join(0, 1, 1, 2, false);
        x.join(0, 2, 0, 5, false);
        x.join(0, 3, 0, 5, true);
        x.rule(0, 6);
        x.term(0, 3, 3, 3);
        x.term(0, 0, 3, 1_000);
        c.is("no bear yet", x.borne(0), 0);
        c.refused(x, "0", x.bear(0, 1, 0), 2);
        c.refused(x, "too much", x.bear(0, 2, 1_000_000_001), 2);
        c.refused(x, "ahead of FIRST", x.bear(0, 1, 6), 3);
        c.refused(x, "behind 999", x.bear(0, 1000, 6), 3);
        c.is("a refused one tells nothing", x.borne(-1), 0);
        // 36 by 1, 2 and 3: 6, 12, 18; 7 over the limit by 1 and 3: 1.75, 5.25
        c.taken(x, "three bear", x.bear(0, 4, 36), 3);
        c.is("in on that day", x.borne(0), 8);
        c.is("to its limit", x.borne(1), 5);
        c.is("without a word", x.borne(2), 0);
        c.is("with a word", x.borne(3), 23);
        c.is("nobody's", x.borne(-1), 0);
        for (int t : new int[] {4, 5, 23, 24, 25, -2, Integer.MAX_VALUE, Integer.MIN_VALUE}) {
            c.is("no such tenure " + t, x.borne(t), 0);
        }
        c.is("nothing is changed", x.account(0, 1, 2), 0);
        c.refused(x, "refused", x.bear(0, 4, 0), 2);
        c.is("the latest that wasn't refused", x.borne(3), 23);
        x.leave(0, 3, 50, 1, 5);
        c.taken(x, "the word ends with the tenure", x.bear(0, 4, 36), 2);
        c.is("the full one", x.borne(0), 31);
        c.is("forgotten", x.borne(3), 0);
        // on 5 all four were in, with that day's rule: seat 3 has no loss parts then
        c.taken(x, "on the day", x.bear(0, 5, 12), 3);
        c.is("seat 0", x.borne(0), 1);
        c.is("seat 1", x.borne(1), 2);
        c.is("seat 2", x.borne(2), 9);
        c.taken(x, "on 999", x.bear(0, 999, 1011), 3);
        c.taken(x, "on the last day of seat 3", x.bear(0, 49, 1_000_000_000), 4);
    }

    private static void bearingForYears() {
        PartnersBook x = new PartnersBook();
        x.house(0);
        x.partner(0, 0);
        x.rule(0, 0);
        x.term(0, 0, 3, 1);
        x.join(0, 0, 0, 0, false);
        x.leave(0, 0, 3, 1, 2);
        Checks.emptyLeaves(x, 0, 0, 5);
        x.end(0, 2);
        x.close(0);
        c.taken(x, "a year to the day ahead doesn't count", x.bear(0, 2, 5), 1);
        x.end(0, 3);
        x.close(0);
        c.taken(x, "one year", x.bear(0, 2, 5), 1);
        x.end(0, 4);
        c.taken(x, "told, not closed", x.bear(0, 2, 5), 1);
        x.close(0);
        c.taken(x, "two years", x.bear(0, 2, 5), 0);
        c.is("nobody's", x.borne(-1), 5);
        c.taken(x, "it was never in on 3", x.bear(0, 3, 5), 0);
    }

    private static void bearingOfNobody() {
        PartnersBook x = new PartnersBook();
        x.house(0);
        x.partner(2, 7);
        x.rule(0, 0);
        x.term(0, 0, 3, 1);
        x.join(0, 0, 0, 0, false);
        c.taken(x, "to the limit", x.bear(0, 0, 9), 1);
        c.is("the limit", x.borne(0), 7);
        c.is("over it", x.borne(-1), 2);
        Checks.enter(x, 0, 0, -5);
        x.end(0, 0);
        x.close(0);
        c.taken(x, "what is left of it", x.bear(0, 0, 9), 1);
        c.is("its room", x.borne(0), 2);
        c.is("over its room", x.borne(-1), 7);
        x.house(0);
        c.refused(x, "another house without rule", x.bear(1, 0, 1), 1);
        c.is("stays", x.borne(0), 2);
        x.rule(1, 0);
        c.taken(x, "a house without tenures", x.bear(1, 0, 4), 0);
        c.is("not the other house's", x.borne(0), 0);
        c.is("all is nobody's", x.borne(-1), 4);
        x.join(1, 0, 0, 0, false);
        c.is("a tenure that came behind the bear", x.borne(0), 0);
    }
}
