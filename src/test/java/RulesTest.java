/** Promises 11 and 12: rules. */
public final class RulesTest {
    private static final Checks c = new Checks("RulesTest");

    public static void main(String[] args) {
        rules();
        terms();
        c.finish();
    }

    private static void rules() {
        PartnersBook x = new PartnersBook();
        c.refused(x, "no house", x.rule(0, 0), 1);
        x.house(4);
        c.refused(x, "first one ahead of FIRST", x.rule(0, 3), 3);
        c.refused(x, "first one behind FIRST", x.rule(0, 5), 3);
        c.taken(x, "first one", x.rule(0, 4), 1);
        c.refused(x, "same day", x.rule(0, 4), 3);
        c.refused(x, "behind 999", x.rule(0, 1000), 3);
        x.end(0, 9);
        Checks.emptyLeaves(x, 0, 4, 9);
        x.close(0);
        c.refused(x, "closed", x.rule(0, 9), 3);
        for (int n = 2; n <= 16; n++) {
            c.taken(x, "rule", x.rule(0, 8 + n), n);
        }
        c.refused(x, "not behind the latest", x.rule(0, 24), 3);
        c.refused(x, "17th", x.rule(0, 25), 9);
        c.is("told", x.told(0, 5), 16);
    }

    private static void terms() {
        PartnersBook x = new PartnersBook();
        c.refused(x, "no house", x.term(0, 0, 0, 0), 1);
        x.house(0);
        c.refused(x, "no rule", x.term(0, 0, 0, -1), 1);
        x.rule(0, 0);
        c.refused(x, "no seat", x.term(0, 6, 0, -1), 1);
        c.refused(x, "seat -1", x.term(0, -1, 3, 0), 1);
        c.refused(x, "what 5", x.term(0, 0, 5, 0), 2);
        c.refused(x, "what -1", x.term(0, 0, -1, 0), 2);
        int[] most = {1_000_000, 1_000_000_000, 1_000, 1_000, 500};
        for (int what = 0; what < 5; what++) {
            c.refused(x, "v -1", x.term(0, 0, what, -1), 2);
            c.refused(x, "v too great", x.term(0, 0, what, most[what] + 1), 2);
            c.taken(x, "at first 0", x.term(0, 0, what, most[what]), 0);
            c.taken(x, "was", x.term(0, 0, what, 0), most[what]);
            c.taken(x, "was 0", x.term(0, 0, what, 7), 0);
        }
        c.taken(x, "another seat", x.term(0, 5, 2, 1), 0);
        c.taken(x, "thousandths of any seat", x.term(0, -5, 4, 8), 7);
        x.rule(0, 1);
        c.taken(x, "as in the one ahead", x.term(0, 0, 0, 9), 7);
        c.taken(x, "as in the one ahead, seat 5", x.term(0, 5, 2, 2), 1);
        c.taken(x, "as in the one ahead, thousandths", x.term(0, 0, 4, 9), 8);
        x.end(0, 1);
        Checks.emptyLeaves(x, 0, 0, 1);
        x.close(0);
        c.refused(x, "closed", x.term(0, 0, 0, 1), 3);
        c.refused(x, "closed, number", x.term(0, 0, 0, -1), 2);
        x.rule(0, 2);
        c.taken(x, "free again", x.term(0, 0, 0, 1), 9);
    }
}
