/** Promises 1 to 10: houses, partners, seats. */
public final class SeatsTest {
    private static final int NONE = PartnersBook.NONE;
    private static final Checks c = new Checks("SeatsTest");

    public static void main(String[] args) {
        newObject();
        houses();
        partners();
        letters();
        joining();
        leaving();
        dying();
        circles();
        longCircle();
        circlesAmongOtherWays();
        leastNumbers();
        c.finish();
    }

    private static void newObject() {
        PartnersBook x = new PartnersBook();
        c.is("new status", x.status(), 0);
        c.is("new where", x.where(), NONE);
        c.is("new told", x.told(0, 0), NONE);
        c.is("new circle", x.circle(0), NONE);
        c.is("new borne", x.borne(0), 0);
        c.is("new borne of nobody", x.borne(-1), 0);
        c.refused(x, "new holds", x.holds(0, 0), 1);
        c.refused(x, "new join", x.join(0, 0, 0, 0, false), 1);
    }

    private static void houses() {
        PartnersBook x = new PartnersBook();
        c.refused(x, "house(-1)", x.house(-1), 2);
        c.refused(x, "house(901)", x.house(901), 2);
        c.taken(x, "house(0)", x.house(0), 0);
        c.taken(x, "house(900)", x.house(900), 1);
        c.is("FIRST", x.told(1, 0), 900);
        c.is("TO", x.told(1, 1), 899);
        c.is("TO of 0", x.told(0, 1), -1);
        for (int n = 2; n < 8; n++) {
            c.taken(x, "house", x.house(10), n);
        }
        c.refused(x, "a 9th house", x.house(10), 9);
        c.refused(x, "a 9th house, wrong day", x.house(1000), 2);
    }

    private static void partners() {
        PartnersBook x = new PartnersBook();
        c.refused(x, "kind -1", x.partner(-1, 0), 2);
        c.refused(x, "kind 6", x.partner(6, 0), 2);
        c.refused(x, "house that isn't", x.partner(5, 0), 1);
        int n = 0;
        c.taken(x, "full", x.partner(0, -7), n++);
        c.taken(x, "working", x.partner(3, Integer.MAX_VALUE), n++);
        for (int kind : new int[] {1, 2, 4}) {
            c.refused(x, "limit -1", x.partner(kind, -1), 2);
            c.refused(x, "limit too great", x.partner(kind, 1_000_000_001), 2);
            c.taken(x, "limit 0", x.partner(kind, 0), n++);
            c.taken(x, "greatest limit", x.partner(kind, 1_000_000_000), n++);
        }
        x.house(0);
        c.refused(x, "house -1", x.partner(5, -1), 1);
        c.refused(x, "house 1", x.partner(5, 1), 1);
        c.taken(x, "house 0", x.partner(5, 0), n++);
        while (n < 40) {
            c.taken(x, "partner", x.partner(0, 0), n++);
        }
        c.refused(x, "41st", x.partner(0, 0), 9);
        c.refused(x, "41st, wrong kind", x.partner(7, 0), 2);
        c.refused(x, "41st, wrong house", x.partner(5, 3), 1);
    }

    private static void letters() {
        PartnersBook x = new PartnersBook();
        x.house(0);
        x.partner(0, 0);
        c.refused(x, "letter, no house", x.letter(1, 0, 0), 1);
        c.refused(x, "letter, no seat", x.letter(0, 6, 0), 1);
        c.refused(x, "letter, seat -1", x.letter(0, -1, 5), 1);
        c.refused(x, "letter 0", x.letter(0, 0, 0), 2);
        c.refused(x, "letter too great", x.letter(0, 0, 1_000_001), 2);
        c.taken(x, "holds nothing", x.holds(0, 0), 0);
        c.refused(x, "unseal nothing", x.unseal(0, 0), 4);
        c.taken(x, "letter", x.letter(0, 0, 1_000_000), 1);
        c.refused(x, "letter on letter", x.letter(0, 0, 3), 4);
        c.refused(x, "letter on letter, number", x.letter(0, 0, -3), 2);
        c.taken(x, "holds a letter", x.holds(0, 0), 1);
        c.refused(x, "unseal, no house", x.unseal(-1, 0), 1);
        c.refused(x, "unseal, no seat", x.unseal(0, 6), 1);
        c.taken(x, "unseal", x.unseal(0, 0), 1_000_000);
        c.taken(x, "holds nothing again", x.holds(0, 0), 0);
        x.join(0, 0, 0, 3, false);
        c.taken(x, "holds a tenure", x.holds(0, 0), 2);
        c.refused(x, "letter on tenure", x.letter(0, 0, 3), 4);
        c.refused(x, "unseal a tenure", x.unseal(0, 0), 4);
        x.leave(0, 0, 5, 1, 0);
        c.taken(x, "holds an ended tenure", x.holds(0, 0), 3);
        c.taken(x, "letter on ended", x.letter(0, 0, 4), 1);
        c.refused(x, "leave a letter", x.leave(0, 0, 9, 1, 0), 4);
        c.taken(x, "unseal", x.unseal(0, 0), 4);
        c.taken(x, "nothing behind the letter", x.holds(0, 0), 0);
        c.refused(x, "holds, no house", x.holds(2, 0), 1);
        c.refused(x, "holds, no seat", x.holds(0, 6), 1);
    }

    private static void joining() {
        PartnersBook x = new PartnersBook();
        x.house(5);
        x.partner(0, 0);
        c.refused(x, "no house", x.join(1, 0, 0, 5, false), 1);
        c.refused(x, "no seat", x.join(0, 6, 0, 5, false), 1);
        c.refused(x, "no partner", x.join(0, 0, 1, 5, false), 1);
        c.refused(x, "no partner -1", x.join(0, 0, -1, 4, false), 1);
        c.refused(x, "ahead of FIRST", x.join(0, 0, 0, 4, false), 3);
        c.refused(x, "behind 999", x.join(0, 0, 0, 1000, false), 3);
        x.letter(0, 0, 1);
        c.refused(x, "letter", x.join(0, 0, 0, 5, false), 4);
        c.refused(x, "letter and day", x.join(0, 0, 0, 4, false), 3);
        x.unseal(0, 0);
        c.taken(x, "join", x.join(0, 0, 0, 5, false), 0);
        c.refused(x, "seat is taken", x.join(0, 0, 0, 999, false), 4);
        c.taken(x, "the same partner in another seat", x.join(0, 5, 0, 999, true), 1);
        x.leave(0, 0, 8, 1, 0);
        c.refused(x, "ended too late", x.join(0, 0, 0, 7, false), 4);
        c.taken(x, "join on the end", x.join(0, 0, 0, 8, false), 2);
        for (int n = 3; n < 24; n++) {
            int day = 6 + n;
            x.leave(0, 0, day, 1, 0);
            c.taken(x, "join again", x.join(0, 0, 0, day, false), n);
        }
        c.refused(x, "25th tenure", x.join(0, 1, 0, 50, false), 9);
        c.refused(x, "25th tenure, seat", x.join(0, 0, 0, 50, false), 4);
        c.is("tenures", x.told(0, 4), 24);
        Checks.emptyLeaves(x, 0, 5, 6);
        x.rule(0, 5);
        x.end(0, 6);
        x.close(0);
        c.refused(x, "closed day", x.join(0, 1, 0, 6, false), 3);
        c.refused(x, "first free day", x.join(0, 1, 0, 7, false), 9);
    }

    private static void leaving() {
        PartnersBook x = new PartnersBook();
        x.house(5);
        x.partner(0, 0);
        c.refused(x, "no house", x.leave(1, 0, 9, 1, 0), 1);
        c.refused(x, "no seat", x.leave(0, 6, 9, 1, 0), 1);
        c.refused(x, "nothing", x.leave(0, 0, 9, 0, 0), 4);
        x.join(0, 0, 0, 7, false);
        c.refused(x, "instalments 0", x.leave(0, 0, 0, 0, 0), 2);
        c.refused(x, "instalments 11", x.leave(0, 0, 9, 11, 0), 2);
        c.refused(x, "years -1", x.leave(0, 0, 9, 1, -1), 2);
        c.refused(x, "years 6", x.leave(0, 0, 9, 1, 6), 2);
        c.refused(x, "on BEGIN", x.leave(0, 0, 7, 1, 0), 3);
        c.refused(x, "behind 999", x.leave(0, 0, 1000, 1, 0), 3);
        c.is("instalments ahead", x.tenure(0, 0, 5), 0);
        c.is("end ahead", x.tenure(0, 0, 3), NONE);
        c.taken(x, "leave", x.leave(0, 0, 8, 10, 5), 0);
        c.is("instalments", x.tenure(0, 0, 5), 10);
        c.is("end", x.tenure(0, 0, 3), 8);
        c.refused(x, "twice", x.leave(0, 0, 9, 1, 0), 4);
        x.join(0, 1, 0, 5, false);
        x.rule(0, 5);
        Checks.emptyLeaves(x, 0, 5, 9);
        x.end(0, 9);
        x.close(0);
        c.refused(x, "closed day", x.leave(0, 1, 9, 1, 0), 3);
        c.taken(x, "first free day", x.leave(0, 1, 10, 1, 0), 1);
    }

    private static void dying() {
        PartnersBook x = new PartnersBook();
        x.house(0);
        x.partner(0, 0);
        x.partner(4, 9);
        c.refused(x, "no house", x.die(1, 0, 1, 1), 1);
        c.refused(x, "no seat", x.die(0, 6, 1, 1), 1);
        c.refused(x, "no partner", x.die(0, 0, 1, 2), 1);
        c.refused(x, "nothing", x.die(0, 0, 1, 0), 4);
        x.join(0, 0, 0, 3, true);
        c.refused(x, "no heir", x.die(0, 0, 1, 0), 2);
        c.refused(x, "on BEGIN", x.die(0, 0, 3, 1), 3);
        c.refused(x, "behind 999", x.die(0, 0, 1000, 1), 3);
        c.taken(x, "die", x.die(0, 0, 4, 1), 1);
        c.is("one instalment", x.tenure(0, 0, 5), 1);
        c.is("heir", x.tenure(0, 0, 6), 1);
        c.is("end", x.tenure(0, 0, 3), 4);
        c.is("heir's begin", x.tenure(0, 1, 2), 4);
        c.is("heir's seat", x.tenure(0, 1, 1), 0);
        c.is("heir's word", x.tenure(0, 1, 4), 0);
        c.is("holds the heir", x.holds(0, 0), 2);
        for (int n = 2; n < 24; n++) {
            c.taken(x, "die again", x.die(0, 0, n + 3, 1), n);
        }
        c.refused(x, "no room", x.die(0, 0, 50, 1), 9);
        c.refused(x, "no room, day", x.die(0, 0, 26, 1), 3);
        c.is("not ended by it", x.tenure(0, 23, 3), NONE);
    }

    private static void circles() {
        PartnersBook x = new PartnersBook();
        for (int n = 0; n < 8; n++) {
            x.house(0);
            x.partner(5, n);
        }
        c.refused(x, "itself, the first", x.join(0, 0, 0, 0, false), 8);
        c.is("the first", x.circle(0), 0);
        c.refused(x, "itself", x.join(3, 0, 3, 0, false), 8);
        c.is("circle(0)", x.circle(0), 3);
        c.is("circle(1)", x.circle(1), NONE);
        c.is("circle keeps the status", x.status(), 8);
        // 0 owns 2 and 3, each of them owns 1; 0 owns 4, 4 owns 5, 5 owns 1
        x.join(3, 0, 0, 0, false);
        c.is("an accepted join forgets", x.circle(0), NONE);
        x.join(2, 0, 0, 0, false);
        x.join(1, 0, 3, 0, false);
        x.join(1, 1, 2, 0, false);
        x.join(4, 0, 0, 0, false);
        x.join(5, 0, 4, 0, false);
        x.join(1, 2, 5, 0, false);
        c.refused(x, "through others", x.join(0, 0, 1, 0, false), 8);
        c.is("from the joined", x.circle(0), 0);
        c.is("the least of the fewest", x.circle(1), 2);
        c.is("to the joining", x.circle(2), 1);
        c.is("behind them", x.circle(3), NONE);
        c.is("circle(-1)", x.circle(-1), NONE);
        x.holds(0, 0);
        c.is("other calls keep it", x.circle(2), 1);
        c.refused(x, "two", x.join(4, 1, 5, 0, false), 8);
        c.is("two: 4", x.circle(0), 4);
        c.is("two: 5", x.circle(1), 5);
        c.is("two: behind", x.circle(2), NONE);
        c.refused(x, "refused for another reason", x.join(0, 0, 99, 0, false), 1);
        c.is("forgotten", x.circle(0), NONE);
        c.refused(x, "seat ahead of circle", x.join(3, 0, 3, 0, false), 4);
        // a part that was owned counts on
        x.leave(5, 0, 1, 1, 0);
        c.refused(x, "was owned", x.join(4, 1, 5, 0, false), 8);
        c.taken(x, "no circle", x.join(1, 3, 0, 0, false), 3);
        // circle comes ahead of no room
        x.house(0);
        for (int n = 0; n < 24; n++) {
            x.join(7, 0, 6, n, false);
            x.leave(7, 0, n + 1, 1, 0);
        }
        c.is("full", x.told(7, 4), 24);
        c.refused(x, "circle ahead of room", x.join(7, 0, 7, 50, false), 8);
        c.refused(x, "room", x.join(7, 0, 5, 50, false), 9);
    }

    private static void longCircle() {
        PartnersBook x = new PartnersBook();
        int[] order = {4, 7, 0, 2, 6, 1, 3, 5};
        for (int n = 0; n < 8; n++) {
            x.house(n);
            x.partner(5, n);
        }
        for (int i = 1; i < 8; i++) {
            c.taken(x, "owns the next", x.join(order[i], 0, order[i - 1], 10, false), 0);
        }
        c.refused(x, "all eight", x.join(order[0], 0, order[7], 10, false), 8);
        for (int i = 0; i < 8; i++) {
            c.is("step " + i, x.circle(i), order[i]);
        }
        c.is("behind", x.circle(8), NONE);
    }

    private static PartnersBook eightHouses() {
        PartnersBook x = new PartnersBook();
        for (int n = 0; n < 8; n++) {
            x.house(n);
            x.partner(5, n);
        }
        return x;
    }

    /** Each house of a row owns a part of the next one. */
    private static void own(PartnersBook x, int... row) {
        for (int i = 1; i < row.length; i++) {
            int seat = x.told(row[i], 4);
            c.taken(x, row[i - 1] + " owns of " + row[i], x.join(row[i], seat, row[i - 1], 10, false), seat);
        }
    }

    private static void isCircle(PartnersBook x, int... row) {
        int seat = x.told(row[0], 4);
        c.refused(x, "a circle", x.join(row[0], seat, row[row.length - 1], 10, false), 8);
        for (int i = 0; i <= row.length; i++) {
            c.is("circle, step " + i, x.circle(i), i < row.length ? row[i] : NONE);
        }
    }

    private static void circlesAmongOtherWays() {
        PartnersBook x = eightHouses();
        own(x, 7, 0);
        own(x, 7, 3, 6);
        own(x, 1, 6);
        own(x, 7, 2, 4, 6);
        own(x, 5, 7);
        isCircle(x, 7, 3, 6);
        isCircle(x, 5, 7);
        isCircle(x, 5, 7, 3, 6);
        isCircle(x, 2, 4, 6);
        c.taken(x, "no way back", x.join(0, 5, 6, 10, false), 1);
        isCircle(x, 3, 6, 0);
    }

    private static void leastNumbers() {
        PartnersBook x = eightHouses();
        own(x, 7, 3, 1, 6);
        own(x, 7, 2, 5, 6);
        own(x, 7, 4, 0, 6);
        isCircle(x, 7, 2, 5, 6);
        own(x, 2, 1);
        isCircle(x, 7, 2, 1, 6);
        own(x, 4, 6);
        isCircle(x, 7, 4, 6);
        own(x, 7, 6);
        isCircle(x, 7, 6);
    }
}
