/**
 * Term VIII: for each call its statuses, in the order in which they are told with it; a refused call changes nothing
 * but STATUS and where(), and circle() of a join().
 */
public final class RefusedTest {
    private static final int MIN = Integer.MIN_VALUE;
    private static final int MAX = Integer.MAX_VALUE;
    private static final int MOST = 1_000_000_000;
    private static final Checks c = new Checks("RefusedTest");
    private static final Twins busy = new Twins(c, RefusedTest::busyScene);

    public static void main(String[] args) {
        sceneStands();
        housesAndPartners();
        letters();
        joins();
        joinsOfFullHouses();
        leaves();
        deaths();
        rules();
        terms();
        leavesOfDays();
        entries();
        looseSums();
        moves();
        loans();
        ends();
        closes();
        mends();
        hiddenSums();
        debts();
        sheets();
        c.finish();
    }

    /**
     * House 0 (from 10, closed to 12, told to 16) with all kinds of partners; house 1 (from 0) owns a part of it;
     * house 2 (from 900) has a tenure, but no rule; house 3 (from 5) has nothing. The latest join() was a circle's.
     */
    private static void busyScene(PartnersBook x) {
        x.house(10);
        x.house(0);
        x.house(900);
        x.house(5);
        x.partner(0, 0);
        x.partner(1, 100);
        x.partner(2, 50);
        x.partner(3, 0);
        x.partner(4, 20);
        x.partner(5, 1);
        x.partner(5, 0);
        x.partner(5, 2);
        x.rule(0, 10);
        x.rule(1, 0);
        for (int seat = 0; seat < 6; seat++) {
            x.term(0, seat, 0, 2);
            x.term(0, seat, 2, 3 + seat);
            x.term(0, seat, 3, 7 - seat);
            x.term(1, seat, 2, 1);
            x.term(1, seat, 3, 1);
        }
        x.term(0, 0, 4, 50);
        x.term(0, 1, 1, 30);
        x.join(0, 0, 0, 10, false);
        x.join(0, 1, 1, 11, true);
        x.join(0, 2, 2, 10, false);
        x.leave(0, 2, 12, 3, 2);
        x.join(0, 3, 3, 10, false);
        x.die(0, 3, 15, 4);
        x.letter(0, 4, 77);
        x.join(0, 5, 5, 10, false);
        x.join(1, 0, 0, 0, false);
        x.join(2, 5, 0, 900, false);
        x.leaf(0, 10, 0, 2);
        x.earn(0, 10, 900);
        x.spend(0, 10, 13);
        Checks.emptyLeaves(x, 0, 11, 12);
        x.end(0, 12);
        x.close(0);
        x.end(0, 16);
        x.end(1, 16);
        for (int t = 0; t < 7; t++) {
            x.sheet(t, x.account(0, t, 6));
        }
        x.rule(0, 14);
        x.term(0, 1, 2, 9);
        x.leaf(0, 13, 0, 2);
        x.leaf(0, 14, 0, 1);
        x.leaf(1, 0, 1, 1);
        x.earn(0, 13, 40);
        x.move(0, 0, 13, 5_000, false);
        x.earn(0, 14, 41);
        x.move(0, 1, 15, 60, true);
        x.loose(0, 7);
        x.lend(0, 0, 15, false);
        x.mend(0, 11, -30);
        x.mend(0, 10, 31);
        x.hidden(0, 11, 100);
        x.bear(0, 11, 1_000);
        x.join(1, 1, 6, 3, false);
    }

    /** Were one of its calls refused, the scene would hold less than the cases think. */
    private static void sceneStands() {
        PartnersBook x = new PartnersBook();
        busyScene(x);
        c.refused(x, "the latest join", PartnersBook.NONE, 8);
        c.is("circle(0)", x.circle(0), 1);
        c.is("circle(1)", x.circle(1), 0);
        int[] facts = {10, 12, 2, 1, 6, 2, 2, 2, 3, 13};
        for (int what = 0; what < facts.length; what++) {
            c.is("told " + what, x.told(0, what), facts[what]);
        }
        int[] held = {2, 2, 3, 2, 1, 2};
        for (int seat = 0; seat < 6; seat++) {
            c.is("seat " + seat, x.holds(0, seat), held[seat]);
        }
        c.is("tenures of 1", x.told(1, 4), 1);
        c.is("tenures of 2", x.told(2, 4), 1);
        c.is("rules of 2", x.told(2, 5), 0);
        c.is("loose", x.sum(0, 0, 0), 7);
        c.is("lent", x.account(0, 0, 3), 15);
        c.is("hidden", x.account(0, 1, 1) > 0 ? 1 : 0, 1);
        c.is("borne", x.borne(0) > 0 ? 1 : 0, 1);
        c.is("the sheet is alike but for nobody", x.check(0), -2);
        c.is("income of 1", x.sum(1, 2, 12) > 0 ? 1 : 0, 1);
    }

    private static void housesAndPartners() {
        for (int day : new int[] {-1, 901, MIN, MAX}) {
            busy.refuse("house", 2, x -> x.house(day));
        }
        for (int kind : new int[] {-1, 6, MIN, MAX}) {
            busy.refuse("partner, kind", 2, x -> x.partner(kind, 0));
        }
        for (int kind : new int[] {1, 2, 4}) {
            for (int limit : new int[] {-1, MOST + 1, MIN, MAX}) {
                busy.refuse("partner, LIMIT", 2, x -> x.partner(kind, limit));
            }
        }
        for (int house : new int[] {-1, 4, MIN, MAX}) {
            busy.refuse("partner, HOUSE", 1, x -> x.partner(5, house));
        }
        Twins full = new Twins(c, x -> {
            busyScene(x);
            for (int n = 4; n < 8; n++) {
                x.house(n);
            }
            for (int n = 8; n < 40; n++) {
                x.partner(n % 5, n);
            }
        });
        full.refuse("house, 9th", 9, x -> x.house(0));
        full.refuse("house, 2 ahead of 9", 2, x -> x.house(901));
        for (int kind = 0; kind < 6; kind++) {
            int k = kind;
            full.refuse("partner, 41st", 9, x -> x.partner(k, 0));
        }
        full.refuse("partner, kind ahead of 9", 2, x -> x.partner(6, 0));
        full.refuse("partner, LIMIT ahead of 9", 2, x -> x.partner(1, -1));
        full.refuse("partner, HOUSE ahead of 9", 1, x -> x.partner(5, 8));
    }

    private static void letters() {
        for (int no : new int[] {-1, 4, MIN, MAX}) {
            busy.refuse("letter, HOUSE", 1, x -> x.letter(no, 4, 5));
            busy.refuse("unseal, HOUSE", 1, x -> x.unseal(no, 4));
            busy.refuse("holds, HOUSE", 1, x -> x.holds(no, 4));
        }
        for (int no : new int[] {-1, 6, MIN, MAX}) {
            busy.refuse("letter, SEAT", 1, x -> x.letter(0, no, 5));
            busy.refuse("unseal, SEAT", 1, x -> x.unseal(0, no));
            busy.refuse("holds, SEAT", 1, x -> x.holds(0, no));
        }
        for (int letter : new int[] {-1, 0, 1_000_001, MIN, MAX}) {
            busy.refuse("letter, number", 2, x -> x.letter(3, 0, letter));
            busy.refuse("letter, 1 ahead of 2, HOUSE", 1, x -> x.letter(4, 0, letter));
            busy.refuse("letter, 1 ahead of 2, SEAT", 1, x -> x.letter(3, 6, letter));
            busy.refuse("letter, 2 ahead of 4, LETTER", 2, x -> x.letter(0, 4, letter));
            busy.refuse("letter, 2 ahead of 4, TENURE", 2, x -> x.letter(0, 0, letter));
        }
        busy.refuse("letter on a LETTER", 4, x -> x.letter(0, 4, 5));
        busy.refuse("letter on a TENURE", 4, x -> x.letter(0, 0, 5));
        busy.refuse("letter on an heir's TENURE", 4, x -> x.letter(0, 3, 5));
        busy.refuse("unseal nothing", 4, x -> x.unseal(3, 0));
        busy.refuse("unseal a TENURE", 4, x -> x.unseal(0, 0));
        busy.refuse("unseal a TENURE that has ENDED", 4, x -> x.unseal(0, 2));
    }

    private static void joins() {
        for (int no : new int[] {-1, 4, MIN, MAX}) {
            busy.refuseJoin("join, HOUSE", 1, x -> x.join(no, 0, 0, 10, false));
        }
        for (int no : new int[] {-1, 6, MIN, MAX}) {
            busy.refuseJoin("join, SEAT", 1, x -> x.join(3, no, 0, 10, false));
        }
        for (int no : new int[] {-1, 8, MIN, MAX}) {
            busy.refuseJoin("join, PARTNER", 1, x -> x.join(3, 0, no, 10, false));
            busy.refuseJoin("join, 1 ahead of 3", 1, x -> x.join(3, 0, no, 4, false));
            busy.refuseJoin("join, 1 ahead of 4", 1, x -> x.join(0, 4, no, 20, false));
        }
        for (int day : new int[] {12, 10, 9, -1, 1000, MIN, MAX}) {
            busy.refuseJoin("join, day", 3, x -> x.join(0, 2, 0, day, false));
            busy.refuseJoin("join, 3 ahead of 4, LETTER", 3, x -> x.join(0, 4, 0, day, true));
            busy.refuseJoin("join, 3 ahead of 4, TENURE", 3, x -> x.join(0, 0, 0, day, true));
            busy.refuseJoin("join, 3 ahead of 8", 3, x -> x.join(0, 2, 6, day, true));
        }
        busy.refuseJoin("join, day ahead of FIRST", 3, x -> x.join(3, 0, 0, 4, false));
        busy.refuseJoin("join, LETTER", 4, x -> x.join(0, 4, 0, 13, false));
        busy.refuseJoin("join, TENURE", 4, x -> x.join(0, 0, 0, 999, false));
        busy.refuseJoin("join ahead of a TENURE", 4, x -> x.join(0, 3, 0, 13, false));
        busy.refuseJoin("join, 4 ahead of 8, LETTER", 4, x -> x.join(0, 4, 6, 13, false));
        busy.refuseJoin("join, 4 ahead of 8, TENURE", 4, x -> x.join(0, 0, 6, 13, false));
        busy.refuseJoin("join, itself", 8, x -> x.join(2, 0, 7, 999, false));
        busy.refuseJoin("join, through another", 8, x -> x.join(1, 5, 6, 999, true));
        Twins ended = new Twins(c, x -> {
            busyScene(x);
            x.leave(0, 0, 20, 1, 0);
        });
        ended.refuseJoin("join, a TENURE ENDED behind the day", 4, x -> x.join(0, 0, 0, 19, false));
        Twins unsealed = new Twins(c, x -> {
            busyScene(x);
            x.leave(0, 0, 20, 1, 0);
            x.letter(0, 0, 3);
            x.unseal(0, 0);
        });
        unsealed.refuseJoin("join, the SEAT holds nothing, but a TENURE was given to it", 4,
            x -> x.join(0, 0, 0, 19, false));
    }

    private static void fillTenures(PartnersBook x) {
        for (int day = 17; x.told(0, 4) < 23; day++) {
            x.join(0, 2, 0, day, false);
            x.leave(0, 2, day + 1, 1, 0);
        }
        x.join(0, 2, 0, 50, false);
        x.join(1, 1, 6, 3, false);
    }

    private static void joinsOfFullHouses() {
        Twins full = new Twins(c, x -> {
            busyScene(x);
            fillTenures(x);
            x.leave(0, 2, 51, 1, 0);
        });
        full.refuseJoin("join, 25th TENURE", 9, x -> x.join(0, 2, 0, 51, false));
        full.refuseJoin("join, 25th TENURE, of a HOUSE", 9, x -> x.join(0, 2, 5, 51, false));
        full.refuseJoin("join, 3 ahead of 9", 3, x -> x.join(0, 2, 0, 12, false));
        full.refuseJoin("join, 4 ahead of 9", 4, x -> x.join(0, 2, 0, 50, false));
        full.refuseJoin("join, 8 ahead of 9", 8, x -> x.join(0, 2, 6, 51, false));
        full.refuseJoin("join, 1 ahead of 9", 1, x -> x.join(0, 2, 8, 51, false));
    }

    private static void leaves() {
        for (int no : new int[] {-1, 4, MIN, MAX}) {
            busy.refuse("leave, HOUSE", 1, x -> x.leave(no, 0, 13, 1, 0));
        }
        for (int no : new int[] {-1, 6, MIN, MAX}) {
            busy.refuse("leave, SEAT", 1, x -> x.leave(0, no, 13, 1, 0));
            busy.refuse("leave, 1 ahead of 2 and 3", 1, x -> x.leave(0, no, 12, 0, 6));
        }
        int[] seats = {2, 4};
        for (int seat : seats) {
            busy.refuse("leave, no TENURE that hasn't ENDED", 4, x -> x.leave(0, seat, 13, 1, 0));
            busy.refuse("leave, 4 ahead of 2", 4, x -> x.leave(0, seat, 13, 0, 0));
            busy.refuse("leave, 4 ahead of 3", 4, x -> x.leave(0, seat, 12, 1, 0));
        }
        busy.refuse("leave, nothing", 4, x -> x.leave(3, 0, 13, 1, 0));
        for (int n : new int[] {-1, 0, 11, MIN, MAX}) {
            busy.refuse("leave, instalments", 2, x -> x.leave(0, 0, 13, n, 0));
            busy.refuse("leave, instalments ahead of 3", 2, x -> x.leave(0, 0, 12, n, 0));
        }
        for (int years : new int[] {-1, 6, MIN, MAX}) {
            busy.refuse("leave, years", 2, x -> x.leave(0, 0, 13, 1, years));
            busy.refuse("leave, years ahead of 3", 2, x -> x.leave(0, 0, 1000, 1, years));
        }
        for (int day : new int[] {12, 11, -1, 1000, MIN, MAX}) {
            busy.refuse("leave, day", 3, x -> x.leave(0, 0, day, 1, 0));
        }
        busy.refuse("leave on BEGIN", 3, x -> x.leave(0, 3, 15, 1, 0));
        busy.refuse("leave ahead of BEGIN", 3, x -> x.leave(0, 3, 14, 1, 0));
    }

    private static void deaths() {
        for (int no : new int[] {-1, 4, MIN, MAX}) {
            busy.refuse("die, HOUSE", 1, x -> x.die(no, 0, 13, 4));
        }
        for (int no : new int[] {-1, 6, MIN, MAX}) {
            busy.refuse("die, SEAT", 1, x -> x.die(0, no, 13, 4));
        }
        for (int no : new int[] {-1, 8, MIN, MAX}) {
            busy.refuse("die, PARTNER", 1, x -> x.die(0, 0, 13, no));
            busy.refuse("die, 1 ahead of 4", 1, x -> x.die(0, 2, 13, no));
            busy.refuse("die, 1 ahead of 3", 1, x -> x.die(0, 0, 12, no));
        }
        for (int seat : new int[] {2, 4}) {
            busy.refuse("die, no TENURE that hasn't ENDED", 4, x -> x.die(0, seat, 13, 4));
            busy.refuse("die, 4 ahead of 2", 4, x -> x.die(0, seat, 13, 0));
            busy.refuse("die, 4 ahead of 3", 4, x -> x.die(0, seat, 12, 4));
        }
        busy.refuse("die, nothing", 4, x -> x.die(3, 0, 13, 4));
        for (int p : new int[] {0, 1, 2, 3, 5, 6, 7}) {
            busy.refuse("die, no HEIR", 2, x -> x.die(0, 0, 13, p));
            busy.refuse("die, 2 ahead of 3", 2, x -> x.die(0, 0, 12, p));
        }
        for (int day : new int[] {12, 11, -1, 1000, MIN, MAX}) {
            busy.refuse("die, day", 3, x -> x.die(0, 0, day, 4));
        }
        busy.refuse("die on BEGIN", 3, x -> x.die(0, 3, 15, 4));
        busy.refuse("die ahead of BEGIN", 3, x -> x.die(0, 3, 14, 4));
        Twins full = new Twins(c, x -> {
            busyScene(x);
            fillTenures(x);
        });
        full.refuse("die, no room", 9, x -> x.die(0, 2, 51, 4));
        full.refuse("die, 3 ahead of 9", 3, x -> x.die(0, 2, 50, 4));
        full.refuse("die, 2 ahead of 9", 2, x -> x.die(0, 2, 51, 0));
        full.refuse("die, 4 ahead of 9", 4, x -> x.die(0, 4, 51, 4));
        full.refuse("die, 1 ahead of 9", 1, x -> x.die(0, 2, 51, 8));
    }

    private static void rules() {
        for (int no : new int[] {-1, 4, MIN, MAX}) {
            busy.refuse("rule, HOUSE", 1, x -> x.rule(no, 15));
        }
        for (int day : new int[] {14, 13, 12, 10, -1, 1000, MIN, MAX}) {
            busy.refuse("rule, day", 3, x -> x.rule(0, day));
        }
        for (int day : new int[] {4, 6, -1, 1000, MIN, MAX}) {
            busy.refuse("rule, the first one", 3, x -> x.rule(3, day));
        }
        Twins full = new Twins(c, x -> {
            busyScene(x);
            for (int n = 3; n <= 16; n++) {
                x.rule(0, 12 + n);
            }
        });
        full.refuse("rule, 17th", 9, x -> x.rule(0, 29));
        full.refuse("rule, 3 ahead of 9", 3, x -> x.rule(0, 28));
        full.refuse("rule, 3 ahead of 9, behind 999", 3, x -> x.rule(0, 1000));
    }

    private static void terms() {
        for (int no : new int[] {-1, 4, MIN, MAX}) {
            for (int what = 0; what < 5; what++) {
                int w = what;
                busy.refuse("term, HOUSE", 1, x -> x.term(no, 0, w, 5));
            }
        }
        for (int no : new int[] {-1, 6, MIN, MAX}) {
            for (int what = 0; what < 4; what++) {
                int w = what;
                busy.refuse("term, SEAT", 1, x -> x.term(0, no, w, 5));
                busy.refuse("term, SEAT ahead of 2", 1, x -> x.term(0, no, w, -1));
            }
        }
        for (int what = 0; what < 5; what++) {
            int w = what;
            busy.refuse("term, no RULE", 1, x -> x.term(3, 0, w, 5));
            busy.refuse("term, no RULE ahead of 2", 1, x -> x.term(3, 0, w, -1));
        }
        for (int what : new int[] {-1, 5, MIN, MAX}) {
            busy.refuse("term, what", 2, x -> x.term(0, 0, what, 0));
        }
        int[] most = {1_000_000, MOST, 1_000, 1_000, 500};
        Twins closed = new Twins(c, x -> {
            busyScene(x);
            Checks.emptyLeaves(x, 0, 13, 16);
            x.close(0);
        });
        for (int what = 0; what < 5; what++) {
            int w = what;
            for (int v : new int[] {-1, most[what] + 1, MIN, MAX}) {
                busy.refuse("term, number", 2, x -> x.term(0, 0, w, v));
                closed.refuse("term, 2 ahead of 3", 2, x -> x.term(0, 0, w, v));
            }
            closed.refuse("term, the RULE's day is CLOSED", 3, x -> x.term(0, 0, w, 5));
        }
        closed.refuse("term, what ahead of 3", 2, x -> x.term(0, 0, 5, 5));
        closed.refuse("term, SEAT ahead of 3", 1, x -> x.term(0, 6, 0, 5));
    }

    private static void leavesOfDays() {
        for (int no : new int[] {-1, 4, MIN, MAX}) {
            busy.refuse("leaf, HOUSE", 1, x -> x.leaf(no, 13, 0, 0));
            busy.refuse("leaf, 1 ahead of 2", 1, x -> x.leaf(no, 13, 3, 7));
            busy.refuse("tear, HOUSE", 1, x -> x.tear(no, 13));
            busy.refuse("undo, HOUSE", 1, x -> x.undo(no));
        }
        for (int sort : new int[] {-1, 3, MIN, MAX}) {
            busy.refuse("leaf, SORT", 2, x -> x.leaf(0, 13, sort, 0));
            busy.refuse("leaf, SORT ahead of 3", 2, x -> x.leaf(0, 12, sort, 0));
        }
        for (int n : new int[] {-1, 7, MIN, MAX}) {
            busy.refuse("leaf, places", 2, x -> x.leaf(0, 13, 0, n));
            busy.refuse("leaf, places ahead of 3", 2, x -> x.leaf(0, 1000, 0, n));
        }
        for (int day : new int[] {12, 10, 9, -1, 1000, MIN, MAX}) {
            busy.refuse("leaf, day", 3, x -> x.leaf(0, day, 0, 0));
            busy.refuse("tear, day", 3, x -> x.tear(0, day));
        }
        busy.refuse("tear, no LEAF", 10, x -> x.tear(0, 15));
        busy.refuse("tear, no LEAF of 999", 10, x -> x.tear(0, 999));
    }

    private static long enter(PartnersBook x, boolean earned, int house, int day, int sum) {
        return earned ? x.earn(house, day, sum) : x.spend(house, day, sum);
    }

    private static void entries() {
        for (boolean earned : new boolean[] {true, false}) {
            for (int no : new int[] {-1, 4, MIN, MAX}) {
                busy.refuse("entry, HOUSE", 1, x -> enter(x, earned, no, 13, 1));
                busy.refuse("entry, 1 ahead of 2", 1, x -> enter(x, earned, no, 13, 0));
            }
            for (int sum : new int[] {0, -1, MOST + 1, MIN, MAX}) {
                busy.refuse("entry, SUM", 2, x -> enter(x, earned, 0, 13, sum));
                busy.refuse("entry, SUM ahead of 3", 2, x -> enter(x, earned, 0, 12, sum));
                busy.refuse("entry, SUM ahead of 10, no LEAF", 2, x -> enter(x, earned, 0, 15, sum));
                busy.refuse("entry, SUM ahead of 10, no place", 2, x -> enter(x, earned, 0, 14, sum));
            }
            for (int day : new int[] {12, 10, 9, -1, 1000, MIN, MAX}) {
                busy.refuse("entry, day", 3, x -> enter(x, earned, 0, day, 1));
                busy.refuse("entry, day ahead of the SORT", 3, x -> enter(x, earned, 0, day, 32_769));
            }
            busy.refuse("entry, no LEAF", 10, x -> enter(x, earned, 0, 15, 1));
            busy.refuse("entry, no LEAF ahead of FIRST's", 10, x -> enter(x, earned, 3, 5, 1));
            busy.refuse("entry, no place", 10, x -> enter(x, earned, 0, 14, 1));
            busy.refuse("entry, no place ahead of the SORT", 10, x -> enter(x, earned, 0, 14, 32_769));
            busy.refuse("entry, the SORT", 2, x -> enter(x, earned, 0, 13, earned ? 32_768 : 32_769));
            busy.refuse("entry, the SORT, greatest", 2, x -> enter(x, earned, 0, 13, MOST));
            Twins noPlaces = new Twins(c, x -> {
                busyScene(x);
                x.leaf(0, 15, 0, 0);
            });
            noPlaces.refuse("entry, a LEAF of none", 10, x -> enter(x, earned, 0, 15, 1));
        }
    }

    private static void looseSums() {
        for (int no : new int[] {-1, 4, MIN, MAX}) {
            busy.refuse("loose, HOUSE", 1, x -> x.loose(no, 1));
            busy.refuse("loose, 1 ahead of 2", 1, x -> x.loose(no, MAX));
        }
        for (int v : new int[] {-MOST - 1, MOST + 1, MIN, MAX}) {
            busy.refuse("loose, number", 2, x -> x.loose(0, v));
        }
        // 1,000 calls are needed to come to the bound, so these runs are longer than any that is promised
        for (int sign : new int[] {1, -1}) {
            Twins full = new Twins(c, x -> {
                busyScene(x);
                x.loose(0, -7);
                for (int i = 0; i < 1_000; i++) {
                    x.loose(0, sign * MOST);
                }
            });
            full.refuse("loose, beyond the bound", 9, x -> x.loose(0, sign));
            full.refuse("loose, far beyond the bound", 9, x -> x.loose(0, sign * MOST));
            full.refuse("loose, 2 ahead of 9", 2, x -> x.loose(0, sign * (MOST + 1)));
        }
    }

    private static void moves() {
        for (int no : new int[] {-1, 4, MIN, MAX}) {
            busy.refuse("move, HOUSE", 1, x -> x.move(no, 0, 13, 1, false));
        }
        for (int no : new int[] {-1, 6, 24, MIN, MAX}) {
            busy.refuse("move, TENURE", 1, x -> x.move(0, no, 13, 1, true));
            busy.refuse("move, 1 ahead of 2", 1, x -> x.move(0, no, 13, 0, true));
            busy.refuse("move, 1 ahead of 3", 1, x -> x.move(0, no, 12, 1, true));
        }
        for (int sum : new int[] {0, -1, MOST + 1, MIN, MAX}) {
            busy.refuse("move, SUM", 2, x -> x.move(0, 0, 13, sum, false));
            busy.refuse("move, 2 ahead of 3", 2, x -> x.move(0, 0, 12, sum, true));
        }
        for (int day : new int[] {12, 10, 9, -1, 1000, MIN, MAX}) {
            busy.refuse("move, day", 3, x -> x.move(0, 0, day, 1, false));
        }
        busy.refuse("move ahead of BEGIN", 3, x -> x.move(0, 4, 14, 1, false));
        busy.refuse("move on the END", 3, x -> x.move(0, 3, 15, 1, true));
        busy.refuse("move of one who left", 3, x -> x.move(0, 2, 13, 1, true));
        Twins full = new Twins(c, x -> {
            busyScene(x);
            for (int n = 3; n <= 120; n++) {
                x.move(0, 0, 13 + n % 5, n, n % 3 == 0);
            }
        });
        full.refuse("move, 121st", 9, x -> x.move(0, 0, 13, 1, false));
        full.refuse("move, 3 ahead of 9", 3, x -> x.move(0, 0, 12, 1, false));
        full.refuse("move, not IN ahead of 9", 3, x -> x.move(0, 3, 15, 1, false));
        full.refuse("move, 2 ahead of 9", 2, x -> x.move(0, 0, 13, 0, false));
        full.refuse("move, 1 ahead of 9", 1, x -> x.move(0, 6, 13, 1, false));
    }

    private static void loans() {
        for (boolean back : new boolean[] {false, true}) {
            for (int no : new int[] {-1, 4, MIN, MAX}) {
                busy.refuse("lend, HOUSE", 1, x -> x.lend(no, 0, 1, back));
            }
            for (int no : new int[] {-1, 6, 24, MIN, MAX}) {
                busy.refuse("lend, TENURE", 1, x -> x.lend(0, no, 1, back));
                busy.refuse("lend, 1 ahead of 2", 1, x -> x.lend(0, no, 0, back));
            }
            for (int sum : new int[] {0, -1, MOST + 1, MIN, MAX}) {
                busy.refuse("lend, SUM", 2, x -> x.lend(0, 0, sum, back));
            }
        }
        busy.refuse("lend, more given back than is LENT", 2, x -> x.lend(0, 0, 16, true));
        busy.refuse("lend, given back by one who lent none", 2, x -> x.lend(0, 1, 1, true));
        busy.refuse("lend, LENT would be too much", 9, x -> x.lend(0, 0, MOST - 14, false));
        busy.refuse("lend, LENT would be far too much", 9, x -> x.lend(0, 0, MOST, false));
    }

    private static void ends() {
        for (int no : new int[] {-1, 4, MIN, MAX}) {
            busy.refuse("end, HOUSE", 1, x -> x.end(no, 17));
            busy.refuse("end, 1 ahead of 3", 1, x -> x.end(no, -1));
        }
        for (int day : new int[] {16, 12, 0, -1, 117, 999, 1000, MIN, MAX}) {
            busy.refuse("end, day", 3, x -> x.end(0, day));
        }
        for (int day : new int[] {4, -1, 105, 1000}) {
            busy.refuse("end, the first one", 3, x -> x.end(3, day));
        }
        Twins full = new Twins(c, x -> {
            busyScene(x);
            for (int n = 3; n <= 12; n++) {
                x.end(0, 14 + n);
            }
        });
        full.refuse("end, 13th", 9, x -> x.end(0, 27));
        full.refuse("end, 13th of 100 days", 9, x -> x.end(0, 126));
        full.refuse("end, 3 ahead of 9, ahead", 3, x -> x.end(0, 26));
        full.refuse("end, 3 ahead of 9, behind", 3, x -> x.end(0, 127));
        Twins last = new Twins(c, x -> {
            busyScene(x);
            x.end(2, 999);
        });
        for (int day : new int[] {999, 1000, 0}) {
            last.refuse("end behind 999", 3, x -> x.end(2, day));
        }
    }

    private static void closes() {
        for (int no : new int[] {-1, 4, MIN, MAX}) {
            busy.refuse("close, HOUSE", 1, x -> x.close(no));
        }
        busy.refuse("close, 6 ahead of 1 (no RULE)", 6, x -> x.close(2));
        busy.refuse("close, 6 of a house that has nothing", 6, x -> x.close(3));
        busy.refuseAt("close, a place lacks its ENTRY", 5, 13, x -> x.close(0));
        busy.refuseAt("close, 5 ahead of 7", 5, 0, x -> x.close(1));
        Twins noRule = new Twins(c, x -> {
            busyScene(x);
            x.end(2, 900);
            x.end(3, 7);
        });
        noRule.refuse("close, no RULE ahead of 5", 1, x -> x.close(2));
        noRule.refuse("close, no RULE", 1, x -> x.close(3));
        Twins open = new Twins(c, x -> {
            busyScene(x);
            x.earn(0, 13, 1);
            x.leaf(0, 15, 0, 0);
        });
        open.refuseAt("close, a day lacks its LEAF", 5, 16, x -> x.close(0));
        Twins behind = new Twins(c, x -> {
            busyScene(x);
            Checks.emptyLeaves(x, 1, 0, 16);
        });
        behind.refuseAt("close, a HOUSE isn't CLOSED so far", 7, 0, x -> x.close(1));
        Twins closed = new Twins(c, x -> {
            busyScene(x);
            Checks.emptyLeaves(x, 0, 13, 17);
            x.close(0);
        });
        closed.refuse("close, no more END", 6, x -> x.close(0));
        Twins noEnd = new Twins(c, x -> {
            busyScene(x);
            x.unseal(0, 4);
            x.house(0);
            x.join(0, 4, x.partner(5, 4), 13, false);
        });
        noEnd.refuse("close, 6 ahead of 7", 6, x -> x.close(4));
        Twins ruleFirst = new Twins(c, x -> {
            busyScene(x);
            x.unseal(0, 4);
            x.house(10);
            x.join(0, 4, x.partner(5, 4), 13, false);
            x.end(4, 13);
            Checks.emptyLeaves(x, 4, 10, 13);
        });
        ruleFirst.refuse("close, no RULE ahead of 7", 1, x -> x.close(4));
    }

    private static void mends() {
        for (int no : new int[] {-1, 4, MIN, MAX}) {
            busy.refuse("mend, HOUSE", 1, x -> x.mend(no, 10, 1));
            busy.refuse("mend, 1 ahead of 2", 1, x -> x.mend(no, 10, 0));
        }
        for (int sum : new int[] {0, MOST + 1, -MOST - 1, MIN, MAX}) {
            busy.refuse("mend, SUM", 2, x -> x.mend(0, 10, sum));
            busy.refuse("mend, 2 ahead of 3", 2, x -> x.mend(0, 13, sum));
        }
        for (int day : new int[] {13, 9, -1, 999, 1000, MIN, MAX}) {
            busy.refuse("mend, day", 3, x -> x.mend(0, day, 1));
        }
        busy.refuse("mend, nothing is CLOSED", 3, x -> x.mend(3, 5, 1));
        busy.refuse("mend, nothing is CLOSED, the day ahead", 3, x -> x.mend(3, 4, 1));
        busy.refuse("mend, TO is ahead of day 0", 3, x -> x.mend(1, -1, 1));
        Twins full = new Twins(c, x -> {
            busyScene(x);
            for (int n = 3; n <= 20; n++) {
                x.mend(0, 10 + n % 3, n);
            }
        });
        full.refuse("mend, 21st", 9, x -> x.mend(0, 10, 1));
        full.refuse("mend, 3 ahead of 9", 3, x -> x.mend(0, 13, 1));
        full.refuse("mend, 2 ahead of 9", 2, x -> x.mend(0, 10, 0));
        full.refuse("mend, 1 ahead of 9", 1, x -> x.mend(4, 10, 1));
    }

    private static void hiddenSums() {
        for (int no : new int[] {-1, 4, MIN, MAX}) {
            busy.refuse("hidden, HOUSE", 1, x -> x.hidden(no, 10, 1));
        }
        for (int sum : new int[] {0, -1, MOST + 1, MIN, MAX}) {
            busy.refuse("hidden, SUM", 2, x -> x.hidden(0, 10, sum));
            busy.refuse("hidden, 1 ahead of 2", 1, x -> x.hidden(4, 10, sum));
            busy.refuse("hidden, no RULE ahead of 2", 1, x -> x.hidden(2, 900, sum));
            busy.refuse("hidden, 2 ahead of 3", 2, x -> x.hidden(0, 9, sum));
        }
        for (int day : new int[] {9, 0, -1, 1000, MIN, MAX}) {
            busy.refuse("hidden, day", 3, x -> x.hidden(0, day, 1));
            busy.refuse("hidden, no RULE ahead of 3", 1, x -> x.hidden(2, day, 1));
        }
        busy.refuse("hidden, no RULE", 1, x -> x.hidden(2, 900, 1));
    }

    private static void debts() {
        for (int no : new int[] {-1, 4, MIN, MAX}) {
            busy.refuse("bear, HOUSE", 1, x -> x.bear(no, 10, 1));
        }
        for (int sum : new int[] {0, -1, MOST + 1, MIN, MAX}) {
            busy.refuse("bear, SUM", 2, x -> x.bear(0, 10, sum));
            busy.refuse("bear, 1 ahead of 2", 1, x -> x.bear(4, 10, sum));
            busy.refuse("bear, no RULE ahead of 2", 1, x -> x.bear(2, 900, sum));
            busy.refuse("bear, 2 ahead of 3", 2, x -> x.bear(0, 9, sum));
        }
        for (int day : new int[] {9, 0, -1, 1000, MIN, MAX}) {
            busy.refuse("bear, day", 3, x -> x.bear(0, day, 1));
            busy.refuse("bear, no RULE ahead of 3", 1, x -> x.bear(2, day, 1));
        }
        busy.refuse("bear, no RULE", 1, x -> x.bear(2, 900, 1));
    }

    private static void sheets() {
        for (int t : new int[] {-1, 25, MIN, MAX}) {
            busy.refuse("sheet", 2, x -> x.sheet(t, 5));
        }
        for (int no : new int[] {-1, 4, MIN, MAX}) {
            busy.refuse("check, HOUSE", 1, x -> x.check(no));
        }
        busy.refuse("check ahead of any close", 1, x -> x.check(1));
        busy.refuse("check of a house that has nothing", 1, x -> x.check(3));
    }
}
