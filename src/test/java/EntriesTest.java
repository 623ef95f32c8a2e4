/** Promises 13 to 20: entries. */
public final class EntriesTest {
    private static final Checks c = new Checks("EntriesTest");

    public static void main(String[] args) {
        leaves();
        entries();
        looseSums();
        moves();
        lending();
        undoing();
        undoDepth();
        undoOfBothSorts();
        c.finish();
    }

    private static PartnersBook bookWithPartner() {
        PartnersBook x = new PartnersBook();
        x.house(2);
        x.partner(0, 0);
        x.rule(0, 2);
        return x;
    }

    private static void leaves() {
        PartnersBook x = bookWithPartner();
        c.refused(x, "leaf, no house", x.leaf(1, 2, 0, 0), 1);
        c.refused(x, "leaf, sort 3", x.leaf(0, 2, 3, 0), 2);
        c.refused(x, "leaf, sort -1", x.leaf(0, 1, -1, 0), 2);
        c.refused(x, "leaf, n -1", x.leaf(0, 2, 0, -1), 2);
        c.refused(x, "leaf, n 7", x.leaf(0, 2, 0, 7), 2);
        c.refused(x, "leaf ahead of FIRST", x.leaf(0, 1, 0, 0), 3);
        c.refused(x, "leaf behind 999", x.leaf(0, 1000, 0, 0), 3);
        c.is("first open day", x.told(0, 9), 2);
        c.taken(x, "leaf of none", x.leaf(0, 2, 0, 0), 0);
        c.is("not open without places", x.told(0, 9), 3);
        c.taken(x, "leaf of six", x.leaf(0, 3, 2, 6), 6);
        for (int i = 1; i <= 6; i++) {
            c.is("open", x.told(0, 9), 3);
            c.taken(x, "earn", x.earn(0, 3, i), i);
        }
        c.is("not open when full", x.told(0, 9), 4);
        c.refused(x, "no place", x.earn(0, 3, 7), 10);
        c.is("sum of entries", x.sum(0, 1, 3), 21);
        c.taken(x, "a leaf in its place", x.leaf(0, 3, 0, 1), 1);
        c.is("its entries are gone", x.sum(0, 1, 3), 0);
        c.is("entry is gone", x.entry(0, 3, 0), 0);
        c.is("open again", x.told(0, 9), 3);
        x.earn(0, 3, 5);
        c.refused(x, "tear, no house", x.tear(1, 3), 1);
        c.refused(x, "tear ahead of FIRST", x.tear(0, 1), 3);
        c.refused(x, "tear behind 999", x.tear(0, 1000), 3);
        c.refused(x, "tear none", x.tear(0, 4), 10);
        c.taken(x, "tear", x.tear(0, 3), 1);
        c.taken(x, "tear an empty one", x.tear(0, 2), 0);
        c.refused(x, "tear twice", x.tear(0, 2), 10);
        x.leaf(0, 2, 0, 0);
        x.end(0, 2);
        x.close(0);
        c.refused(x, "leaf, closed", x.leaf(0, 2, 0, 0), 3);
        c.refused(x, "tear, closed", x.tear(0, 2), 3);
    }

    private static void entries() {
        PartnersBook x = bookWithPartner();
        c.refused(x, "earn, no house", x.earn(1, 2, 0), 1);
        c.refused(x, "earn 0", x.earn(0, 1, 0), 2);
        c.refused(x, "earn too much", x.earn(0, 2, 1_000_000_001), 2);
        c.refused(x, "earn ahead of FIRST", x.earn(0, 1, 1), 3);
        c.refused(x, "earn behind 999", x.earn(0, 1000, 1), 3);
        c.refused(x, "earn without leaf", x.earn(0, 2, 1), 10);
        c.refused(x, "spend, no house", x.spend(-1, 2, 0), 1);
        c.refused(x, "spend -1", x.spend(0, 1, -1), 2);
        c.refused(x, "spend ahead of FIRST", x.spend(0, 1, 1), 3);
        c.refused(x, "spend without leaf", x.spend(0, 2, 1), 10);
        x.leaf(0, 2, 0, 2);
        c.refused(x, "short can't hold", x.earn(0, 2, 32_768), 2);
        c.taken(x, "short holds", x.earn(0, 2, 32_767), 1);
        c.refused(x, "short can't hold below", x.spend(0, 2, 32_769), 2);
        c.taken(x, "short holds below", x.spend(0, 2, 32_768), 2);
        c.refused(x, "no place ahead of the sort", x.earn(0, 2, 32_768), 10);
        c.refused(x, "day ahead of the sort", x.earn(0, 1, 32_768), 3);
        c.is("entry 0", x.entry(0, 2, 0), 32_767);
        c.is("entry 1", x.entry(0, 2, 1), -32_768);
        c.is("entry 2", x.entry(0, 2, 2), 0);
        c.is("sum", x.sum(0, 1, 2), -1);
        for (int sort = 1; sort <= 2; sort++) {
            int day = 2 + sort;
            x.leaf(0, day, sort, 2);
            c.taken(x, "greatest", x.earn(0, day, 1_000_000_000), 1);
            c.taken(x, "least", x.spend(0, day, 1_000_000_000), 2);
            c.is("greatest entry", x.entry(0, day, 0), 1_000_000_000);
            c.is("least entry", x.entry(0, day, 1), -1_000_000_000);
        }
        x.end(0, 2);
        x.close(0);
        c.refused(x, "earn, closed", x.earn(0, 2, 1), 3);
        c.refused(x, "spend, closed", x.spend(0, 2, 1), 3);
        c.is("entries of a closed day", x.sum(0, 1, 2), -1);
        c.is("entry of a closed day", x.entry(0, 2, 1), -32_768);
    }

    private static void looseSums() {
        PartnersBook x = bookWithPartner();
        c.refused(x, "no house", x.loose(1, 1), 1);
        c.refused(x, "too much", x.loose(0, 1_000_000_001), 2);
        c.refused(x, "too little", x.loose(0, -1_000_000_001), 2);
        c.taken(x, "most", x.loose(0, 1_000_000_000), 1);
        c.taken(x, "none", x.loose(0, 0), 1);
        c.taken(x, "least", x.loose(0, -1_000_000_000), 1);
        c.taken(x, "again", x.loose(0, -5), 1);
        c.is("loose", x.sum(0, 0, 4000), -5);
        // the bound of 10^12 lies beyond 512 calls but not beyond a loop of them
        for (int i = 0; i < 1000; i++) {
            x.loose(0, 1_000_000_000);
        }
        c.taken(x, "to the bound", x.loose(0, 5), 1);
        c.refused(x, "beyond", x.loose(0, 1), 9);
        c.is("at the bound", x.sum(0, 0, 0), 1_000_000_000_000L);
    }

    private static void moves() {
        PartnersBook x = bookWithPartner();
        c.refused(x, "no house", x.move(1, 0, 2, 1, false), 1);
        c.refused(x, "no tenure", x.move(0, 0, 2, 1, false), 1);
        x.join(0, 0, 0, 4, false);
        c.refused(x, "sum 0", x.move(0, 0, 4, 0, false), 2);
        c.refused(x, "too much", x.move(0, 0, 1, 1_000_000_001, true), 2);
        c.refused(x, "tenure -1", x.move(0, -1, 4, 1, false), 1);
        c.refused(x, "ahead of FIRST", x.move(0, 0, 1, 1, false), 3);
        c.refused(x, "ahead of BEGIN", x.move(0, 0, 3, 1, false), 3);
        c.refused(x, "behind 999", x.move(0, 0, 1000, 1, false), 3);
        c.taken(x, "on BEGIN", x.move(0, 0, 4, 1_000_000_000, false), 1);
        c.taken(x, "on 999", x.move(0, 0, 999, 1, true), 2);
        x.leave(0, 0, 20, 1, 0);
        c.refused(x, "on the end", x.move(0, 0, 20, 1, false), 3);
        c.taken(x, "ahead of the end", x.move(0, 0, 19, 1, false), 3);
        x.end(0, 4);
        Checks.emptyLeaves(x, 0, 2, 4);
        x.close(0);
        c.is("moves of open years", x.told(0, 6), 2);
        c.is("credit", x.account(0, 0, 0), 1_000_000_000);
        c.refused(x, "closed", x.move(0, 0, 4, 1, false), 3);
        for (int n = 3; n <= 120; n++) {
            c.taken(x, "move", x.move(0, 0, 5, 1, n % 2 == 0), n);
        }
        c.refused(x, "121st", x.move(0, 0, 5, 1, false), 9);
        x.end(0, 5);
        x.leaf(0, 5, 0, 0);
        x.close(0);
        c.is("room again", x.told(0, 6), 2);
        c.taken(x, "room again", x.move(0, 0, 6, 1, false), 3);
        // a move that the tenure no longer covers still goes into its credit
        x.end(0, 19);
        Checks.emptyLeaves(x, 0, 6, 19);
        x.close(0);
        c.is("left for 999", x.told(0, 6), 1);
        c.is("all went to payable and was paid", x.account(0, 0, 5), 1_000_000_002);
    }

    private static void lending() {
        PartnersBook x = bookWithPartner();
        c.refused(x, "no house", x.lend(1, 0, 1, false), 1);
        c.refused(x, "no tenure", x.lend(0, 0, 0, false), 1);
        x.join(0, 0, 0, 2, false);
        c.refused(x, "sum 0", x.lend(0, 0, 0, false), 2);
        c.refused(x, "too much", x.lend(0, 0, 1_000_000_001, false), 2);
        c.refused(x, "back too much", x.lend(0, 0, 1, true), 2);
        c.taken(x, "lend", x.lend(0, 0, 999_999_999, false), 999_999_999);
        c.refused(x, "no room", x.lend(0, 0, 2, false), 9);
        c.taken(x, "to the bound", x.lend(0, 0, 1, false), 1_000_000_000);
        c.refused(x, "back 0", x.lend(0, 0, 0, true), 2);
        c.taken(x, "back", x.lend(0, 0, 999_999_990, true), 10);
        c.refused(x, "back more", x.lend(0, 0, 11, true), 2);
        c.is("account", x.account(0, 0, 3), 10);
        c.taken(x, "back all", x.lend(0, 0, 10, true), 0);
    }

    private static void undoing() {
        PartnersBook x = bookWithPartner();
        c.refused(x, "no house", x.undo(1), 1);
        c.taken(x, "nothing", x.undo(0), 0);
        x.join(0, 0, 0, 2, false);
        x.leaf(0, 2, 1, 3);
        x.leaf(0, 3, 1, 1);
        x.earn(0, 2, 5);
        x.move(0, 0, 2, 9, false);
        x.spend(0, 3, 4);
        x.earn(0, 2, 6);
        x.loose(0, 7);
        x.lend(0, 0, 8, false);
        c.taken(x, "the latest", x.undo(0), 1);
        c.is("entry 6 is out", x.sum(0, 1, 2), 5);
        c.is("its place is empty", x.entry(0, 2, 1), 0);
        c.taken(x, "the one ahead", x.undo(0), 1);
        c.is("entry -4 is out", x.sum(0, 1, 3), 0);
        c.is("its day is open", x.told(0, 9), 2);
        c.is("the move is in", x.told(0, 6), 1);
        c.taken(x, "the move", x.undo(0), 1);
        c.is("the move is out", x.told(0, 6), 0);
        c.taken(x, "the first", x.undo(0), 1);
        c.is("entry 5 is out", x.sum(0, 1, 2), 0);
        c.taken(x, "no more", x.undo(0), 0);
        c.is("loose stays", x.sum(0, 0, 0), 7);
        c.is("lent stays", x.account(0, 0, 3), 8);
        x.earn(0, 2, 5);
        x.move(0, 0, 2, 9, false);
        x.leaf(0, 4, 0, 0);
        c.taken(x, "none since leaf()", x.undo(0), 0);
        x.move(0, 0, 2, 9, false);
        x.leaf(0, 1, 0, 0);
        x.tear(0, 7);
        c.taken(x, "refused ones don't count", x.undo(0), 1);
        x.move(0, 0, 2, 9, false);
        x.tear(0, 4);
        c.taken(x, "none since tear()", x.undo(0), 0);
        x.leaf(0, 2, 0, 0);
        x.end(0, 2);
        x.move(0, 0, 50, 9, false);
        x.close(0);
        c.taken(x, "none since close()", x.undo(0), 0);
        c.is("the later move stays", x.told(0, 6), 1);
    }

    private static void undoDepth() {
        PartnersBook x = bookWithPartner();
        x.join(0, 0, 0, 2, false);
        for (int i = 0; i < 65; i++) {
            x.move(0, 0, 2, 1, false);
        }
        for (int i = 0; i < 60; i++) {
            c.taken(x, "of the latest 60", x.undo(0), 1);
        }
        c.taken(x, "no more than 60", x.undo(0), 0);
        c.is("five are left", x.told(0, 6), 5);
    }

    private static void undoOfBothSorts() {
        PartnersBook x = bookWithPartner();
        x.join(0, 0, 0, 2, false);
        for (int day = 2; day < 10; day++) {
            x.leaf(0, day, 1, 6);
        }
        int told = 70;
        for (int i = 0; i < told; i++) {
            if (i % 3 == 0) {
                x.earn(0, 2 + i / 3 % 8, 1);
            } else {
                x.move(0, 0, 2, 1, false);
            }
        }
        for (int i = told - 1; i >= told - 60; i--) {
            c.taken(x, "undo " + i, x.undo(0), 1);
            int entries = 0;
            for (int day = 2; day < 10; day++) {
                entries += (int) x.sum(0, 1, day);
            }
            c.is("entries ahead of " + i, entries, (i + 2) / 3);
            c.is("moves ahead of " + i, x.told(0, 6), i - (i + 2) / 3);
        }
        c.taken(x, "no more", x.undo(0), 0);
    }
}
