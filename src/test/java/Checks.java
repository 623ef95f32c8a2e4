import java.util.List;

/** Counts the answers that are not the ones that are due. */
final class Checks {
    private final String name;
    private int asked;
    private int wrong;

    Checks(String name) {
        this.name = name;
    }

    void is(String what, long got, long want) {
        asked++;
        if (got != want) {
            wrong++;
            System.out.println(name + ": " + what + " answered " + got + ", due is " + want);
        }
    }

    void alike(String what, List<Long> got, List<Long> want) {
        asked++;
        for (int i = 0; i < Math.max(got.size(), want.size()); i++) {
            if (i >= got.size() || i >= want.size() || !got.get(i).equals(want.get(i))) {
                wrong++;
                System.out.println(name + ": " + what + ": reading " + i + " differs");
                return;
            }
        }
    }

    /** The call was refused with a status, and tells no place beside it. */
    void refused(PartnersBook x, String what, long got, int status) {
        refusedAt(x, what, got, status, PartnersBook.NONE);
    }

    void refusedAt(PartnersBook x, String what, long got, int status, int place) {
        is(what, got, PartnersBook.NONE);
        is(what + " status()", x.status(), status);
        is(what + " where()", x.where(), place);
    }

    void taken(PartnersBook x, String what, long got, long want) {
        is(what, got, want);
        is(what + " status()", x.status(), 0);
        is(what + " where()", x.where(), PartnersBook.NONE);
    }

    void finish() {
        System.out.println(name + ": " + asked + " answers, " + wrong + " not as due");
        if (wrong != 0) {
            System.exit(1);
        }
    }

    /** Leaves without places for days, so that none of them is open. */
    static void emptyLeaves(PartnersBook x, int house, int from, int to) {
        for (int day = from; day <= to; day++) {
            x.leaf(house, day, 0, 0);
        }
    }

    /** A leaf of ints with one entry, earned or (below 0) spent. */
    static void enter(PartnersBook x, int house, int day, int sum) {
        x.leaf(house, day, 1, 1);
        if (sum > 0) {
            x.earn(house, day, sum);
        } else {
            x.spend(house, day, -sum);
        }
    }
}
