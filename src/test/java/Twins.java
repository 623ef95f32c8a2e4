import java.util.ArrayList;
import java.util.List;
import java.util.function.Consumer;
import java.util.function.ToLongFunction;

/** Two books that were told the same: one of them refuses a call, and must not differ from the other by it. */
final class Twins {
    private final Checks c;
    private final Consumer<PartnersBook> scene;

    Twins(Checks c, Consumer<PartnersBook> scene) {
        this.c = c;
        this.scene = scene;
    }

    void refuse(String what, int status, ToLongFunction<PartnersBook> call) {
        refuseAt(what, status, PartnersBook.NONE, call);
    }

    void refuseAt(String what, int status, int place, ToLongFunction<PartnersBook> call) {
        compare(what, status, place, call, true);
    }

    /** A join(): the circle of an earlier one is forgotten. */
    void refuseJoin(String what, int status, ToLongFunction<PartnersBook> call) {
        compare(what, status, PartnersBook.NONE, call, false);
    }

    private void compare(String what, int status, int place, ToLongFunction<PartnersBook> call, boolean circleStays) {
        PartnersBook asked = new PartnersBook();
        PartnersBook other = new PartnersBook();
        scene.accept(asked);
        scene.accept(other);
        c.refusedAt(asked, what, call.applyAsLong(asked), status, place);
        if (circleStays) {
            c.alike(what + " leaves circle()", Readings.circle(asked), Readings.circle(other));
        } else if (status != 8) {
            c.is(what + " forgets circle()", asked.circle(0), PartnersBook.NONE);
        }
        c.alike(what + " leaves what is told", Readings.told(asked), Readings.told(other));
        c.is(what + " status() of told calls", asked.status(), status);
        c.is(what + " where() of told calls", asked.where(), place);
        c.alike(what + " leaves what comes out later", Readings.later(asked), Readings.later(other));
        c.alike(what + " leaves what undo() takes back", undoneBehind(call), undoneBehind(x -> 0));
    }

    private List<Long> undoneBehind(ToLongFunction<PartnersBook> call) {
        PartnersBook x = new PartnersBook();
        scene.accept(x);
        call.applyAsLong(x);
        return Readings.undone(x);
    }

    /** All that a book tells, and all that only comes out when it is told on. */
    private static final class Readings {
        static List<Long> circle(PartnersBook x) {
            List<Long> all = new ArrayList<>();
            for (int i = -1; i <= 8; i++) {
                all.add((long) x.circle(i));
            }
            return all;
        }

        static List<Long> told(PartnersBook x) {
            List<Long> all = new ArrayList<>();
            for (int t = -1; t <= 24; t++) {
                all.add((long) x.borne(t));
            }
            for (int house = 0; house < 8 && x.told(house, 0) >= 0; house++) {
                ofHouse(x, house, all);
                ofTenures(x, house, all);
                ofDays(x, house, all);
            }
            return all;
        }

        private static void ofHouse(PartnersBook x, int house, List<Long> all) {
            for (int what = 0; what <= 9; what++) {
                all.add((long) x.told(house, what));
            }
            for (int i = 0; i < x.told(house, 8); i++) {
                for (int what = 0; what <= 5; what++) {
                    all.add(x.stretch(house, i, what));
                }
                for (int t = 0; t < x.told(house, 4); t++) {
                    all.add(x.due(house, i, t));
                }
            }
            all.add(x.sum(house, 0, 0));
            all.add(x.sum(house, 3, 0));
        }

        private static void ofTenures(PartnersBook x, int house, List<Long> all) {
            for (int t = 0; t < x.told(house, 4); t++) {
                for (int what = 0; what <= 7; what++) {
                    all.add((long) x.tenure(house, t, what));
                    all.add(x.account(house, t, what));
                }
            }
        }

        private static void ofDays(PartnersBook x, int house, List<Long> all) {
            for (int day = 0; day <= 999; day++) {
                all.add(x.sum(house, 1, day));
                all.add(x.sum(house, 2, day));
                for (int i = 0; i < 6; i++) {
                    all.add(x.entry(house, day, i));
                    all.add((long) x.who(house, i, day));
                }
            }
        }

        /** Letters, rules, the sheet, moves and entries to take back, years and mends: told by changing them. */
        static List<Long> later(PartnersBook x) {
            List<Long> all = new ArrayList<>();
            ofSheet(x, all);
            ofYearsForDebts(x, all);
            for (int house = 0; house < 8 && x.told(house, 0) >= 0; house++) {
                ofRules(x, house, all);
                ofSeats(x, house, all);
            }
            for (int round = 0; round < 3; round++) {
                for (int house = 7; house >= 0; house--) {
                    all.add((long) closeOn(x, house));
                }
            }
            all.addAll(told(x));
            all.add((long) x.house(0));
            all.add((long) x.partner(0, 0));
            return all;
        }

        static List<Long> undone(PartnersBook x) {
            List<Long> all = new ArrayList<>();
            for (int house = 0; house < 8 && x.told(house, 0) >= 0; house++) {
                for (int i = 0; i < 70; i++) {
                    all.add((long) x.undo(house));
                    all.add((long) x.told(house, 6));
                    all.add((long) x.told(house, 9));
                }
            }
            all.addAll(told(x));
            return all;
        }

        private static void ofSheet(PartnersBook x, List<Long> all) {
            for (int t = 0; t <= 24; t++) {
                for (int house = 0; house < 8; house++) {
                    all.add((long) x.check(house));
                }
                x.sheet(t, t < 24 ? x.account(0, t, 6) : x.sum(0, 3, 0));
            }
        }

        private static void ofYearsForDebts(PartnersBook x, List<Long> all) {
            for (int house = 0; house < 8; house++) {
                for (int day = 0; day < 30; day++) {
                    all.add((long) x.bear(house, day, 1_000_003));
                    for (int t = -1; t < x.told(house, 4); t++) {
                        all.add((long) x.borne(t));
                    }
                }
            }
        }

        private static void ofRules(PartnersBook x, int house, List<Long> all) {
            for (int what = 0; what <= 4; what++) {
                for (int seat = 0; seat < 6; seat++) {
                    int was = x.term(house, seat, what, 3);
                    all.add((long) was);
                    x.term(house, seat, what, was);
                }
            }
        }

        private static void ofSeats(PartnersBook x, int house, List<Long> all) {
            for (int seat = 0; seat < 6; seat++) {
                all.add((long) x.holds(house, seat));
                all.add((long) x.unseal(house, seat));
                all.add((long) x.holds(house, seat));
            }
        }

        /** Takes one thing back, then closes a year with leaves for its open days. */
        private static int closeOn(PartnersBook x, int house) {
            x.undo(house);
            for (int i = 0; i < 200 && x.close(house) == PartnersBook.NONE; i++) {
                if (x.status() == 5) {
                    x.leaf(house, x.where(), 1, 0);
                } else if (x.status() == 6) {
                    x.end(house, x.told(house, 1) + 2);
                } else {
                    return x.status();
                }
            }
            return -x.told(house, 3);
        }
    }
}
