import java.util.Arrays;

/** The book of houses that several people own together; ../shared/DOC.md has its promises. */
public final class PartnersBook {
    public static final int NONE = -1;

    private static final int HOUSES = 8;
    private static final int PARTNERS = 40;
    private static final int SEATS = 6;
    private static final int TENURES = 24;
    private static final int YEARS = 12;
    private static final int YEAR_DAYS = 100;
    private static final int RULES = 16;
    private static final int MOVES = 120;
    private static final int MENDS = 20;
    private static final int UNDOS = 60;
    private static final int PLACES = 6;
    private static final int LAST_DAY = 999;
    private static final int LAST_FIRST = 900;
    private static final int MAX_SUM = 1_000_000_000;
    private static final int MAX_LETTER = 1_000_000;
    private static final int MAX_INSTALMENTS = 10;
    private static final int MAX_OLD_YEARS = 5;
    private static final long MAX_LOOSE = 1_000_000_000_000L;
    private static final long INTEREST_DIVISOR = 360_000L;

    private static final int NO_SUCH = 1;
    private static final int BAD_NUMBER = 2;
    private static final int BAD_DAY = 3;
    private static final int BAD_SEAT = 4;
    private static final int OPEN_DAY = 5;
    private static final int NO_END = 6;
    private static final int NOT_CLOSED = 7;
    private static final int A_CIRCLE = 8;
    private static final int NO_ROOM = 9;
    private static final int NO_PLACE = 10;

    private static final int KINDS = 6;
    private static final int KIND_LIMITED = 1;
    private static final int KIND_SILENT = 2;
    private static final int KIND_WORKING = 3;
    private static final int KIND_HEIR = 4;
    private static final int KIND_HOUSE = 5;

    private static final int WAGE = 0;
    private static final int FIXED_SUM = 1;
    private static final int PARTS = 2;
    private static final int LOSS_PARTS = 3;
    private static final int SEAT_TERMS = 4;
    private static final int THOUSANDTHS = 4;
    private static final int[] MAX_TERM = {1_000_000, 1_000_000_000, 1_000, 1_000, 500};

    private static final int SORTS = 3;
    private static final int SHORTS = 0;
    private static final int MIN_SHORT = -32_768;
    private static final int MAX_SHORT = 32_767;

    private static final int ALL_ALIKE = -2;

    private final House[] houses;
    private int houseCount;
    private final Partner[] partners;
    private int partnerCount;
    private final Shares shares;
    private final Ring ring;
    private final int[] debtParts;
    private int debtOfNobody;
    private final long[] sheetRow;
    private int lastStatus;
    private int lastWhere;

    public PartnersBook() {
        houses = new House[HOUSES];
        partners = new Partner[PARTNERS];
        shares = new Shares();
        ring = new Ring();
        debtParts = new int[TENURES];
        sheetRow = new long[TENURES + 1];
        lastWhere = NONE;
    }

    // ---- houses, partners, seats

    public int house(int first) {
        if (first < 0 || first > LAST_FIRST) {
            return refuse(BAD_NUMBER);
        }
        if (houseCount >= HOUSES) {
            return refuse(NO_ROOM);
        }
        houses[houseCount] = new House(houseCount, first, shares);
        houseCount++;
        return accept(houseCount - 1);
    }

    public int partner(int kind, int told) {
        if (kind < 0 || kind >= KINDS) {
            return refuse(BAD_NUMBER);
        }
        if (isLimitedKind(kind) && (told < 0 || told > MAX_SUM)) {
            return refuse(BAD_NUMBER);
        }
        House owner = kind == KIND_HOUSE ? houseAt(told) : null;
        if (kind == KIND_HOUSE && owner == null) {
            return refuse(NO_SUCH);
        }
        if (partnerCount >= PARTNERS) {
            return refuse(NO_ROOM);
        }
        partners[partnerCount] = new Partner(partnerCount, kind, told, owner);
        partnerCount++;
        return accept(partnerCount - 1);
    }

    public int letter(int house, int seat, int letter) {
        House h = houseAt(house);
        if (h == null || !isSeat(seat)) {
            return refuse(NO_SUCH);
        }
        if (letter < 1 || letter > MAX_LETTER) {
            return refuse(BAD_NUMBER);
        }
        if (h.letters[seat] != 0 || h.sitting(seat) != null) {
            return refuse(BAD_SEAT);
        }
        h.letters[seat] = letter;
        h.held[seat] = null;
        return accept(1);
    }

    public int unseal(int house, int seat) {
        House h = houseAt(house);
        if (h == null || !isSeat(seat)) {
            return refuse(NO_SUCH);
        }
        int letter = h.letters[seat];
        if (letter == 0) {
            return refuse(BAD_SEAT);
        }
        h.letters[seat] = 0;
        return accept(letter);
    }

    public int holds(int house, int seat) {
        House h = houseAt(house);
        if (h == null || !isSeat(seat)) {
            return refuse(NO_SUCH);
        }
        if (h.letters[seat] != 0) {
            return accept(1);
        }
        Tenure t = h.held[seat];
        if (t == null) {
            return accept(0);
        }
        return accept(t.hasEnded() ? 3 : 2);
    }

    public int join(int house, int seat, int partner, int day, boolean word) {
        ring.forget();
        House h = houseAt(house);
        Partner p = partnerAt(partner);
        if (h == null || p == null || !isSeat(seat)) {
            return refuse(NO_SUCH);
        }
        if (!h.isFree(day)) {
            return refuse(BAD_DAY);
        }
        if (h.letters[seat] != 0 || !h.isVacantFrom(seat, day)) {
            return refuse(BAD_SEAT);
        }
        if (p.owner != null && ring.trace(houses, houseCount, h.number, p.owner.number)) {
            return refuse(A_CIRCLE);
        }
        if (h.tenureCount >= TENURES) {
            return refuse(NO_ROOM);
        }
        return accept(h.addTenure(p, seat, day, word));
    }

    public int leave(int house, int seat, int day, int instalments, int years) {
        House h = houseAt(house);
        if (h == null || !isSeat(seat)) {
            return refuse(NO_SUCH);
        }
        Tenure t = h.sitting(seat);
        if (t == null) {
            return refuse(BAD_SEAT);
        }
        if (instalments < 1 || instalments > MAX_INSTALMENTS || years < 0 || years > MAX_OLD_YEARS) {
            return refuse(BAD_NUMBER);
        }
        if (!h.isFree(day) || day <= t.begin) {
            return refuse(BAD_DAY);
        }
        t.finish(day, instalments, years);
        return accept(t.number);
    }

    public int die(int house, int seat, int day, int heir) {
        House h = houseAt(house);
        Partner p = partnerAt(heir);
        if (h == null || p == null || !isSeat(seat)) {
            return refuse(NO_SUCH);
        }
        Tenure t = h.sitting(seat);
        if (t == null) {
            return refuse(BAD_SEAT);
        }
        if (p.kind != KIND_HEIR) {
            return refuse(BAD_NUMBER);
        }
        if (!h.isFree(day) || day <= t.begin) {
            return refuse(BAD_DAY);
        }
        if (h.tenureCount >= TENURES) {
            return refuse(NO_ROOM);
        }
        t.finish(day, 1, 0);
        int number = h.addTenure(p, seat, day, false);
        t.heir = h.tenureAt(number);
        return accept(number);
    }

    public int circle(int i) {
        return ring.houseAtStep(i);
    }

    // ---- rules

    public int rule(int house, int day) {
        House h = houseAt(house);
        if (h == null) {
            return refuse(NO_SUCH);
        }
        Rule latest = h.latestRule();
        boolean inOrder = latest == null ? day == h.first : day > latest.day;
        if (!h.isFree(day) || !inOrder) {
            return refuse(BAD_DAY);
        }
        if (h.ruleCount >= RULES) {
            return refuse(NO_ROOM);
        }
        h.rules[h.ruleCount] = new Rule(day, latest);
        h.ruleCount++;
        return accept(h.ruleCount);
    }

    public int term(int house, int seat, int what, int v) {
        House h = houseAt(house);
        Rule latest = h == null ? null : h.latestRule();
        if (h == null || latest == null || (what != THOUSANDTHS && !isSeat(seat))) {
            return refuse(NO_SUCH);
        }
        if (what < 0 || what >= MAX_TERM.length || v < 0 || v > MAX_TERM[what]) {
            return refuse(BAD_NUMBER);
        }
        if (!h.isFree(latest.day)) {
            return refuse(BAD_DAY);
        }
        return accept(latest.replace(seat, what, v));
    }

    // ---- entries

    public int leaf(int house, int day, int sort, int n) {
        House h = houseAt(house);
        if (h == null) {
            return refuse(NO_SUCH);
        }
        if (sort < 0 || sort >= SORTS || n < 0 || n > PLACES) {
            return refuse(BAD_NUMBER);
        }
        if (!h.isFree(day)) {
            return refuse(BAD_DAY);
        }
        h.leaves[day] = new Leaf(sort, n);
        h.undos.clear();
        return accept(n);
    }

    public int tear(int house, int day) {
        House h = houseAt(house);
        if (h == null) {
            return refuse(NO_SUCH);
        }
        if (!h.isFree(day)) {
            return refuse(BAD_DAY);
        }
        Leaf torn = h.leafOn(day);
        if (torn == null) {
            return refuse(NO_PLACE);
        }
        h.leaves[day] = null;
        h.undos.clear();
        return accept(torn.count);
    }

    public int earn(int house, int day, int sum) {
        return enter(house, day, sum, 1);
    }

    public int spend(int house, int day, int sum) {
        return enter(house, day, sum, -1);
    }

    public int loose(int house, int v) {
        House h = houseAt(house);
        if (h == null) {
            return refuse(NO_SUCH);
        }
        if (v < -MAX_SUM || v > MAX_SUM) {
            return refuse(BAD_NUMBER);
        }
        if (Math.abs(h.looseSum + v) > MAX_LOOSE) {
            return refuse(NO_ROOM);
        }
        h.looseSum += v;
        return accept(1);
    }

    public int move(int house, int tenure, int day, int sum, boolean out) {
        House h = houseAt(house);
        Tenure t = h == null ? null : h.tenureAt(tenure);
        if (h == null || t == null) {
            return refuse(NO_SUCH);
        }
        if (!isSum(sum)) {
            return refuse(BAD_NUMBER);
        }
        if (!h.isFree(day) || !t.isIn(day)) {
            return refuse(BAD_DAY);
        }
        if (h.moves.isFull()) {
            return refuse(NO_ROOM);
        }
        h.moves.append(t, day, out ? -sum : sum);
        h.undos.noteMove();
        return accept(h.moves.count);
    }

    public int lend(int house, int tenure, int sum, boolean back) {
        House h = houseAt(house);
        Tenure t = h == null ? null : h.tenureAt(tenure);
        if (t == null) {
            return refuse(NO_SUCH);
        }
        if (!isSum(sum) || (back && sum > t.lent)) {
            return refuse(BAD_NUMBER);
        }
        long lent = back ? t.lent - sum : t.lent + sum;
        if (lent > MAX_SUM) {
            return refuse(NO_ROOM);
        }
        t.lent = lent;
        return accept((int) lent);
    }

    public int undo(int house) {
        House h = houseAt(house);
        if (h == null) {
            return refuse(NO_SUCH);
        }
        if (h.undos.count == 0) {
            return accept(0);
        }
        int day = h.undos.takeLatest();
        if (day == NONE) {
            h.moves.dropLatest();
        } else {
            h.dropEntry(day);
        }
        return accept(1);
    }

    // ---- years

    public int end(int house, int day) {
        House h = houseAt(house);
        if (h == null) {
            return refuse(NO_SUCH);
        }
        int yearFirst = h.firstOfNextYear();
        if (day < 0 || day > LAST_DAY || day < yearFirst || day - yearFirst >= YEAR_DAYS) {
            return refuse(BAD_DAY);
        }
        if (h.yearsTold >= YEARS) {
            return refuse(NO_ROOM);
        }
        h.ends[h.yearsTold] = day;
        h.yearsTold++;
        return accept(h.yearsTold);
    }

    public int close(int house) {
        House h = houseAt(house);
        if (h == null) {
            return refuse(NO_SUCH);
        }
        if (h.yearsClosed >= h.yearsTold || h.yearsClosed >= YEARS) {
            return refuse(NO_END);
        }
        if (h.ruleCount == 0) {
            return refuse(NO_SUCH);
        }
        int last = h.ends[h.yearsClosed];
        int open = h.firstOpenDay();
        if (open <= last) {
            return refuseAt(OPEN_DAY, open);
        }
        int behind = firstHouseBehind(h, last);
        if (behind != NONE) {
            return refuseAt(NOT_CLOSED, behind);
        }
        h.closing.closeYear(h, last);
        return accept(h.yearsClosed - 1);
    }

    public int mend(int house, int day, int sum) {
        House h = houseAt(house);
        if (h == null) {
            return refuse(NO_SUCH);
        }
        if (sum == 0 || sum < -MAX_SUM || sum > MAX_SUM) {
            return refuse(BAD_NUMBER);
        }
        if (day < h.first || day > h.to) {
            return refuse(BAD_DAY);
        }
        if (h.mends.isFull()) {
            return refuse(NO_ROOM);
        }
        h.mends.append(null, day, sum);
        return accept(h.mends.count);
    }

    public int hidden(int house, int day, int sum) {
        House h = houseAt(house);
        if (h == null || h.ruleCount == 0) {
            return refuse(NO_SUCH);
        }
        if (!isSum(sum)) {
            return refuse(BAD_NUMBER);
        }
        if (day < h.first || day > LAST_DAY) {
            return refuse(BAD_DAY);
        }
        shares.start();
        for (int seat = 0; seat < SEATS; seat++) {
            Tenure t = h.tenureIn(seat, day);
            if (t != null) {
                shares.add(t, h.termOn(day, PARTS, seat));
            }
        }
        long given = shares.cut(sum);
        for (int i = 0; i < shares.count; i++) {
            Tenure t = shares.tenures[i];
            if (t != null) {
                t.hiddenSum += shares.parts[i];
            }
        }
        return accept((int) given);
    }

    public int bear(int house, int day, int debt) {
        House h = houseAt(house);
        if (h == null || h.ruleCount == 0) {
            return refuse(NO_SUCH);
        }
        if (!isSum(debt)) {
            return refuse(BAD_NUMBER);
        }
        if (day < h.first || day > LAST_DAY) {
            return refuse(BAD_DAY);
        }
        gatherBearers(h, day);
        debtOfNobody = (int) shares.shareLoss(debt);
        return accept(keepDebtParts());
    }

    // ---- what is told

    public int borne(int t) {
        if (t == NONE) {
            return debtOfNobody;
        }
        return t >= 0 && t < TENURES ? debtParts[t] : 0;
    }

    public long account(int house, int tenure, int what) {
        House h = houseAt(house);
        Tenure t = h == null ? null : h.tenureAt(tenure);
        return t == null ? 0 : t.accountOf(what);
    }

    public int tenure(int house, int tenure, int what) {
        House h = houseAt(house);
        Tenure t = h == null ? null : h.tenureAt(tenure);
        return t == null ? NONE : t.factOf(what);
    }

    public int who(int house, int seat, int day) {
        House h = houseAt(house);
        if (h == null || !isSeat(seat) || !isDay(day)) {
            return NONE;
        }
        Tenure t = h.tenureIn(seat, day);
        return t == null ? NONE : t.number;
    }

    public long stretch(int house, int i, int what) {
        House h = houseAt(house);
        Stretch s = h == null ? null : h.closing.at(i);
        return s == null ? 0 : s.factOf(what);
    }

    public long due(int house, int i, int tenure) {
        House h = houseAt(house);
        Stretch s = h == null ? null : h.closing.at(i);
        Tenure t = h == null ? null : h.tenureAt(tenure);
        return s == null || t == null ? 0 : s.dueOf(t);
    }

    public int told(int house, int what) {
        House h = houseAt(house);
        return h == null ? NONE : h.factOf(what);
    }

    public long sum(int house, int what, int day) {
        House h = houseAt(house);
        if (h == null) {
            return 0;
        }
        switch (what) {
            case 0: return h.looseSum;
            case 1: return h.entriesOn(day);
            case 2: return isDay(day) ? h.income[day] : 0;
            case 3: return h.closing.nobodyOfAll;
            default: return 0;
        }
    }

    public long entry(int house, int day, int i) {
        House h = houseAt(house);
        Leaf l = h == null ? null : h.leafOn(day);
        return l == null ? 0 : l.entryAt(i);
    }

    public int sheet(int t, long v) {
        if (t < 0 || t >= sheetRow.length) {
            return refuse(BAD_NUMBER);
        }
        sheetRow[t] = v;
        return accept(1);
    }

    public int check(int house) {
        House h = houseAt(house);
        if (h == null || h.yearsClosed == 0) {
            return refuse(NO_SUCH);
        }
        for (int n = 0; n < TENURES; n++) {
            Tenure t = h.tenureAt(n);
            if (sheetRow[n] != (t == null ? 0 : t.dues)) {
                return accept(n);
            }
        }
        return accept(sheetRow[TENURES] == h.closing.nobodyOfLatest() ? ALL_ALIKE : TENURES);
    }

    public int status() {
        return lastStatus;
    }

    public int where() {
        return lastWhere;
    }

    // ---- what the calls share

    private int accept(int answer) {
        lastStatus = 0;
        lastWhere = NONE;
        return answer;
    }

    private int refuse(int why) {
        return refuseAt(why, NONE);
    }

    private int refuseAt(int why, int place) {
        lastStatus = why;
        lastWhere = place;
        return NONE;
    }

    private House houseAt(int number) {
        return number >= 0 && number < houseCount && number < HOUSES ? houses[number] : null;
    }

    private Partner partnerAt(int number) {
        return number >= 0 && number < partnerCount && number < PARTNERS ? partners[number] : null;
    }

    private static boolean isSeat(int seat) {
        return seat >= 0 && seat < SEATS;
    }

    private static boolean isDay(int day) {
        return day >= 0 && day <= LAST_DAY;
    }

    private static boolean isSum(int sum) {
        return sum >= 1 && sum <= MAX_SUM;
    }

    private static boolean isLimitedKind(int kind) {
        return kind == KIND_LIMITED || kind == KIND_SILENT || kind == KIND_HEIR;
    }

    private int enter(int house, int day, int sum, int sign) {
        House h = houseAt(house);
        if (h == null) {
            return refuse(NO_SUCH);
        }
        if (!isSum(sum)) {
            return refuse(BAD_NUMBER);
        }
        if (!h.isFree(day)) {
            return refuse(BAD_DAY);
        }
        Leaf l = h.leafOn(day);
        if (l == null || !l.lacksEntries()) {
            return refuse(NO_PLACE);
        }
        int value = sign * sum;
        if (!l.canHold(value)) {
            return refuse(BAD_NUMBER);
        }
        l.append(value);
        h.undos.noteEntry(day);
        return accept(l.count);
    }

    /** The least house of which h owns a part and that must be closed ahead of h's year; NONE. */
    private int firstHouseBehind(House h, int last) {
        for (int n = 0; n < houseCount && n < HOUSES; n++) {
            House other = houses[n];
            if (other != null && other.lagsFor(h, last)) {
                return n;
            }
        }
        return NONE;
    }

    private void gatherBearers(House h, int day) {
        Rule ofDay = h.ruleOn(day);
        Rule latest = h.latestRule();
        shares.start();
        for (int n = 0; n < h.tenureCount; n++) {
            Tenure t = h.tenureAt(n);
            if (t == null || ofDay == null || latest == null) {
                continue;
            }
            if (t.isIn(day) && (!t.hasEnded() || h.yearsClosedSince(t.end) < t.years)) {
                shares.add(t, ofDay.termOf(t.seat, LOSS_PARTS));
            } else if (t.begin > day && t.word && !t.hasEnded()) {
                shares.add(t, latest.termOf(t.seat, LOSS_PARTS));
            }
        }
    }

    private int keepDebtParts() {
        Arrays.fill(debtParts, 0);
        int bearers = 0;
        for (int i = 0; i < shares.count; i++) {
            Tenure t = shares.tenures[i];
            if (t != null && t.number < TENURES && shares.parts[i] > 0) {
                debtParts[t.number] = (int) shares.parts[i];
                bearers++;
            }
        }
        return bearers;
    }

    private static final class Partner {
        final int number;
        final int kind;
        final int limit;
        final House owner;

        Partner(int number, int kind, int limit, House owner) {
            this.number = number;
            this.kind = kind;
            this.limit = limit;
            this.owner = owner;
        }

        boolean isLimited() {
            return isLimitedKind(kind);
        }

        boolean isSilent() {
            return kind == KIND_SILENT || kind == KIND_HEIR;
        }
    }

    private static final class Tenure {
        final int number;
        final Partner partner;
        final int seat;
        final int begin;
        final boolean word;
        int end = NONE;
        int instalments;
        int years;
        Tenure heir;
        long credit;
        long hiddenSum;
        long borneSum;
        long lent;
        long payable;
        long paid;
        long dues;

        Tenure(int number, Partner partner, int seat, int begin, boolean word) {
            this.number = number;
            this.partner = partner;
            this.seat = seat;
            this.begin = begin;
            this.word = word;
        }

        boolean hasEnded() {
            return end != NONE;
        }

        boolean isIn(int day) {
            return day >= begin && (end == NONE || day < end);
        }

        /** What a limited partner may still lose. */
        long room() {
            return Math.max(0L, partner.limit - borneSum);
        }

        void finish(int day, int parts, int oldYears) {
            end = day;
            instalments = parts;
            years = oldYears;
        }

        void payOut() {
            if (heir != null) {
                heir.credit += credit;
                heir.hiddenSum += hiddenSum;
                credit = 0;
                hiddenSum = 0;
                return;
            }
            if (credit > 0) {
                payable += credit;
                credit = 0;
            }
            payable += hiddenSum;
            hiddenSum = 0;
            if (instalments > 0) {
                long now = payable / instalments;
                payable -= now;
                paid += now;
                instalments = Math.max(1, instalments - 1);
            }
        }

        long accountOf(int what) {
            switch (what) {
                case 0: return credit;
                case 1: return hiddenSum;
                case 2: return borneSum;
                case 3: return lent;
                case 4: return payable;
                case 5: return paid;
                case 6: return dues;
                default: return 0;
            }
        }

        int factOf(int what) {
            switch (what) {
                case 0: return partner.number;
                case 1: return seat;
                case 2: return begin;
                case 3: return end;
                case 4: return word ? 1 : 0;
                case 5: return instalments;
                case 6: return heir == null ? NONE : heir.number;
                case 7: return partner.isSilent() ? NONE : partner.kind;
                default: return NONE;
            }
        }
    }

    private static final class Rule {
        final int day;
        int thousandths;
        final int[] terms;

        Rule(int day, Rule ahead) {
            this.day = day;
            terms = new int[SEAT_TERMS * SEATS];
            if (ahead != null) {
                thousandths = ahead.thousandths;
                System.arraycopy(ahead.terms, 0, terms, 0, terms.length);
            }
        }

        private static boolean isTerm(int seat, int what) {
            return seat >= 0 && seat < SEATS && what >= 0 && what < SEAT_TERMS;
        }

        int termOf(int seat, int what) {
            return isTerm(seat, what) ? terms[what * SEATS + seat] : 0;
        }

        int replace(int seat, int what, int v) {
            int was = thousandths;
            if (what == THOUSANDTHS) {
                thousandths = v;
            } else if (isTerm(seat, what)) {
                was = terms[what * SEATS + seat];
                terms[what * SEATS + seat] = v;
            }
            return was;
        }

        boolean differsFrom(Rule other) {
            if (thousandths != other.thousandths) {
                return true;
            }
            for (int i = 0; i < terms.length && i < other.terms.length; i++) {
                if (terms[i] != other.terms[i]) {
                    return true;
                }
            }
            return false;
        }
    }

    private static final class Leaf {
        final int sort;
        final int[] entries;
        int count;

        Leaf(int sort, int places) {
            this.sort = sort;
            entries = new int[Math.max(0, places)];
        }

        boolean lacksEntries() {
            return count < entries.length;
        }

        boolean canHold(int value) {
            return sort != SHORTS || (value >= MIN_SHORT && value <= MAX_SHORT);
        }

        void append(int value) {
            if (lacksEntries()) {
                entries[count] = value;
                count++;
            }
        }

        void dropLatest() {
            if (count > 0) {
                count--;
            }
        }

        long entryAt(int i) {
            return i >= 0 && i < count && i < entries.length ? entries[i] : 0;
        }

        long total() {
            long all = 0;
            for (int i = 0; i < count && i < entries.length; i++) {
                all += entries[i];
            }
            return all;
        }
    }

    /** Sums of days in the order in which they were told: moves with their tenures, or mends. */
    private static final class DaySums {
        final Tenure[] tenures;
        final int[] days;
        final int[] sums;
        int count;

        DaySums(int room) {
            int length = Math.max(0, room);
            tenures = new Tenure[length];
            days = new int[length];
            sums = new int[length];
        }

        boolean isFull() {
            return count >= days.length;
        }

        void append(Tenure t, int day, int sum) {
            if (!isFull()) {
                tenures[count] = t;
                days[count] = day;
                sums[count] = sum;
                count++;
            }
        }

        void dropLatest() {
            if (count > 0) {
                count--;
            }
        }

        /** The moves up to a day go into their credits and out of the list. */
        void bookUpTo(int last) {
            int kept = 0;
            for (int i = 0; i < count; i++) {
                Tenure t = tenures[i];
                if (t != null && days[i] <= last) {
                    t.credit += sums[i];
                } else {
                    tenures[kept] = t;
                    days[kept] = days[i];
                    sums[kept] = sums[i];
                    kept++;
                }
            }
            count = kept;
        }
    }

    /** The days of the latest entries, NONE for a move, in a ring that forgets the oldest. */
    private static final class UndoLog {
        final int[] days = new int[UNDOS];
        int next;
        int count;

        void clear() {
            next = 0;
            count = 0;
        }

        void noteEntry(int day) {
            days[Math.floorMod(next, UNDOS)] = day;
            next++;
            count = Math.min(UNDOS, count + 1);
        }

        void noteMove() {
            noteEntry(NONE);
        }

        int takeLatest() {
            next--;
            count = Math.max(0, count - 1);
            return days[Math.floorMod(next, UNDOS)];
        }
    }

    private static final class House {
        final int number;
        final int first;
        int to;
        final int[] ends = new int[YEARS];
        int yearsTold;
        int yearsClosed;
        final int[] letters = new int[SEATS];
        final Tenure[] held = new Tenure[SEATS];
        final Tenure[] tenures = new Tenure[TENURES];
        int tenureCount;
        final Rule[] rules = new Rule[RULES];
        int ruleCount;
        final Leaf[] leaves = new Leaf[LAST_DAY + 1];
        final long[] income = new long[LAST_DAY + 1];
        long looseSum;
        int owners;
        final DaySums moves = new DaySums(MOVES);
        final DaySums mends = new DaySums(MENDS);
        final UndoLog undos = new UndoLog();
        final Closing closing;

        House(int number, int first, Shares shares) {
            this.number = number;
            this.first = first;
            to = first - 1;
            closing = new Closing(shares);
        }

        boolean isFree(int day) {
            return day > to && isDay(day);
        }

        Tenure tenureAt(int n) {
            return n >= 0 && n < tenureCount && n < TENURES ? tenures[n] : null;
        }

        /** The tenure that a seat holds and that hasn't ended; null. */
        Tenure sitting(int seat) {
            Tenure t = isSeat(seat) ? held[seat] : null;
            return t == null || t.hasEnded() ? null : t;
        }

        boolean isVacantFrom(int seat, int day) {
            for (int n = 0; n < tenureCount; n++) {
                Tenure t = tenureAt(n);
                if (t != null && t.seat == seat && (!t.hasEnded() || t.end > day)) {
                    return false;
                }
            }
            return true;
        }

        int addTenure(Partner p, int seat, int day, boolean word) {
            if (tenureCount >= TENURES || !isSeat(seat)) {
                return NONE;
            }
            Tenure t = new Tenure(tenureCount, p, seat, day, word);
            tenures[tenureCount] = t;
            tenureCount++;
            held[seat] = t;
            if (p.owner != null) {
                owners |= 1 << p.owner.number;
            }
            return t.number;
        }

        boolean isOwnedBy(int house) {
            return (owners >> house & 1) == 1;
        }

        Tenure tenureIn(int seat, int day) {
            for (int n = 0; n < tenureCount; n++) {
                Tenure t = tenureAt(n);
                if (t != null && t.seat == seat && t.isIn(day)) {
                    return t;
                }
            }
            return null;
        }

        Rule latestRule() {
            return ruleCount > 0 && ruleCount <= RULES ? rules[ruleCount - 1] : null;
        }

        Rule ruleOn(int day) {
            Rule found = null;
            for (int i = 0; i < ruleCount && i < RULES; i++) {
                Rule r = rules[i];
                if (r != null && r.day <= day) {
                    found = r;
                }
            }
            return found;
        }

        int termOn(int day, int what, int seat) {
            Rule r = ruleOn(day);
            return r == null ? 0 : r.termOf(seat, what);
        }

        Leaf leafOn(int day) {
            return isDay(day) ? leaves[day] : null;
        }

        long entriesOn(int day) {
            Leaf l = leafOn(day);
            return l == null ? 0 : l.total();
        }

        void dropEntry(int day) {
            Leaf l = leafOn(day);
            if (l != null) {
                l.dropLatest();
            }
        }

        /** The first open day behind TO, or the one behind the last day. */
        int firstOpenDay() {
            for (int day = Math.max(0, to + 1); day <= LAST_DAY; day++) {
                Leaf l = leafOn(day);
                if (l == null || l.lacksEntries()) {
                    return day;
                }
            }
            return LAST_DAY + 1;
        }

        int firstOfNextYear() {
            return yearsTold > 0 && yearsTold <= YEARS ? ends[yearsTold - 1] + 1 : first;
        }

        int yearsClosedSince(int day) {
            int years = 0;
            for (int i = 0; i < yearsClosed && i < YEARS; i++) {
                if (ends[i] >= day) {
                    years++;
                }
            }
            return years;
        }

        /** Whether the owner's year to a last day must wait for a close of this house. */
        boolean lagsFor(House owner, int last) {
            for (int n = 0; n < tenureCount; n++) {
                Tenure t = tenureAt(n);
                if (t == null || t.partner.owner != owner || t.begin > last) {
                    continue;
                }
                int needed = t.hasEnded() ? Math.min(last, t.end - 1) : last;
                if (to < needed) {
                    return true;
                }
            }
            return false;
        }

        /** Whether a stretch begins on a day, for a tenure or a rule. */
        boolean isParted(int day) {
            for (int n = 0; n < tenureCount; n++) {
                Tenure t = tenureAt(n);
                if (t != null && (t.begin == day || t.end == day)) {
                    return true;
                }
            }
            for (int i = 1; i < ruleCount && i < RULES; i++) {
                Rule r = rules[i];
                Rule ahead = rules[i - 1];
                if (r != null && ahead != null && r.day == day && r.differsFrom(ahead)) {
                    return true;
                }
            }
            return false;
        }

        void receive(int day, long v) {
            int on = Math.max(day, to + 1);
            if (isDay(on)) {
                income[on] += v;
            } else {
                looseSum += v;
            }
        }

        int factOf(int what) {
            switch (what) {
                case 0: return first;
                case 1: return to;
                case 2: return yearsTold;
                case 3: return yearsClosed;
                case 4: return tenureCount;
                case 5: return ruleCount;
                case 6: return moves.count;
                case 7: return mends.count;
                case 8: return closing.count;
                case 9: return firstOpenDay();
                default: return NONE;
            }
        }
    }

    /** A stretch of a close, or a mend: by seats who was in, and what was due. */
    private static final class Stretch {
        final Tenure[] tenures = new Tenure[SEATS];
        final long[] dues = new long[SEATS];
        int firstDay;
        int days;
        long result;
        long nobody;

        void begin(int day) {
            firstDay = day;
            days = 0;
            result = 0;
            nobody = 0;
            Arrays.fill(dues, 0);
        }

        void seatAll(House h) {
            for (int seat = 0; seat < SEATS; seat++) {
                tenures[seat] = h.tenureIn(seat, firstDay);
            }
        }

        int howManyIn() {
            int in = 0;
            for (int seat = 0; seat < SEATS; seat++) {
                in += tenures[seat] == null ? 0 : 1;
            }
            return in;
        }

        long allDues() {
            long all = 0;
            for (int seat = 0; seat < SEATS; seat++) {
                all += dues[seat];
            }
            return all;
        }

        long dueOf(Tenure t) {
            return isSeat(t.seat) && tenures[t.seat] == t ? dues[t.seat] : 0;
        }

        long factOf(int what) {
            switch (what) {
                case 0: return firstDay;
                case 1: return days;
                case 2: return result;
                case 3: return nobody;
                case 4: return allDues();
                case 5: return howManyIn();
                default: return 0;
            }
        }
    }

    /** Rows for a cut by weights, and for the bearing of a loss. */
    private static final class Shares {
        final Tenure[] tenures = new Tenure[YEAR_DAYS];
        final long[] weights = new long[YEAR_DAYS];
        final long[] parts = new long[YEAR_DAYS];
        final long[] rests = new long[YEAR_DAYS];
        final long[] kept = new long[YEAR_DAYS];
        int count;

        void start() {
            count = 0;
        }

        /** One more who shares; the tenure is null where stretches do. */
        void add(Tenure t, long weight) {
            if (count < YEAR_DAYS) {
                tenures[count] = t;
                weights[count] = weight;
                count++;
            }
        }

        long totalWeight() {
            long total = 0;
            for (int i = 0; i < count; i++) {
                total += weights[i];
            }
            return total;
        }

        /** Cuts s into the parts: what was given of it. */
        long cut(long s) {
            long total = totalWeight();
            if (total <= 0) {
                Arrays.fill(parts, 0);
                return 0;
            }
            long size = Math.abs(s);
            long left = size;
            for (int i = 0; i < count; i++) {
                long product = size * weights[i];
                parts[i] = product / total;
                rests[i] = product % total;
                left -= parts[i];
            }
            for (int coin = 0; coin < count && coin < left; coin++) {
                giveCoin();
            }
            if (s < 0) {
                for (int i = 0; i < count; i++) {
                    parts[i] = -parts[i];
                }
            }
            return s;
        }

        private void giveCoin() {
            int best = NONE;
            for (int i = 0; i < count; i++) {
                if (best == NONE || rests[i] > rests[best]) {
                    best = i;
                }
            }
            if (best != NONE) {
                parts[best]++;
                rests[best] = -1;
            }
        }

        /** Shares a loss (above 0) with those who bear all behind the limits: what is nobody's. */
        long shareLoss(long loss) {
            cut(loss);
            long over = 0;
            for (int i = 0; i < count; i++) {
                Tenure t = tenures[i];
                kept[i] = parts[i];
                if (t != null && t.partner.isLimited()) {
                    kept[i] = Math.min(parts[i], t.room());
                    over += parts[i] - kept[i];
                    weights[i] = 0;
                }
            }
            cut(over);
            long nobody = loss;
            for (int i = 0; i < count; i++) {
                parts[i] += kept[i];
                nobody -= parts[i];
            }
            return nobody;
        }
    }

    /** Closes a house's years; the rows of the latest close are used again by the next one. */
    private static final class Closing {
        final Stretch[] stretches = new Stretch[YEAR_DAYS + MENDS];
        final long[] dayMoves = new long[YEAR_DAYS];
        final Shares shares;
        int count;
        long nobodyOfAll;

        Closing(Shares shares) {
            this.shares = shares;
        }

        Stretch at(int i) {
            return i >= 0 && i < count && i < stretches.length ? stretches[i] : null;
        }

        Stretch append(int day) {
            if (count >= stretches.length) {
                return null;
            }
            if (stretches[count] == null) {
                stretches[count] = new Stretch();
            }
            Stretch s = stretches[count];
            count++;
            s.begin(day);
            return s;
        }

        long nobodyOfLatest() {
            long all = 0;
            for (int i = 0; i < count; i++) {
                Stretch s = at(i);
                all += s == null ? 0 : s.nobody;
            }
            return all;
        }

        void closeYear(House h, int last) {
            count = 0;
            partDays(h, last);
            cutLoose(h);
            settleStretches(h);
            settleMends(h);
            bookDues(h);
            nobodyOfAll += nobodyOfLatest();
            h.moves.bookUpTo(last);
            h.mends.count = 0;
            h.undos.clear();
            h.to = last;
            h.yearsClosed++;
            handOver(h, last);
        }

        private void partDays(House h, int last) {
            Stretch s = null;
            for (int day = Math.max(0, h.to + 1); day <= last && day <= LAST_DAY; day++) {
                if (s == null || h.isParted(day)) {
                    s = append(day);
                }
                if (s != null) {
                    s.days++;
                    s.result += h.entriesOn(day) + h.income[day];
                }
            }
        }

        private void cutLoose(House h) {
            shares.start();
            for (int i = 0; i < count; i++) {
                Stretch s = at(i);
                shares.add(null, s == null ? 0 : s.days);
            }
            shares.cut(h.looseSum);
            h.looseSum = 0;
            for (int i = 0; i < shares.count; i++) {
                Stretch s = at(i);
                if (s != null) {
                    s.result += shares.parts[i];
                }
            }
        }

        private void settleStretches(House h) {
            for (int i = 0; i < count; i++) {
                Stretch s = at(i);
                Rule r = s == null ? null : h.ruleOn(s.firstDay);
                if (s == null || r == null) {
                    continue;
                }
                s.seatAll(h);
                long left = s.result - giveWages(s, r) - giveInterest(h, s, r);
                if (left > 0) {
                    shareGain(s, r, left - giveSums(s, r, left));
                } else if (left < 0) {
                    shareLack(s, r, -left);
                }
            }
        }

        private void settleMends(House h) {
            for (int i = 0; i < h.mends.count; i++) {
                Stretch s = append(h.mends.days[i]);
                Rule r = s == null ? null : h.ruleOn(s.firstDay);
                if (s == null || r == null) {
                    continue;
                }
                s.seatAll(h);
                s.result = h.mends.sums[i];
                if (s.result > 0) {
                    shareGain(s, r, s.result);
                } else {
                    shareLack(s, r, -s.result);
                }
            }
        }

        private long giveWages(Stretch s, Rule r) {
            long all = 0;
            for (int seat = 0; seat < SEATS; seat++) {
                Tenure t = s.tenures[seat];
                if (t != null && t.partner.kind == KIND_WORKING) {
                    long wage = (long) r.termOf(seat, WAGE) * s.days;
                    s.dues[seat] += wage;
                    all += wage;
                }
            }
            return all;
        }

        private long giveInterest(House h, Stretch s, Rule r) {
            long all = 0;
            for (int seat = 0; seat < SEATS && r.thousandths > 0; seat++) {
                Tenure t = s.tenures[seat];
                if (t != null) {
                    long interest = creditDays(h.moves, s, t) * r.thousandths / INTEREST_DIVISOR;
                    s.dues[seat] += interest;
                    all += interest;
                }
            }
            return all;
        }

        /** The sum of a tenure's credit over the days of a stretch, without those below 0. */
        private long creditDays(DaySums moves, Stretch s, Tenure t) {
            long credit = t.credit;
            Arrays.fill(dayMoves, 0);
            for (int i = 0; i < moves.count; i++) {
                int offset = moves.days[i] - s.firstDay;
                if (moves.tenures[i] != t || offset >= dayMoves.length) {
                    continue;
                }
                if (offset < 0) {
                    credit += moves.sums[i];
                } else {
                    dayMoves[offset] += moves.sums[i];
                }
            }
            long all = 0;
            for (int offset = 0; offset < s.days && offset < dayMoves.length; offset++) {
                credit += dayMoves[offset];
                all += Math.max(0L, credit);
            }
            return all;
        }

        private long giveSums(Stretch s, Rule r, long left) {
            long given = 0;
            for (int seat = 0; seat < SEATS; seat++) {
                if (s.tenures[seat] != null) {
                    long part = Math.min(r.termOf(seat, FIXED_SUM), left - given);
                    s.dues[seat] += part;
                    given += part;
                }
            }
            return given;
        }

        private void weigh(Stretch s, Rule r, int what) {
            shares.start();
            for (int seat = 0; seat < SEATS; seat++) {
                Tenure t = s.tenures[seat];
                shares.add(t, t == null ? 0 : r.termOf(seat, what));
            }
        }

        private void shareGain(Stretch s, Rule r, long gain) {
            weigh(s, r, PARTS);
            s.nobody = gain - shares.cut(gain);
            for (int seat = 0; seat < SEATS; seat++) {
                s.dues[seat] += shares.parts[seat];
            }
        }

        private void shareLack(Stretch s, Rule r, long lack) {
            weigh(s, r, LOSS_PARTS);
            s.nobody = -shares.shareLoss(lack);
            for (int seat = 0; seat < SEATS; seat++) {
                Tenure t = s.tenures[seat];
                if (t != null) {
                    s.dues[seat] -= shares.parts[seat];
                    t.borneSum += shares.parts[seat];
                }
            }
        }

        private void bookDues(House h) {
            for (int n = 0; n < h.tenureCount; n++) {
                Tenure t = h.tenureAt(n);
                if (t == null) {
                    continue;
                }
                t.dues = 0;
                for (int i = 0; i < count; i++) {
                    Stretch s = at(i);
                    t.dues += s == null ? 0 : s.dueOf(t);
                }
                t.credit += t.dues;
            }
        }

        /** Dues of houses go to those houses; what those who left are owed goes its way. */
        private void handOver(House h, int last) {
            for (int n = 0; n < h.tenureCount; n++) {
                Tenure t = h.tenureAt(n);
                if (t != null && t.partner.owner != null) {
                    t.partner.owner.receive(last, t.dues);
                }
            }
            for (int n = 0; n < h.tenureCount; n++) {
                Tenure t = h.tenureAt(n);
                if (t != null && t.hasEnded() && t.end <= last + 1) {
                    t.payOut();
                }
            }
        }
    }

    /** The circle of houses for which the latest join was refused. */
    private static final class Ring {
        final int[] far = new int[HOUSES];
        final int[] found = new int[HOUSES];
        int length;

        void forget() {
            length = 0;
        }

        int houseAtStep(int i) {
            return i >= 0 && i < length && i < HOUSES ? found[i] : NONE;
        }

        /** Whether the joined house owns, through others too, the one that wants to join. */
        boolean trace(House[] houses, int count, int joined, int joining) {
            if (joined < 0 || joined >= HOUSES || joining < 0 || joining >= HOUSES) {
                return false;
            }
            measure(houses, count, joining);
            if (far[joined] == 0) {
                return false;
            }
            int at = joined;
            length = Math.min(HOUSES, far[joined]);
            for (int i = 0; i < length; i++) {
                found[i] = at;
                at = nextTowards(houses, count, at);
            }
            return true;
        }

        /** How many houses there are from each one to the goal, both counted; 0 where no way is. */
        private void measure(House[] houses, int count, int goal) {
            Arrays.fill(far, 0);
            far[goal] = 1;
            for (int step = 1; step < HOUSES; step++) {
                for (int n = 0; n < count && n < HOUSES; n++) {
                    House owned = houses[n];
                    if (owned != null && far[n] == step) {
                        markOwners(owned, count, step + 1);
                    }
                }
            }
        }

        private void markOwners(House owned, int count, int distance) {
            for (int o = 0; o < count && o < HOUSES; o++) {
                if (far[o] == 0 && owned.isOwnedBy(o)) {
                    far[o] = distance;
                }
            }
        }

        private int nextTowards(House[] houses, int count, int at) {
            int nearer = at >= 0 && at < HOUSES ? far[at] - 1 : 0;
            for (int n = 0; n < count && n < HOUSES && nearer > 0; n++) {
                House owned = houses[n];
                if (owned != null && far[n] == nearer && owned.isOwnedBy(at)) {
                    return n;
                }
            }
            return NONE;
        }
    }
}
