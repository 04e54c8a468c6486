import java.util.ArrayList;

/**
 * Securities against cash: what both sides have told alike is a trade, settled on a business day
 * when all that belongs together is covered, wholly or in parts, and otherwise fails from day to
 * day until it expires.
 */
public final class SettleHouse {
    /** Stands for cash where a security is asked for, and for an answer that there is none. */
    public static final int NONE = -1;

    private static final int PARTIES = 16;
    private static final int SECURITIES = 8;
    private static final int ASSETS = SECURITIES + 1;

    private static final int UNMATCHED = 0;
    private static final int PENDING = 1;
    private static final int SETTLED = 2;
    private static final int CANCELLED = 3;
    private static final int EXPIRED = 4;

    private static final int MOST_FUNDED_AT_ONCE = 1000000000;
    private static final long MOST_AFTER_FUNDING = 1000000000000L;
    private static final int MOST_TRADES = 150;
    private static final int MOST_QUANTITY = 1000000;
    private static final int MOST_AMOUNT = 1000000000;
    private static final int MOST_LAG = 10;
    private static final int FIRST_PRIORITY = 1;
    private static final int MOST_PRIORITY = 3;
    private static final int MOST_IN_GROUP = 6;
    private static final int FAILS_TO_EXPIRE = 10;

    private static final int LAST_DAY = 20000;
    private static final int FARTHEST_JUMP = 400;
    private static final int MOST_BUSINESS_DAYS = 1000;
    // Behind the last day there are no holidays, so a thousand business days end far before this.
    private static final int SEARCH_END = 2 * LAST_DAY;
    private static final int DATE_PARTS = 5;
    private static final int FIRST_YEAR = 1970;
    private static final int YEARS_END = 2100;
    private static final int[] MONTH_LENGTHS = {31, 28, 31, 30, 31, 30, 31, 31, 30, 31, 30, 31};

    private final Days days;
    private final Vault vault;
    private final Journal journal;
    private final ArrayList<Trade> trades;
    private final ArrayList<Group> readyGroups;

    public SettleHouse() {
        days = new Days();
        vault = new Vault();
        journal = new Journal();
        trades = new ArrayList<>();
        readyGroups = new ArrayList<>();
    }

    public long fund(int party, int security, int n) throws IllegalArgumentException, IllegalStateException {
        checkArgument(isParty(party) && isAsset(security) && isWithin(n, 1, MOST_FUNDED_AT_ONCE));
        checkState(vault.held(party, security) + n <= MOST_AFTER_FUNDING);
        vault.bring(party, security, n);
        return vault.held(party, security);
    }

    public boolean holiday(int day) throws IllegalArgumentException {
        checkArgument(day > days.today && day <= LAST_DAY);
        boolean wasNone = !days.isHoliday(day);
        days.markHoliday(day);
        return wasNone;
    }

    public int tell(int party, int other, boolean delivers, int security, int quantity, int amount, int day, int lag)
            throws IllegalArgumentException, IllegalStateException {
        checkArgument(isParty(party) && isParty(other) && party != other && isWithin(security, 0, SECURITIES - 1));
        checkArgument(isWithin(quantity, 0, MOST_QUANTITY) && isWithin(amount, 0, MOST_AMOUNT));
        checkArgument(quantity > 0 || amount > 0);
        checkArgument(isWithin(day, 0, days.today) && isWithin(lag, 0, MOST_LAG));
        checkState(trades.size() < MOST_TRADES);
        int deliverer = delivers ? party : other;
        int receiver = delivers ? other : party;
        Terms terms = new Terms(deliverer, receiver, security, quantity, amount, day, lag);
        Trade known = firstUnmatched(terms, other);
        if (known != null) {
            match(known);
            return known.number;
        }
        trades.add(new Trade(trades.size(), party, terms));
        return trades.size() - 1;
    }

    public boolean hold(int trade, int party, boolean on) throws IllegalArgumentException, IllegalStateException {
        Trade told = find(trade);
        Side side = findSide(told, party);
        checkState(told.isOpen());
        boolean changes = side.holds != on;
        side.holds = on;
        return changes;
    }

    public int rank(int trade, int priority, boolean inParts) throws IllegalArgumentException, IllegalStateException {
        Trade told = find(trade);
        checkArgument(isWithin(priority, 0, MOST_PRIORITY));
        checkState(told.isOpen());
        int before = told.priority;
        told.priority = priority;
        told.inParts = inParts;
        return before;
    }

    public int link(int one, int other) throws IllegalArgumentException, IllegalStateException {
        Group group = find(one).group;
        Group joining = find(other).group;
        // Just the pending trades stand in groups.
        if (group == null || joining == null) {
            throw new IllegalStateException();
        }
        if (group != joining) {
            checkState(group.size() + joining.size() <= MOST_IN_GROUP);
            group.absorb(joining);
        }
        return group.size();
    }

    public int cancel(int trade, int party) throws IllegalArgumentException, IllegalStateException {
        Trade told = find(trade);
        Side side = findSide(told, party);
        checkState(told.isOpen());
        side.wishesToCancel = true;
        if (told.state == UNMATCHED || told.bothWishToCancel()) {
            told.end(CANCELLED);
        }
        return told.state;
    }

    public int nextDay() throws IllegalStateException {
        checkState(days.today < LAST_DAY);
        return passToNextDay();
    }

    public int goTo(int day) throws IllegalArgumentException {
        checkArgument(day > days.today && day <= LAST_DAY && day - days.today <= FARTHEST_JUMP);
        int wholly = 0;
        for (int left = day - days.today; left > 0; left--) {
            wholly += passToNextDay();
        }
        return wholly;
    }

    public long has(int party, int security) throws IllegalArgumentException {
        checkArgument(isParty(party) && isAsset(security));
        return vault.held(party, security);
    }

    public int trade(int trade, int what) throws IllegalArgumentException {
        Trade told = find(trade);
        switch (what) {
            case 0: return told.state;
            case 1: return told.dueDay;
            case 2: return told.quantityLeft;
            case 3: return told.amountLeft;
            case 4: return told.terms.deliverer;
            case 5: return told.terms.receiver;
            case 6: return told.terms.security;
            case 7: return told.fails;
            case 8: return told.priority;
            case 9: return told.group == null ? 0 : told.group.size();
            case 10: return told.inParts ? 1 : 0;
            default: throw new IllegalArgumentException();
        }
    }

    public int settled(int i, int what) {
        return journal.read(i, what);
    }

    public int business(int day, int n) throws IllegalArgumentException {
        checkArgument(isWithin(day, 0, LAST_DAY) && isWithin(n, 0, MOST_BUSINESS_DAYS));
        return days.businessDayBehind(day, n);
    }

    public int date(int part) throws IllegalArgumentException {
        checkArgument(isWithin(part, 0, DATE_PARTS - 1));
        return days.partOfToday(part);
    }

    public int count(int state) throws IllegalArgumentException {
        checkArgument(isWithin(state, UNMATCHED, EXPIRED));
        int found = 0;
        for (int i = 0; i < trades.size(); i++) {
            if (trades.get(i).state == state) {
                found++;
            }
        }
        return found;
    }

    public int astray() {
        int found = 0;
        for (int asset = NONE; asset < SECURITIES; asset++) {
            if (vault.isAstray(asset)) {
                found++;
            }
        }
        return found;
    }

    private static void checkArgument(boolean fits) {
        if (!fits) {
            throw new IllegalArgumentException();
        }
    }

    private static void checkState(boolean fits) {
        if (!fits) {
            throw new IllegalStateException();
        }
    }

    private static boolean isWithin(int x, int least, int most) {
        return x >= least && x <= most;
    }

    private static boolean isParty(int party) {
        return isWithin(party, 0, PARTIES - 1);
    }

    private static boolean isAsset(int security) {
        return isWithin(security, NONE, SECURITIES - 1);
    }

    private Trade find(int number) {
        if (number < 0 || number >= trades.size()) {
            throw new IllegalArgumentException();
        }
        return trades.get(number);
    }

    private static Side findSide(Trade told, int party) {
        if (party == told.terms.deliverer) {
            return told.delivererSide;
        }
        if (party == told.terms.receiver) {
            return told.receiverSide;
        }
        throw new IllegalArgumentException();
    }

    private Trade firstUnmatched(Terms terms, int teller) {
        for (int i = 0; i < trades.size(); i++) {
            Trade told = trades.get(i);
            if (told.state == UNMATCHED && told.teller == teller && told.terms.isLike(terms)) {
                return told;
            }
        }
        return null;
    }

    private void match(Trade told) {
        told.state = PENDING;
        told.dueDay = days.businessDayBehind(told.terms.day, told.terms.lag);
        new Group().takeIn(told);
    }

    private int passToNextDay() {
        days.today++;
        return days.isBusinessDay(days.today) ? runCycle() : 0;
    }

    private int runCycle() {
        gatherReadyGroups();
        int wholly = 0;
        // Each round but the last settles a trade, so there is one round more than trades at most.
        for (int round = 0; round <= MOST_TRADES; round++) {
            int more = settleCoveredGroups();
            if (more == 0) {
                break;
            }
            wholly += more;
        }
        settleParts();
        failDueTrades();
        return wholly;
    }

    /** Settling changes neither the order of the other groups nor whether they are ready: once a day is enough. */
    private void gatherReadyGroups() {
        readyGroups.clear();
        for (int i = 0; i < trades.size(); i++) {
            Trade told = trades.get(i);
            if (told.group != null && told.group.isLedBy(told) && told.group.isReady(days.today)) {
                putInOrder(told.group);
            }
        }
    }

    /** Groups come by their least numbers, so one goes behind all that have its priority. */
    private void putInOrder(Group group) {
        int place = readyGroups.size();
        while (place > 0 && readyGroups.get(place - 1).priority() < group.priority()) {
            place--;
        }
        readyGroups.add(place, group);
    }

    private int settleCoveredGroups() {
        int wholly = 0;
        for (int i = 0; i < readyGroups.size(); i++) {
            Group group = readyGroups.get(i);
            if (group.size() > 0 && isCovered(group)) {
                wholly += settleWholly(group);
            }
        }
        return wholly;
    }

    /** Nobody loses but a deliverer of its security and a receiver of cash, so no others are looked at. */
    private boolean isCovered(Group group) {
        for (int i = 0; i < group.members.size(); i++) {
            Terms terms = group.members.get(i).terms;
            int security = terms.security;
            long holdings = vault.held(terms.deliverer, security) + group.changeOf(terms.deliverer, security);
            long cash = vault.held(terms.receiver, NONE) + group.changeOf(terms.receiver, NONE);
            if (holdings < 0 || cash < 0) {
                return false;
            }
        }
        return true;
    }

    private int settleWholly(Group group) {
        int wholly = group.size();
        for (int left = wholly; left > 0 && !group.members.isEmpty(); left--) {
            Trade first = group.members.get(0);
            settle(first, first.quantityLeft, first.amountLeft);
            first.end(SETTLED);
        }
        return wholly;
    }

    private void settle(Trade told, int quantity, int amount) {
        Terms terms = told.terms;
        vault.move(terms.deliverer, terms.receiver, terms.security, quantity);
        vault.move(terms.receiver, terms.deliverer, NONE, amount);
        told.quantityLeft -= quantity;
        told.amountLeft -= amount;
        journal.write(told.number, quantity, amount, days.today);
    }

    private void settleParts() {
        for (int i = 0; i < readyGroups.size(); i++) {
            Group group = readyGroups.get(i);
            if (group.members.size() == 1) {
                settlePartOf(group.members.get(0));
            }
        }
    }

    private void settlePartOf(Trade alone) {
        int part = alone.inParts ? greatestPart(alone) : 0;
        if (part > 0) {
            settle(alone, part, alone.shareOfAmount(part));
        }
    }

    private int greatestPart(Trade told) {
        long part = Math.min(told.quantityLeft - 1, vault.held(told.terms.deliverer, told.terms.security));
        long cash = vault.held(told.terms.receiver, NONE);
        if (told.amountLeft > 0 && told.amountLeft > cash) {
            // amount * part / quantity, downward, is at most cash just if amount * part < (cash + 1) * quantity.
            part = Math.min(part, ((cash + 1) * told.quantityLeft - 1) / told.amountLeft);
        }
        return (int) part;
    }

    private void failDueTrades() {
        for (int i = 0; i < trades.size(); i++) {
            Trade told = trades.get(i);
            if (told.state == PENDING && told.dueDay <= days.today) {
                told.fails++;
                if (told.fails == FAILS_TO_EXPIRE) {
                    told.end(EXPIRED);
                }
            }
        }
    }

    /** The calendar. */
    private static final class Days {
        private final int[] holidayBits = new int[LAST_DAY / 32 + 1];
        private int today = 0;

        private boolean isHoliday(int day) {
            return day >= 0 && day <= LAST_DAY && (holidayBits[day / 32] >> (day % 32) & 1) == 1;
        }

        private void markHoliday(int day) {
            if (day >= 0 && day <= LAST_DAY) {
                holidayBits[day / 32] |= 1 << (day % 32);
            }
        }

        /** Monday is 1, Sunday is 7; day 0 is a Thursday. */
        private static int weekday(int day) {
            return (day + 3) % 7 + 1;
        }

        private boolean isBusinessDay(int day) {
            return weekday(day) < 6 && !isHoliday(day);
        }

        private int businessDayBehind(int day, int n) {
            int reached = day;
            int left = n;
            for (int next = day + 1; left > 0 && next < SEARCH_END; next++) {
                if (isBusinessDay(next)) {
                    reached = next;
                    left--;
                }
            }
            return reached;
        }

        private int partOfToday(int part) {
            int year = FIRST_YEAR;
            int rest = today;
            while (year < YEARS_END && rest >= yearLength(year)) {
                rest -= yearLength(year);
                year++;
            }
            int month = 1;
            while (month < 12 && rest >= monthLength(year, month)) {
                rest -= monthLength(year, month);
                month++;
            }
            switch (part) {
                case 0: return year;
                case 1: return month;
                case 2: return rest + 1;
                case 3: return weekday(today);
                default: return today;
            }
        }

        private static boolean isLeap(int year) {
            return year % 4 == 0 && (year % 100 != 0 || year % 400 == 0);
        }

        private static int yearLength(int year) {
            return isLeap(year) ? 366 : 365;
        }

        private static int monthLength(int year, int month) {
            if (month < 1 || month > 12) {
                return 0;
            }
            return month == 2 && isLeap(year) ? 29 : MONTH_LENGTHS[month - 1];
        }
    }

    /** What every party has: cash in the first place of its row, then the securities. */
    private static final class Vault {
        private final long[][] cells = new long[PARTIES][ASSETS];
        private final long[] funded = new long[ASSETS];

        private long held(int party, int asset) {
            return cells[party][asset - NONE];
        }

        private void bring(int party, int asset, int n) {
            cells[party][asset - NONE] += n;
            funded[asset - NONE] += n;
        }

        private void move(int from, int to, int asset, int n) {
            cells[from][asset - NONE] -= n;
            cells[to][asset - NONE] += n;
        }

        private boolean isAstray(int asset) {
            long sum = 0;
            boolean below = false;
            for (int party = 0; party < PARTIES; party++) {
                sum += held(party, asset);
                below = below || held(party, asset) < 0;
            }
            return below || sum != funded[asset - NONE];
        }
    }

    /** What was settled, a row for each time, from the first on. */
    private static final class Journal {
        private static final int COLUMNS = 4;
        // A trade is settled once a day at most, and with each day but a last one it fails.
        private static final int MOST_ROWS = MOST_TRADES * FAILS_TO_EXPIRE;

        private final int[] cells = new int[MOST_ROWS * COLUMNS];
        private int rows = 0;

        private void write(int number, int quantity, int amount, int day) {
            if (rows < MOST_ROWS) {
                cells[rows * COLUMNS] = number;
                cells[rows * COLUMNS + 1] = quantity;
                cells[rows * COLUMNS + 2] = amount;
                cells[rows * COLUMNS + 3] = day;
                rows++;
            }
        }

        private int read(int row, int column) {
            if (row < 0 || row >= rows || column < 0 || column >= COLUMNS) {
                return NONE;
            }
            return cells[row * COLUMNS + column];
        }
    }

    /** What both sides must tell alike. */
    private static final class Terms {
        private final int deliverer;
        private final int receiver;
        private final int security;
        private final int quantity;
        private final int amount;
        private final int day;
        private final int lag;

        private Terms(int deliverer, int receiver, int security, int quantity, int amount, int day, int lag) {
            this.deliverer = deliverer;
            this.receiver = receiver;
            this.security = security;
            this.quantity = quantity;
            this.amount = amount;
            this.day = day;
            this.lag = lag;
        }

        private boolean isLike(Terms other) {
            return deliverer == other.deliverer && receiver == other.receiver && security == other.security
                    && quantity == other.quantity && amount == other.amount && day == other.day && lag == other.lag;
        }
    }

    /** What one of both sides has said of a trade beside its terms. */
    private static final class Side {
        private boolean holds = false;
        private boolean wishesToCancel = false;
    }

    private static final class Trade {
        private final int number;
        private final int teller;
        private final Terms terms;
        private final Side delivererSide = new Side();
        private final Side receiverSide = new Side();
        private int state = UNMATCHED;
        private int dueDay = NONE;
        private int quantityLeft;
        private int amountLeft;
        private int fails = 0;
        private int priority = FIRST_PRIORITY;
        private boolean inParts = false;
        private Group group = null;

        private Trade(int number, int teller, Terms terms) {
            this.number = number;
            this.teller = teller;
            this.terms = terms;
            quantityLeft = terms.quantity;
            amountLeft = terms.amount;
        }

        private boolean isOpen() {
            return state == UNMATCHED || state == PENDING;
        }

        private boolean isFreeToSettle(int today) {
            return dueDay <= today && !delivererSide.holds && !receiverSide.holds;
        }

        private boolean bothWishToCancel() {
            return delivererSide.wishesToCancel && receiverSide.wishesToCancel;
        }

        private void end(int endState) {
            state = endState;
            if (group != null) {
                group.drop(this);
                group = null;
            }
        }

        /** By how much a party's cash or holdings would be more, were all that is left settled. */
        private long change(int party, int asset) {
            long change = 0;
            if (asset == NONE) {
                change += party == terms.deliverer ? amountLeft : 0;
                change -= party == terms.receiver ? amountLeft : 0;
            } else if (asset == terms.security) {
                change += party == terms.receiver ? quantityLeft : 0;
                change -= party == terms.deliverer ? quantityLeft : 0;
            }
            return change;
        }

        private int shareOfAmount(int part) {
            return quantityLeft > 0 ? (int) ((long) amountLeft * part / quantityLeft) : 0;
        }
    }

    /** Pending trades that are settled together or not at all, by their numbers. */
    private static final class Group {
        private final ArrayList<Trade> members = new ArrayList<>();

        private int size() {
            return members.size();
        }

        private boolean isLedBy(Trade told) {
            return members.size() > 0 && members.get(0) == told;
        }

        private void takeIn(Trade told) {
            int place = members.size();
            while (place > 0 && members.get(place - 1).number > told.number) {
                place--;
            }
            members.add(place, told);
            told.group = this;
        }

        private void absorb(Group other) {
            for (int i = 0; i < other.members.size(); i++) {
                takeIn(other.members.get(i));
            }
            other.members.clear();
        }

        private void drop(Trade told) {
            for (int i = 0; i < members.size(); i++) {
                if (members.get(i) == told) {
                    members.remove(i);
                    break;
                }
            }
        }

        private boolean isReady(int today) {
            for (int i = 0; i < members.size(); i++) {
                if (!members.get(i).isFreeToSettle(today)) {
                    return false;
                }
            }
            return true;
        }

        private int priority() {
            int greatest = 0;
            for (int i = 0; i < members.size(); i++) {
                greatest = Math.max(greatest, members.get(i).priority);
            }
            return greatest;
        }

        private long changeOf(int party, int asset) {
            long sum = 0;
            for (int i = 0; i < members.size(); i++) {
                sum += members.get(i).change(party, asset);
            }
            return sum;
        }
    }
}
