import java.util.function.Function;
import java.util.function.Supplier;

/**
 * "IllegalArgument: there is no such party, security, trade, or another argument is none that is told. IllegalState as
 * told; where both fit, IllegalArgument. A call that throws changes nothing." Every kind of refused call: first values
 * that are not taken, the exception that is due, and that the house is the same inside as one without that call.
 */
public final class RefusalsTest {
    private static final int CASH = SettleHouse.NONE;
    private static final int LEAST = Integer.MIN_VALUE;
    private static final int GREATEST = Integer.MAX_VALUE;
    private static final int[] NO_PARTIES = {-1, 16, LEAST, GREATEST};
    private static final int[] NO_SECURITIES = {-2, 8, LEAST, GREATEST};

    private static final int SETTLED = 0;
    private static final int EXPIRED = 1;
    private static final int CANCELLED = 2;
    private static final int TOLD_BY_DELIVERER = 3;
    private static final int TOLD_BY_RECEIVER = 4;
    private static final int LINKED = 5;
    private static final int ALONE = 7;
    private static final int[] NO_TRADES = {-1, 9, 149, 150, LEAST, GREATEST};
    private static final int[] CLOSED = {SETTLED, EXPIRED, CANCELLED};

    public static void main(String[] args) {
        theMarket();
        fund();
        holiday();
        tell();
        tellOfWhatWouldMatch();
        hold();
        rank();
        link();
        linkOfTooMany();
        cancel();
        goTo();
        theLastDay();
        has();
        trade();
        business();
        date();
        count();
        fullHouse();
        Check.finish();
    }

    /** Thursday, day 14: a trade of every state, and of the pending ones a group, a hold and a wish. */
    private static SettleHouse market() {
        SettleHouse x = new SettleHouse();
        x.fund(0, 0, 5);
        x.fund(1, CASH, 50);
        Scene.pending(x, 0, 1, 3, 30);
        Scene.pending(x, 2, 3, 4, 0);
        x.goTo(14);
        x.cancel(x.tell(0, 1, true, 0, 9, 9, 14, 0), 0);
        x.tell(0, 1, true, 0, 1, 10, 14, 0);
        x.tell(1, 0, false, 0, 2, 10, 14, 0);
        x.link(Scene.pending(x, 0, 1, 1, 5), Scene.pending(x, 1, 2, 3, 0));
        x.rank(Scene.pendingOn(x, 0, 3, 0, 8, 0, 14, 2), 2, true);
        int last = Scene.pending(x, 1, 0, 1, 1);
        x.hold(last, 0, true);
        x.cancel(last, 1);
        x.holiday(16);
        x.holiday(19);
        return x;
    }

    private static void theMarket() {
        SettleHouse x = market();
        Check.due("states", "2 4 3 0 0 1 1 1 1", () -> Scene.ofEach(x, 0));
        Check.due("groups", "0 0 0 0 0 2 2 1 1", () -> Scene.ofEach(x, 9));
        Check.due("due days", "0 0 -1 -1 -1 14 14 18 14", () -> Scene.ofEach(x, 1));
    }

    private static void argument(String what, Function<SettleHouse, Object> call) {
        refused(what, "throws.IllegalArgumentException", RefusalsTest::market, call);
    }

    private static void state(String what, Function<SettleHouse, Object> call) {
        refused(what, "throws.IllegalStateException", RefusalsTest::market, call);
    }

    private static void refused(String what, String exception, Supplier<SettleHouse> scene, Function<SettleHouse, Object> call) {
        for (int way = 0; way < Scene.WAYS; way++) {
            int look = way;
            SettleHouse x = scene.get();
            Check.due(what, exception, () -> call.apply(x));
            String untouched = Scene.inside(scene.get(), look);
            Check.due(what + " changes nothing", untouched, () -> Scene.inside(x, look));
        }
    }

    private static void fund() {
        for (int p : NO_PARTIES) {
            argument("fund, party " + p, x -> x.fund(p, 0, 1));
            argument("fund, cash, party " + p, x -> x.fund(p, CASH, 1));
        }
        for (int s : NO_SECURITIES) {
            argument("fund, security " + s, x -> x.fund(0, s, 1));
        }
        for (int n : new int[] {0, -1, 1000000001, LEAST, GREATEST}) {
            argument("fund, n " + n, x -> x.fund(0, 0, n));
            argument("fund, cash, n " + n, x -> x.fund(15, CASH, n));
        }
    }

    private static void holiday() {
        for (int day : new int[] {14, 13, 1, 0, -1, 20001, LEAST, GREATEST}) {
            argument("holiday, day " + day, x -> x.holiday(day));
        }
    }

    private static void tell() {
        for (int p : NO_PARTIES) {
            argument("tell, party " + p, x -> x.tell(p, 1, true, 0, 1, 1, 14, 0));
            argument("tell, other " + p, x -> x.tell(0, p, true, 0, 1, 1, 14, 0));
        }
        for (int p : new int[] {0, 15, -1, 16}) {
            argument("tell, both " + p, x -> x.tell(p, p, true, 0, 1, 1, 14, 0));
        }
        for (int s : new int[] {CASH, -2, 8, LEAST, GREATEST}) {
            argument("tell, security " + s, x -> x.tell(0, 1, true, s, 1, 1, 14, 0));
        }
        for (int quantity : new int[] {-1, 1000001, LEAST, GREATEST}) {
            argument("tell, quantity " + quantity, x -> x.tell(0, 1, true, 0, quantity, 1, 14, 0));
        }
        for (int amount : new int[] {-1, 1000000001, LEAST, GREATEST}) {
            argument("tell, amount " + amount, x -> x.tell(0, 1, true, 0, 1, amount, 14, 0));
        }
        argument("tell, quantity and amount 0", x -> x.tell(0, 1, true, 0, 0, 0, 14, 0));
        argument("tell, quantity 1 and amount -1", x -> x.tell(0, 1, true, 0, 1, -1, 14, 0));
        argument("tell, quantity -1 and amount 1", x -> x.tell(0, 1, true, 0, -1, 1, 14, 0));
        for (int day : new int[] {-1, 15, 20000, LEAST, GREATEST}) {
            argument("tell, day " + day, x -> x.tell(0, 1, true, 0, 1, 1, day, 0));
        }
        for (int lag : new int[] {-1, 11, LEAST, GREATEST}) {
            argument("tell, lag " + lag, x -> x.tell(0, 1, true, 0, 1, 1, 14, lag));
        }
    }

    /** The other side of what is unmatched, but for one argument. */
    private static void tellOfWhatWouldMatch() {
        argument("tell, other side, party", x -> x.tell(16, 0, false, 0, 1, 10, 14, 0));
        argument("tell, other side, other", x -> x.tell(1, -1, false, 0, 1, 10, 14, 0));
        argument("tell, other side, security", x -> x.tell(1, 0, false, 8, 1, 10, 14, 0));
        argument("tell, other side, day", x -> x.tell(1, 0, false, 0, 1, 10, 15, 0));
        argument("tell, other side, lag", x -> x.tell(1, 0, false, 0, 1, 10, 14, 11));
        argument("tell, both are the one who told it", x -> x.tell(0, 0, false, 0, 1, 10, 14, 0));
    }

    private static void hold() {
        for (int t : NO_TRADES) {
            argument("hold, trade " + t, x -> x.hold(t, 0, true));
        }
        for (int p : NO_PARTIES) {
            argument("hold, party " + p, x -> x.hold(ALONE, p, true));
        }
        for (boolean on : new boolean[] {true, false}) {
            argument("hold, no side of a pending one " + on, x -> x.hold(ALONE, 1, on));
            argument("hold, no side of an unmatched one " + on, x -> x.hold(TOLD_BY_DELIVERER, 2, on));
            for (int t : CLOSED) {
                int deliverer = t == EXPIRED ? 2 : 0;
                state("hold, closed " + t + " " + on, x -> x.hold(t, deliverer, on));
                state("hold, closed " + t + " " + on, x -> x.hold(t, deliverer + 1, on));
                argument("hold, no side of the closed " + t + " " + on, x -> x.hold(t, 5, on));
                argument("hold, no party, closed " + t + " " + on, x -> x.hold(t, 16, on));
            }
        }
    }

    private static void rank() {
        for (int t : NO_TRADES) {
            argument("rank, trade " + t, x -> x.rank(t, 0, true));
        }
        for (int priority : new int[] {-1, 4, LEAST, GREATEST}) {
            argument("rank, priority " + priority + ", pending", x -> x.rank(LINKED, priority, true));
            argument("rank, priority " + priority + ", unmatched", x -> x.rank(TOLD_BY_RECEIVER, priority, true));
            for (int t : CLOSED) {
                argument("rank, priority " + priority + ", closed " + t, x -> x.rank(t, priority, true));
            }
        }
        for (int t : CLOSED) {
            state("rank, closed " + t, x -> x.rank(t, 3, true));
        }
    }

    private static void link() {
        for (int t : NO_TRADES) {
            argument("link, one " + t, x -> x.link(t, ALONE));
            argument("link, other " + t, x -> x.link(ALONE, t));
            argument("link, both " + t, x -> x.link(t, t));
            argument("link, one " + t + ", other unmatched", x -> x.link(t, TOLD_BY_DELIVERER));
            argument("link, other " + t + ", one closed", x -> x.link(SETTLED, t));
        }
        for (int t : new int[] {TOLD_BY_DELIVERER, TOLD_BY_RECEIVER, SETTLED, EXPIRED, CANCELLED}) {
            state("link, one " + t + " not pending", x -> x.link(t, ALONE));
            state("link, other " + t + " not pending", x -> x.link(ALONE, t));
            state("link, other " + t + " not pending, one in a group", x -> x.link(LINKED, t));
            state("link, both " + t + " not pending", x -> x.link(t, t));
        }
    }

    /** Groups of four, three and one. */
    private static SettleHouse groups() {
        SettleHouse x = new SettleHouse();
        x.fund(0, 0, 8);
        for (int i = 0; i < 8; i++) {
            Scene.pending(x, 0, 1, 1, 0);
        }
        for (int[] pair : new int[][] {{0, 1}, {0, 2}, {0, 3}, {4, 5}, {4, 6}}) {
            x.link(pair[0], pair[1]);
        }
        return x;
    }

    /** Groups of six and two. */
    private static SettleHouse fullGroup() {
        SettleHouse x = new SettleHouse();
        x.fund(0, 0, 7);
        for (int i = 0; i < 8; i++) {
            Scene.pending(x, 0, 1, 1, 0);
        }
        for (int i = 1; i < 6; i++) {
            x.link(i, 0);
        }
        x.link(6, 7);
        return x;
    }

    private static void linkOfTooMany() {
        String exception = "throws.IllegalStateException";
        refused("link, four and three", exception, RefusalsTest::groups, x -> x.link(0, 4));
        refused("link, three and four", exception, RefusalsTest::groups, x -> x.link(6, 3));
        refused("link, six and two", exception, RefusalsTest::fullGroup, x -> x.link(5, 6));
        refused("link, two and six", exception, RefusalsTest::fullGroup, x -> x.link(7, 0));
        refused("link, six and no such trade", "throws.IllegalArgumentException", RefusalsTest::fullGroup, x -> x.link(0, 8));
    }

    private static void cancel() {
        for (int t : NO_TRADES) {
            argument("cancel, trade " + t, x -> x.cancel(t, 0));
        }
        for (int p : NO_PARTIES) {
            argument("cancel, party " + p, x -> x.cancel(ALONE, p));
        }
        argument("cancel, no side of a pending one", x -> x.cancel(ALONE, 1));
        argument("cancel, no side of one that somebody wishes to cancel", x -> x.cancel(8, 2));
        argument("cancel, no side of an unmatched one", x -> x.cancel(TOLD_BY_RECEIVER, 2));
        for (int t : CLOSED) {
            int deliverer = t == EXPIRED ? 2 : 0;
            state("cancel, closed " + t, x -> x.cancel(t, deliverer));
            state("cancel, closed " + t, x -> x.cancel(t, deliverer + 1));
            argument("cancel, no side of the closed " + t, x -> x.cancel(t, 5));
            argument("cancel, no party, closed " + t, x -> x.cancel(t, -1));
        }
    }

    private static void goTo() {
        for (int day : new int[] {14, 13, 0, -1, -386, 415, 20000, 20001, LEAST, GREATEST}) {
            argument("goTo, day " + day, x -> x.goTo(day));
        }
        refused("goTo above the last day, though 400 on", "throws.IllegalArgumentException",
                () -> Scene.houseOnDay(19601), x -> x.goTo(20001));
    }

    private static SettleHouse lastDay() {
        SettleHouse x = Scene.houseOnDay(20000);
        x.fund(0, 0, 5);
        Scene.pending(x, 0, 1, 1, 0);
        x.tell(0, 1, true, 0, 2, 0, 20000, 1);
        return x;
    }

    private static void theLastDay() {
        refused("nextDay on the last day", "throws.IllegalStateException", RefusalsTest::lastDay, x -> x.nextDay());
        for (int day : new int[] {19999, 20000, 20001, 20400}) {
            refused("goTo on the last day, " + day, "throws.IllegalArgumentException", RefusalsTest::lastDay, x -> x.goTo(day));
            refused("holiday on the last day, " + day, "throws.IllegalArgumentException", RefusalsTest::lastDay, x -> x.holiday(day));
        }
        refused("tell on the last day, the day behind it", "throws.IllegalArgumentException", RefusalsTest::lastDay,
                x -> x.tell(1, 0, false, 0, 2, 0, 20001, 1));
    }

    private static void has() {
        for (int p : NO_PARTIES) {
            argument("has, party " + p, x -> x.has(p, 0));
            argument("has, cash, party " + p, x -> x.has(p, CASH));
        }
        for (int s : NO_SECURITIES) {
            argument("has, security " + s, x -> x.has(0, s));
        }
    }

    private static void trade() {
        for (int t : NO_TRADES) {
            argument("trade, trade " + t, x -> x.trade(t, 0));
        }
        for (int what : new int[] {-1, 11, LEAST, GREATEST}) {
            argument("trade, what " + what, x -> x.trade(0, what));
        }
    }

    private static void business() {
        for (int day : new int[] {-1, 20001, LEAST, GREATEST}) {
            argument("business, day " + day + ", n 0", x -> x.business(day, 0));
            argument("business, day " + day + ", n 1", x -> x.business(day, 1));
        }
        for (int n : new int[] {-1, 1001, LEAST, GREATEST}) {
            argument("business, n " + n, x -> x.business(0, n));
        }
    }

    private static void date() {
        for (int part : new int[] {-1, 5, LEAST, GREATEST}) {
            argument("date, part " + part, x -> x.date(part));
        }
    }

    private static void count() {
        for (int state : new int[] {-1, 5, LEAST, GREATEST}) {
            argument("count, state " + state, x -> x.count(state));
        }
    }

    /** Of 150 trades just some rows are looked at, since an object stands 512 calls. */
    private static void fullHouse() {
        SettleHouse x = new SettleHouse();
        for (int i = 0; i < 150; i++) {
            x.tell(0, 1, true, 0, 1 + i, 0, 0, 0);
        }
        Check.badState("tell, there are 150", () -> x.tell(0, 1, true, 0, 151, 0, 0, 0));
        Check.badState("tell, there are 150, told by another", () -> x.tell(2, 3, false, 7, 1, 1, 0, 10));
        Check.badArgument("tell, there are 150, no such party", () -> x.tell(16, 1, true, 0, 151, 0, 0, 0));
        Check.badArgument("tell, there are 150, no such security", () -> x.tell(0, 1, true, -1, 151, 0, 0, 0));
        Check.badArgument("tell, there are 150, both the same", () -> x.tell(1, 1, true, 0, 151, 0, 0, 0));
        Check.badArgument("tell, there are 150, no such quantity", () -> x.tell(0, 1, true, 0, 0, 0, 0, 0));
        Check.badArgument("tell, there are 150, no such day", () -> x.tell(0, 1, true, 0, 151, 0, 1, 0));
        Check.badArgument("tell, there are 150, no such lag", () -> x.tell(0, 1, true, 0, 151, 0, 0, 11));
        Check.due("150 are unmatched", "150 0 0 0 0", () -> x.count(0) + " " + x.count(1) + " " + x.count(2)
                + " " + x.count(3) + " " + x.count(4));
        Check.due("the first one", "0 -1 1 0 0 1 0 0 1 0 0", () -> Scene.tradeRow(x, 0));
        Check.due("the last one", "0 -1 150 0 0 1 0 0 1 0 0", () -> Scene.tradeRow(x, 149));
        Check.badArgument("no one behind it", () -> x.trade(150, 0));
    }
}
