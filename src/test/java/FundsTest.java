/** Promises 1 (a new object), 2 (fund), 11 (has) and 17 (astray). */
public final class FundsTest {
    private static final int CASH = SettleHouse.NONE;

    public static void main(String[] args) {
        newObject();
        fund();
        fundRefuses();
        fundAboveTheLimit();
        fundAboveTheLimitByTrades();
        has();
        astray();
        Check.finish();
    }

    private static void newObject() {
        SettleHouse x = new SettleHouse();
        for (int party = 0; party < 16; party++) {
            for (int security = CASH; security < 8; security++) {
                int p = party;
                int s = security;
                Check.due("new: has(" + p + ", " + s + ")", 0, () -> x.has(p, s));
            }
        }
        for (int state = 0; state < 5; state++) {
            int s = state;
            Check.due("new: count(" + s + ")", 0, () -> x.count(s));
        }
        Check.badArgument("new: no trade 0", () -> x.trade(0, 0));
        Check.due("new: nothing settled", -1, () -> x.settled(0, 0));
        Check.due("new: today", 0, () -> x.date(4));
        Check.due("new: no holiday in five weeks", 35, () -> x.business(0, 25));
        Check.due("new: astray()", 0, x::astray);
        Check.due("NONE", -1, () -> SettleHouse.NONE);
    }

    private static void fund() {
        SettleHouse x = new SettleHouse();
        Check.due("fund, the least", 1, () -> x.fund(0, 0, 1));
        Check.due("fund, the most", 1000000001, () -> x.fund(0, 0, 1000000000));
        Check.due("fund above int", 3000000001L, () -> {
            x.fund(0, 0, 1000000000);
            return x.fund(0, 0, 1000000000);
        });
        Check.due("fund cash", 7, () -> x.fund(0, CASH, 7));
        Check.due("fund the last party and security", 9, () -> x.fund(15, 7, 9));
        Check.due("has security 0", 3000000001L, () -> x.has(0, 0));
        Check.due("has cash", 7, () -> x.has(0, CASH));
        Check.due("has security 7", 9, () -> x.has(15, 7));
        Check.due("has nothing of its neighbour", 0, () -> x.has(0, 1));
        Check.due("another party has nothing", 0, () -> x.has(1, CASH));
    }

    private static void fundRefuses() {
        SettleHouse x = new SettleHouse();
        x.fund(3, 3, 3);
        Check.badArgument("fund party -1", () -> x.fund(-1, 0, 1));
        Check.badArgument("fund party 16", () -> x.fund(16, 0, 1));
        Check.badArgument("fund security -2", () -> x.fund(0, -2, 1));
        Check.badArgument("fund security 8", () -> x.fund(0, 8, 1));
        Check.badArgument("fund 0", () -> x.fund(0, 0, 0));
        Check.badArgument("fund -1", () -> x.fund(0, 0, -1));
        Check.badArgument("fund too many", () -> x.fund(0, 0, 1000000001));
        Check.badArgument("fund the least int", () -> x.fund(0, 0, Integer.MIN_VALUE));
        SettleHouse y = new SettleHouse();
        y.fund(3, 3, 3);
        Check.due("refused funds change nothing", Scene.picture(y), () -> Scene.picture(x));
    }

    /** No run of 512 calls comes to this limit; an object that is used longer still keeps it. */
    private static void fundAboveTheLimit() {
        SettleHouse x = new SettleHouse();
        for (int i = 0; i < 999; i++) {
            x.fund(2, CASH, 1000000000);
        }
        x.fund(2, CASH, 999999999);
        Check.badState("fund above the limit", () -> x.fund(2, CASH, 2));
        Check.due("has after it", 999999999999L, () -> x.has(2, CASH));
        Check.due("fund up to the limit", 1000000000000L, () -> x.fund(2, CASH, 1));
        Check.badState("fund one above it", () -> x.fund(2, CASH, 1));
        Check.badArgument("the argument goes before the state", () -> x.fund(2, CASH, 0));
        Check.due("another asset has its own limit", 1, () -> x.fund(2, 0, 1));
        Check.due("another party has its own limit", 1, () -> x.fund(1, CASH, 1));
    }

    /** What a party got by trades counts as well; a trade itself may bring it above the limit. */
    private static void fundAboveTheLimitByTrades() {
        SettleHouse x = new SettleHouse();
        for (int i = 0; i < 1000; i++) {
            x.fund(2, CASH, 1000000000);
        }
        x.fund(1, CASH, 1);
        Scene.pending(x, 2, 1, 0, 1);
        Check.due("one more by a trade", 1, x::nextDay);
        Check.due("it is above the limit", 1000000000001L, () -> x.has(2, CASH));
        Check.badState("fund above it", () -> x.fund(2, CASH, 1));
        Scene.pending(x, 1, 2, 0, 2);
        x.goTo(4);
        Check.due("two less by a trade", 999999999999L, () -> x.has(2, CASH));
        Check.badState("two would be above it", () -> x.fund(2, CASH, 2));
        Check.due("one is not", 1000000000000L, () -> x.fund(2, CASH, 1));
        Check.due("astray", 0, x::astray);
    }

    private static void has() {
        SettleHouse x = new SettleHouse();
        Check.badArgument("has party -1", () -> x.has(-1, 0));
        Check.badArgument("has party 16", () -> x.has(16, 0));
        Check.badArgument("has security -2", () -> x.has(0, -2));
        Check.badArgument("has security 8", () -> x.has(0, 8));
        Check.due("has the last", 0, () -> x.has(15, 7));
        x.fund(0, 0, 10);
        x.fund(1, CASH, 100);
        Scene.pending(x, 0, 1, 4, 30);
        x.nextDay();
        Check.due("the deliverer gives the quantity", 6, () -> x.has(0, 0));
        Check.due("the receiver has it", 4, () -> x.has(1, 0));
        Check.due("the deliverer has the amount", 30, () -> x.has(0, CASH));
        Check.due("the receiver gives it", 70, () -> x.has(1, CASH));
    }

    private static void astray() {
        SettleHouse x = new SettleHouse();
        x.fund(0, 0, 10);
        x.fund(0, 7, 10);
        x.fund(1, CASH, 100);
        Check.due("astray, funded alone", 0, x::astray);
        int whole = Scene.pending(x, 0, 1, 4, 30);
        int part = Scene.pending(x, 0, 1, 7, 20, 90);
        x.rank(part, 1, true);
        x.nextDay();
        Check.due("one is settled", 2, () -> x.trade(whole, 0));
        Check.due("one is settled in parts", 10, () -> x.trade(part, 2));
        Check.due("astray, when something has been settled", 0, x::astray);
    }
}
