/** "What it is" and the promises, quoted sentence by sentence, each with answers that would be others without it. */
public final class PromisesTest {
    private static final int CASH = SettleHouse.NONE;
    private static String heading = "";

    public static void main(String[] args) {
        whatItIs();
        aNewObject();
        fund();
        holiday();
        tell();
        tellMatches();
        tellRefuses();
        hold();
        rank();
        link();
        cancel();
        nextDay();
        goTo();
        has();
        trade();
        settled();
        business();
        date();
        count();
        astray();
        askingChangesNothing();
        Check.finish();
    }

    private static void under(String next) {
        heading = next;
    }

    private static void says(String words) {
        Document.says(heading, words);
    }

    private static void whatItIs() {
        under("What it is");
        says("Securities against cash: what both sides have told alike is a trade, settled on a business day");
        SettleHouse x = new SettleHouse();
        x.fund(0, 2, 10);
        x.fund(1, CASH, 100);
        x.tell(0, 1, true, 2, 4, 30, 0, 0);
        Check.due("one side alone has told it", 0, x::nextDay);
        x.tell(1, 0, false, 2, 5, 30, 0, 0);
        x.tell(1, 0, false, 2, 4, 30, 0, 0);
        Check.due("both have, but there is no business day", 0, () -> x.goTo(3));
        Check.due("on a business day", 1, x::nextDay);
        Check.due("securities against cash", "6 30 4 70", () -> ofTwo(x, 2));
        Check.due("what was not told alike", "2 0", () -> Scene.ofEach(x, 0));

        says("when all that belongs together is covered, wholly or in parts,");
        SettleHouse y = new SettleHouse();
        y.fund(0, 0, 5);
        y.link(Scene.pending(y, 0, 1, 2, 0), Scene.pending(y, 0, 1, 4, 0));
        y.rank(Scene.pending(y, 0, 2, 9, 0), 0, true);
        Scene.pending(y, 0, 3, 1, 0);
        Check.due("what is covered by itself", 1, y::nextDay);
        Check.due("one wholly, then four of nine", "3 1 0 1, 2 4 0 1", () -> Scene.settledRows(y));

        says("and otherwise fails from day to day until it expires.");
        SettleHouse z = new SettleHouse();
        Scene.pending(z, 0, 1, 1, 0);
        int[] fails = {1, 1, 1, 2, 3, 4, 5, 6, 6, 6, 7, 8, 9, 10, 10};
        for (int i = 0; i < fails.length; i++) {
            z.nextDay();
            Check.due("fails on day " + (i + 1), fails[i] + (fails[i] < 10 ? " 1" : " 4"), () -> z.trade(0, 7) + " " + z.trade(0, 0));
        }

        says("An object is used for at most 512 calls after it has been made; what later calls answer is free.");
        SettleHouse used = new SettleHouse();
        for (int i = 1; i <= 512; i++) {
            Check.due("call " + i, i, () -> used.fund(0, 0, 1));
        }
        Document.isQuoted(heading);
    }

    /** Holdings and cash of party 0, then of party 1. */
    private static String ofTwo(SettleHouse x, int security) {
        return x.has(0, security) + " " + x.has(0, CASH) + " " + x.has(1, security) + " " + x.has(1, CASH);
    }

    private static void aNewObject() {
        under("Promise 1: A new object");
        says("Nobody has anything, no trades, no holidays.");
        SettleHouse before = new SettleHouse();
        before.fund(0, 0, 5);
        before.holiday(4);
        before.tell(0, 1, true, 0, 1, 1, 0, 0);
        SettleHouse x = new SettleHouse();
        for (int party = 0; party < 16; party++) {
            for (int security = CASH; security < 8; security++) {
                int p = party;
                int s = security;
                Check.due("party " + p + " of " + s, 0, () -> x.has(p, s));
            }
        }
        for (int state = 0; state < 5; state++) {
            int s = state;
            Check.due("trades of state " + s, 0, () -> x.count(s));
        }
        Check.badArgument("a first trade", () -> x.trade(0, 0));
        Check.due("what was settled", -1, () -> x.settled(0, 0));
        Check.due("what is astray", 0, x::astray);
        for (int day = 1; day <= 20; day++) {
            int d = day;
            Check.due("day " + d + " was no holiday", true, () -> x.holiday(d));
        }
        Document.isQuoted(heading);
    }

    private static void fund() {
        under("Promise 2: fund");
        says("A party gets n (1 .. 1000000000) of a security, or (NONE) of cash: what it has then.");
        SettleHouse x = new SettleHouse();
        Check.due("of a security", 7, () -> x.fund(3, 5, 7));
        Check.due("of cash", 9, () -> x.fund(3, CASH, 9));
        Check.due("more of the security", 18, () -> x.fund(3, 5, 11));
        Check.due("more of cash", 10, () -> x.fund(3, CASH, 1));
        Check.due("the most", 1000000018, () -> x.fund(3, 5, 1000000000));
        Check.due("it has that", "1000000018 10", () -> x.has(3, 5) + " " + x.has(3, CASH));
        Check.due("and nothing else", "0 0 0 0", () -> x.has(3, 4) + " " + x.has(3, 6) + " " + x.has(2, 5) + " " + x.has(5, 3));
        for (int n : new int[] {0, -1, 1000000001}) {
            Check.badArgument("fund " + n, () -> x.fund(3, 5, n));
            Check.badArgument("fund cash " + n, () -> x.fund(3, CASH, n));
        }
        Check.due("no more than before", "1000000018 10", () -> x.has(3, 5) + " " + x.has(3, CASH));

        says("IllegalState: it would be above 1000000000000.");
        SettleHouse y = new SettleHouse();
        for (int i = 0; i < 999; i++) {
            y.fund(3, 5, 1000000000);
        }
        Check.due("one below it", 999999999999L, () -> y.fund(3, 5, 999999999));
        Check.badState("one above it", () -> y.fund(3, 5, 2));
        Check.due("that much", 1000000000000L, () -> y.fund(3, 5, 1));
        Check.badState("one more", () -> y.fund(3, 5, 1));
        Check.due("nothing has changed", 1000000000000L, () -> y.has(3, 5));
        Check.due("of another security", 1, () -> y.fund(3, 4, 1));
        Document.isQuoted(heading);
    }

    private static void holiday() {
        under("Promise 3: holiday");
        says("A day is a holiday: whether it was none.");
        SettleHouse x = new SettleHouse();
        x.fund(0, 0, 5);
        Scene.pending(x, 0, 1, 1, 0);
        Check.due("it was none", true, () -> x.holiday(1));
        Check.due("it was one", false, () -> x.holiday(1));
        Check.due("another day was none", true, () -> x.holiday(5));
        Check.due("behind the first", 4, () -> x.business(0, 1));
        Check.due("behind both", 6, () -> x.business(0, 2));
        Check.due("no cycle on it", 0, x::nextDay);
        Check.due("nothing has failed on it", 0, () -> x.trade(0, 7));
        Check.due("a cycle on the next business day", 1, () -> x.goTo(4));

        says("IllegalArgument: it is not behind today, or above 20000.");
        Check.badArgument("today", () -> x.holiday(4));
        Check.badArgument("yesterday", () -> x.holiday(3));
        Check.badArgument("above 20000", () -> x.holiday(20001));
        Check.due("20000", true, () -> x.holiday(20000));
        Check.due("tomorrow was one", false, () -> x.holiday(5));
        Document.isQuoted(heading);
    }

    private static void tell() {
        under("Promise 4: tell");
        says("A party tells a trade with another one: whether it delivers or receives, the security, the quantity (0 .. 1000000),");
        SettleHouse x = new SettleHouse();
        x.goTo(5);
        Check.due("it delivers", 0, () -> x.tell(2, 3, true, 4, 5, 6, 1, 2));
        Check.due("it receives", 1, () -> x.tell(7, 8, false, 3, 11, 12, 1, 2));
        Check.due("what the first told", "0 -1 5 6 2 3 4 0 1 0 0", () -> Scene.tradeRow(x, 0));
        Check.due("what the second told", "0 -1 11 12 8 7 3 0 1 0 0", () -> Scene.tradeRow(x, 1));
        Check.due("no quantity", 2, () -> x.tell(2, 3, true, 4, 0, 6, 1, 2));
        Check.due("the greatest quantity", 3, () -> x.tell(2, 3, true, 4, 1000000, 6, 1, 2));
        Check.badArgument("less than no quantity", () -> x.tell(2, 3, true, 4, -1, 6, 1, 2));
        Check.badArgument("too great a quantity", () -> x.tell(2, 3, true, 4, 1000001, 6, 1, 2));

        says("the amount (0 .. 1000000000; not both 0), the trade day (0 .. today), the lag (0 .. 10).");
        Check.due("no amount", 4, () -> x.tell(2, 3, true, 4, 5, 0, 1, 2));
        Check.due("the greatest amount", 5, () -> x.tell(2, 3, true, 4, 5, 1000000000, 1, 2));
        Check.badArgument("less than no amount", () -> x.tell(2, 3, true, 4, 5, -1, 1, 2));
        Check.badArgument("too great an amount", () -> x.tell(2, 3, true, 4, 5, 1000000001, 1, 2));
        Check.badArgument("neither quantity nor amount", () -> x.tell(2, 3, true, 4, 0, 0, 1, 2));
        Check.due("the first day", 6, () -> x.tell(2, 3, true, 4, 5, 6, 0, 2));
        Check.due("today", 7, () -> x.tell(2, 3, true, 4, 5, 6, 5, 2));
        Check.badArgument("a day before the first", () -> x.tell(2, 3, true, 4, 5, 6, -1, 2));
        Check.badArgument("tomorrow", () -> x.tell(2, 3, true, 4, 5, 6, 6, 2));
        Check.due("no lag", 8, () -> x.tell(2, 3, true, 4, 5, 6, 1, 0));
        Check.due("the greatest lag", 9, () -> x.tell(2, 3, true, 4, 5, 6, 1, 10));
        Check.badArgument("less than no lag", () -> x.tell(2, 3, true, 4, 5, 6, 1, -1));
        Check.badArgument("too great a lag", () -> x.tell(2, 3, true, 4, 5, 6, 1, 11));
        Check.due("that is all", 10, () -> x.count(0));
    }

    private static void tellMatches() {
        says("If a trade with these terms is unmatched that the other one has told, the first of these is PENDING now;");
        SettleHouse x = new SettleHouse();
        x.goTo(5);
        for (int i = 0; i < 4; i++) {
            x.tell(2, 3, true, 4, 5, 6, 1, 2);
        }
        x.cancel(0, 2);
        Check.due("the first that is unmatched", 1, () -> x.tell(3, 2, false, 4, 5, 6, 1, 2));
        Check.due("it is pending now", "3 1 0 0", () -> Scene.ofEach(x, 0));
        Check.due("due two business days behind the trade day", 5, () -> x.trade(1, 1));
        Check.due("the next", 2, () -> x.tell(3, 2, false, 4, 5, 6, 1, 2));
        Check.due("it is pending too", "3 1 1 0", () -> Scene.ofEach(x, 0));
        Check.due("the others have no due day", "-1 5 5 -1", () -> Scene.ofEach(x, 1));

        says("else it is a new one: its number.");
        Check.due("the same party again", 4, () -> x.tell(2, 3, true, 4, 5, 6, 1, 2));
        Check.due("the other one, who delivers as well", 5, () -> x.tell(3, 2, true, 4, 5, 6, 1, 2));
        Check.due("a third one", 6, () -> x.tell(1, 2, false, 4, 5, 6, 1, 2));
        Check.due("other terms", 7, () -> x.tell(3, 2, false, 4, 5, 7, 1, 2));
        Check.due("the new ones are unmatched", "3 1 1 0 0 0 0 0", () -> Scene.ofEach(x, 0));
        Check.due("a third unmatched one", 3, () -> x.tell(3, 2, false, 4, 5, 6, 1, 2));
        Check.due("a fourth", 4, () -> x.tell(3, 2, false, 4, 5, 6, 1, 2));
        Check.due("none is left to match", 8, () -> x.tell(3, 2, false, 4, 5, 6, 1, 2));
    }

    private static void tellRefuses() {
        says("IllegalArgument: also if both are the same.");
        SettleHouse x = new SettleHouse();
        for (int party = 0; party < 16; party++) {
            int p = party;
            Check.badArgument("both are " + p, () -> x.tell(p, p, p % 2 == 0, 0, 1, 1, 0, 0));
        }
        Check.due("no trade was made", 0, () -> x.count(0));

        says("IllegalState: there are 150.");
        for (int i = 0; i < 150; i++) {
            int number = i;
            Check.due("number " + i, number, () -> x.tell(0, 1, true, 0, 1 + number, 1, 0, 0));
        }
        Check.badState("one more", () -> x.tell(0, 1, true, 0, 151, 1, 0, 0));
        Check.badState("one that would match", () -> x.tell(1, 0, false, 0, 1, 1, 0, 0));
        x.cancel(149, 0);
        Check.badState("one more when one was cancelled", () -> x.tell(0, 1, true, 0, 151, 1, 0, 0));
        Check.due("149 are unmatched, one cancelled", "149 0 0 1 0", () -> counts(x));
        Document.isQuoted(heading);
    }

    private static String counts(SettleHouse x) {
        return x.count(0) + " " + x.count(1) + " " + x.count(2) + " " + x.count(3) + " " + x.count(4);
    }

    /** Trade 0 is settled, 1 has expired, 2 was cancelled, 3 is unmatched, 4 pending; all from party 0 to party 1. */
    private static SettleHouse ofEveryState() {
        SettleHouse x = new SettleHouse();
        x.fund(0, 0, 1);
        Scene.pending(x, 0, 1, 1, 0);
        Scene.pending(x, 0, 1, 2, 0);
        x.goTo(14);
        Scene.cancelByBoth(x, Scene.pending(x, 0, 1, 3, 0));
        x.tell(0, 1, true, 0, 4, 0, 14, 0);
        Scene.pending(x, 0, 1, 5, 0);
        return x;
    }

    private static void hold() {
        under("Promise 5: hold");
        says("A side's hold is put on, or taken off: whether that was another way before.");
        SettleHouse x = ofEveryState();
        Check.due("states", "2 4 3 0 1", () -> Scene.ofEach(x, 0));
        for (int trade = 3; trade <= 4; trade++) {
            int t = trade;
            Check.due("off, it was off", false, () -> x.hold(t, 0, false));
            Check.due("on, it was off", true, () -> x.hold(t, 0, true));
            Check.due("on, it was on", false, () -> x.hold(t, 0, true));
            Check.due("the other side's, it was off", true, () -> x.hold(t, 1, true));
            Check.due("off, it was on", true, () -> x.hold(t, 0, false));
            Check.due("the other side's, it was on", true, () -> x.hold(t, 1, false));
        }
        x.hold(4, 1, true);
        x.fund(0, 0, 5);
        Check.due("on, so it is not settled", 0, x::nextDay);
        x.hold(4, 1, false);
        Check.due("off, so it is settled", 1, () -> x.goTo(18));

        says("IllegalArgument: also if the party is no side of it.");
        SettleHouse y = ofEveryState();
        for (int trade = 0; trade <= 4; trade++) {
            int t = trade;
            Check.badArgument("hold of " + t, () -> y.hold(t, 2, true));
            Check.badArgument("hold taken off of " + t, () -> y.hold(t, 15, false));
        }

        says("IllegalState: it is neither unmatched nor pending.");
        for (int trade = 0; trade <= 2; trade++) {
            int t = trade;
            Check.badState("hold of " + t, () -> y.hold(t, 0, true));
            Check.badState("hold taken off of " + t, () -> y.hold(t, 1, false));
        }
        Check.due("unmatched", true, () -> y.hold(3, 0, true));
        Check.due("pending", true, () -> y.hold(4, 0, true));
        Document.isQuoted(heading);
    }

    private static void rank() {
        under("Promise 6: rank");
        says("A trade's priority, and whether it may be settled in parts: the priority that it had.");
        SettleHouse x = ofEveryState();
        for (int trade = 3; trade <= 4; trade++) {
            int t = trade;
            Check.due("at first", 1, () -> x.rank(t, 3, false));
            Check.due("3, not in parts", "3 0", () -> x.trade(t, 8) + " " + x.trade(t, 10));
            Check.due("it was 3", 3, () -> x.rank(t, 0, true));
            Check.due("0, in parts", "0 1", () -> x.trade(t, 8) + " " + x.trade(t, 10));
            Check.due("it was 0", 0, () -> x.rank(t, 2, true));
            Check.badArgument("below 0", () -> x.rank(t, -1, false));
            Check.badArgument("above 3", () -> x.rank(t, 4, false));
            Check.due("2, in parts", "2 1", () -> x.trade(t, 8) + " " + x.trade(t, 10));
        }
        x.fund(0, 0, 5);
        Scene.pending(x, 0, 1, 5, 0);
        x.rank(4, 0, false);
        x.nextDay();
        Check.due("the priority makes the order", "1 2", () -> x.trade(4, 0) + " " + x.trade(5, 0));
        x.fund(0, 0, 4);
        x.goTo(18);
        Check.due("not in parts", 5, () -> x.trade(4, 2));
        x.rank(4, 0, true);
        x.nextDay();
        Check.due("in parts", 1, () -> x.trade(4, 2));

        says("IllegalState: it is neither unmatched nor pending.");
        SettleHouse y = ofEveryState();
        for (int trade = 0; trade <= 2; trade++) {
            int t = trade;
            Check.badState("rank of " + t, () -> y.rank(t, 3, true));
            Check.due("it has the first one", "1 0", () -> y.trade(t, 8) + " " + y.trade(t, 10));
        }
        Check.due("unmatched", 1, () -> y.rank(3, 3, true));
        Check.due("pending", 1, () -> y.rank(4, 3, true));
        Document.isQuoted(heading);
    }

    private static void link() {
        under("Promise 7: link");
        says("The groups of two trades are one: how many it has.");
        SettleHouse x = new SettleHouse();
        x.fund(0, 0, 100);
        for (int i = 0; i < 8; i++) {
            Scene.pending(x, 0, 1, 1, 0);
        }
        Check.due("one and one", 2, () -> x.link(0, 3));
        Check.due("one and two", 3, () -> x.link(5, 3));
        Check.due("two others", 2, () -> x.link(6, 1));
        Check.due("three and two", 5, () -> x.link(5, 1));
        Check.due("each has the same group", "5 5 1 5 1 5 5 1", () -> Scene.ofEach(x, 9));
        Check.due("two of one group", 5, () -> x.link(0, 6));
        Check.due("one with itself", 1, () -> x.link(2, 2));
        x.hold(6, 0, true);
        Check.due("all of a group wait for one", 3, x::nextDay);
        Check.due("the others do not", "1 1 2 1 2 1 1 2", () -> Scene.ofEach(x, 0));
        x.hold(6, 0, false);
        Check.due("all of it at once", 5, () -> x.goTo(4));

        says("IllegalState: one is not pending, or it would have more than 6.");
        SettleHouse y = ofEveryState();
        for (int trade = 0; trade <= 3; trade++) {
            int t = trade;
            Check.badState("trade " + t + " with a pending one", () -> y.link(t, 4));
            Check.badState("a pending one with trade " + t, () -> y.link(4, t));
            Check.badState("trade " + t + " with itself", () -> y.link(t, t));
        }
        for (int i = 5; i < 12; i++) {
            Scene.pending(y, 0, 1, 5, 0);
        }
        for (int i = 5; i < 8; i++) {
            y.link(4, i);
        }
        y.link(8, 9);
        y.link(8, 10);
        Check.badState("four and three", () -> y.link(7, 10));
        Check.due("four and one", 5, () -> y.link(11, 5));
        Check.badState("five and three", () -> y.link(11, 8));
        Scene.cancelByBoth(y, 8);
        Scene.cancelByBoth(y, 10);
        Check.due("five and one", 6, () -> y.link(9, 4));
        Check.due("six", "0 0 0 0 6 6 6 6 0 6 0 6", () -> Scene.ofEach(y, 9));
        Document.isQuoted(heading);
    }

    private static void cancel() {
        under("Promise 8: cancel");
        says("A side wishes to cancel a trade: if it is unmatched (whoever of both wishes), or both have wished,");
        SettleHouse x = new SettleHouse();
        for (int i = 0; i < 2; i++) {
            x.tell(0, 1, true, 0, 1, 0, 0, 0);
        }
        Check.due("unmatched, by who has told it", 3, () -> x.cancel(0, 0));
        Check.due("unmatched, by the other one", 3, () -> x.cancel(1, 1));
        for (int i = 2; i < 6; i++) {
            int t = Scene.pending(x, 0, 1, 1, 0);
            int first = i % 2;
            Check.due("pending, one has wished", 1, () -> x.cancel(t, first));
            Check.due("pending, it wishes again", 1, () -> x.cancel(t, first));
            if (i < 4) {
                Check.due("pending, both have wished", 3, () -> x.cancel(t, 1 - first));
            }
        }

        says("it is CANCELLED: its state.");
        Check.due("states", "3 3 3 3 1 1", () -> Scene.ofEach(x, 0));
        x.link(4, 5);
        x.cancel(4, 1);
        Check.due("it is in no group", "0 0 0 0 0 1", () -> Scene.ofEach(x, 9));
        x.fund(0, 0, 9);
        Check.due("the one that one side alone wishes to cancel is settled", 1, x::nextDay);
        Check.due("a cancelled one is not", "3 3 3 3 3 2", () -> Scene.ofEach(x, 0));
        Check.due("a cancelled one is not told any more", 6, () -> x.tell(1, 0, false, 0, 1, 0, 0, 0));

        says("IllegalArgument: also if the party is no side of it.");
        SettleHouse y = ofEveryState();
        for (int trade = 0; trade <= 4; trade++) {
            int t = trade;
            Check.badArgument("cancel of " + t, () -> y.cancel(t, 2));
        }
        Check.due("nothing was cancelled", "2 4 3 0 1", () -> Scene.ofEach(y, 0));

        says("IllegalState: it is neither unmatched nor pending.");
        for (int trade = 0; trade <= 2; trade++) {
            int t = trade;
            Check.badState("cancel of " + t, () -> y.cancel(t, 0));
            Check.badState("cancel of " + t + " by the other one", () -> y.cancel(t, 1));
        }
        Check.due("states as before", "2 4 3 0 1", () -> Scene.ofEach(y, 0));
        Document.isQuoted(heading);
    }

    private static void nextDay() {
        under("Promise 9: nextDay");
        says("Today is the next day; if that is a business day, the cycle: how many trades were settled wholly.");
        SettleHouse x = new SettleHouse();
        x.fund(0, 0, 20);
        x.fund(2, 0, 3);
        x.holiday(5);
        int[] wholly = {2, 0, 0, 6, 0, 4, 2};
        for (int day = 1; day <= 7; day++) {
            Scene.pending(x, 0, 1, 1, 0);
            Scene.pending(x, 0, 1, 1, 0);
            int d = day;
            Check.due("settled on day " + d, wholly[d - 1], x::nextDay);
            Check.due("today", d, () -> x.date(4));
        }
        x.rank(Scene.pending(x, 2, 1, 4, 0), 1, true);
        Check.due("a part is not wholly", 0, x::nextDay);
        Check.due("but it was settled", "14 3 0 8", () -> x.settled(14, 0) + " " + x.settled(14, 1) + " " + x.settled(14, 2) + " " + x.settled(14, 3));

        says("IllegalState: today is 20000.");
        SettleHouse y = Scene.houseOnDay(19999);
        Check.due("the day before it", 0, y::nextDay);
        Check.badState("on it", y::nextDay);
        Check.due("it is today", 20000, () -> y.date(4));
        Document.isQuoted(heading);
    }

    private static void goTo() {
        under("Promise 10: goTo");
        says("nextDay() until today is a day (at most 400 on): how many trades were settled wholly.");
        SettleHouse x = severalDays();
        SettleHouse y = severalDays();
        int wholly = 0;
        for (int i = 0; i < 20; i++) {
            wholly += y.nextDay();
        }
        Check.due("there are some", 9, () -> x.goTo(20));
        int sum = wholly;
        Check.due("as many as day by day", 9, () -> sum);
        String dayByDay = Scene.picture(y);
        Check.due("all is as day by day", dayByDay, () -> Scene.picture(x));
        Check.due("today", 20, () -> x.date(4));
        Check.due("400 on", 0, () -> x.goTo(420));
        Check.due("today", 420, () -> x.date(4));

        says("IllegalArgument: it is not behind today, more than 400 behind it, or above 20000.");
        Check.badArgument("today", () -> x.goTo(420));
        Check.badArgument("yesterday", () -> x.goTo(419));
        Check.badArgument("401 on", () -> x.goTo(821));
        Check.due("it is still the same day", 420, () -> x.date(4));
        Check.due("one on", 0, () -> x.goTo(421));
        SettleHouse z = Scene.houseOnDay(19990);
        Check.badArgument("above 20000", () -> z.goTo(20001));
        Check.due("20000", 0, () -> z.goTo(20000));
        Document.isQuoted(heading);
    }

    /** Trades with lags from 0 to 10 that need 66 of a security, of which there are 50, and one in parts. */
    private static SettleHouse severalDays() {
        SettleHouse x = new SettleHouse();
        x.fund(0, 0, 50);
        x.fund(2, 0, 3);
        x.holiday(6);
        for (int lag = 0; lag <= 10; lag++) {
            Scene.pendingOn(x, 0, 1, 0, 1 + lag, 0, 0, lag);
        }
        x.rank(Scene.pending(x, 2, 3, 9, 0), 1, true);
        return x;
    }

    private static void has() {
        under("Promise 11: has");
        says("A party's cash (NONE), or holdings of a security.");
        SettleHouse x = new SettleHouse();
        for (int security = CASH; security < 8; security++) {
            x.fund(6, security, 100 + security);
        }
        for (int security = CASH; security < 8; security++) {
            int s = security;
            Check.due("of " + s, 100 + s, () -> x.has(6, s));
            Check.due("another party", 0, () -> x.has(7, s));
        }
        Scene.pending(x, 6, 7, 2, 12, 0);
        Scene.pending(x, 7, 6, 3, 0, 19);
        x.nextDay();
        Check.due("what it delivered and paid is gone", "90 80", () -> x.has(6, 2) + " " + x.has(6, CASH));
        Check.due("what the other one got", "12 19", () -> x.has(7, 2) + " " + x.has(7, CASH));
        Document.isQuoted(heading);
    }

    private static void trade() {
        under("Promise 12: trade");
        SettleHouse x = new SettleHouse();
        x.tell(12, 13, true, 6, 30, 75, 0, 4);
        says("Of a trade: state (what = 0), due day (1; NONE while unmatched),");
        Check.due("unmatched", "0 -1", () -> x.trade(0, 0) + " " + x.trade(0, 1));
        x.tell(13, 12, false, 6, 30, 75, 0, 4);
        Check.due("pending", "1 6", () -> x.trade(0, 0) + " " + x.trade(0, 1));

        says("quantity and amount that are left (2, 3), who delivers (4), who receives (5), security (6),");
        Check.due("all is left", "30 75", () -> x.trade(0, 2) + " " + x.trade(0, 3));
        Check.due("who delivers, who receives, what", "12 13 6", () -> x.trade(0, 4) + " " + x.trade(0, 5) + " " + x.trade(0, 6));
        x.fund(12, 6, 10);
        x.fund(13, CASH, 80);
        x.rank(0, 2, true);
        x.goTo(6);
        Check.due("a part is settled", "20 50", () -> x.trade(0, 2) + " " + x.trade(0, 3));

        says("fails (7), priority (8), how many are in its group (9; 0 when it is in none),");
        x.goTo(8);
        Check.due("fails and priority", "3 2", () -> x.trade(0, 7) + " " + x.trade(0, 8));
        Check.due("alone", 1, () -> x.trade(0, 9));
        x.link(0, Scene.pending(x, 12, 13, 5, 0, 30));
        Check.due("two", "2 2", () -> x.trade(0, 9) + " " + x.trade(1, 9));

        says("whether it may be settled in parts, 1 or 0 (10).");
        Check.due("it may, it may not", "1 0", () -> x.trade(0, 10) + " " + x.trade(1, 10));
        Check.due("all of the first", "1 6 20 50 12 13 6 3 2 2 1", () -> Scene.tradeRow(x, 0));
        x.fund(12, 6, 20);
        x.fund(13, CASH, 25);
        Check.due("both are settled", 2, () -> x.goTo(11));
        Check.due("all of the first when it is settled", "2 6 0 0 12 13 6 3 2 0 1", () -> Scene.tradeRow(x, 0));
        Check.due("all of the second", "2 8 0 0 12 13 5 0 1 0 0", () -> Scene.tradeRow(x, 1));
        Check.badArgument("what below 0", () -> x.trade(0, -1));
        Check.badArgument("what above 10", () -> x.trade(0, 11));
        Document.isQuoted(heading);
    }

    private static void settled() {
        under("Promise 13: settled");
        says("What was settled, i-th from the first on: trade (what = 0), quantity (1), cash (2), day (3);");
        SettleHouse x = new SettleHouse();
        x.fund(2, 3, 50);
        x.fund(4, CASH, 500);
        Scene.pendingOn(x, 2, 4, 3, 11, 70, 0, 2);
        Scene.pendingOn(x, 2, 4, 3, 12, 80, 0, 1);
        x.rank(Scene.pendingOn(x, 2, 4, 3, 60, 240, 0, 1), 0, true);
        Scene.pendingOn(x, 2, 4, 3, 13, 0, 0, 1);
        Scene.pendingOn(x, 2, 4, 0, 0, 90, 0, 3);
        x.nextDay();
        Check.due("on the first day two wholly, then a part", "1 12 80 1, 3 13 0 1, 2 25 100 1", () -> Scene.settledRows(x));
        x.fund(2, 3, 12);
        x.goTo(5);
        Check.due("on later days behind them", "1 12 80 1, 3 13 0 1, 2 25 100 1, 0 11 70 4, 2 1 4 4, 4 0 90 5",
                () -> Scene.settledRows(x));

        says("NONE when there is none such, or what is none of these.");
        for (int what = 0; what < 4; what++) {
            int w = what;
            Check.due("before the first", -1, () -> x.settled(-1, w));
            Check.due("behind the last", -1, () -> x.settled(6, w));
        }
        for (int i = 0; i < 6; i++) {
            int row = i;
            Check.due("what below 0", -1, () -> x.settled(row, -1));
            Check.due("what above 3", -1, () -> x.settled(row, 4));
        }
        Document.isQuoted(heading);
    }

    private static void business() {
        under("Promise 14: business");
        says("The n-th (0 .. 1000) business day behind a day (0 .. 20000);");
        SettleHouse x = new SettleHouse();
        x.holiday(5);
        int[] behindThursday = {1, 4, 6, 7, 8, 11, 12, 13, 14, 15, 18};
        for (int i = 0; i < behindThursday.length; i++) {
            int n = i + 1;
            Check.due("business day " + n, behindThursday[n - 1], () -> x.business(0, n));
        }
        int[] next = {1, 4, 4, 4, 6, 6, 7, 8, 11};
        for (int i = 0; i < next.length; i++) {
            int day = i;
            Check.due("the next behind " + day, next[day], () -> x.business(day, 1));
        }
        Check.due("the greatest n", 1401, () -> x.business(0, 1000));
        Check.due("behind the last day", 20003, () -> x.business(20000, 1));
        Check.badArgument("n below 0", () -> x.business(0, -1));
        Check.badArgument("n above 1000", () -> x.business(0, 1001));
        Check.badArgument("a day below 0", () -> x.business(-1, 1));
        Check.badArgument("a day above 20000", () -> x.business(20001, 1));
        x.goTo(9);
        Check.due("a day of the past", 6, () -> x.business(1, 2));

        says("n = 0: the day itself.");
        for (int day = 0; day < 8; day++) {
            int d = day;
            Check.due("day " + d, d, () -> x.business(d, 0));
        }
        Check.due("the last day", 20000, () -> x.business(20000, 0));
        Document.isQuoted(heading);
    }

    private static void date() {
        under("Promise 15: date");
        says("Of today: the year (part = 0), month (1), day of the month (2), day of the week, Monday 1 to Sunday 7 (3), its number (4).");
        SettleHouse x = new SettleHouse();
        String[] week = {"1970 1 1 4 0", "1970 1 2 5 1", "1970 1 3 6 2", "1970 1 4 7 3", "1970 1 5 1 4", "1970 1 6 2 5", "1970 1 7 3 6"};
        for (int i = 0; i < week.length; i++) {
            int day = i;
            Check.due("day " + day, week[day], () -> today(x));
            x.nextDay();
        }
        x.goTo(364);
        Check.due("the end of a year", "1970 12 31 4 364", () -> today(x));
        x.nextDay();
        Check.due("a new year", "1971 1 1 5 365", () -> today(x));
        x.goTo(765);
        x.goTo(789);
        Check.due("a leap day", "1972 2 29 2 789", () -> today(x));
        Check.due("a leap day of a full century", "2000 2 29 2 11016", () -> today(Scene.houseOnDay(11016)));
        Check.due("the last day", "2024 10 4 5 20000", () -> today(Scene.houseOnDay(20000)));
        Check.badArgument("part below 0", () -> x.date(-1));
        Check.badArgument("part above 4", () -> x.date(5));
        Document.isQuoted(heading);
    }

    private static String today(SettleHouse x) {
        return x.date(0) + " " + x.date(1) + " " + x.date(2) + " " + x.date(3) + " " + x.date(4);
    }

    private static void count() {
        under("Promise 16: count");
        says("How many trades there are in a state.");
        SettleHouse x = new SettleHouse();
        Check.due("none", "0 0 0 0 0", () -> counts(x));
        x.fund(0, 0, 2);
        Scene.pending(x, 0, 1, 1, 0);
        Scene.pending(x, 0, 1, 1, 0);
        Scene.pending(x, 0, 1, 1, 0);
        Check.due("three pending", "0 3 0 0 0", () -> counts(x));
        x.nextDay();
        Check.due("two settled", "0 1 2 0 0", () -> counts(x));
        x.goTo(14);
        Check.due("one expired", "0 0 2 0 1", () -> counts(x));
        for (int i = 0; i < 5; i++) {
            x.tell(0, 1, true, 0, 1, 0, 0, 0);
        }
        x.cancel(3, 0);
        x.cancel(4, 0);
        x.cancel(5, 1);
        Check.due("three cancelled, two unmatched", "2 0 2 3 1", () -> counts(x));
        Check.badArgument("state below 0", () -> x.count(-1));
        Check.badArgument("state above 4", () -> x.count(5));
        Document.isQuoted(heading);
    }

    /** AstrayTest has what no call can bring about. */
    private static void astray() {
        under("Promise 17: astray");
        says("For how many securities, and cash, holdings are not what was funded, or somebody has less than nothing.");
        SettleHouse x = new SettleHouse();
        Check.due("nothing was funded", 0, x::astray);
        for (int party = 0; party < 16; party++) {
            x.fund(party, party % 8, 10 + party);
            x.fund(party, CASH, 100);
        }
        Check.due("funded", 0, x::astray);
        for (int party = 0; party < 16; party++) {
            x.rank(Scene.pending(x, party, (party + 3) % 16, party % 8, 5 * (1 + party % 4), 33), 1, true);
        }
        x.nextDay();
        Check.due("some settled wholly, some in parts", "13 3", () -> x.count(2) + " " + x.count(1));
        Check.due("settled", 0, x::astray);
        Document.isQuoted(heading);
    }

    /** The calls that just ask: the days behind them are as if nothing had been asked. */
    private static void askingChangesNothing() {
        Check.dueTo("has, trade, settled, business, date, count and astray tell of no change");
        SettleHouse asked = severalDays();
        SettleHouse unasked = severalDays();
        Scene.picture(asked);
        int wholly = unasked.goTo(20);
        Check.due("settled wholly", wholly, () -> asked.goTo(20));
        String rows = Scene.settledRows(unasked);
        Check.due("what was settled", rows, () -> Scene.settledRows(asked));
        String fails = Scene.ofEach(unasked, 7);
        Check.due("fails", fails, () -> Scene.ofEach(asked, 7));
    }
}
