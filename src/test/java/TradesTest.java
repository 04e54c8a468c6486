/** Promises 4 (tell), 5 (hold), 6 (rank), 7 (link), 8 (cancel), 12 (trade) and 16 (count), but for the cycle. */
public final class TradesTest {
    private static final int CASH = SettleHouse.NONE;

    public static void main(String[] args) {
        tell();
        tellMatchesAllTerms();
        tellMatchesTheFirst();
        tellRefuses();
        tellUpToTheLimit();
        dueDay();
        hold();
        rank();
        link();
        linkRefuses();
        cancel();
        cancelInGroups();
        closedTradesRefuse();
        trade();
        count();
        Check.finish();
    }

    private static void tell() {
        SettleHouse x = new SettleHouse();
        Check.due("a first one", 0, () -> x.tell(4, 9, true, 3, 20, 500, 0, 0));
        Check.due("it is unmatched", "0 -1 20 500 4 9 3 0 1 0 0", () -> Scene.tradeRow(x, 0));
        Check.due("told by the same party again", 1, () -> x.tell(4, 9, true, 3, 20, 500, 0, 0));
        Check.due("told by the other one", 0, () -> x.tell(9, 4, false, 3, 20, 500, 0, 0));
        Check.due("it is pending", "1 0 20 500 4 9 3 0 1 1 0", () -> Scene.tradeRow(x, 0));
        Check.due("told by the other one again", 1, () -> x.tell(9, 4, false, 3, 20, 500, 0, 0));
        Check.due("and once more", 2, () -> x.tell(9, 4, false, 3, 20, 500, 0, 0));
        Check.due("the receiver has told it", "0 -1 20 500 4 9 3 0 1 0 0", () -> Scene.tradeRow(x, 2));
        Check.due("the deliverer tells it", 2, () -> x.tell(4, 9, true, 3, 20, 500, 0, 0));
        Check.due("it is pending too", 1, () -> x.trade(2, 0));
        Check.due("the least quantity", 3, () -> x.tell(0, 1, true, 0, 0, 1, 0, 0));
        Check.due("the least amount", 4, () -> x.tell(0, 1, true, 0, 1, 0, 0, 0));
        Check.due("the most", 5, () -> x.tell(15, 0, true, 7, 1000000, 1000000000, 0, 10));
    }

    private static void tellMatchesAllTerms() {
        SettleHouse x = new SettleHouse();
        x.goTo(4);
        x.tell(0, 1, true, 2, 20, 500, 3, 1);
        Check.due("another other", 1, () -> x.tell(1, 2, false, 2, 20, 500, 3, 1));
        Check.due("another party", 2, () -> x.tell(2, 0, false, 2, 20, 500, 3, 1));
        Check.due("both deliver", 3, () -> x.tell(1, 0, true, 2, 20, 500, 3, 1));
        Check.due("another security", 4, () -> x.tell(1, 0, false, 3, 20, 500, 3, 1));
        Check.due("another quantity", 5, () -> x.tell(1, 0, false, 2, 21, 500, 3, 1));
        Check.due("another amount", 6, () -> x.tell(1, 0, false, 2, 20, 501, 3, 1));
        Check.due("another day", 7, () -> x.tell(1, 0, false, 2, 20, 500, 4, 1));
        Check.due("another lag", 8, () -> x.tell(1, 0, false, 2, 20, 500, 3, 2));
        Check.due("all are unmatched", 9, () -> x.count(0));
        Check.due("all terms alike", 0, () -> x.tell(1, 0, false, 2, 20, 500, 3, 1));
    }

    private static void tellMatchesTheFirst() {
        SettleHouse x = new SettleHouse();
        for (int i = 0; i < 4; i++) {
            x.tell(0, 1, true, 0, 1, 1, 0, 0);
        }
        x.cancel(0, 0);
        Check.due("a cancelled one is left out", 1, () -> x.tell(1, 0, false, 0, 1, 1, 0, 0));
        Check.due("a pending one is left out", 2, () -> x.tell(1, 0, false, 0, 1, 1, 0, 0));
        Check.due("states", "3110", () -> "" + x.trade(0, 0) + x.trade(1, 0) + x.trade(2, 0) + x.trade(3, 0));
    }

    private static void tellRefuses() {
        SettleHouse x = new SettleHouse();
        x.goTo(5);
        Check.badArgument("party -1", () -> x.tell(-1, 1, true, 0, 1, 1, 0, 0));
        Check.badArgument("party 16", () -> x.tell(16, 1, true, 0, 1, 1, 0, 0));
        Check.badArgument("other -1", () -> x.tell(0, -1, true, 0, 1, 1, 0, 0));
        Check.badArgument("other 16", () -> x.tell(0, 16, true, 0, 1, 1, 0, 0));
        Check.badArgument("both the same", () -> x.tell(1, 1, true, 0, 1, 1, 0, 0));
        Check.badArgument("security -1", () -> x.tell(0, 1, true, -1, 1, 1, 0, 0));
        Check.badArgument("security 8", () -> x.tell(0, 1, true, 8, 1, 1, 0, 0));
        Check.badArgument("quantity -1", () -> x.tell(0, 1, true, 0, -1, 1, 0, 0));
        Check.badArgument("quantity above", () -> x.tell(0, 1, true, 0, 1000001, 1, 0, 0));
        Check.badArgument("amount -1", () -> x.tell(0, 1, true, 0, 1, -1, 0, 0));
        Check.badArgument("amount above", () -> x.tell(0, 1, true, 0, 1, 1000000001, 0, 0));
        Check.badArgument("both 0", () -> x.tell(0, 1, true, 0, 0, 0, 0, 0));
        Check.badArgument("day -1", () -> x.tell(0, 1, true, 0, 1, 1, -1, 0));
        Check.badArgument("day behind today", () -> x.tell(0, 1, true, 0, 1, 1, 6, 0));
        Check.badArgument("lag -1", () -> x.tell(0, 1, true, 0, 1, 1, 0, -1));
        Check.badArgument("lag 11", () -> x.tell(0, 1, true, 0, 1, 1, 0, 11));
        Check.due("no trade was made", 0, () -> x.count(0));
        Check.due("today's trade", 0, () -> x.tell(0, 1, true, 0, 1, 1, 5, 10));
    }

    private static void tellUpToTheLimit() {
        SettleHouse x = new SettleHouse();
        for (int i = 0; i < 149; i++) {
            x.tell(0, 1, true, 0, 1, 1, 0, 0);
        }
        Check.due("the last one", 149, () -> x.tell(0, 1, true, 0, 2, 1, 0, 0));
        Check.badState("one more", () -> x.tell(0, 1, true, 0, 3, 1, 0, 0));
        Check.badState("there are 150, even if one would be matched", () -> x.tell(1, 0, false, 0, 2, 1, 0, 0));
        Check.badArgument("the argument goes before the state", () -> x.tell(0, 0, true, 0, 1, 1, 0, 0));
        Check.due("there are 150", 150, () -> x.count(0));
        Check.due("the last one is unmatched", 0, () -> x.trade(149, 0));
        Check.badArgument("no number 150", () -> x.trade(150, 0));
        x.cancel(0, 0);
        Check.badState("a cancelled one still counts", () -> x.tell(0, 1, true, 0, 3, 1, 0, 0));
    }

    private static void dueDay() {
        SettleHouse x = new SettleHouse();
        x.goTo(1);
        x.tell(0, 1, true, 0, 1, 0, 1, 2);
        x.tell(1, 0, false, 0, 1, 0, 1, 2);
        Check.due("two business days behind Friday", 5, () -> x.trade(0, 1));
        x.tell(0, 1, true, 0, 2, 0, 1, 2);
        x.holiday(4);
        x.tell(1, 0, false, 0, 2, 0, 1, 2);
        Check.due("holidays that are known when both have told it", 6, () -> x.trade(1, 1));
        Check.due("a holiday that was told later is not seen", 5, () -> x.trade(0, 1));
        x.goTo(4);
        x.tell(0, 1, true, 0, 3, 0, 3, 0);
        x.tell(1, 0, false, 0, 3, 0, 3, 0);
        Check.due("without a lag a Sunday itself", 3, () -> x.trade(2, 1));
        x.tell(0, 1, true, 0, 4, 0, 3, 1);
        x.tell(1, 0, false, 0, 4, 0, 3, 1);
        Check.due("one business day behind Sunday, over a holiday", 5, () -> x.trade(3, 1));
        x.tell(0, 1, true, 0, 5, 0, 0, 10);
        x.tell(1, 0, false, 0, 5, 0, 0, 10);
        Check.due("the greatest lag", 15, () -> x.trade(4, 1));
        x.tell(0, 1, true, 0, 6, 0, 0, 1);
        x.cancel(5, 1);
        Check.due("never matched, no due day", -1, () -> x.trade(5, 1));
    }

    private static void hold() {
        SettleHouse x = new SettleHouse();
        x.tell(4, 9, true, 0, 1, 0, 0, 0);
        Check.due("put on, unmatched, by one who has not told it", true, () -> x.hold(0, 9, true));
        Check.due("put on again", false, () -> x.hold(0, 9, true));
        Check.due("the other side has its own", true, () -> x.hold(0, 4, true));
        Check.due("taken off", true, () -> x.hold(0, 4, false));
        Check.due("taken off again", false, () -> x.hold(0, 4, false));
        x.tell(9, 4, false, 0, 1, 0, 0, 0);
        Check.due("it stays when the trade is pending", false, () -> x.hold(0, 9, true));
        Check.due("taken off, pending", true, () -> x.hold(0, 9, false));
        Check.badArgument("hold of no side", () -> x.hold(0, 5, true));
        Check.badArgument("hold of party -1", () -> x.hold(0, -1, true));
        Check.badArgument("hold of party 16", () -> x.hold(0, 16, true));
        Check.badArgument("hold of trade -1", () -> x.hold(-1, 4, true));
        Check.badArgument("hold of trade 1", () -> x.hold(1, 4, true));
        Check.due("a refused hold is none", false, () -> x.hold(0, 4, false));
    }

    private static void rank() {
        SettleHouse x = new SettleHouse();
        x.tell(4, 9, true, 0, 1, 0, 0, 0);
        Check.due("at first 1", 1, () -> x.rank(0, 3, true));
        Check.due("it was 3", 3, () -> x.rank(0, 0, false));
        Check.due("priority 0, not in parts", "0 0", () -> x.trade(0, 8) + " " + x.trade(0, 10));
        x.tell(9, 4, false, 0, 1, 0, 0, 0);
        Check.due("it stays when the trade is pending", 0, () -> x.rank(0, 2, true));
        Check.due("priority 2, in parts", "2 1", () -> x.trade(0, 8) + " " + x.trade(0, 10));
        Check.badArgument("priority -1", () -> x.rank(0, -1, false));
        Check.badArgument("priority 4", () -> x.rank(0, 4, false));
        Check.badArgument("rank of trade -1", () -> x.rank(-1, 1, false));
        Check.badArgument("rank of trade 1", () -> x.rank(1, 1, false));
        Check.due("as before", "2 1", () -> x.trade(0, 8) + " " + x.trade(0, 10));
    }

    private static void link() {
        SettleHouse x = new SettleHouse();
        for (int i = 0; i < 8; i++) {
            Scene.pending(x, 0, 1, 1, 0);
        }
        Check.due("alone", 1, () -> x.trade(0, 9));
        Check.due("linked to itself", 1, () -> x.link(0, 0));
        Check.due("two", 2, () -> x.link(5, 0));
        Check.due("again", 2, () -> x.link(0, 5));
        Check.due("two others", 2, () -> x.link(1, 2));
        Check.due("two groups", 4, () -> x.link(2, 5));
        Check.due("each is in it", "444114", () -> "" + x.trade(0, 9) + x.trade(1, 9) + x.trade(2, 9)
                + x.trade(3, 9) + x.trade(4, 9) + x.trade(5, 9));
        Check.due("within a group", 4, () -> x.link(1, 0));
        x.link(3, 4);
        x.link(4, 7);
        Check.badState("seven would be too many", () -> x.link(0, 3));
        Check.due("both groups stand", "43", () -> "" + x.trade(0, 9) + x.trade(3, 9));
        Check.due("five", 5, () -> x.link(6, 1));
        x.cancel(7, 0);
        x.cancel(7, 1);
        Check.badState("five and two", () -> x.link(6, 3));
        x.cancel(4, 0);
        x.cancel(4, 1);
        Check.due("six", 6, () -> x.link(3, 6));
        Check.due("within a group of six", 6, () -> x.link(0, 3));
    }

    private static void linkRefuses() {
        SettleHouse x = new SettleHouse();
        int one = Scene.pending(x, 0, 1, 1, 0);
        int other = x.tell(0, 1, true, 0, 2, 0, 0, 0);
        Check.badState("the second is unmatched", () -> x.link(one, other));
        Check.badState("the first is unmatched", () -> x.link(other, one));
        Check.badState("an unmatched one with itself", () -> x.link(other, other));
        Check.badArgument("no first", () -> x.link(-1, one));
        Check.badArgument("no second", () -> x.link(one, 2));
        Check.badArgument("the argument goes before the state", () -> x.link(other, 2));
        Check.badArgument("the argument goes before the state, the other way", () -> x.link(2, other));
        x.cancel(other, 0);
        Check.badState("one is cancelled", () -> x.link(one, other));
    }

    private static void cancel() {
        SettleHouse x = new SettleHouse();
        x.tell(4, 9, true, 0, 1, 0, 0, 0);
        Check.due("unmatched, by the one who told it", 3, () -> x.cancel(0, 4));
        x.tell(4, 9, true, 0, 1, 0, 0, 0);
        Check.due("unmatched, by the other one", 3, () -> x.cancel(1, 9));
        int trade = Scene.pending(x, 4, 9, 1, 0);
        Check.badArgument("no side", () -> x.cancel(trade, 5));
        Check.badArgument("party -1", () -> x.cancel(trade, -1));
        Check.badArgument("party 16", () -> x.cancel(trade, 16));
        Check.badArgument("trade -1", () -> x.cancel(-1, 4));
        Check.badArgument("trade 3", () -> x.cancel(3, 4));
        Check.due("pending, one wishes", 1, () -> x.cancel(trade, 9));
        Check.due("pending, the same one again", 1, () -> x.cancel(trade, 9));
        x.fund(9, CASH, 1);
        Check.due("pending, both have wished", 3, () -> x.cancel(trade, 4));
        Check.due("what was left is left", "3 0 1 0 4 9 0 0 1 0 0", () -> Scene.tradeRow(x, trade));
        int wished = Scene.pending(x, 4, 9, 1, 0);
        x.cancel(wished, 4);
        x.fund(4, 0, 1);
        Check.due("one wish alone does not keep it from being settled", 1, x::nextDay);
    }

    private static void cancelInGroups() {
        SettleHouse x = new SettleHouse();
        for (int i = 0; i < 3; i++) {
            Scene.pending(x, 0, 1, 1, 0);
        }
        x.link(0, 1);
        x.link(1, 2);
        x.cancel(1, 0);
        Check.due("still three", 3, () -> x.trade(2, 9));
        x.cancel(1, 1);
        Check.due("it has left its group", "202", () -> "" + x.trade(0, 9) + x.trade(1, 9) + x.trade(2, 9));
        x.hold(2, 0, true);
        x.fund(0, 0, 3);
        Check.due("the rest is one group still", 0, x::nextDay);
        x.cancel(2, 0);
        x.cancel(2, 1);
        Check.due("alone", 1, () -> x.trade(0, 9));
        x.goTo(3);
        Check.due("a hold goes with the trade that had it", 1, x::nextDay);
    }

    private static void closedTradesRefuse() {
        SettleHouse x = new SettleHouse();
        x.fund(0, 0, 1);
        int settled = Scene.pending(x, 0, 1, 1, 0);
        int expired = Scene.pending(x, 0, 1, 2, 0);
        int cancelled = x.tell(0, 1, true, 0, 3, 0, 0, 0);
        x.cancel(cancelled, 0);
        x.goTo(14);
        Check.due("states", "243", () -> "" + x.trade(settled, 0) + x.trade(expired, 0) + x.trade(cancelled, 0));
        int pending = Scene.pending(x, 0, 1, 4, 0);
        for (int i : new int[] {settled, expired, cancelled}) {
            Check.badState("hold of " + i, () -> x.hold(i, 0, true));
            Check.badState("hold taken off of " + i, () -> x.hold(i, 1, false));
            Check.badState("rank of " + i, () -> x.rank(i, 2, true));
            Check.badState("cancel of " + i, () -> x.cancel(i, 0));
            Check.badState("link of " + i, () -> x.link(i, pending));
            Check.badState("link to " + i, () -> x.link(pending, i));
            Check.badArgument("hold of " + i + ", no side", () -> x.hold(i, 2, true));
            Check.badArgument("rank of " + i + ", priority", () -> x.rank(i, 4, true));
            Check.badArgument("cancel of " + i + ", no side", () -> x.cancel(i, 2));
            Check.due("in no group: " + i, 0, () -> x.trade(i, 9));
            Check.due("priority as before: " + i, 1, () -> x.trade(i, 8));
        }
        Check.due("nothing is left of the settled one", "2 0 0 0 0 1 0 0 1 0 0", () -> Scene.tradeRow(x, settled));
        Check.due("all is left of the expired one", "4 0 2 0 0 1 0 10 1 0 0", () -> Scene.tradeRow(x, expired));
    }

    private static void trade() {
        SettleHouse x = new SettleHouse();
        Check.badArgument("no trade", () -> x.trade(0, 0));
        x.tell(6, 5, false, 7, 8, 9, 0, 3);
        Check.due("told by the receiver", "0 -1 8 9 5 6 7 0 1 0 0", () -> Scene.tradeRow(x, 0));
        Check.badArgument("trade -1", () -> x.trade(-1, 0));
        Check.badArgument("trade 1", () -> x.trade(1, 0));
        Check.badArgument("what -1", () -> x.trade(0, -1));
        Check.badArgument("what 11", () -> x.trade(0, 11));
        x.tell(5, 6, true, 7, 8, 9, 0, 3);
        x.rank(0, 3, true);
        x.goTo(6);
        Check.due("pending, after two fails", "1 5 8 9 5 6 7 2 3 1 1", () -> Scene.tradeRow(x, 0));
    }

    private static void count() {
        SettleHouse x = new SettleHouse();
        Check.badArgument("count(-1)", () -> x.count(-1));
        Check.badArgument("count(5)", () -> x.count(5));
        x.fund(0, 0, 1);
        Scene.pending(x, 0, 1, 1, 0);
        Scene.pending(x, 0, 1, 2, 0);
        Scene.pending(x, 0, 1, 2, 0);
        x.goTo(14);
        for (int i = 0; i < 3; i++) {
            x.cancel(x.tell(0, 1, true, 0, 3, 0, 0, 0), 0);
        }
        for (int i = 0; i < 4; i++) {
            Scene.pending(x, 0, 1, 2, 0);
        }
        for (int i = 0; i < 5; i++) {
            x.tell(0, 1, true, 0, 4, 0, 0, 0);
        }
        Check.due("of each state", "54132", () -> "" + x.count(0) + x.count(1) + x.count(2) + x.count(3) + x.count(4));
    }
}
