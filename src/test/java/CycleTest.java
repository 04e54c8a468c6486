/** Promises 9 (nextDay) and 13 (settled), with all that the terms say of the cycle. */
public final class CycleTest {
    private static final int CASH = SettleHouse.NONE;

    public static void main(String[] args) {
        coveredAlone();
        coveredAsAGroup();
        coveredByTheNet();
        readyGroups();
        holdsOfBothSides();
        orderByPriority();
        orderByLeastNumber();
        againAndAgain();
        roundsNotRestarts();
        inParts();
        inPartsByCash();
        inPartsEdges();
        inPartsAlone();
        inPartsInOrder();
        inPartsOnceADay();
        failsAndExpiry();
        expiryLeavesTheGroup();
        settled();
        Check.finish();
    }

    private static void coveredAlone() {
        SettleHouse x = new SettleHouse();
        x.fund(0, 0, 9);
        x.fund(1, CASH, 100);
        int trade = Scene.pending(x, 0, 1, 10, 100);
        Check.due("one too few", 0, x::nextDay);
        x.fund(0, 0, 1);
        x.goTo(3);
        Check.due("just enough", 1, x::nextDay);
        Check.due("nothing is left", "2 0 0 0 0 1 0 1 1 0 0", () -> Scene.tradeRow(x, trade));
        Check.due("all has moved", "0 100 10 0", () -> x.has(0, 0) + " " + x.has(0, CASH) + " " + x.has(1, 0) + " " + x.has(1, CASH));

        SettleHouse y = new SettleHouse();
        y.fund(0, 0, 10);
        y.fund(1, CASH, 99);
        Scene.pending(y, 0, 1, 10, 100);
        Check.due("one cash too few", 0, y::nextDay);
        y.fund(1, CASH, 1);
        Check.due("just enough cash", 1, () -> y.goTo(4));

        SettleHouse z = new SettleHouse();
        z.fund(1, CASH, 7);
        Scene.pending(z, 0, 1, 0, 7);
        Check.due("cash alone", 1, z::nextDay);
        Check.due("a row of it", "0 0 7 1", () -> Scene.settledRows(z));
    }

    /** Nobody has cash, and each needs what the one before pays. */
    private static void coveredAsAGroup() {
        SettleHouse x = new SettleHouse();
        for (int party = 0; party < 3; party++) {
            x.fund(party, party, 10);
            Scene.pending(x, party, (party + 1) % 3, party, 10, 100);
        }
        Check.due("none is covered alone", 0, x::nextDay);
        x.link(0, 2);
        x.link(0, 1);
        x.goTo(3);
        Check.due("together they are", 3, x::nextDay);
        Check.due("by numbers", "0 10 100 4, 1 10 100 4, 2 10 100 4", () -> Scene.settledRows(x));
        Check.due("they are in no group", "000", () -> "" + x.trade(0, 9) + x.trade(1, 9) + x.trade(2, 9));
    }

    private static void coveredByTheNet() {
        SettleHouse x = new SettleHouse();
        x.fund(0, 0, 10);
        x.fund(1, CASH, 10);
        int there = Scene.pending(x, 0, 1, 10, 100);
        int back = Scene.pending(x, 1, 0, 10, 90);
        x.link(there, back);
        Check.due("there and back, and the difference in cash", 2, x::nextDay);
        Check.due("who has what", "10 10 0 0", () -> x.has(0, 0) + " " + x.has(0, CASH) + " " + x.has(1, 0) + " " + x.has(1, CASH));

        SettleHouse y = new SettleHouse();
        y.fund(0, 0, 10);
        y.fund(1, CASH, 9);
        y.link(Scene.pending(y, 0, 1, 10, 100), Scene.pending(y, 1, 0, 10, 90));
        Check.due("the difference is not covered", 0, y::nextDay);
        Check.due("nothing has moved", "10 0 0 9", () -> y.has(0, 0) + " " + y.has(0, CASH) + " " + y.has(1, 0) + " " + y.has(1, CASH));

        SettleHouse z = new SettleHouse();
        z.fund(0, 0, 10);
        z.link(Scene.pending(z, 0, 1, 6, 0), Scene.pending(z, 0, 2, 6, 0));
        Check.due("each is covered, both are not", 0, z::nextDay);
        z.fund(0, 0, 2);
        Check.due("both are covered", 2, () -> z.goTo(4));
    }

    private static void readyGroups() {
        SettleHouse x = new SettleHouse();
        x.fund(0, 0, 10);
        int early = Scene.pending(x, 0, 1, 1, 0);
        x.tell(0, 1, true, 0, 1, 0, 0, 2);
        int late = x.tell(1, 0, false, 0, 1, 0, 0, 2);
        x.link(early, late);
        Check.due("one is not due yet", 0, x::nextDay);
        Check.due("the other fails", "1 0", () -> x.trade(early, 7) + " " + x.trade(late, 7));
        Check.due("both are due", 2, () -> x.goTo(4));

        SettleHouse y = new SettleHouse();
        y.fund(0, 0, 10);
        y.tell(0, 1, true, 0, 1, 0, 0, 2);
        y.tell(1, 0, false, 0, 1, 0, 0, 2);
        Check.due("not before the due day", 0, () -> y.goTo(3));
        Check.due("on the due day", 1, () -> y.goTo(4));
        y.tell(0, 1, true, 0, 1, 0, 0, 0);
        Check.due("an unmatched one is left out", 0, () -> y.goTo(30));
        Check.due("and does not fail", "0 -1 1 0 0 1 0 0 1 0 0", () -> Scene.tradeRow(y, 1));
    }

    private static void holdsOfBothSides() {
        for (int side = 0; side < 2; side++) {
            SettleHouse x = new SettleHouse();
            int holder = side;
            x.fund(0, 0, 10);
            int held = Scene.pending(x, 0, 1, 1, 0);
            int linked = Scene.pending(x, 0, 1, 2, 0);
            int free = Scene.pending(x, 0, 1, 3, 0);
            x.link(held, linked);
            x.hold(held, holder, true);
            x.rank(held, 3, true);
            Check.due("a hold keeps its group", 1, x::nextDay);
            Check.due("but no other", "112", () -> "" + x.trade(held, 0) + x.trade(linked, 0) + x.trade(free, 0));
            Check.due("what is held fails", "1 1", () -> x.trade(held, 7) + " " + x.trade(linked, 7));
            x.hold(held, holder, false);
            Check.due("free again", 2, () -> x.goTo(4));
        }
        SettleHouse y = new SettleHouse();
        y.fund(0, 0, 10);
        int held = Scene.pending(y, 0, 1, 20, 0);
        y.rank(held, 1, true);
        y.hold(held, 0, true);
        y.nextDay();
        Check.due("a hold keeps from parts too", 20, () -> y.trade(held, 2));

        SettleHouse z = new SettleHouse();
        int late = Scene.pending(z, 0, 1, 20, 0);
        z.nextDay();
        z.hold(late, 0, true);
        z.fund(0, 0, 20);
        Check.due("a hold on what was ready the day before", 0, () -> z.goTo(4));
        z.hold(late, 0, false);
        Check.due("and off again", 1, z::nextDay);
    }

    private static void orderByPriority() {
        SettleHouse x = new SettleHouse();
        x.fund(0, 0, 10);
        for (int i = 0; i < 5; i++) {
            Scene.pending(x, 0, 1, 1, 0);
        }
        x.rank(0, 0, false);
        x.rank(2, 3, false);
        x.rank(3, 2, false);
        Check.due("all are settled", 5, x::nextDay);
        Check.due("the greater priority first, then the least number",
                "2 1 0 1, 3 1 0 1, 1 1 0 1, 4 1 0 1, 0 1 0 1", () -> Scene.settledRows(x));

        SettleHouse y = new SettleHouse();
        y.fund(0, 0, 6);
        Scene.pending(y, 0, 1, 5, 0);
        Scene.pending(y, 0, 1, 6, 0);
        y.rank(1, 2, false);
        Check.due("there is enough for one", 1, y::nextDay);
        Check.due("it is the greater priority's", "12", () -> "" + y.trade(0, 0) + y.trade(1, 0));
    }

    private static void orderByLeastNumber() {
        SettleHouse x = new SettleHouse();
        x.fund(0, 0, 10);
        for (int i = 0; i < 6; i++) {
            Scene.pending(x, 0, 1, 1, 0);
        }
        x.link(5, 1);
        x.link(4, 3);
        x.rank(4, 2, false);
        x.rank(2, 2, false);
        Check.due("all are settled", 6, x::nextDay);
        Check.due("groups by their greatest priority, then their least number",
                "2 1 0 1, 3 1 0 1, 4 1 0 1, 0 1 0 1, 1 1 0 1, 5 1 0 1", () -> Scene.settledRows(x));

        SettleHouse y = new SettleHouse();
        y.fund(0, 0, 10);
        for (int i = 0; i < 4; i++) {
            Scene.pending(y, 0, 1, 1, 0);
        }
        y.link(0, 3);
        y.rank(3, 2, false);
        y.rank(1, 2, false);
        y.nextDay();
        Check.due("the least number of all its trades, not of those with the greatest priority",
                "0 1 0 1, 3 1 0 1, 1 1 0 1, 2 1 0 1", () -> Scene.settledRows(y));

        SettleHouse z = new SettleHouse();
        z.fund(0, 0, 10);
        for (int i = 0; i < 3; i++) {
            Scene.pending(z, 0, 1, 1, 0);
        }
        z.link(0, 2);
        z.cancel(0, 0);
        z.cancel(0, 1);
        z.nextDay();
        Check.due("one that has left does not count", "1 1 0 1, 2 1 0 1", () -> Scene.settledRows(z));
    }

    /** Each trade needs what the one behind it brings. */
    private static void againAndAgain() {
        SettleHouse x = new SettleHouse();
        x.fund(5, 0, 10);
        for (int i = 0; i < 5; i++) {
            Scene.pending(x, i + 1, i, 10, 0);
        }
        Check.due("all on one day", 5, x::nextDay);
        Check.due("the last one first", "4 10 0 1, 3 10 0 1, 2 10 0 1, 1 10 0 1, 0 10 0 1", () -> Scene.settledRows(x));
        Check.due("it has come through", 10, () -> x.has(0, 0));

        SettleHouse y = new SettleHouse();
        y.fund(0, 0, 10);
        for (int i = 0; i < 5; i++) {
            Scene.pending(y, i, i + 1, 10, 0);
        }
        Check.due("all in one round", 5, y::nextDay);
        Check.due("the first one first", "0 10 0 1, 1 10 0 1, 2 10 0 1, 3 10 0 1, 4 10 0 1", () -> Scene.settledRows(y));
    }

    /** Trade 1 makes trade 0 covered; trade 2 comes before it, since a round goes to its end. */
    private static void roundsNotRestarts() {
        SettleHouse x = new SettleHouse();
        x.fund(2, 0, 5);
        x.fund(3, 1, 5);
        Scene.pending(x, 1, 0, 0, 5, 0);
        Scene.pending(x, 2, 1, 0, 5, 0);
        Scene.pending(x, 3, 0, 1, 5, 0);
        Check.due("all are settled", 3, x::nextDay);
        Check.due("a round goes to its end", "1 5 0 1, 2 5 0 1, 0 5 0 1", () -> Scene.settledRows(x));
    }

    private static void inParts() {
        SettleHouse x = new SettleHouse();
        x.fund(0, 0, 7);
        x.fund(1, CASH, 1000);
        int trade = Scene.pending(x, 0, 1, 10, 99);
        Check.due("not in parts, if it may not", 0, x::nextDay);
        Check.due("all is left", "10 99", () -> x.trade(trade, 2) + " " + x.trade(trade, 3));
        x.rank(trade, 1, true);
        Check.due("a part is not whole", 0, () -> x.goTo(4));
        Check.due("seven, and 99 * 7 / 10 downward", "0 7 69 4", () -> Scene.settledRows(x));
        Check.due("less by it, and it fails", "1 0 3 30 0 1 0 2 1 1 1", () -> Scene.tradeRow(x, trade));
        Check.due("who has what", "0 69 7 931", () -> x.has(0, 0) + " " + x.has(0, CASH) + " " + x.has(1, 0) + " " + x.has(1, CASH));
        Check.due("nothing to deliver", 0, x::nextDay);
        x.fund(0, 0, 4);
        Check.due("the rest", 1, x::nextDay);
        Check.due("both rows", "0 7 69 4, 0 3 30 6", () -> Scene.settledRows(x));
        Check.due("it is settled", "2 0 0 0 0 1 0 3 1 0 1", () -> Scene.tradeRow(x, trade));
    }

    private static void inPartsByCash() {
        partByCash(10, 99, 50, 5, 49);
        partByCash(10, 100, 50, 5, 50);
        partByCash(10, 101, 50, 5, 50);
        partByCash(10, 100, 49, 4, 40);
        partByCash(10, 100, 98, 9, 90);
        partByCash(10, 100, 0, 0, 0);
        partByCash(10, 9, 0, 1, 0);
        partByCash(10, 3, 0, 3, 0);
        partByCash(3, 2, 1, 2, 1);
        partByCash(2, 1, 0, 1, 0);
        partByCash(1000000, 1000000000, 999, 0, 0);
        partByCash(1000000, 1000000000, 1000, 1, 1000);
        partByCash(1000000, 1000000000, 999999999, 999999, 999999000);
        partByCash(1000000, 999999999, 999998998, 999998, 999997999);
        partByCash(1000000, 999999999, 999998999, 999999, 999998999);
        partByCash(1000000, 1, 0, 999999, 0);
    }

    /** A deliverer who has enough, and a receiver who has not. */
    private static void partByCash(int quantity, int amount, int cash, int part, int paid) {
        SettleHouse x = new SettleHouse();
        x.fund(0, 0, quantity);
        if (cash > 0) {
            x.fund(1, CASH, cash);
        }
        x.rank(Scene.pending(x, 0, 1, quantity, amount), 1, true);
        x.nextDay();
        String want = part == 0 ? "" : "0 " + part + " " + paid + " 1";
        Check.due(quantity + " for " + amount + " with cash " + cash, want, () -> Scene.settledRows(x));
    }

    private static void inPartsEdges() {
        SettleHouse x = new SettleHouse();
        x.rank(Scene.pending(x, 0, 1, 1, 0), 1, true);
        x.rank(Scene.pending(x, 2, 3, 0, 5), 1, true);
        x.rank(Scene.pending(x, 4, 5, 9, 5), 1, true);
        x.fund(3, CASH, 4);
        x.fund(5, CASH, 5);
        Check.due("one, none, and nothing to deliver", 0, x::nextDay);
        Check.due("no part of any", "", () -> Scene.settledRows(x));

        SettleHouse y = new SettleHouse();
        for (int i = 0; i < 20; i++) {
            y.fund(1, CASH, 1000000000);
        }
        y.fund(0, 0, 500000);
        y.rank(Scene.pending(y, 0, 1, 1000000, 1000000000), 1, true);
        y.nextDay();
        Check.due("much cash", "0 500000 500000000 1", () -> Scene.settledRows(y));
    }

    private static void inPartsAlone() {
        SettleHouse x = new SettleHouse();
        x.fund(0, 0, 5);
        int one = Scene.pending(x, 0, 1, 10, 0);
        int other = Scene.pending(x, 0, 1, 11, 0);
        x.rank(one, 1, true);
        x.rank(other, 1, true);
        x.link(one, other);
        x.nextDay();
        Check.due("no parts in a group of two", "", () -> Scene.settledRows(x));
        x.cancel(other, 0);
        x.cancel(other, 1);
        x.goTo(4);
        Check.due("parts of one that is alone again", "0 5 0 4", () -> Scene.settledRows(x));
    }

    private static void inPartsInOrder() {
        SettleHouse x = new SettleHouse();
        x.fund(0, 0, 5);
        x.rank(Scene.pending(x, 0, 1, 10, 0), 1, true);
        x.rank(Scene.pending(x, 0, 1, 10, 0), 2, true);
        x.nextDay();
        Check.due("the greater priority first", "1 5 0 1", () -> Scene.settledRows(x));
        Check.due("the other has to wait", 10, () -> x.trade(0, 2));

        SettleHouse y = new SettleHouse();
        y.fund(0, 0, 5);
        y.fund(1, CASH, 8);
        y.rank(Scene.pending(y, 0, 1, 4, 16), 1, true);
        y.rank(Scene.pending(y, 0, 1, 6, 6), 1, true);
        y.nextDay();
        Check.due("what the first takes is gone", "0 2 8 1", () -> Scene.settledRows(y));

        SettleHouse z = new SettleHouse();
        z.fund(0, 0, 3);
        z.fund(1, 0, 1);
        Scene.pending(z, 1, 2, 8, 0);
        Scene.pending(z, 0, 1, 4, 0);
        Scene.pending(z, 1, 2, 4, 0);
        z.rank(1, 3, true);
        z.rank(2, 2, true);
        z.rank(0, 1, false);
        z.nextDay();
        Check.due("once, and never the whole, though it would be covered by then",
                "1 3 0 1, 2 3 0 1", () -> Scene.settledRows(z));
        Check.due("no round more behind the parts", "1 1", () -> z.trade(1, 2) + " " + z.trade(2, 2));
    }

    private static void inPartsOnceADay() {
        SettleHouse x = new SettleHouse();
        x.fund(0, 0, 6);
        x.rank(Scene.pending(x, 1, 2, 5, 0), 3, true);
        x.rank(Scene.pending(x, 0, 1, 10, 0), 1, true);
        x.nextDay();
        Check.due("what comes behind a trade helps it no more that day", "1 6 0 1", () -> Scene.settledRows(x));
        x.goTo(4);
        Check.due("but on the next one", "1 6 0 1, 0 5 0 4", () -> Scene.settledRows(x));
    }

    private static void failsAndExpiry() {
        SettleHouse x = new SettleHouse();
        int trade = Scene.pending(x, 0, 1, 10, 5);
        x.tell(0, 1, true, 0, 1, 0, 0, 3);
        int later = x.tell(1, 0, false, 0, 1, 0, 0, 3);
        x.goTo(13);
        Check.due("nine fails by Wednesday, the fourteenth", "1 0 10 5 0 1 0 9 1 1 0", () -> Scene.tradeRow(x, trade));
        Check.due("the other one failed from its due day on", 7, () -> x.trade(later, 7));
        x.nextDay();
        Check.due("the tenth fail", "4 0 10 5 0 1 0 10 1 0 0", () -> Scene.tradeRow(x, trade));
        x.fund(0, 0, 10);
        x.fund(1, CASH, 5);
        Check.due("an expired one is not settled any more", 1, () -> x.goTo(30));
        Check.due("and fails no more", 10, () -> x.trade(trade, 7));
        Check.due("a settled one fails no more", 8, () -> x.trade(later, 7));

        SettleHouse y = new SettleHouse();
        int last = Scene.pending(y, 0, 1, 10, 0);
        y.rank(last, 1, true);
        y.goTo(13);
        y.fund(0, 0, 4);
        y.nextDay();
        Check.due("a part on the last day, then it expires", "0 4 0 14", () -> Scene.settledRows(y));
        Check.due("six are left", "4 0 6 0 0 1 0 10 1 0 1", () -> Scene.tradeRow(y, last));

        SettleHouse z = new SettleHouse();
        Scene.pending(z, 0, 1, 10, 0);
        z.goTo(13);
        z.fund(0, 0, 10);
        Check.due("the whole on the last day", 1, z::nextDay);
        Check.due("it has not expired", "2 9", () -> z.trade(0, 0) + " " + z.trade(0, 7));
    }

    private static void expiryLeavesTheGroup() {
        SettleHouse x = new SettleHouse();
        x.fund(0, 0, 5);
        int old = Scene.pending(x, 0, 1, 10, 0);
        x.goTo(4);
        int young = Scene.pending(x, 0, 1, 5, 0);
        x.link(old, young);
        x.goTo(13);
        Check.due("both are in it", "2 2", () -> x.trade(old, 9) + " " + x.trade(young, 9));
        Check.due("on the day of expiry the group still fails", 0, x::nextDay);
        Check.due("then one is alone", "4 0 1 1", () -> x.trade(old, 0) + " " + x.trade(old, 9)
                + " " + x.trade(young, 0) + " " + x.trade(young, 9));
        Check.due("and is settled", 1, x::nextDay);
    }

    private static void settled() {
        SettleHouse x = new SettleHouse();
        Check.due("nothing at first", -1, () -> x.settled(0, 0));
        x.fund(0, 0, 10);
        x.fund(1, CASH, 10);
        Scene.pending(x, 0, 1, 3, 4);
        Scene.pending(x, 0, 1, 2, 0);
        x.nextDay();
        Check.due("trade", 0, () -> x.settled(0, 0));
        Check.due("quantity", 3, () -> x.settled(0, 1));
        Check.due("cash", 4, () -> x.settled(0, 2));
        Check.due("day", 1, () -> x.settled(0, 3));
        Check.due("the second", "1 2 0 1", () -> x.settled(1, 0) + " " + x.settled(1, 1) + " " + x.settled(1, 2) + " " + x.settled(1, 3));
        for (int i : new int[] {-1, 2, Integer.MIN_VALUE, Integer.MAX_VALUE}) {
            Check.due("no row " + i, -1, () -> x.settled(i, 0));
            Check.due("no what " + (i == 2 ? 4 : i), -1, () -> x.settled(0, i == 2 ? 4 : i));
        }
    }
}
