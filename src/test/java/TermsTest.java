/** The sentences of "Terms", quoted one by one, each with the last case that is still so and the first that is not. */
public final class TermsTest {
    private static final int CASH = SettleHouse.NONE;

    public static void main(String[] args) {
        partiesAndSecurities();
        neverBelowNothing();
        theFirstDay();
        businessDays();
        whatTermsAre();
        whereCashGoes();
        numbersOfTrades();
        states();
        dueDayWithoutLag();
        dueDayWithLag();
        dueDayByHolidaysKnownThen();
        holdOfEitherSide();
        wishOfEitherSide();
        atFirst();
        atFirstAlone();
        leavingAGroup();
        readyByDueDay();
        readyByHolds();
        coveredByHoldings();
        coveredByCash();
        coveredAtOnce();
        coveredInEverySecurity();
        orderOfPriorities();
        orderWithinAPriority();
        byNumbersWithinAGroup();
        againAndAgain();
        untilNoneIsSettled();
        partsOfTheDeliverer();
        partsOfTheReceiver();
        partsBelowTheQuantity();
        partsOnce();
        partsAloneAndAllowed();
        partsOfWhatIsReady();
        partsDownward();
        failsWhenDue();
        theTenthFail();
        badArguments();
        badStates();
        bothFit();
        throwingChangesNothing();
        Document.isQuoted("Terms");
        Check.finish();
    }

    private static void says(String words) {
        Document.says("Terms", words);
    }

    private static void partiesAndSecurities() {
        says("PARTIES are 0 .. 15, each with CASH and HOLDINGS of SECURITIES 0 .. 7, at first nothing;");
        SettleHouse x = new SettleHouse();
        for (int party = 0; party < 16; party++) {
            for (int security = CASH; security < 8; security++) {
                int p = party;
                int s = security;
                int n = 1 + 9 * p + s + 1;
                Check.due("party " + p + " has nothing of " + s, 0, () -> x.has(p, s));
                Check.due("party " + p + " gets of " + s, n, () -> x.fund(p, s, n));
            }
        }
        for (int party = 0; party < 16; party++) {
            int p = party;
            Check.due("each has its own of the last security", 9 * p + 9, () -> x.has(p, 7));
            Check.due("each has its own cash", 9 * p + 1, () -> x.has(p, CASH));
        }
        for (int security = 0; security < 8; security++) {
            int s = security;
            Check.due("a trade of the last party and the first", s, () -> Scene.pending(x, 15, 0, s, 1, 0));
            Check.due("its security", s, () -> x.trade(s, 6));
        }
        Check.due("of all securities", 8, x::nextDay);
        Check.due("one was delivered", "136 9", () -> x.has(15, 0) + " " + x.has(0, 6));
    }

    /** What is settled leaves just nothing, or is not settled. */
    private static void neverBelowNothing() {
        says("never below 0.");
        for (int lack = 0; lack < 2; lack++) {
            SettleHouse x = new SettleHouse();
            x.fund(0, 0, 10 - lack);
            x.fund(1, CASH, 100);
            x.fund(2, 0, 10);
            x.fund(3, CASH, 100 - lack);
            Scene.pending(x, 0, 1, 10, 100);
            Scene.pending(x, 2, 3, 10, 100);
            Check.due("settled when " + lack + " lack", 2 - 2 * lack, x::nextDay);
            Check.due("what the deliverers have when " + lack + " lack", lack == 0 ? "0 0" : "9 10", () -> x.has(0, 0) + " " + x.has(2, 0));
            Check.due("what the receivers have when " + lack + " lack", lack == 0 ? "0 0" : "100 99", () -> x.has(1, CASH) + " " + x.has(3, CASH));
        }
    }

    private static void theFirstDay() {
        says("DAYS: day 0 is Thursday, the first of January 1970; today is at first 0.");
        SettleHouse x = new SettleHouse();
        Check.due("year, month, day, weekday, number", "1970 1 1 4 0",
                () -> x.date(0) + " " + x.date(1) + " " + x.date(2) + " " + x.date(3) + " " + x.date(4));
    }

    /** With each day one trade more. */
    private static void businessDays() {
        says("A BUSINESS DAY is no Saturday, no Sunday, and no HOLIDAY.");
        SettleHouse x = new SettleHouse();
        x.fund(0, 0, 100);
        x.holiday(6);
        x.holiday(9);
        x.holiday(14);
        int[] settled = {1, 0, 0, 3, 1, 0, 2, 1, 0, 0, 3, 1, 1, 0, 2, 0, 0, 3};
        for (int i = 0; i < settled.length; i++) {
            Scene.pending(x, 0, 1, 1, 0);
            Check.due("settled on day " + (i + 1), settled[i], x::nextDay);
        }
    }

    private static void whatTermsAre() {
        says("TERMS are who delivers, who receives, a security, a quantity,");
        SettleHouse x = new SettleHouse();
        x.goTo(4);
        x.tell(4, 9, true, 3, 20, 500, 4, 2);
        x.tell(4, 9, false, 3, 20, 500, 4, 2);
        Check.due("who delivers", "4 9", () -> Scene.ofEach(x, 4));
        Check.due("who receives", "9 4", () -> Scene.ofEach(x, 5));
        Check.due("another deliverer", 2, () -> x.tell(8, 4, true, 3, 20, 500, 4, 2));
        Check.due("another receiver", 3, () -> x.tell(8, 4, false, 3, 20, 500, 4, 2));
        Check.due("another security", 4, () -> x.tell(9, 4, false, 2, 20, 500, 4, 2));
        Check.due("another quantity", 5, () -> x.tell(9, 4, false, 3, 19, 500, 4, 2));
        Check.due("another amount", 6, () -> x.tell(9, 4, false, 3, 20, 501, 4, 2));
        Check.due("another trade day", 7, () -> x.tell(9, 4, false, 3, 20, 500, 3, 2));
        Check.due("another lag", 8, () -> x.tell(9, 4, false, 3, 20, 500, 4, 3));
        Check.due("another trade day and lag, with the same due day", 9, () -> x.tell(9, 4, false, 3, 20, 500, 3, 3));
        Check.due("all are alike", 0, () -> x.tell(9, 4, false, 3, 20, 500, 4, 2));
        Check.due("all are alike the other way", 1, () -> x.tell(9, 4, true, 3, 20, 500, 4, 2));
        Check.due("just these are pending", "1 1 0 0 0 0 0 0 0 0", () -> Scene.ofEach(x, 0));
    }

    private static void whereCashGoes() {
        says("an amount of cash that goes the other way, a trade day, and a lag.");
        SettleHouse x = new SettleHouse();
        x.fund(4, 3, 21);
        x.fund(9, CASH, 502);
        Scene.pendingOn(x, 4, 9, 3, 20, 500, 0, 1);
        x.nextDay();
        Check.due("the deliverer has", "1 500", () -> x.has(4, 3) + " " + x.has(4, CASH));
        Check.due("the receiver has", "20 2", () -> x.has(9, 3) + " " + x.has(9, CASH));
        Check.due("on the trade day and the lag", 1, () -> x.trade(0, 1));
    }

    private static void numbersOfTrades() {
        says("TRADES have numbers 0, 1, .., 150 at most.");
        SettleHouse x = new SettleHouse();
        for (int i = 0; i < 75; i++) {
            int number = i;
            Check.due("a pending one", number, () -> Scene.pending(x, 0, 1, 1, 0));
        }
        x.cancel(74, 0);
        x.cancel(74, 1);
        for (int i = 75; i < 150; i++) {
            int number = i;
            Check.due("an unmatched one", number, () -> x.tell(0, 1, true, 0, 1, 0, 0, 0));
        }
        Check.badState("one more", () -> x.tell(0, 1, true, 0, 1, 0, 0, 0));
        Check.due("states", "75 74 0 1 0", () -> x.count(0) + " " + x.count(1) + " " + x.count(2) + " " + x.count(3) + " " + x.count(4));
    }

    private static void states() {
        says("Each is UNMATCHED (0), as long as only one side has told it; PENDING (1); SETTLED (2), CANCELLED (3), or EXPIRED (4).");
        SettleHouse x = new SettleHouse();
        x.fund(0, 0, 1);
        x.tell(0, 1, true, 0, 1, 0, 0, 0);
        x.tell(0, 1, true, 0, 1, 0, 0, 0);
        Check.due("one side has told both", "0 0", () -> Scene.ofEach(x, 0));
        x.goTo(14);
        Check.due("as long as only one has", "0 0", () -> Scene.ofEach(x, 0));
        x.tell(1, 0, false, 0, 1, 0, 0, 0);
        Check.due("both have told the first", "1 0", () -> Scene.ofEach(x, 0));
        x.nextDay();
        Check.due("it is settled", "2 0", () -> Scene.ofEach(x, 0));
        x.tell(1, 0, false, 0, 1, 0, 0, 0);
        Scene.cancelByBoth(x, Scene.pending(x, 0, 1, 1, 0));
        Check.due("one is pending, one cancelled", "2 1 3", () -> Scene.ofEach(x, 0));
        x.goTo(29);
        Check.due("one has expired", "2 4 3", () -> Scene.ofEach(x, 0));
        Check.due("how many of each", "0 0 1 1 1", () -> x.count(0) + " " + x.count(1) + " " + x.count(2) + " " + x.count(3) + " " + x.count(4));
    }

    /** Be it a business day or none. */
    private static void dueDayWithoutLag() {
        says("Its DUE DAY is reckoned when both have told it: the trade day,");
        SettleHouse x = new SettleHouse();
        x.holiday(5);
        x.goTo(6);
        for (int day = 0; day <= 6; day++) {
            int number = day;
            x.tell(0, 1, true, 0, 1, 0, day, 0);
            Check.due("none while one side has told it", -1, () -> x.trade(number, 1));
            x.tell(1, 0, false, 0, 1, 0, day, 0);
            Check.due("the trade day", number, () -> x.trade(number, 1));
        }
    }

    private static void dueDayWithLag() {
        says("or for a lag above 0 the business day that comes so many times next,");
        SettleHouse x = new SettleHouse();
        x.holiday(5);
        x.goTo(6);
        int[] next = {1, 4, 4, 4, 6, 6, 7};
        int[] tenth = {15, 18, 18, 18, 19, 19, 20};
        for (int day = 0; day <= 6; day++) {
            int on = day;
            int one = Scene.pendingOn(x, 0, 1, 0, 1, 0, day, 1);
            Check.due("the next one behind " + on, next[on], () -> x.trade(one, 1));
            int last = Scene.pendingOn(x, 0, 1, 0, 1, 0, day, 10);
            Check.due("the tenth behind " + on, tenth[on], () -> x.trade(last, 1));
        }
    }

    private static void dueDayByHolidaysKnownThen() {
        says("by the holidays that are known then.");
        SettleHouse x = new SettleHouse();
        int before = Scene.pendingOn(x, 0, 1, 0, 1, 0, 0, 2);
        int between = x.tell(0, 1, true, 0, 2, 0, 0, 2);
        x.holiday(4);
        x.tell(1, 0, false, 0, 2, 0, 0, 2);
        Check.due("a holiday told behind both", 4, () -> x.trade(before, 1));
        Check.due("a holiday told behind one of both", 5, () -> x.trade(between, 1));
        x.fund(0, 0, 3);
        Check.due("none is settled before the due day", 0, () -> x.goTo(4));
        Check.due("both are, once it is a business day", 2, x::nextDay);
    }

    private static void holdOfEitherSide() {
        says("A trade has, of either side, a HOLD, or none,");
        SettleHouse x = new SettleHouse();
        x.fund(4, 0, 1);
        int trade = Scene.pending(x, 4, 9, 1, 0);
        Check.due("the deliverer had none", true, () -> x.hold(trade, 4, true));
        Check.due("the receiver had none", true, () -> x.hold(trade, 9, true));
        Check.due("the deliverer's goes", true, () -> x.hold(trade, 4, false));
        Check.due("the receiver's is still there", 0, x::nextDay);
        Check.due("the receiver's is there", false, () -> x.hold(trade, 9, true));
        Check.due("the deliverer's is not", false, () -> x.hold(trade, 4, false));
        x.hold(trade, 9, false);
        Check.due("no hold", 1, () -> x.goTo(4));
    }

    /** The same side's second wish is not the other's. */
    private static void wishOfEitherSide() {
        says("and a WISH to cancel it, or none;");
        SettleHouse x = new SettleHouse();
        int one = Scene.pending(x, 4, 9, 1, 0);
        int other = Scene.pending(x, 4, 9, 1, 0);
        Check.due("the deliverer first", "1 1 3", () -> x.cancel(one, 4) + " " + x.cancel(one, 4) + " " + x.cancel(one, 9));
        Check.due("the receiver first", "1 1 3", () -> x.cancel(other, 9) + " " + x.cancel(other, 9) + " " + x.cancel(other, 4));
    }

    private static void atFirst() {
        says("a PRIORITY 0 .. 3, at first 1; perhaps it may be settled IN PARTS; and FAILS, at first 0.");
        SettleHouse x = new SettleHouse();
        x.tell(4, 9, true, 3, 20, 500, 0, 0);
        Check.due("unmatched", "0 -1 20 500 4 9 3 0 1 0 0", () -> Scene.tradeRow(x, 0));
        x.tell(9, 4, false, 3, 20, 500, 0, 0);
        Check.due("pending", "1 0 20 500 4 9 3 0 1 1 0", () -> Scene.tradeRow(x, 0));
        Check.badArgument("a priority below 0", () -> x.rank(0, -1, true));
        Check.badArgument("a priority above 3", () -> x.rank(0, 4, true));
        for (int priority = 0; priority <= 3; priority++) {
            int p = priority;
            int before = priority == 0 ? 1 : priority - 1;
            Check.due("priority " + p, before, () -> x.rank(0, p, p % 2 == 0));
            Check.due("it has it", p + " " + (1 - p % 2), () -> x.trade(0, 8) + " " + x.trade(0, 10));
        }
        x.nextDay();
        Check.due("a first fail", 1, () -> x.trade(0, 7));
    }

    private static void atFirstAlone() {
        says("Pending trades stand in GROUPS, at first each alone;");
        SettleHouse x = new SettleHouse();
        x.fund(0, 0, 5);
        x.tell(0, 1, true, 0, 5, 0, 0, 0);
        Check.due("unmatched: in no group", 0, () -> x.trade(0, 9));
        x.tell(1, 0, false, 0, 5, 0, 0, 0);
        Scene.pending(x, 0, 1, 6, 0);
        Check.due("pending: alone", "1 1", () -> Scene.ofEach(x, 9));
        Check.due("one does not wait for the other", 1, x::nextDay);
        Check.due("the other one is alone still", "0 1", () -> Scene.ofEach(x, 9));
    }

    /** Settled, cancelled, or expired. */
    private static void leavingAGroup() {
        says("one that is not pending any more leaves its group.");
        SettleHouse x = new SettleHouse();
        x.fund(0, 0, 2);
        x.link(Scene.pending(x, 0, 1, 1, 0), Scene.pending(x, 0, 1, 1, 0));
        x.link(Scene.pending(x, 2, 1, 1, 0), Scene.pending(x, 2, 1, 1, 0));
        Check.due("two groups", "2 2 2 2", () -> Scene.ofEach(x, 9));
        x.nextDay();
        Check.due("one was settled", "0 0 2 2", () -> Scene.ofEach(x, 9));
        int late = Scene.pending(x, 2, 1, 1, 0);
        x.link(late, 2);
        Check.due("one more", "0 0 3 3 3", () -> Scene.ofEach(x, 9));
        Scene.cancelByBoth(x, 3);
        Check.due("one was cancelled", "0 0 2 0 2", () -> Scene.ofEach(x, 9));
        x.goTo(14);
        Check.due("one has expired", "0 0 0 0 1", () -> Scene.ofEach(x, 9));
        x.nextDay();
        Check.due("the last one has too", "0 0 0 0 0", () -> Scene.ofEach(x, 9));
        Check.due("states", "2 2 4 3 4", () -> Scene.ofEach(x, 0));
    }

    private static void readyByDueDay() {
        says("A group is READY, if all its trades are due today or before,");
        SettleHouse x = new SettleHouse();
        x.fund(0, 0, 9);
        Scene.pendingOn(x, 0, 1, 0, 1, 0, 0, 0);
        Scene.pendingOn(x, 0, 1, 0, 1, 0, 0, 1);
        Scene.pendingOn(x, 0, 1, 0, 1, 0, 0, 2);
        Check.due("due before, due today, due later", 2, x::nextDay);
        Check.due("the third is pending", "2 2 1", () -> Scene.ofEach(x, 0));
        Check.due("on its due day", 1, () -> x.goTo(4));

        SettleHouse y = new SettleHouse();
        y.fund(0, 0, 9);
        y.link(Scene.pendingOn(y, 0, 1, 0, 1, 0, 0, 0), Scene.pendingOn(y, 0, 1, 0, 1, 0, 0, 3));
        y.link(Scene.pendingOn(y, 0, 1, 0, 1, 0, 0, 2), Scene.pendingOn(y, 0, 1, 0, 1, 0, 0, 0));
        Check.due("one of two is due later", 0, y::nextDay);
        Check.due("one of the first two is due later", 2, () -> y.goTo(4));
        Check.due("all are due", 2, y::nextDay);
        Check.due("by their due days", "2 3 0 1", () -> Scene.settledTrades(y));
    }

    /** Each side of each trade of a group. */
    private static void readyByHolds() {
        says("and none has a hold;");
        for (int held = 0; held < 3; held++) {
            for (int party = 0; party < 2; party++) {
                SettleHouse x = new SettleHouse();
                x.fund(0, 0, 9);
                for (int i = 0; i < 4; i++) {
                    Scene.pending(x, 0, 1, 1, 0);
                }
                x.link(0, 1);
                x.link(0, 2);
                x.hold(held, party, true);
                Check.due("trade " + held + " is held by " + party, 1, x::nextDay);
                Check.due("so its group waits", "1 1 1 2", () -> Scene.ofEach(x, 0));
                x.hold(held, party, false);
                Check.due("the hold of " + party + " on " + held + " is off", 3, () -> x.goTo(4));
            }
        }
    }

    private static void coveredByHoldings() {
        says("COVERED, if no party would have cash or holdings below 0, were all its trades settled at once.");
        for (int lack = 0; lack < 2; lack++) {
            SettleHouse x = new SettleHouse();
            x.fund(0, 0, 10 - lack);
            x.link(Scene.pending(x, 0, 1, 4, 0), Scene.pending(x, 0, 2, 6, 0));
            Check.due("two deliveries, " + lack + " lack", lack == 0 ? 2 : 0, x::nextDay);

            SettleHouse y = new SettleHouse();
            y.fund(0, 0, 10 - lack);
            y.fund(1, 0, 100);
            y.link(Scene.pending(y, 1, 2, 50, 0), Scene.pending(y, 0, 2, 10, 0));
            Check.due("another deliverer has plenty, " + lack + " lack", lack == 0 ? 2 : 0, y::nextDay);
        }
    }

    private static void coveredByCash() {
        for (int lack = 0; lack < 2; lack++) {
            SettleHouse x = new SettleHouse();
            x.fund(0, CASH, 10 - lack);
            x.link(Scene.pending(x, 1, 0, 0, 4), Scene.pending(x, 2, 0, 0, 6));
            Check.due("two payments, " + lack + " lack", lack == 0 ? 2 : 0, x::nextDay);

            SettleHouse y = new SettleHouse();
            y.fund(0, CASH, 10 - lack);
            y.fund(1, CASH, 100);
            y.link(Scene.pending(y, 2, 1, 0, 50), Scene.pending(y, 2, 0, 0, 10));
            Check.due("another receiver has plenty, " + lack + " lack", lack == 0 ? 2 : 0, y::nextDay);
        }
        SettleHouse z = new SettleHouse();
        for (int i = 0; i < 3; i++) {
            z.link(0, Scene.pending(z, 1, 0, 0, 1000000000));
        }
        Check.due("three of the greatest amounts, and no cash", 0, z::nextDay);
    }

    /** What comes in with the group counts, whatever the numbers: nobody but party 2 has anything at first. */
    private static void coveredAtOnce() {
        for (int lack = 0; lack < 2; lack++) {
            SettleHouse x = new SettleHouse();
            x.fund(2, 0, 10 - lack);
            Scene.pending(x, 1, 0, 10, 0);
            Scene.pending(x, 2, 1, 10, 0);
            x.link(0, 1);
            Check.due("through one hand, " + lack + " lack", lack == 0 ? 2 : 0, x::nextDay);
            Check.due("who has it then, " + lack + " lack", lack == 0 ? "10 0 0" : "0 0 9",
                    () -> x.has(0, 0) + " " + x.has(1, 0) + " " + x.has(2, 0));

            SettleHouse y = new SettleHouse();
            y.fund(2, CASH, 10 - lack);
            Scene.pending(y, 0, 1, 0, 10);
            Scene.pending(y, 1, 2, 0, 10);
            y.link(0, 1);
            Check.due("cash through one hand, " + lack + " lack", lack == 0 ? 2 : 0, y::nextDay);
            Check.due("who has the cash then, " + lack + " lack", lack == 0 ? "10 0 0" : "0 0 9",
                    () -> y.has(0, CASH) + " " + y.has(1, CASH) + " " + y.has(2, CASH));

            SettleHouse z = new SettleHouse();
            z.fund(1, CASH, 10 - lack);
            z.link(Scene.pending(z, 0, 1, 7, 100), Scene.pending(z, 1, 0, 7, 90));
            Check.due("there and back, " + lack + " lack", lack == 0 ? 2 : 0, z::nextDay);
        }
    }

    /** Each security is reckoned for itself, and so is cash: plenty of one covers no other. */
    private static void coveredInEverySecurity() {
        for (int lacking = CASH; lacking < 3; lacking++) {
            SettleHouse x = new SettleHouse();
            for (int asset = CASH; asset < 3; asset++) {
                x.fund(0, asset, asset == lacking ? 9 : 20);
            }
            Scene.pending(x, 0, 1, 0, 10, 0);
            Scene.pending(x, 0, 2, 1, 10, 0);
            Scene.pending(x, 0, 3, 2, 10, 0);
            Scene.pending(x, 4, 0, 3, 0, 10);
            x.link(0, 1);
            x.link(1, 2);
            x.link(2, 3);
            int asset = lacking;
            Check.due("too little of " + asset, 0, x::nextDay);
            x.fund(0, asset, 1);
            Check.due("enough of " + asset, 4, () -> x.goTo(4));
        }
    }

    private static void orderOfPriorities() {
        says("Groups go by the greatest priority of their trades, the greater one first,");
        SettleHouse x = new SettleHouse();
        x.fund(0, 0, 9);
        int[] priorities = {0, 2, 1, 3};
        for (int i = 0; i < 4; i++) {
            x.rank(Scene.pending(x, 0, 1, 1, 0), priorities[i], false);
        }
        x.nextDay();
        Check.due("3, 2, 1, 0", "3 1 2 0", () -> Scene.settledTrades(x));

        SettleHouse y = new SettleHouse();
        y.fund(0, 0, 9);
        int[] ofGroups = {1, 1, 2, 3, 0, 0};
        for (int i = 0; i < 6; i++) {
            y.rank(Scene.pending(y, 0, 1, 1, 0), ofGroups[i], false);
        }
        y.link(1, 3);
        y.link(0, 5);
        y.nextDay();
        Check.due("a group by its greatest", "1 3 2 0 5 4", () -> Scene.settledTrades(y));

        for (int first = 1; first <= 3; first++) {
            SettleHouse z = new SettleHouse();
            z.fund(0, 0, 9);
            for (int i = 0; i < 4; i++) {
                z.rank(Scene.pending(z, 0, 1, 1, 0), i == 0 ? 2 : i == first ? 3 : 1, false);
            }
            z.link(1, 2);
            z.link(2, 3);
            z.nextDay();
            Check.due("a group by the priority of " + first, "1 2 3 0", () -> Scene.settledTrades(z));
        }
    }

    private static void orderWithinAPriority() {
        says("then by the least number of these.");
        SettleHouse x = new SettleHouse();
        x.fund(0, 0, 9);
        for (int i = 0; i < 6; i++) {
            Scene.pending(x, 0, 1, 1, 0);
        }
        x.link(5, 1);
        x.link(4, 2);
        x.nextDay();
        Check.due("by the least numbers", "0 1 5 2 4 3", () -> Scene.settledTrades(x));

        SettleHouse y = new SettleHouse();
        y.fund(0, 0, 9);
        y.tell(1, 0, false, 0, 1, 0, 0, 0);
        Scene.pending(y, 0, 2, 1, 0);
        y.tell(0, 1, true, 0, 1, 0, 0, 0);
        y.nextDay();
        Check.due("by numbers, not by when both have told it", "0 1", () -> Scene.settledTrades(y));

        SettleHouse z = new SettleHouse();
        z.fund(0, 0, 5);
        Scene.pending(z, 0, 1, 4, 0);
        Scene.pending(z, 0, 2, 5, 0);
        Scene.pending(z, 0, 3, 1, 0);
        z.nextDay();
        Check.due("who comes first takes what there is", "2 1 2", () -> Scene.ofEach(z, 0));
    }

    /** Whatever their priorities and links. */
    private static void byNumbersWithinAGroup() {
        says("and the covered ones are settled, each of their trades by numbers;");
        SettleHouse x = new SettleHouse();
        x.fund(0, 0, 9);
        for (int i = 0; i < 6; i++) {
            Scene.pending(x, 0, 1, 1, 0);
        }
        x.rank(4, 3, false);
        int[] others = {2, 5, 0, 3, 1};
        for (int other : others) {
            x.link(4, other);
        }
        x.nextDay();
        Check.due("by numbers", "0 1 2 3 4 5", () -> Scene.settledTrades(x));
    }

    /** A round goes to its end before the next one. */
    private static void againAndAgain() {
        says("THE CYCLE of a business day: all ready groups are gone through in that order,");
        SettleHouse x = new SettleHouse();
        x.fund(3, 0, 5);
        x.fund(4, 1, 5);
        Scene.pending(x, 1, 0, 0, 5, 0);
        Scene.pending(x, 2, 1, 0, 5, 0);
        Scene.pending(x, 3, 2, 0, 5, 0);
        Scene.pending(x, 4, 0, 1, 5, 0);
        Check.due("in three rounds", 4, x::nextDay);
        Check.due("round by round", "2 3 1 0", () -> Scene.settledTrades(x));
    }

    /**
     * 149 trades, of which each is covered just when the one behind it has been settled, so that there are 149 rounds.
     * Party 0 lends each other party all that it has of a security, and gets back one more.
     */
    private static void untilNoneIsSettled() {
        says("again and again, until none is settled so.");
        SettleHouse x = new SettleHouse();
        x.fund(0, CASH, 5);
        int[][] steps = new int[150][];
        int step = 0;
        for (int security = 0; security < 5; security++) {
            x.fund(0, security, 1);
            for (int had = 1; had <= 15; had++) {
                int other = security % 2 == 0 ? had : 16 - had;
                x.fund(other, security, 1);
                // The last one gets cash, which it needs to be the first one with the next security.
                steps[step++] = new int[] {0, other, security, had, had == 1 ? security : 0};
                steps[step++] = new int[] {other, 0, security, had + 1, had == 15 ? security + 1 : 0};
            }
        }
        for (int i = 148; i >= 0; i--) {
            int[] s = steps[i];
            Scene.pendingOn(x, s[0], s[1], s[2], s[3], s[4], 0, 0);
        }
        Check.due("all on one day", 149, x::nextDay);
        for (int i = 0; i < 100; i++) {
            int row = i;
            Check.due("settled as number " + row, 148 - row, () -> x.settled(row, 0));
        }
        Check.due("the last one", "0 1 0", () -> x.settled(148, 0) + " " + x.settled(148, 3) + " " + x.trade(0, 7));
    }

    /** All it has, and none if it has none. */
    private static void partsOfTheDeliverer() {
        says("with k the greatest quantity below its own of which the deliverer has enough,");
        int[][] cases = {{0, 0}, {1, 1}, {2, 2}, {8, 8}, {9, 9}};
        for (int[] c : cases) {
            SettleHouse x = new SettleHouse();
            if (c[0] > 0) {
                x.fund(0, 0, c[0]);
            }
            x.rank(Scene.pending(x, 0, 1, 10, 0), 1, true);
            Check.due("none is settled wholly", 0, x::nextDay);
            Check.due("of 10, having " + c[0], c[1] == 0 ? "" : "0 " + c[1] + " 0 1", () -> Scene.settledRows(x));
            Check.due("left of 10", 10 - c[1], () -> x.trade(0, 2));
            Check.due("the deliverer has nothing left", 0, () -> x.has(0, 0));
        }
    }

    private static void partsOfTheReceiver() {
        says("and the receiver has the amount, times k, by the quantity, downward:");
        int[][] of70 = {{0, 0, 0}, {6, 0, 0}, {7, 1, 7}, {13, 1, 7}, {14, 2, 14}, {62, 8, 56}, {63, 9, 63}, {69, 9, 63}};
        for (int[] c : of70) {
            partOfTen(70, c[0], c[1], c[2]);
        }
        int[][] of75 = {{0, 0, 0}, {6, 0, 0}, {7, 1, 7}, {14, 1, 7}, {15, 2, 15}, {21, 2, 15}, {22, 3, 22}, {66, 8, 60}, {67, 9, 67}};
        for (int[] c : of75) {
            partOfTen(75, c[0], c[1], c[2]);
        }
        SettleHouse x = new SettleHouse();
        x.fund(0, 0, 1000000);
        x.fund(1, CASH, 777777777);
        x.rank(Scene.pending(x, 0, 1, 1000000, 1000000000), 1, true);
        x.nextDay();
        Check.due("of the greatest quantity and amount", "0 777777 777777000 1", () -> Scene.settledRows(x));
        int[][] of9 = {{0, 1, 0}, {1, 2, 1}, {2, 3, 2}, {7, 8, 7}, {8, 9, 8}};
        for (int[] c : of9) {
            partOfTen(9, c[0], c[1], c[2]);
        }
    }

    private static void partOfTen(int amount, int cash, int part, int paid) {
        SettleHouse x = new SettleHouse();
        x.fund(0, 0, 10);
        if (cash > 0) {
            x.fund(1, CASH, cash);
        }
        x.rank(Scene.pending(x, 0, 1, 10, amount), 1, true);
        Check.due("none is settled wholly", 0, x::nextDay);
        Check.due("of 10 for " + amount + ", having " + cash, part == 0 ? "" : "0 " + part + " " + paid + " 1", () -> Scene.settledRows(x));
        Check.due("left", (10 - part) + " " + (amount - paid), () -> x.trade(0, 2) + " " + x.trade(0, 3));
        Check.due("the receiver has left", cash - paid, () -> x.has(1, CASH));
    }

    /** Of 2 there is a part, of 1 and of 0 there is none. */
    private static void partsBelowTheQuantity() {
        says("if k is above 0, that is settled, and its quantity and amount are less by it.");
        for (int quantity = 0; quantity <= 3; quantity++) {
            SettleHouse x = new SettleHouse();
            x.fund(0, 0, 9);
            x.fund(1, CASH, 8);
            x.rank(Scene.pending(x, 0, 1, quantity, 9), 1, true);
            x.nextDay();
            String[] rows = {"", "", "0 1 4 1", "0 2 6 1"};
            Check.due("a part of " + quantity, rows[quantity], () -> Scene.settledRows(x));
            Check.due("it is pending, and has failed", "1 1", () -> x.trade(0, 0) + " " + x.trade(0, 7));
        }
        SettleHouse y = new SettleHouse();
        y.fund(0, 0, 3);
        y.rank(Scene.pending(y, 1, 2, 3, 0), 0, true);
        y.rank(Scene.pending(y, 0, 1, 4, 0), 1, true);
        y.nextDay();
        Check.due("not the whole, though by then it would be covered", "1 3 0 1, 0 2 0 1", () -> Scene.settledRows(y));
    }

    /** What comes later that day is for the next one. */
    private static void partsOnce() {
        says("once, in that order:");
        SettleHouse x = new SettleHouse();
        x.fund(0, 0, 3);
        x.rank(Scene.pending(x, 1, 2, 9, 0), 2, true);
        x.rank(Scene.pending(x, 0, 1, 9, 0), 1, true);
        x.nextDay();
        Check.due("the first one had nothing to deliver", "1 3 0 1", () -> Scene.settledRows(x));
        x.goTo(4);
        Check.due("on the next business day it has", "1 3 0 1, 0 3 0 4", () -> Scene.settledRows(x));

        SettleHouse z = new SettleHouse();
        z.fund(0, 0, 3);
        int[] priorities = {0, 1, 3, 1};
        for (int i = 0; i < 4; i++) {
            z.rank(Scene.pending(z, i == 2 ? 0 : 1, i == 2 ? 1 : 2, 2 + i, 0), priorities[i], true);
        }
        z.nextDay();
        Check.due("by priority, then by numbers", "2 3 0 1, 1 2 0 1, 3 1 0 1", () -> Scene.settledRows(z));

        SettleHouse y = new SettleHouse();
        y.fund(0, 0, 3);
        Scene.pending(y, 1, 2, 2, 0);
        y.rank(Scene.pending(y, 0, 1, 9, 0), 1, true);
        Check.due("no round behind the parts", 0, y::nextDay);
        Check.due("but on the next business day", 1, () -> y.goTo(4));
        Check.due("what was settled", "1 3 0 1, 0 2 0 4", () -> Scene.settledRows(y));
    }

    private static void partsAloneAndAllowed() {
        says("Then each ready trade that is alone, and may be settled in parts,");
        SettleHouse x = new SettleHouse();
        for (int deliverer = 0; deliverer < 4; deliverer++) {
            x.fund(deliverer, 0, 5);
            x.rank(Scene.pending(x, deliverer, 9, 8, 0), 1, deliverer != 3);
        }
        x.link(1, 2);
        x.nextDay();
        Check.due("alone, two in a group, not allowed", "0 5 0 1", () -> Scene.settledRows(x));
        x.rank(3, 1, true);
        Scene.cancelByBoth(x, 2);
        x.goTo(4);
        Check.due("alone again, allowed", "0 5 0 1, 1 5 0 4, 3 5 0 4", () -> Scene.settledRows(x));
    }

    /** Parts too are just of what is due and not held. */
    private static void partsOfWhatIsReady() {
        SettleHouse x = new SettleHouse();
        x.fund(0, 0, 5);
        x.fund(1, 0, 5);
        x.fund(2, 0, 5);
        x.rank(Scene.pendingOn(x, 0, 9, 0, 8, 0, 0, 2), 1, true);
        x.rank(Scene.pendingOn(x, 1, 9, 0, 8, 0, 0, 1), 1, true);
        x.rank(Scene.pendingOn(x, 2, 9, 0, 8, 0, 0, 0), 1, true);
        x.hold(2, 9, true);
        x.nextDay();
        Check.due("due later, due today, held", "1 5 0 1", () -> Scene.settledRows(x));
        x.hold(2, 9, false);
        x.goTo(4);
        Check.due("due, and not held", "1 5 0 1, 0 5 0 4, 2 5 0 4", () -> Scene.settledRows(x));
    }

    /** What is left is the quantity and the amount of which the next part is reckoned. */
    private static void partsDownward() {
        SettleHouse x = new SettleHouse();
        x.fund(1, CASH, 100);
        x.rank(Scene.pending(x, 0, 1, 7, 20), 1, true);
        x.fund(0, 0, 3);
        x.nextDay();
        Check.due("20 * 3 / 7", "0 3 8 1", () -> Scene.settledRows(x));
        x.fund(0, 0, 1);
        x.goTo(4);
        Check.due("12 * 1 / 4", "0 3 8 1, 0 1 3 4", () -> Scene.settledRows(x));
        x.fund(0, 0, 2);
        x.nextDay();
        Check.due("9 * 2 / 3", "0 3 8 1, 0 1 3 4, 0 2 6 5", () -> Scene.settledRows(x));
        x.fund(0, 0, 1);
        Check.due("the last one is the whole", 1, x::nextDay);
        Check.due("all of it", "20 7 80", () -> x.has(0, CASH) + " " + x.has(1, 0) + " " + x.has(1, CASH));
    }

    /** Held, linked or settled in part too. */
    private static void failsWhenDue() {
        says("Then each pending trade that is due today or before fails once more;");
        SettleHouse x = new SettleHouse();
        x.fund(1, 0, 5);
        x.fund(2, 0, 50);
        Scene.pendingOn(x, 0, 9, 0, 8, 0, 0, 0);
        Scene.pendingOn(x, 0, 9, 0, 8, 0, 0, 1);
        Scene.pendingOn(x, 0, 9, 0, 8, 0, 0, 2);
        x.rank(Scene.pending(x, 1, 9, 8, 0), 1, true);
        x.hold(Scene.pending(x, 2, 9, 8, 0), 2, true);
        x.link(Scene.pending(x, 2, 9, 8, 0), 4);
        Scene.pending(x, 2, 9, 8, 0);
        x.tell(2, 9, true, 0, 7, 0, 0, 0);
        x.nextDay();
        Check.due("due before, today, later, in part, held, linked, settled, unmatched", "1 1 0 1 1 1 0 0", () -> Scene.ofEach(x, 7));
        x.goTo(3);
        Check.due("not on the weekend", "1 1 0 1 1 1 0 0", () -> Scene.ofEach(x, 7));
        x.goTo(4);
        Check.due("on Monday", "2 2 1 2 2 2 0 0", () -> Scene.ofEach(x, 7));
    }

    private static void theTenthFail() {
        says("with the tenth time it expires.");
        SettleHouse x = new SettleHouse();
        x.rank(Scene.pending(x, 0, 1, 8, 6), 3, true);
        x.goTo(13);
        Check.due("nine times", "1 0 8 6 0 1 0 9 3 1 1", () -> Scene.tradeRow(x, 0));
        x.nextDay();
        Check.due("ten times", "4 0 8 6 0 1 0 10 3 0 1", () -> Scene.tradeRow(x, 0));
        x.fund(0, 0, 8);
        x.fund(1, CASH, 6);
        Check.due("it is not settled any more", 0, () -> x.goTo(28));
        Check.due("it stays so", "4 0 8 6 0 1 0 10 3 0 1", () -> Scene.tradeRow(x, 0));

        SettleHouse y = new SettleHouse();
        Scene.pending(y, 0, 1, 8, 0);
        y.goTo(13);
        y.fund(0, 0, 8);
        Check.due("settled, not failed for the tenth time", 1, y::nextDay);
        Check.due("it is settled", "2 0 0 0 0 1 0 9 1 0 0", () -> Scene.tradeRow(y, 0));
    }

    /** RefusalsTest has every kind of them; here is one of each. */
    private static void badArguments() {
        says("IllegalArgument: there is no such party, security, trade, or another argument is none that is told.");
        SettleHouse x = new SettleHouse();
        Scene.pending(x, 0, 1, 1, 0);
        for (int party : new int[] {-1, 16}) {
            Check.badArgument("fund " + party, () -> x.fund(party, 0, 1));
            Check.badArgument("tell " + party, () -> x.tell(party, 0, true, 0, 1, 1, 0, 0));
            Check.badArgument("tell with " + party, () -> x.tell(0, party, true, 0, 1, 1, 0, 0));
            Check.badArgument("hold " + party, () -> x.hold(0, party, true));
            Check.badArgument("cancel " + party, () -> x.cancel(0, party));
            Check.badArgument("has " + party, () -> x.has(party, 0));
        }
        for (int security : new int[] {-2, 8}) {
            Check.badArgument("fund of " + security, () -> x.fund(0, security, 1));
            Check.badArgument("tell of " + security, () -> x.tell(0, 1, true, security, 1, 1, 0, 0));
            Check.badArgument("has of " + security, () -> x.has(0, security));
        }
        Check.badArgument("cash is told by no trade", () -> x.tell(0, 1, true, CASH, 1, 1, 0, 0));
        for (int trade : new int[] {-1, 1}) {
            Check.badArgument("hold of " + trade, () -> x.hold(trade, 0, true));
            Check.badArgument("rank of " + trade, () -> x.rank(trade, 1, true));
            Check.badArgument("link of " + trade, () -> x.link(trade, 0));
            Check.badArgument("link with " + trade, () -> x.link(0, trade));
            Check.badArgument("cancel of " + trade, () -> x.cancel(trade, 0));
            Check.badArgument("trade " + trade, () -> x.trade(trade, 0));
        }
        Check.badArgument("n", () -> x.fund(0, 0, 0));
        Check.badArgument("quantity", () -> x.tell(0, 1, true, 0, 1000001, 0, 0, 0));
        Check.badArgument("amount", () -> x.tell(0, 1, true, 0, 0, 1000000001, 0, 0));
        Check.badArgument("trade day", () -> x.tell(0, 1, true, 0, 1, 0, 1, 0));
        Check.badArgument("lag", () -> x.tell(0, 1, true, 0, 1, 0, 0, 11));
        Check.badArgument("priority", () -> x.rank(0, 4, true));
        Check.badArgument("what", () -> x.trade(0, 11));
        Check.badArgument("day", () -> x.business(20001, 0));
        Check.badArgument("so many business days", () -> x.business(0, 1001));
        Check.badArgument("part", () -> x.date(5));
        Check.badArgument("state", () -> x.count(5));
    }

    private static void badStates() {
        says("IllegalState as told;");
        SettleHouse x = closedAndOpen();
        Check.badState("hold, neither unmatched nor pending", () -> x.hold(0, 0, true));
        Check.badState("rank, neither unmatched nor pending", () -> x.rank(0, 1, true));
        Check.badState("cancel, neither unmatched nor pending", () -> x.cancel(0, 0));
        Check.badState("link, one is not pending", () -> x.link(0, 2));
        Check.badState("link, the other is not pending", () -> x.link(2, 1));
        Check.badState("nextDay on the last day", () -> Scene.houseOnDay(20000).nextDay());
        SettleHouse full = fullOfTrades();
        Check.badState("tell, there are 150", () -> full.tell(0, 1, true, 0, 2, 0, 0, 0));
    }

    private static void bothFit() {
        says("where both fit, IllegalArgument.");
        SettleHouse x = closedAndOpen();
        Check.badArgument("hold of a closed one, no side of it", () -> x.hold(0, 2, true));
        Check.badArgument("rank of a closed one, no priority", () -> x.rank(0, 4, true));
        Check.badArgument("cancel of a closed one, no side of it", () -> x.cancel(0, 2));
        Check.badArgument("link of a closed one with none", () -> x.link(0, 3));
        Check.badArgument("link of none with an unmatched one", () -> x.link(3, 1));
        SettleHouse full = fullOfTrades();
        Check.badArgument("tell, there are 150, both are the same", () -> full.tell(1, 1, true, 0, 2, 0, 0, 0));
        Check.badArgument("tell, there are 150, no such lag", () -> full.tell(0, 1, true, 0, 2, 0, 0, 11));
    }

    private static void throwingChangesNothing() {
        says("A call that throws changes nothing.");
        for (int way = 0; way < Scene.WAYS; way++) {
            int look = way;
            SettleHouse x = closedAndOpen();
            Check.badArgument("fund", () -> x.fund(0, 0, 0));
            Check.badArgument("holiday", () -> x.holiday(1));
            Check.badArgument("tell of what would match, but for the lag", () -> x.tell(1, 0, false, 0, 2, 0, 0, 11));
            Check.badArgument("hold", () -> x.hold(2, 5, true));
            Check.badArgument("rank", () -> x.rank(2, 4, true));
            Check.badArgument("cancel", () -> x.cancel(1, 5));
            Check.badArgument("goTo", () -> x.goTo(402));
            Check.badState("hold of a closed one", () -> x.hold(0, 0, true));
            Check.badState("rank of a closed one", () -> x.rank(0, 3, true));
            Check.badState("cancel of a closed one", () -> x.cancel(0, 0));
            Check.badState("link", () -> x.link(1, 2));
            String untouched = Scene.inside(closedAndOpen(), look);
            Check.due("all is as it was", untouched, () -> Scene.inside(x, look));
        }
    }

    /** On day 1: trade 0 is settled, trade 1 unmatched, trade 2 pending. */
    private static SettleHouse closedAndOpen() {
        SettleHouse x = new SettleHouse();
        x.fund(0, 0, 1);
        Scene.pending(x, 0, 1, 1, 0);
        x.tell(0, 1, true, 0, 2, 0, 0, 0);
        Scene.pending(x, 0, 1, 3, 0);
        x.nextDay();
        return x;
    }

    private static SettleHouse fullOfTrades() {
        SettleHouse x = new SettleHouse();
        for (int i = 0; i < 150; i++) {
            x.tell(0, 1, true, 0, 1, 0, 0, 0);
        }
        return x;
    }
}
