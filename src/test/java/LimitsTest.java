/** The sentences of the promises that name a limit: the last values that are still taken, and the empty and the full. */
public final class LimitsTest {
    private static final int CASH = SettleHouse.NONE;

    public static void main(String[] args) {
        aNewObject();
        aNewObjectHasNoHolidays();
        fund();
        holiday();
        tell();
        tellTheMost();
        tellTheMostWithoutCover();
        tellOneTermBesides();
        tellByTheSamePartyAgain();
        hold();
        rank();
        linkSix();
        cancelByWhom();
        nextDay();
        goTo();
        goToCountsWholeTrades();
        trade();
        settled();
        settledInFull();
        business();
        businessBehindManyHolidays();
        dateWraps();
        count();
        Check.finish();
    }

    /** "Nobody has anything, no trades, no holidays", whatever another object has. */
    private static void aNewObject() {
        String empty = Scene.inside(new SettleHouse(), 1);
        SettleHouse used = new SettleHouse();
        used.fund(0, 0, 5);
        used.fund(15, CASH, 5);
        used.holiday(1);
        used.holiday(4);
        Scene.pending(used, 0, 15, 1, 1);
        used.tell(0, 1, true, 0, 1, 1, 0, 0);
        used.goTo(6);
        SettleHouse x = new SettleHouse();
        Check.due("a new object is as the first one was", empty, () -> Scene.inside(x, 1));
        Check.badArgument("no trade", () -> x.trade(0, 0));
        Check.due("nothing settled", -1, () -> x.settled(0, 0));
        Check.due("today", 0, () -> x.date(4));
    }

    private static void aNewObjectHasNoHolidays() {
        SettleHouse x = new SettleHouse();
        for (int i = 0; i < 15; i++) {
            int day = 1400 * i;
            Check.due("a thousand business days behind " + day, day + 1400, () -> x.business(Math.min(day, 20000), 1000));
        }
        for (int first = 1; first <= 20000; first += 500) {
            SettleHouse y = new SettleHouse();
            for (int i = 0; i < 500; i++) {
                int day = first + i;
                Check.due("day " + day + " was no holiday", true, () -> y.holiday(day));
            }
        }
    }

    /** "n (1 .. 1000000000)". */
    private static void fund() {
        SettleHouse x = new SettleHouse();
        for (int asset = CASH; asset < 8; asset += 8) {
            int s = asset;
            Check.due("the least", 1, () -> x.fund(0, s, 1));
            Check.due("the most", 1000000001, () -> x.fund(0, s, 1000000000));
            x.fund(0, s, 1000000000);
            Check.due("above all ints", 3000000001L, () -> x.fund(0, s, 1000000000));
            Check.due("it has that", 3000000001L, () -> x.has(0, s));
        }
    }

    /** "A day is a holiday: whether it was none"; it is behind today, and 20000 at most. */
    private static void holiday() {
        SettleHouse x = new SettleHouse();
        Check.due("tomorrow", true, () -> x.holiday(1));
        Check.due("tomorrow again", false, () -> x.holiday(1));
        Check.due("the last day", true, () -> x.holiday(20000));
        Check.due("the last day again", false, () -> x.holiday(20000));
        Check.due("the day before it", true, () -> x.holiday(19999));
        x.fund(0, 0, 1);
        Scene.pending(x, 0, 1, 1, 0);
        Check.due("tomorrow is no business day", 0, x::nextDay);
        Check.due("nothing has failed", 0, () -> x.trade(0, 7));
        Check.due("a holiday that is today", 4, () -> x.business(0, 1));
        Check.due("two at the end", "19998 20003", () -> x.business(19997, 1) + " " + x.business(19997, 2));

        SettleHouse y = Scene.houseOnDay(19999);
        Check.due("the last day from the day before", true, () -> y.holiday(20000));
        y.fund(0, 0, 1);
        Scene.pending(y, 0, 1, 1, 0);
        Check.due("the last day is a Friday, but no business day", 0, y::nextDay);

        SettleHouse z = Scene.houseOnDay(19999);
        z.fund(0, 0, 1);
        Scene.pending(z, 0, 1, 1, 0);
        Check.due("the last day is a business day", 1, z::nextDay);
    }

    /** "the quantity (0 .. 1000000), the amount (0 .. 1000000000; not both 0), the trade day (0 .. today), the lag (0 .. 10)". */
    private static void tell() {
        SettleHouse x = new SettleHouse();
        x.goTo(5);
        Check.due("the last party", 0, () -> x.tell(15, 14, true, 0, 1, 1, 1, 1));
        Check.due("the first party", 1, () -> x.tell(0, 1, true, 0, 1, 1, 1, 1));
        Check.due("the last other", 2, () -> x.tell(14, 15, true, 0, 1, 1, 1, 1));
        Check.due("the first other", 3, () -> x.tell(1, 0, true, 0, 1, 1, 1, 1));
        Check.due("the last security", 4, () -> x.tell(0, 1, true, 7, 1, 1, 1, 1));
        Check.due("the least quantity", 5, () -> x.tell(0, 1, true, 0, 0, 1, 1, 1));
        Check.due("the most quantity", 6, () -> x.tell(0, 1, true, 0, 1000000, 1, 1, 1));
        Check.due("the least amount", 7, () -> x.tell(0, 1, true, 0, 1, 0, 1, 1));
        Check.due("the most amount", 8, () -> x.tell(0, 1, true, 0, 1, 1000000000, 1, 1));
        Check.due("the first day", 9, () -> x.tell(0, 1, true, 0, 1, 1, 0, 1));
        Check.due("today", 10, () -> x.tell(0, 1, true, 0, 1, 1, 5, 1));
        Check.due("no lag", 11, () -> x.tell(0, 1, true, 0, 1, 1, 1, 0));
        Check.due("the greatest lag", 12, () -> x.tell(0, 1, true, 0, 1, 1, 1, 10));
        Check.due("quantities", "1 1 1 1 1 0 1000000 1 1 1 1 1 1", () -> Scene.ofEach(x, 2));
        Check.due("amounts", "1 1 1 1 1 1 1 0 1000000000 1 1 1 1", () -> Scene.ofEach(x, 3));
        Check.due("who deliver", "15 0 14 1 0 0 0 0 0 0 0 0 0", () -> Scene.ofEach(x, 4));
        Check.due("who receive", "14 1 15 0 1 1 1 1 1 1 1 1 1", () -> Scene.ofEach(x, 5));
    }

    /** The greatest quantity and amount are settled without a loss. */
    private static void tellTheMost() {
        SettleHouse x = new SettleHouse();
        x.fund(15, 7, 1000000);
        x.fund(14, CASH, 1000000000);
        Scene.pending(x, 15, 14, 7, 1000000, 1000000000);
        Check.due("settled", 1, x::nextDay);
        Check.due("the row", "0 1000000 1000000000 1", () -> Scene.settledRows(x));
        Check.due("all has moved", "0 1000000000 1000000 0", () -> x.has(15, 7) + " " + x.has(15, CASH)
                + " " + x.has(14, 7) + " " + x.has(14, CASH));

        SettleHouse y = new SettleHouse();
        for (int i = 0; i < 6; i++) {
            y.fund(0, i, 1000000);
            y.fund(1, CASH, 1000000000);
            Scene.pending(y, 0, 1, i, 1000000, 1000000000);
        }
        for (int i = 1; i < 6; i++) {
            y.link(0, i);
        }
        Check.due("six of the greatest at once", 6, y::nextDay);
        Check.due("the cash of all", 6000000000L, () -> y.has(0, CASH));
    }

    /** Two to six of the greatest amounts at once, for one less of cash: sums above all ints are no cover. */
    private static void tellTheMostWithoutCover() {
        for (int trades = 2; trades <= 6; trades++) {
            SettleHouse x = new SettleHouse();
            x.fund(1, CASH, 999999999);
            Scene.pending(x, 0, 1, 0, 1000000000);
            for (int i = 1; i < trades; i++) {
                x.fund(1, CASH, 1000000000);
                x.link(0, Scene.pending(x, 0, 1, 0, 1000000000));
            }
            int all = trades;
            Check.due(all + " for one less", 0, x::nextDay);
            x.fund(1, CASH, 1);
            Check.due(all + " for enough", all, () -> x.goTo(4));
            Check.due("the cash of " + all, 1000000000L * all, () -> x.has(0, CASH));
        }
    }

    /** "If a trade with these terms is unmatched": one more or one less of a single term is another trade. */
    private static void tellOneTermBesides() {
        int[][] besides = {{1, 0, 0, 0, 0, 0, 0}, {0, 1, 0, 0, 0, 0, 0}, {0, 0, 1, 0, 0, 0, 0}, {0, 0, 0, 1, 0, 0, 0},
            {0, 0, 0, 0, 1, 0, 0}, {0, 0, 0, 0, 0, 1, 0}, {0, 0, 0, 0, 0, 0, 1}};
        for (int[] b : besides) {
            for (int by = -1; by <= 1; by += 2) {
                int d = by;
                SettleHouse x = new SettleHouse();
                x.goTo(9);
                x.tell(7, 4, true, 3, 50, 60, 5, 5);
                Check.due("receiver, one term besides", 1, () -> x.tell(4 + d * b[0], 7 + d * b[1], false, 3 + d * b[2],
                        50 + d * b[3], 60 + d * b[4], 5 + d * b[5], 5 + d * b[6]));
                Check.due("receiver, all terms alike", 0, () -> x.tell(4, 7, false, 3, 50, 60, 5, 5));
                x.tell(7, 4, false, 3, 50, 60, 5, 5);
                Check.due("deliverer, one term besides", 3, () -> x.tell(4 + d * b[0], 7 + d * b[1], true, 3 + d * b[2],
                        50 + d * b[3], 60 + d * b[4], 5 + d * b[5], 5 + d * b[6]));
                Check.due("deliverer, all terms alike", 2, () -> x.tell(4, 7, true, 3, 50, 60, 5, 5));
                Check.due("states", "1 0 1 0", () -> Scene.ofEach(x, 0));
            }
        }
        SettleHouse y = new SettleHouse();
        y.tell(7, 4, true, 3, 50, 60, 0, 0);
        Check.due("both deliver", 1, () -> y.tell(4, 7, true, 3, 50, 60, 0, 0));
        y.tell(9, 8, false, 3, 50, 60, 0, 0);
        Check.due("both receive", 3, () -> y.tell(8, 9, false, 3, 50, 60, 0, 0));
        Check.due("all are unmatched", 4, () -> y.count(0));
    }

    /** "that the other one has told", "the first of these": a party never meets what it has told itself. */
    private static void tellByTheSamePartyAgain() {
        SettleHouse x = new SettleHouse();
        for (int i = 0; i < 2; i++) {
            int twice = i;
            Check.due("the deliverer, of the lower number", 4 * i, () -> x.tell(2, 9, true, 0, 1 + twice, 0, 0, 0));
            Check.due("the deliverer, of the greater number", 4 * i + 1, () -> x.tell(9, 2, true, 0, 1 + twice, 0, 0, 0));
            Check.due("the receiver, of the lower number", 4 * i + 2, () -> x.tell(3, 8, false, 0, 1 + twice, 0, 0, 0));
            Check.due("the receiver, of the greater number", 4 * i + 3, () -> x.tell(8, 3, false, 0, 1 + twice, 0, 0, 0));
        }
        Check.due("the deliverer again, of the lower number", 8, () -> x.tell(2, 9, true, 0, 1, 0, 0, 0));
        Check.due("the deliverer again, of the greater number", 9, () -> x.tell(9, 2, true, 0, 1, 0, 0, 0));
        Check.due("the receiver again, of the lower number", 10, () -> x.tell(3, 8, false, 0, 1, 0, 0, 0));
        Check.due("the receiver again, of the greater number", 11, () -> x.tell(8, 3, false, 0, 1, 0, 0, 0));
        Check.due("the first of two", 0, () -> x.tell(9, 2, false, 0, 1, 0, 0, 0));
        Check.due("then the second of them", 8, () -> x.tell(9, 2, false, 0, 1, 0, 0, 0));
        Check.due("then a new one", 12, () -> x.tell(9, 2, false, 0, 1, 0, 0, 0));
        Check.due("which the other one meets", 12, () -> x.tell(2, 9, true, 0, 1, 0, 0, 0));
        x.cancel(2, 3);
        Check.due("a cancelled one is met no more", 10, () -> x.tell(8, 3, true, 0, 1, 0, 0, 0));
    }

    /** "put on, or taken off: whether that was another way before", unmatched and pending. */
    private static void hold() {
        SettleHouse x = new SettleHouse();
        x.tell(15, 0, true, 0, 1, 0, 0, 0);
        holdOnAndOff(x, 15);
        holdOnAndOff(x, 0);
        x.tell(0, 15, false, 0, 1, 0, 0, 0);
        holdOnAndOff(x, 15);
        holdOnAndOff(x, 0);
        for (int holder = 0; holder < 16; holder += 15) {
            int trade = x.tell(15, 0, true, 0, 2 + holder, 0, 0, 0);
            x.hold(trade, holder, true);
            x.tell(0, 15, false, 0, 2 + holder, 0, 0, 0);
        }
        x.fund(15, 0, 99);
        Check.due("one has no hold", 1, x::nextDay);
        Check.due("what was put on before both had told it stands", "2 1 1", () -> Scene.ofEach(x, 0));
    }

    private static void holdOnAndOff(SettleHouse x, int party) {
        Check.due("off, was off", false, () -> x.hold(0, party, false));
        Check.due("on, was off", true, () -> x.hold(0, party, true));
        Check.due("on, was on", false, () -> x.hold(0, party, true));
        Check.due("off, was on", true, () -> x.hold(0, party, false));
    }

    /** Priorities 0 and 3, unmatched and pending: "the priority that it had". */
    private static void rank() {
        SettleHouse x = new SettleHouse();
        x.tell(15, 0, true, 0, 1, 0, 0, 0);
        Check.due("at first 1", 1, () -> x.rank(0, 0, true));
        Check.due("the least", "0 1", () -> x.trade(0, 8) + " " + x.trade(0, 10));
        Check.due("it was 0", 0, () -> x.rank(0, 3, false));
        Check.due("the greatest", "3 0", () -> x.trade(0, 8) + " " + x.trade(0, 10));
        x.rank(0, 3, true);
        x.tell(0, 15, false, 0, 1, 0, 0, 0);
        Check.due("both stay when the trade is pending", "3 1", () -> x.trade(0, 8) + " " + x.trade(0, 10));
        Check.due("it was 3", 3, () -> x.rank(0, 3, true));
        Check.due("the same again", 3, () -> x.rank(0, 0, true));
        Check.due("pending", "0 1", () -> x.trade(0, 8) + " " + x.trade(0, 10));
    }

    /** "how many it has", 6 at most: in every way in which six come together. */
    private static void linkSix() {
        for (int first = 1; first <= 5; first++) {
            SettleHouse x = new SettleHouse();
            for (int i = 0; i < 7; i++) {
                Scene.pending(x, 0, 1, 1, 0);
            }
            for (int i = 1; i < 6; i++) {
                if (i != first) {
                    x.link(i, i - 1);
                }
            }
            int other = first;
            Check.due("sizes before", true, () -> x.trade(0, 9) == other && x.trade(5, 9) == 6 - other);
            Check.due("six", 6, () -> x.link(0, 5));
            Check.due("each of them", "6 6 6 6 6 6 1", () -> Scene.ofEach(x, 9));
            Check.due("again", 6, () -> x.link(5, 0));
            Check.due("with itself", 6, () -> x.link(3, 3));
            Check.badState("seven", () -> x.link(6, 2));
            Scene.cancelByBoth(x, 2);
            Check.due("six again, when one has left", 6, () -> x.link(6, 5));
            Check.due("but it", "6 6 0 6 6 6 6", () -> Scene.ofEach(x, 9));
        }
    }

    /** "if it is unmatched (whoever of both wishes), or both have wished, it is CANCELLED: its state." */
    private static void cancelByWhom() {
        SettleHouse x = new SettleHouse();
        x.tell(15, 0, true, 0, 1, 0, 0, 0);
        x.tell(15, 0, true, 0, 1, 0, 0, 0);
        x.tell(0, 15, false, 0, 2, 0, 0, 0);
        x.tell(0, 15, false, 0, 2, 0, 0, 0);
        Check.due("unmatched, the deliverer told it and wishes", 3, () -> x.cancel(0, 15));
        Check.due("unmatched, the deliverer told it, the receiver wishes", 3, () -> x.cancel(1, 0));
        Check.due("unmatched, the receiver told it, the deliverer wishes", 3, () -> x.cancel(2, 15));
        Check.due("unmatched, the receiver told it and wishes", 3, () -> x.cancel(3, 0));
        Check.due("none is left", "3 3 3 3", () -> Scene.ofEach(x, 0));
        Check.due("none of them had a due day", "-1 -1 -1 -1", () -> Scene.ofEach(x, 1));
        x.fund(15, 0, 1);
        x.cancel(Scene.pending(x, 15, 0, 1, 0), 0);
        Check.due("one wish does not keep it from being settled", 1, x::nextDay);
    }

    /** "IllegalState: today is 20000": on the day before it is the next day still. */
    private static void nextDay() {
        SettleHouse x = Scene.houseOnDay(19998);
        Check.due("the last day but one", 0, x::nextDay);
        Check.due("it is today", 19999, () -> x.date(4));
        Check.due("the last day", 0, x::nextDay);
        Check.due("it is today", 20000, () -> x.date(4));
        Check.badState("no day more", x::nextDay);
        Check.badState("nor later", x::nextDay);
        Check.due("it is still today", 20000, () -> x.date(4));
    }

    /** "nextDay() until today is a day (at most 400 on)". */
    private static void goTo() {
        SettleHouse x = new SettleHouse();
        Check.badArgument("401 on, from the first day", () -> x.goTo(401));
        Check.due("400 on", 0, () -> x.goTo(400));
        Check.badArgument("today", () -> x.goTo(400));
        Check.badArgument("401 on", () -> x.goTo(801));
        Check.due("one on", 0, () -> x.goTo(401));
        Check.due("today is that day", 401, () -> x.date(4));

        SettleHouse y = Scene.houseOnDay(19600);
        Check.badArgument("401 on, and above the last day", () -> y.goTo(20001));
        Check.due("400 on, the last day", 0, () -> y.goTo(20000));
        Check.due("it is today", 20000, () -> y.date(4));

        SettleHouse z = Scene.houseOnDay(19999);
        Check.badArgument("two on, above the last day", () -> z.goTo(20001));
        Check.due("one on, the last day", 0, () -> z.goTo(20000));
    }

    /** "how many trades were settled wholly", on all days of it, the first and the last too. */
    private static void goToCountsWholeTrades() {
        SettleHouse x = new SettleHouse();
        x.fund(0, 0, 6);
        x.fund(2, 0, 3);
        for (int lag = 0; lag <= 5; lag++) {
            Scene.pendingOn(x, 0, 1, 0, 1, 0, 0, lag);
        }
        x.rank(Scene.pendingOn(x, 2, 3, 0, 5, 0, 0, 0), 1, true);
        Check.due("from Friday to Tuesday", 4, () -> x.goTo(5));
        Check.due("a part was settled too", "0 1 6 2 3", () -> Scene.settledTrades(x));
        Check.due("on Wednesday and Thursday", 2, () -> x.goTo(7));
        Check.due("no more", 0, () -> x.goTo(9));
    }

    /** "due day (1; NONE while unmatched)", "how many are in its group (9; 0 when it is in none)". */
    private static void trade() {
        SettleHouse x = new SettleHouse();
        x.tell(15, 0, true, 7, 1000000, 1000000000, 0, 10);
        Check.due("unmatched", "0 -1 1000000 1000000000 15 0 7 0 1 0 0", () -> Scene.tradeRow(x, 0));
        x.tell(0, 15, false, 7, 1000000, 1000000000, 0, 10);
        Check.due("pending", "1 14 1000000 1000000000 15 0 7 0 1 1 0", () -> Scene.tradeRow(x, 0));
        x.fund(15, 7, 999999);
        x.fund(0, CASH, 1000000000);
        x.rank(0, 3, true);
        x.goTo(14);
        Check.due("all but one was settled", "1 14 1 1000 15 0 7 1 3 1 1", () -> Scene.tradeRow(x, 0));
        x.fund(15, 7, 1);
        x.nextDay();
        Check.due("settled", "2 14 0 0 15 0 7 1 3 0 1", () -> Scene.tradeRow(x, 0));
        Check.badArgument("no such number", () -> x.trade(1, 0));
    }

    /** "NONE when there is none such, or what is none of these." */
    private static void settled() {
        SettleHouse x = new SettleHouse();
        int[] others = {-1, 4, Integer.MIN_VALUE, Integer.MAX_VALUE};
        for (int what = 0; what < 4; what++) {
            int w = what;
            Check.due("nothing yet", -1, () -> x.settled(0, w));
        }
        x.fund(0, 0, 2);
        Scene.pending(x, 0, 1, 1, 0);
        Scene.pending(x, 0, 1, 1, 0);
        x.nextDay();
        Check.due("two rows", "0 1 0 1, 1 1 0 1", () -> Scene.settledRows(x));
        for (int other : others) {
            Check.due("what " + other + " of the first", -1, () -> x.settled(0, other));
            Check.due("what " + other + " of the last", -1, () -> x.settled(1, other));
            Check.due("what " + other + " of none", -1, () -> x.settled(2, other));
        }
        for (int i : new int[] {-1, 2, 3, 1073741824, Integer.MIN_VALUE, Integer.MAX_VALUE}) {
            for (int what = 0; what < 4; what++) {
                int w = what;
                Check.due("row " + i + ", what " + w, -1, () -> x.settled(i, w));
            }
        }
    }

    /** One of a security goes from hand to hand, as a part of each of 148 trades, on ten days: 1480 rows. */
    private static void settledInFull() {
        SettleHouse x = new SettleHouse();
        x.fund(0, 0, 1);
        for (int i = 0; i < 148; i++) {
            x.rank(Scene.pendingOn(x, i % 2, 1 - i % 2, 0, 20, 40, 0, 0), 1, true);
        }
        x.fund(0, CASH, 2);
        x.fund(1, CASH, 2);
        Check.due("none wholly", 0, () -> x.goTo(14));
        Check.due("the first row", "0 1 2 1", () -> row(x, 0));
        Check.due("the last of the first day", "147 1 2 1", () -> row(x, 147));
        Check.due("the first of the second day", "0 1 2 4", () -> row(x, 148));
        Check.due("the last of the ninth day", "147 1 2 13", () -> row(x, 1331));
        Check.due("the first of the tenth day", "0 1 2 14", () -> row(x, 1332));
        Check.due("the last row", "147 1 2 14", () -> row(x, 1479));
        Check.due("no row more", "-1 -1 -1 -1", () -> row(x, 1480));
        Check.due("then all expired", 148, () -> x.count(4));
        Check.due("what is left of the first", "4 0 10 20 0 1 0 10 1 0 1", () -> Scene.tradeRow(x, 0));
        Check.due("what is left of the last", "4 0 10 20 1 0 0 10 1 0 1", () -> Scene.tradeRow(x, 147));
    }

    private static String row(SettleHouse x, int i) {
        return x.settled(i, 0) + " " + x.settled(i, 1) + " " + x.settled(i, 2) + " " + x.settled(i, 3);
    }

    /** "The n-th (0 .. 1000) business day behind a day (0 .. 20000); n = 0: the day itself." */
    private static void business() {
        SettleHouse x = new SettleHouse();
        x.holiday(5);
        for (int day = 0; day <= 7; day++) {
            int itself = day;
            Check.due("the day itself", itself, () -> x.business(itself, 0));
        }
        int[] next = {1, 4, 4, 4, 6, 6, 7, 8};
        for (int day = 0; day <= 7; day++) {
            int from = day;
            Check.due("the next one behind " + from, next[from], () -> x.business(from, 1));
        }
        Check.due("the last day itself", 20000, () -> x.business(20000, 0));
        Check.due("behind the last day", 20003, () -> x.business(20000, 1));
        Check.due("the most", 1401, () -> x.business(0, 1000));
        Check.due("one less", 1400, () -> x.business(0, 999));
        Check.due("the most behind the last day", 21400, () -> x.business(20000, 1000));
    }

    private static void businessBehindManyHolidays() {
        SettleHouse x = new SettleHouse();
        for (int day = 19600; day <= 20000; day++) {
            x.holiday(day);
        }
        Check.due("the day before them", 19599, () -> x.business(19598, 1));
        Check.due("the first behind them", 20003, () -> x.business(19599, 1));
        Check.due("the first behind one of them", 20003, () -> x.business(19600, 1));
        Check.due("the second behind them", 20004, () -> x.business(19599, 2));
        Check.due("the most", 21400, () -> x.business(19599, 1000));
    }

    /** Ends of weeks, months and years, with a leap day and without. */
    private static void dateWraps() {
        int[][] days = {
            {3, 1970, 1, 4, 7}, {4, 1970, 1, 5, 1}, {30, 1970, 1, 31, 6}, {31, 1970, 2, 1, 7}, {58, 1970, 2, 28, 6},
            {59, 1970, 3, 1, 7}, {364, 1970, 12, 31, 4}, {365, 1971, 1, 1, 5}, {788, 1972, 2, 28, 1}, {789, 1972, 2, 29, 2},
            {790, 1972, 3, 1, 3}, {1095, 1972, 12, 31, 7}, {1096, 1973, 1, 1, 1}, {10956, 1999, 12, 31, 5},
            {10957, 2000, 1, 1, 6}, {11016, 2000, 2, 29, 2}, {11017, 2000, 3, 1, 3}, {11322, 2000, 12, 31, 7},
            {11323, 2001, 1, 1, 1}, {19782, 2024, 2, 29, 4}, {20000, 2024, 10, 4, 5},
        };
        for (int[] d : days) {
            SettleHouse x = Scene.houseOnDay(d[0]);
            Check.due("day " + d[0], d[1] + " " + d[2] + " " + d[3] + " " + d[4] + " " + d[0],
                    () -> x.date(0) + " " + x.date(1) + " " + x.date(2) + " " + x.date(3) + " " + x.date(4));
        }
    }

    /** "How many trades there are in a state": none, one of each, and as many as there can be. */
    private static void count() {
        SettleHouse x = new SettleHouse();
        Check.due("none", "0 0 0 0 0", () -> counts(x));
        x.fund(0, 0, 1);
        Scene.pending(x, 0, 1, 1, 0);
        Scene.pending(x, 0, 1, 2, 0);
        x.goTo(14);
        x.cancel(x.tell(0, 1, true, 0, 3, 0, 0, 0), 0);
        Scene.pending(x, 0, 1, 4, 0);
        x.tell(0, 1, true, 0, 5, 0, 0, 0);
        Check.due("one of each", "1 1 1 1 1", () -> counts(x));
        for (int i = 5; i < 150; i++) {
            x.tell(0, 1, true, 0, 6, 0, 0, 0);
        }
        Check.due("as many as there can be", "146 1 1 1 1", () -> counts(x));
    }

    private static String counts(SettleHouse x) {
        return x.count(0) + " " + x.count(1) + " " + x.count(2) + " " + x.count(3) + " " + x.count(4);
    }
}
