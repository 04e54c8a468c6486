import java.time.LocalDate;

/** Promises 3 (holiday), 9 (nextDay), 10 (goTo), 14 (business) and 15 (date). */
public final class DaysTest {
    public static void main(String[] args) {
        holiday();
        nextDay();
        theLastDay();
        goToTheLastDay();
        goTo();
        goToRefuses();
        business();
        businessRefuses();
        date();
        everyDate();
        Check.finish();
    }

    private static void holiday() {
        SettleHouse x = new SettleHouse();
        Check.badArgument("holiday in the past", () -> x.holiday(-1));
        Check.badArgument("holiday today", () -> x.holiday(0));
        Check.due("holiday tomorrow", true, () -> x.holiday(1));
        Check.due("holiday tomorrow again", false, () -> x.holiday(1));
        Check.due("holiday on a Saturday", true, () -> x.holiday(2));
        Check.due("holiday on a Saturday again", false, () -> x.holiday(2));
        Check.due("holiday on the last day", true, () -> x.holiday(20000));
        Check.due("holiday on the last day again", false, () -> x.holiday(20000));
        Check.badArgument("holiday behind the last day", () -> x.holiday(20001));
        Check.badArgument("holiday on the greatest int", () -> x.holiday(Integer.MAX_VALUE));
        Check.due("holidays are no business days", 4, () -> x.business(0, 1));
        x.goTo(10);
        Check.badArgument("holiday today, later on", () -> x.holiday(10));
        Check.badArgument("holiday in the past, later on", () -> x.holiday(9));
        Check.due("holiday on a day whose bit is the 32nd", true, () -> x.holiday(31));
        Check.due("a day beside it is none", true, () -> x.holiday(32));
        Check.due("a day a word behind it is none", true, () -> x.holiday(63));
    }

    private static void nextDay() {
        SettleHouse x = new SettleHouse();
        x.holiday(5);
        x.fund(0, 0, 10);
        Scene.pending(x, 0, 1, 1, 0);
        Check.due("a Friday is a business day", 1, x::nextDay);
        Check.due("today is the next day", 1, () -> x.date(4));
        int late = Scene.pending(x, 0, 1, 2, 0);
        int later = Scene.pending(x, 0, 1, 20, 0);
        Check.due("no cycle on Saturday", 0, x::nextDay);
        Check.due("no cycle on Sunday", 0, x::nextDay);
        Check.due("no fails on the weekend", 0, () -> x.trade(later, 7));
        Check.due("still pending", 1, () -> x.trade(late, 0));
        Check.due("a cycle on Monday", 1, x::nextDay);
        Check.due("a fail on Monday", 1, () -> x.trade(later, 7));
        Check.due("no cycle on a holiday", 0, x::nextDay);
        Check.due("no fail on a holiday", 1, () -> x.trade(later, 7));
        x.rank(later, 1, true);
        Check.due("a part is no trade settled wholly", 0, x::nextDay);
        Check.due("seven are settled", 13, () -> x.trade(later, 2));
        x.fund(0, 0, 13);
        Check.due("the rest is one settled wholly", 1, x::nextDay);
    }

    private static void theLastDay() {
        SettleHouse x = new SettleHouse();
        for (int day = 400; day < 20000; day += 400) {
            x.goTo(day);
        }
        Check.badArgument("goTo above the last day", () -> x.goTo(20001));
        x.goTo(19999);
        Check.due("nextDay to the last day", 0, x::nextDay);
        Check.badState("nextDay on the last day", x::nextDay);
        Check.due("it is still today", 20000, () -> x.date(4));
        Check.badArgument("goTo on the last day", () -> x.goTo(20001));
        Check.badArgument("goTo the last day on it", () -> x.goTo(20000));
        Check.badArgument("holiday on the last day", () -> x.holiday(20001));
        Check.due("the last year", 2024, () -> x.date(0));
        Check.due("the last month", 10, () -> x.date(1));
        Check.due("the last day of the month", 4, () -> x.date(2));
        Check.due("the last day of the week", 5, () -> x.date(3));
        x.tell(0, 1, true, 0, 1, 0, 20000, 10);
        x.tell(1, 0, false, 0, 1, 0, 20000, 10);
        Check.due("a due day behind the last day", 20014, () -> x.trade(0, 1));
    }

    private static void goToTheLastDay() {
        SettleHouse x = new SettleHouse();
        for (int day = 400; day < 20000; day += 400) {
            x.goTo(day);
        }
        Check.due("goTo the last day", 0, () -> x.goTo(20000));
        Check.due("it is the last day", 20000, () -> x.date(4));
    }

    private static void goTo() {
        SettleHouse x = new SettleHouse();
        x.fund(0, 0, 6);
        Scene.pending(x, 0, 1, 1, 0);
        x.tell(0, 1, true, 0, 2, 0, 0, 3);
        x.tell(1, 0, false, 0, 2, 0, 0, 3);
        x.tell(0, 1, true, 0, 3, 0, 0, 5);
        x.tell(1, 0, false, 0, 3, 0, 0, 5);
        Check.due("goTo tells what was settled on all days", 2, () -> x.goTo(6));
        Check.due("today is that day", 6, () -> x.date(4));
        Check.due("what was settled, and when", "0 1 0 1, 1 2 0 5", () -> Scene.settledRows(x));
        Check.due("goTo the next day", 1, () -> x.goTo(7));
        Check.due("the farthest goTo", 0, () -> x.goTo(407));
        Check.due("today is that day", 407, () -> x.date(4));
    }

    private static void goToRefuses() {
        SettleHouse x = new SettleHouse();
        x.goTo(5);
        Check.badArgument("goTo today", () -> x.goTo(5));
        Check.badArgument("goTo the past", () -> x.goTo(4));
        Check.badArgument("goTo below 0", () -> x.goTo(-1));
        Check.badArgument("goTo the least int", () -> x.goTo(Integer.MIN_VALUE));
        Check.badArgument("goTo 401 on", () -> x.goTo(406));
        Check.badArgument("goTo the greatest int", () -> x.goTo(Integer.MAX_VALUE));
        Check.due("it is still today", 5, () -> x.date(4));
        Check.due("goTo 400 on", 0, () -> x.goTo(405));
    }

    private static void business() {
        SettleHouse x = new SettleHouse();
        Check.due("a day itself", 0, () -> x.business(0, 0));
        Check.due("a Saturday itself", 2, () -> x.business(2, 0));
        Check.due("Friday behind Thursday", 1, () -> x.business(0, 1));
        Check.due("Monday behind Friday", 4, () -> x.business(1, 1));
        Check.due("Monday behind Saturday", 4, () -> x.business(2, 1));
        Check.due("Monday behind Sunday", 4, () -> x.business(3, 1));
        Check.due("Tuesday behind Monday", 5, () -> x.business(4, 1));
        Check.due("a week on", 7, () -> x.business(0, 5));
        Check.due("the most business days", 1400, () -> x.business(0, 1000));
        Check.due("the most, from the last day", 21400, () -> x.business(20000, 1000));
        x.holiday(4);
        x.holiday(5);
        x.holiday(9);
        Check.due("behind two holidays", 6, () -> x.business(1, 1));
        Check.due("a holiday itself", 4, () -> x.business(4, 0));
        Check.due("behind a holiday", 6, () -> x.business(4, 1));
        Check.due("a holiday on the weekend takes nothing", 11, () -> x.business(8, 1));
        x.goTo(6);
        Check.due("a day of the past", 6, () -> x.business(0, 2));
    }

    private static void businessRefuses() {
        SettleHouse x = new SettleHouse();
        Check.badArgument("business(-1, 0)", () -> x.business(-1, 0));
        Check.badArgument("business(20001, 0)", () -> x.business(20001, 0));
        Check.badArgument("business(0, -1)", () -> x.business(0, -1));
        Check.badArgument("business(0, 1001)", () -> x.business(0, 1001));
        Check.due("business(20000, 0)", 20000, () -> x.business(20000, 0));
    }

    private static void date() {
        SettleHouse x = new SettleHouse();
        Check.badArgument("date(-1)", () -> x.date(-1));
        Check.badArgument("date(5)", () -> x.date(5));
        Check.due("year", 1970, () -> x.date(0));
        Check.due("month", 1, () -> x.date(1));
        Check.due("day of the month", 1, () -> x.date(2));
        Check.due("Thursday", 4, () -> x.date(3));
        Check.due("number", 0, () -> x.date(4));
        x.goTo(3);
        Check.due("Sunday", 7, () -> x.date(3));
        x.goTo(4);
        Check.due("Monday", 1, () -> x.date(3));
    }

    /** Each object sees every 400th day, 400 of them see every one. */
    private static void everyDate() {
        for (int first = 1; first <= 400; first++) {
            SettleHouse x = new SettleHouse();
            for (int day = first; day <= 20000; day += 400) {
                x.goTo(day);
                LocalDate date = LocalDate.ofEpochDay(day);
                Check.due("date of day " + day, date + " " + date.getDayOfWeek().getValue() + " " + day,
                        () -> String.format("%04d-%02d-%02d %d %d", x.date(0), x.date(1), x.date(2), x.date(3), x.date(4)));
            }
        }
    }
}
