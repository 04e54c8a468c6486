/** Short ways to bring a house into the state that a test begins with, and to look at it. */
final class Scene {
    static final int CASH = SettleHouse.NONE;
    /** How many ways inside(house, way) has to look: no object can be looked at in all of them. */
    static final int WAYS = 3;

    private Scene() {
    }

    /** A trade of security 0 that both sides tell today, without a lag: its number. */
    static int pending(SettleHouse house, int from, int to, int quantity, int amount) {
        return pending(house, from, to, 0, quantity, amount);
    }

    static int pending(SettleHouse house, int from, int to, int security, int quantity, int amount) {
        return pendingOn(house, from, to, security, quantity, amount, house.date(4), 0);
    }

    /** A trade that the deliverer tells, and then the receiver: its number. */
    static int pendingOn(SettleHouse house, int from, int to, int security, int quantity, int amount, int day, int lag) {
        house.tell(from, to, true, security, quantity, amount, day, lag);
        return house.tell(to, from, false, security, quantity, amount, day, lag);
    }

    static void cancelByBoth(SettleHouse house, int trade) {
        house.cancel(trade, house.trade(trade, 4));
        house.cancel(trade, house.trade(trade, 5));
    }

    /** A new house that has gone to a day, in steps that goTo takes. */
    static SettleHouse houseOnDay(int day) {
        SettleHouse house = new SettleHouse();
        int today = 0;
        while (today < day) {
            today = Math.min(today + 400, day);
            house.goTo(today);
        }
        return house;
    }

    /** All that can be asked of a house with a handful of trades, in fewer calls than an object stands. */
    static String picture(SettleHouse house) {
        StringBuilder text = new StringBuilder();
        for (int party = 0; party < 16; party++) {
            for (int security = CASH; security < 8; security++) {
                text.append(house.has(party, security)).append(' ');
            }
        }
        int trades = 0;
        for (int state = 0; state < 5; state++) {
            int found = house.count(state);
            trades += found;
            text.append("| ").append(found).append(' ');
        }
        int today = house.date(4);
        text.append(tradeRows(house, trades)).append("\n").append(settledRows(house)).append("\nday ").append(today);
        text.append(", business days behind it").append(businessDays(house, today));
        text.append(", behind the first day").append(businessDays(house, 0));
        return text.append(", astray ").append(house.astray()).toString();
    }

    private static String businessDays(SettleHouse house, int day) {
        StringBuilder text = new StringBuilder();
        for (int n = 1; n < 16; n++) {
            text.append(' ').append(house.business(day, n));
        }
        return text.toString();
    }

    /** The picture, and what shows only by further calls: holds, and by the way wishes and holidays, or the next days. */
    static String inside(SettleHouse house, int way) {
        StringBuilder text = new StringBuilder(picture(house)).append("\nholds");
        int trades = trades(house);
        for (int trade = 0; trade < trades; trade++) {
            text.append(' ').append(holdOf(house, trade, house.trade(trade, 4)));
            text.append(holdOf(house, trade, house.trade(trade, 5)));
        }
        return text.append(way == 0 ? nextDays(house, trades) : wishesAndHolidays(house, trades, 3 + way)).toString();
    }

    /** Whether a side has a hold; it is left as it was. */
    private static String holdOf(SettleHouse house, int trade, int party) {
        Object wasOff = Check.outcome(() -> house.hold(trade, party, true));
        if (wasOff.equals(true)) {
            house.hold(trade, party, false);
        }
        return wasOff.equals(true) ? "-" : wasOff.equals(false) ? "+" : "x";
    }

    private static String nextDays(SettleHouse house, int trades) {
        int today = house.date(4);
        Object wholly = Check.outcome(() -> house.goTo(today + 12));
        return "\nlater " + wholly + tradeRows(house, trades) + "\n" + settledRows(house);
    }

    /** A wish of the deliverer (side = 4) or the receiver (5) cancels just what the other one has wished before. */
    private static String wishesAndHolidays(SettleHouse house, int trades, int side) {
        StringBuilder text = new StringBuilder("\na wish more");
        for (int trade = 0; trade < trades; trade++) {
            int number = trade;
            int party = house.trade(trade, side);
            text.append(' ').append(Check.outcome(() -> house.cancel(number, party)));
        }
        int today = house.date(4);
        text.append("\nnew holidays");
        for (int on = 1; on < 8; on++) {
            int day = today + on;
            text.append(' ').append(Check.outcome(() -> house.holiday(day)));
        }
        return text.toString();
    }

    static int trades(SettleHouse house) {
        int trades = 0;
        for (int state = 0; state < 5; state++) {
            trades += house.count(state);
        }
        return trades;
    }

    private static String tradeRows(SettleHouse house, int trades) {
        StringBuilder text = new StringBuilder();
        for (int trade = 0; trade < trades; trade++) {
            text.append("\n").append(trade).append(": ").append(tradeRow(house, trade));
        }
        return text.toString();
    }

    static String tradeRow(SettleHouse house, int trade) {
        StringBuilder text = new StringBuilder();
        for (int what = 0; what <= 10; what++) {
            text.append(what == 0 ? "" : " ").append(house.trade(trade, what));
        }
        return text.toString();
    }

    /** One answer for every trade: states (what = 0), sizes of groups (9), and so on. */
    static String ofEach(SettleHouse house, int what) {
        StringBuilder text = new StringBuilder();
        int trades = trades(house);
        for (int trade = 0; trade < trades; trade++) {
            text.append(trade == 0 ? "" : " ").append(house.trade(trade, what));
        }
        return text.toString();
    }

    /** Trade, quantity, cash and day of each time that something was settled. */
    static String settledRows(SettleHouse house) {
        StringBuilder text = new StringBuilder();
        for (int i = 0; house.settled(i, 0) != SettleHouse.NONE; i++) {
            text.append(i == 0 ? "" : ", ");
            for (int what = 0; what < 4; what++) {
                text.append(what == 0 ? "" : " ").append(house.settled(i, what));
            }
        }
        return text.toString();
    }

    /** The trades of what was settled, in the order in which it was. */
    static String settledTrades(SettleHouse house) {
        StringBuilder text = new StringBuilder();
        for (int i = 0; house.settled(i, 0) != SettleHouse.NONE; i++) {
            text.append(i == 0 ? "" : " ").append(house.settled(i, 0));
        }
        return text.toString();
    }
}
