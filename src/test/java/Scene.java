/** Short ways to bring a house into the state that a test begins with. */
final class Scene {
    static final int CASH = SettleHouse.NONE;

    private Scene() {
    }

    /** A trade of security 0 that both sides tell today, without a lag: its number. */
    static int pending(SettleHouse house, int from, int to, int quantity, int amount) {
        return pending(house, from, to, 0, quantity, amount);
    }

    static int pending(SettleHouse house, int from, int to, int security, int quantity, int amount) {
        int today = house.date(4);
        house.tell(from, to, true, security, quantity, amount, today, 0);
        return house.tell(to, from, false, security, quantity, amount, today, 0);
    }

    /** All that can be asked of a house with a handful of trades, in fewer calls than an object stands. */
    static String picture(SettleHouse house) {
        StringBuilder text = new StringBuilder();
        for (int party = 0; party < 16; party++) {
            for (int security = CASH; security < 8; security++) {
                text.append(house.has(party, security)).append(' ');
            }
        }
        int trades = 0;
        for (int state = 0; state < 5; state++) {
            int found = house.count(state);
            trades += found;
            text.append("| ").append(found).append(' ');
        }
        for (int trade = 0; trade < trades; trade++) {
            text.append("\n").append(trade).append(": ").append(tradeRow(house, trade));
        }
        text.append("\n").append(settledRows(house));
        text.append("\nday ").append(house.date(4)).append(", then");
        for (int n = 1; n < 20; n++) {
            text.append(' ').append(house.business(house.date(4), n));
        }
        return text.append(", astray ").append(house.astray()).toString();
    }

    static String tradeRow(SettleHouse house, int trade) {
        StringBuilder text = new StringBuilder();
        for (int what = 0; what <= 10; what++) {
            text.append(what == 0 ? "" : " ").append(house.trade(trade, what));
        }
        return text.toString();
    }

    /** Trade, quantity, cash and day of each time that something was settled. */
    static String settledRows(SettleHouse house) {
        StringBuilder text = new StringBuilder();
        for (int i = 0; house.settled(i, 0) != SettleHouse.NONE; i++) {
            text.append(i == 0 ? "" : ", ");
            for (int what = 0; what < 4; what++) {
                text.append(what == 0 ? "" : " ").append(house.settled(i, what));
            }
        }
        return text.toString();
    }
}
