import java.time.DayOfWeek;
import java.time.LocalDate;
import java.util.ArrayList;
import java.util.Arrays;
import java.util.Comparator;
import java.util.HashSet;
import java.util.List;
import java.util.Set;
import java.util.TreeSet;

/** The document said a second time, as slowly and literally as can be, to compare long runs with. */
final class PlainHouse {
    private static final class Deal {
        final List<Object> terms;
        final int from;
        final int to;
        final int security;
        final int teller;
        final int tradeDay;
        final int lag;
        final Set<Integer> holds = new HashSet<>();
        final Set<Integer> wishes = new HashSet<>();
        long quantity;
        long amount;
        int state = 0;
        int due = -1;
        int fails = 0;
        int priority = 1;
        boolean parts = false;

        Deal(List<Object> terms, int teller) {
            this.terms = terms;
            this.teller = teller;
            from = (Integer) terms.get(0);
            to = (Integer) terms.get(1);
            security = (Integer) terms.get(2);
            quantity = (Integer) terms.get(3);
            amount = (Integer) terms.get(4);
            tradeDay = (Integer) terms.get(5);
            lag = (Integer) terms.get(6);
        }

        boolean hasSide(int party) {
            return party == from || party == to;
        }

        boolean isOpen() {
            return state == 0 || state == 1;
        }
    }

    private final long[][] purse = new long[16][9];
    private final Set<Integer> holidays = new HashSet<>();
    private final List<Deal> deals = new ArrayList<>();
    private final List<TreeSet<Integer>> groups = new ArrayList<>();
    private final List<long[]> rows = new ArrayList<>();
    private int today = 0;

    private static void argument(boolean fits) {
        if (!fits) {
            throw new IllegalArgumentException();
        }
    }

    private static void state(boolean fits) {
        if (!fits) {
            throw new IllegalStateException();
        }
    }

    long fund(int party, int security, int n) {
        argument(party >= 0 && party < 16 && security >= -1 && security < 8 && n >= 1 && n <= 1000000000);
        state(purse[party][security + 1] + n <= 1000000000000L);
        return purse[party][security + 1] += n;
    }

    boolean holiday(int day) {
        argument(day > today && day <= 20000);
        return holidays.add(day);
    }

    int tell(int party, int other, boolean delivers, int security, int quantity, int amount, int day, int lag) {
        argument(party >= 0 && party < 16 && other >= 0 && other < 16 && party != other);
        argument(security >= 0 && security < 8);
        argument(quantity >= 0 && quantity <= 1000000 && amount >= 0 && amount <= 1000000000 && quantity + amount > 0);
        argument(day >= 0 && day <= today && lag >= 0 && lag <= 10);
        state(deals.size() != 150);
        List<Object> terms = delivers
                ? Arrays.asList(party, other, security, quantity, amount, day, lag)
                : Arrays.asList(other, party, security, quantity, amount, day, lag);
        for (int i = 0; i < deals.size(); i++) {
            Deal deal = deals.get(i);
            if (deal.state == 0 && deal.teller == other && deal.terms.equals(terms)) {
                deal.state = 1;
                deal.due = business(deal.tradeDay, deal.lag);
                groups.add(new TreeSet<>(List.of(i)));
                return i;
            }
        }
        deals.add(new Deal(terms, party));
        return deals.size() - 1;
    }

    private Deal deal(int number) {
        argument(number >= 0 && number < deals.size());
        return deals.get(number);
    }

    boolean hold(int number, int party, boolean on) {
        argument(deal(number).hasSide(party));
        state(deal(number).isOpen());
        return on ? deal(number).holds.add(party) : deal(number).holds.remove(party);
    }

    int rank(int number, int priority, boolean inParts) {
        Deal deal = deal(number);
        argument(priority >= 0 && priority <= 3);
        state(deal.isOpen());
        int before = deal.priority;
        deal.priority = priority;
        deal.parts = inParts;
        return before;
    }

    private TreeSet<Integer> groupOf(int number) {
        for (TreeSet<Integer> group : groups) {
            if (group.contains(number)) {
                return group;
            }
        }
        return null;
    }

    int link(int one, int other) {
        deal(one);
        deal(other);
        state(deal(one).state == 1 && deal(other).state == 1);
        TreeSet<Integer> union = new TreeSet<>(groupOf(one));
        union.addAll(groupOf(other));
        state(union.size() <= 6);
        groups.removeIf(group -> union.containsAll(group));
        groups.add(union);
        return union.size();
    }

    private void end(int number, int state) {
        deal(number).state = state;
        groups.forEach(group -> group.remove(number));
        groups.removeIf(TreeSet::isEmpty);
    }

    int cancel(int number, int party) {
        Deal deal = deal(number);
        argument(deal.hasSide(party));
        state(deal.isOpen());
        deal.wishes.add(party);
        if (deal.state == 0 || deal.wishes.size() == 2) {
            end(number, 3);
        }
        return deal.state;
    }

    int nextDay() {
        state(today != 20000);
        today++;
        return isBusiness(today) ? cycle() : 0;
    }

    int goTo(int day) {
        argument(day > today && day <= 20000 && (long) day - today <= 400);
        int sum = 0;
        while (today != day) {
            sum += nextDay();
        }
        return sum;
    }

    private boolean isBusiness(int day) {
        DayOfWeek name = LocalDate.ofEpochDay(day).getDayOfWeek();
        return name != DayOfWeek.SATURDAY && name != DayOfWeek.SUNDAY && !holidays.contains(day);
    }

    private boolean isReady(Set<Integer> group) {
        return group.stream().allMatch(i -> deals.get(i).due <= today && deals.get(i).holds.isEmpty());
    }

    private int priority(TreeSet<Integer> group) {
        return group.stream().mapToInt(i -> deals.get(i).priority).max().orElse(-1);
    }

    private List<TreeSet<Integer>> readyInOrder() {
        List<TreeSet<Integer>> ready = new ArrayList<>();
        for (TreeSet<Integer> group : groups) {
            if (isReady(group)) {
                ready.add(new TreeSet<>(group));
            }
        }
        ready.sort(Comparator.<TreeSet<Integer>>comparingInt(g -> -priority(g)).thenComparingInt(TreeSet::first));
        return ready;
    }

    private static void pay(long[][] where, Deal deal, long quantity, long amount) {
        where[deal.from][deal.security + 1] -= quantity;
        where[deal.to][deal.security + 1] += quantity;
        where[deal.to][0] -= amount;
        where[deal.from][0] += amount;
    }

    private boolean isCovered(Set<Integer> group) {
        long[][] would = new long[16][];
        for (int party = 0; party < 16; party++) {
            would[party] = purse[party].clone();
        }
        group.forEach(i -> pay(would, deals.get(i), deals.get(i).quantity, deals.get(i).amount));
        return Arrays.stream(would).allMatch(row -> Arrays.stream(row).allMatch(n -> n >= 0));
    }

    private void settle(int number, long quantity, long amount) {
        Deal deal = deals.get(number);
        pay(purse, deal, quantity, amount);
        rows.add(new long[] {number, quantity, amount, today});
        deal.quantity -= quantity;
        deal.amount -= amount;
    }

    private int cycle() {
        int wholly = 0;
        boolean any = true;
        while (any) {
            any = false;
            for (TreeSet<Integer> group : readyInOrder()) {
                if (isCovered(group)) {
                    any = true;
                    for (int i : group) {
                        settle(i, deals.get(i).quantity, deals.get(i).amount);
                        end(i, 2);
                        wholly++;
                    }
                }
            }
        }
        for (TreeSet<Integer> group : readyInOrder()) {
            if (group.size() == 1 && deals.get(group.first()).parts) {
                settleGreatestPart(group.first());
            }
        }
        for (int i = 0; i < deals.size(); i++) {
            if (deals.get(i).state == 1 && deals.get(i).due <= today && ++deals.get(i).fails == 10) {
                end(i, 4);
            }
        }
        return wholly;
    }

    private void settleGreatestPart(int number) {
        Deal deal = deals.get(number);
        for (long k = deal.quantity - 1; k > 0; k--) {
            long amount = deal.amount * k / deal.quantity;
            if (purse[deal.from][deal.security + 1] >= k && purse[deal.to][0] >= amount) {
                settle(number, k, amount);
                return;
            }
        }
    }

    long has(int party, int security) {
        argument(party >= 0 && party < 16 && security >= -1 && security < 8);
        return purse[party][security + 1];
    }

    long trade(int number, int what) {
        Deal deal = deal(number);
        argument(what >= 0 && what <= 10);
        TreeSet<Integer> group = groupOf(number);
        long[] all = {deal.state, deal.due, deal.quantity, deal.amount, deal.from, deal.to, deal.security,
            deal.fails, deal.priority, group == null ? 0 : group.size(), deal.parts ? 1 : 0};
        return all[what];
    }

    long settled(int i, int what) {
        return i < 0 || i >= rows.size() || what < 0 || what > 3 ? -1 : rows.get(i)[what];
    }

    int business(int day, int n) {
        argument(day >= 0 && day <= 20000 && n >= 0 && n <= 1000);
        int found = day;
        for (int i = 0; i < n; i++) {
            do {
                found++;
            } while (!isBusiness(found));
        }
        return found;
    }

    int date(int part) {
        argument(part >= 0 && part <= 4);
        LocalDate date = LocalDate.ofEpochDay(today);
        int[] all = {date.getYear(), date.getMonthValue(), date.getDayOfMonth(), date.getDayOfWeek().getValue(), today};
        return all[part];
    }

    int count(int state) {
        argument(state >= 0 && state <= 4);
        return (int) deals.stream().filter(deal -> deal.state == state).count();
    }

    int astray() {
        return 0;
    }
}
