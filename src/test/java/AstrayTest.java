/**
 * Promise 17 (astray). No run of calls can make its answer other than 0, so what parties have is changed here behind the
 * back of the house. One that keeps it in no long is not looked at.
 */
public final class AstrayTest {
    private static final int CASH = SettleHouse.NONE;

    public static void main(String[] args) throws IllegalAccessException {
        Check.dueTo("For how many securities, and cash, holdings are not what was funded, or somebody has less than nothing.");
        asItShouldBe();
        if (new Cells(house(CASH)).change(3, CASH, 1)) {
            notWhatWasFunded();
            lessThanNothing();
            bothAtOnce();
            allOfThem();
        } else {
            System.out.println("no place was found where a party's cash is kept");
        }
        Check.finish();
    }

    /** Everybody has of one security, each another number of it; some of it was settled wholly, and some in part. */
    private static SettleHouse house(int security) {
        SettleHouse x = new SettleHouse();
        for (int party = 0; party < 16; party++) {
            x.fund(party, security, 1000 + party * party);
        }
        x.fund(15, 7, 10);
        x.fund(3, CASH, 10);
        Scene.pending(x, 15, 3, 7, 4, 5);
        x.rank(Scene.pending(x, 15, 3, 7, 9000, 5), 1, true);
        x.nextDay();
        return x;
    }

    private static void asItShouldBe() {
        Check.due("new", 0, () -> new SettleHouse().astray());
        for (int security = CASH; security < 8; security++) {
            SettleHouse x = house(security);
            Check.due("funded, settled wholly and in part", "2 1 0", () -> x.trade(0, 0) + " " + x.trade(1, 0) + " " + x.astray());
        }
    }

    /** "holdings are not what was funded": one too many or one too few, with any party, of any security. */
    private static void notWhatWasFunded() throws IllegalAccessException {
        for (int security = CASH; security < 8; security++) {
            SettleHouse x = house(security);
            Cells cells = new Cells(x);
            for (int party = 0; party < 16; party++) {
                String of = " of " + security + " with " + party;
                cells.change(party, security, 1);
                Check.due("one too many" + of, 1, x::astray);
                cells.change(party, security, -2);
                Check.due("one too few" + of, 1, x::astray);
                cells.change(party, security, 1);
                Check.due("neither" + of, 0, x::astray);
            }
        }
    }

    /** "or somebody has less than nothing", though all together have what was funded. */
    private static void lessThanNothing() throws IllegalAccessException {
        for (int security = CASH; security < 8; security++) {
            SettleHouse x = house(security);
            Cells cells = new Cells(x);
            for (int party = 0; party < 16; party++) {
                int other = (party + 1) % 16;
                long all = x.has(party, security);
                move(cells, party, other, security, all);
                Check.due("party " + party + " has just nothing of " + security, 0, x::astray);
                move(cells, party, other, security, 1);
                Check.due("party " + party + " has less than nothing of " + security, 1, x::astray);
                move(cells, other, party, security, all + 1);
            }
            Check.due("as it should be again", 0, x::astray);
        }
    }

    private static void move(Cells cells, int from, int to, int security, long n) throws IllegalAccessException {
        cells.change(from, security, -n);
        cells.change(to, security, n);
    }

    private static void bothAtOnce() throws IllegalAccessException {
        SettleHouse x = house(CASH);
        Cells cells = new Cells(x);
        cells.change(0, CASH, -1001);
        Check.due("less than nothing, and not what was funded", 1, x::astray);
        cells.change(1, CASH, -1003);
        Check.due("of two parties", 1, x::astray);
        cells.change(14, CASH, 2004);
        Check.due("all together have what was funded", 1, x::astray);
    }

    /** One security after the other, and cash, each with another party. */
    private static void allOfThem() throws IllegalAccessException {
        SettleHouse x = new SettleHouse();
        for (int security = CASH; security < 8; security++) {
            x.fund(security + 1, security, 100 + security);
        }
        x.fund(0, 0, 1000);
        Cells cells = new Cells(x);
        for (int security = CASH; security < 8; security++) {
            int found = security + 2;
            cells.change(security + 1, security, 1);
            Check.due("so many are astray", found, x::astray);
        }
    }
}
