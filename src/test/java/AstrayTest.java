import java.lang.reflect.Field;

/**
 * Promise 17 (astray). No run of calls can make its answer other than 0, so what parties have is changed here from
 * outside: in the rows where SettleHouse keeps it, cash first.
 */
public final class AstrayTest {
    private static final int CASH = SettleHouse.NONE;

    public static void main(String[] args) throws ReflectiveOperationException {
        asItShouldBe();
        notWhatWasFunded();
        lessThanNothing();
        bothAtOnce();
        allOfThem();
        Check.finish();
    }

    private static SettleHouse house() {
        SettleHouse x = new SettleHouse();
        for (int security = CASH; security < 8; security++) {
            x.fund(3, security, 10);
            x.fund(15, security, 1000000000);
        }
        Scene.pending(x, 3, 15, 7, 4, 5);
        x.rank(Scene.pending(x, 3, 15, 0, 40, 5), 1, true);
        x.nextDay();
        return x;
    }

    private static void change(SettleHouse x, int party, int security, long by) throws ReflectiveOperationException {
        Field vault = SettleHouse.class.getDeclaredField("vault");
        vault.setAccessible(true);
        Field cells = vault.get(x).getClass().getDeclaredField("cells");
        cells.setAccessible(true);
        ((long[][]) cells.get(vault.get(x)))[party][security + 1] += by;
    }

    private static void asItShouldBe() {
        Check.due("new", 0, () -> new SettleHouse().astray());
        Check.due("funded, settled wholly and in part", 0, () -> house().astray());
    }

    /** "holdings are not what was funded": one too many or one too few, with any party, of any security. */
    private static void notWhatWasFunded() throws ReflectiveOperationException {
        for (int security = CASH; security < 8; security++) {
            for (int party = 0; party < 16; party++) {
                SettleHouse x = house();
                change(x, party, security, 1);
                Check.due("one too many of " + security + " with " + party, 1, x::astray);
            }
            SettleHouse x = house();
            change(x, 15, security, -1);
            Check.due("one too few of " + security, 1, x::astray);
        }
    }

    /** "or somebody has less than nothing", though all together have what was funded. */
    private static void lessThanNothing() throws ReflectiveOperationException {
        for (int security = CASH; security < 8; security++) {
            for (int party = 0; party < 15; party++) {
                SettleHouse x = house();
                long toNothing = x.has(party, security);
                change(x, party, security, -toNothing);
                change(x, 15, security, toNothing);
                Check.due("party " + party + " has just nothing of " + security, 0, x::astray);
                change(x, party, security, -1);
                change(x, 15, security, 1);
                Check.due("party " + party + " has less than nothing of " + security, 1, x::astray);
            }
        }
    }

    private static void bothAtOnce() throws ReflectiveOperationException {
        SettleHouse x = house();
        change(x, 0, CASH, -1);
        Check.due("less than nothing, and not what was funded", 1, x::astray);
        change(x, 1, CASH, -1);
        Check.due("of two parties", 1, x::astray);
        change(x, 15, CASH, 2);
        Check.due("all together have what was funded", 1, x::astray);
        change(x, 0, CASH, 1);
        change(x, 1, CASH, 1);
        change(x, 15, CASH, -2);
        Check.due("as it should be again", 0, x::astray);
    }

    private static void allOfThem() throws ReflectiveOperationException {
        SettleHouse x = house();
        for (int security = CASH; security < 8; security++) {
            int found = security + 2;
            change(x, security + 1, security, 1);
            Check.due("so many are astray", found, x::astray);
        }
    }
}
