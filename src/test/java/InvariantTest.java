import java.lang.reflect.Field;

/**
 * Promise 42: isConsistent answers false if an invariant does not hold. No call can break one, so the test writes
 * into the rows inside the object; it has to follow when the state is held in another way.
 */
public final class InvariantTest extends Checks {
    private static Object reach(WireCutter x, String path) {
        try {
            Object place = x;
            for (String name : path.split("/")) {
                Field field = place.getClass().getDeclaredField(name);
                field.setAccessible(true);
                place = field.get(place);
            }
            return place;
        } catch (ReflectiveOperationException e) {
            throw new AssertionError(e);
        }
    }

    private static int[] row(WireCutter x, String path) {
        return (int[]) reach(x, "workshop/" + path + "/places");
    }

    /** Spools of all materials, as many orders as there can be, scraps, pieces, losses, and something thrown away. */
    private static WireCutter busy() {
        WireCutter x = fresh();
        for (char m = 'a'; m <= 'f'; m++) {
            x.addSpool(m, 500);
            addScrap(x, m, 40);
            addOrders(x, m, 20, 100);
            x.fillDue(1);
            x.throwScraps(m);
            addScrap(x, m, 60);
        }
        for (int i = 0; i < 12; i++) {
            x.addOrder((char) ('a' + i % 6), 70 + i, 10 + i / 2);
        }
        due(true, x.isConsistent());
        return x;
    }

    private static void change(WireCutter x, String path, int index, int amount) {
        row(x, path)[index] += amount;
    }

    private static void breaks(String path, int index, int amount) {
        WireCutter x = busy();
        change(x, path, index, amount);
        due(false, x.isConsistent());
        change(x, path, index, -amount);
        due(true, x.isConsistent());
    }

    private static void unequalAccounts() {
        about("promise 42: both ways of computing what was wound agree for all materials");
        for (int material = 0; material < 6; material++) {
            for (int amount : new int[] {-1, 1}) {
                breaks("accounts/wound", material, amount);
                breaks("accounts/delivered", material, amount);
                breaks("accounts/lost", material, amount);
                breaks("scraps/thrown", material, amount);
                breaks("scraps/lengths", material, amount);
                breaks("spools/lengths", material, amount);
            }
        }
    }

    // The table has no place for so long a spool, and answers 0; the recursion takes every piece.
    private static void unequalLoads() {
        about("promise 42: both ways of computing the best load agree for all spools");
        for (int spool = 0; spool < 6; spool++) {
            WireCutter x = busy();
            change(x, "spools/lengths", spool, 5000);
            change(x, "accounts/wound", spool, 5000);
            due(false, x.isConsistent());
            int number = row(x, "spools/numbers")[spool];
            due(false, x.bestLoad(number) == x.bestLoadByRecursion(number));
            char material = (char) ('a' + spool);
            due(x.wound(material), x.woundByParts(material));
        }
    }

    private static void swap(int[] row, int index) {
        int first = row[index];
        row[index] = row[index + 1];
        row[index + 1] = first;
    }

    private static void unsortedQueue() {
        about("promise 42: the queue of orders is sorted");
        for (int position = 0; position < 11; position++) {
            boolean isSameDay = position % 2 == 0;
            WireCutter x = busy();
            swap(row(x, "orders/numbers"), position);
            due(!isSameDay, x.isConsistent());
            swap(row(x, "orders/dues"), position);
            due(false, x.isConsistent());
            swap(row(x, "orders/numbers"), position);
            due(isSameDay, x.isConsistent());
            swap(row(x, "orders/dues"), position);
            due(true, x.isConsistent());
        }
    }

    public static void main(String[] args) {
        unequalAccounts();
        unequalLoads();
        unsortedQueue();
        end("a broken invariant is found");
    }
}
