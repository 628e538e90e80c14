import java.util.ArrayList;
import java.util.Arrays;
import java.util.HashMap;
import java.util.List;
import java.util.Map;

/** The document's words done in the longest and plainest way, and not in the way of the class. */
final class Oracle {
    private static final Map<Integer, int[][]> FORMS = new HashMap<>();

    private Oracle() {
    }

    static boolean isGate(int n, int gate) {
        for (int a = 0; a < n; a++) {
            for (int c = 0; c < 1 << n; c++) {
                if ((c & 1 << a) == 0 && gate == 16 * a + c) {
                    return true;
                }
            }
        }
        return false;
    }

    static int done(int gate, int value) {
        int a = gate / 16;
        int c = gate % 16;
        for (int i = 0; i < 4; i++) {
            if ((c & 1 << i) != 0 && (value & 1 << i) == 0) {
                return value;
            }
        }
        return (value & 1 << a) == 0 ? value + (1 << a) : value - (1 << a);
    }

    static boolean isPermutation(int[] table) {
        for (int v = 0; v < table.length; v++) {
            for (int w = 0; w < v; w++) {
                if (table[v] == table[w]) {
                    return false;
                }
            }
        }
        return true;
    }

    /** null if the table is no permutation. */
    static int[] gates(int n, int[] table) {
        if (!isPermutation(table)) {
            return null;
        }
        int[] now = table.clone();
        List<Integer> lastFirst = new ArrayList<>();
        for (int v = 0; v < 1 << n; v++) {
            for (int a = 0; a < n; a++) {
                if ((v & 1 << a) != 0 && (now[v] & 1 << a) == 0) {
                    doGate(16 * a + now[v], now, lastFirst);
                }
            }
            for (int a = 0; a < n; a++) {
                if ((v & 1 << a) == 0 && (now[v] & 1 << a) != 0) {
                    doGate(16 * a + v, now, lastFirst);
                }
            }
        }
        return numbers(lastFirst);
    }

    private static void doGate(int gate, int[] now, List<Integer> lastFirst) {
        for (int v = 0; v < now.length; v++) {
            now[v] = done(gate, now[v]);
        }
        lastFirst.add(0, gate);
    }

    static int products(int n) {
        return new int[] {1, 3, 9, 27, 81}[n];
    }

    static int product(int n, int number) {
        String digits = Integer.toString(number + products(n), 3).substring(1);
        int function = 0;
        for (int v = 0; v < 1 << n; v++) {
            boolean so = true;
            for (int i = 0; i < n; i++) {
                char asked = digits.charAt(n - 1 - i);
                boolean one = (v & 1 << i) != 0;
                so &= asked == '0' || asked == '1' && one || asked == '2' && !one;
            }
            function += so ? 1 << v : 0;
        }
        return function;
    }

    /**
     * For each function of n bits its form: all functions of one product, then of two, and so on. Of
     * two sets of the same size the one that comes first has the least number that is not in both,
     * so a set to which a product is added to both keeps that order.
     */
    static int[][] forms(int n) {
        return FORMS.computeIfAbsent(n, Oracle::allForms);
    }

    private static int[][] allForms(int n) {
        int[] functions = new int[products(n)];
        for (int number = 0; number < functions.length; number++) {
            functions[number] = product(n, number);
        }
        int[][] best = new int[1 << (1 << n)][];
        best[0] = new int[0];
        List<Integer> layer = List.of(0);
        while (!layer.isEmpty()) {
            int[][] next = new int[best.length][];
            List<Integer> reached = new ArrayList<>();
            for (int from : layer) {
                for (int number = 0; number < functions.length; number++) {
                    int to = from ^ functions[number];
                    if (best[to] == null) {
                        int[] one = with(best[from], number);
                        if (next[to] == null) {
                            reached.add(to);
                            next[to] = one;
                        } else if (Arrays.compare(one, next[to]) < 0) {
                            next[to] = one;
                        }
                    }
                }
            }
            for (int to : reached) {
                best[to] = next[to];
            }
            layer = reached;
        }
        return best;
    }

    private static int[] with(int[] set, int number) {
        int[] more = Arrays.copyOf(set, set.length + 1);
        more[set.length] = number;
        Arrays.sort(more);
        return more;
    }

    /**
     * Forwards from no marks, sets of marks in the order of the ways that lead to them: the first way
     * to a set is then the one whose numbers come first. null if there are none.
     */
    static int[] moves(int[] needs, int b) {
        int m = needs.length;
        int[][] way = new int[1 << m][];
        way[0] = new int[0];
        List<Integer> order = new ArrayList<>(List.of(0));
        for (int next = 0; next < order.size() && b > 0; next++) {
            int marks = order.get(next);
            for (int i = 0; i < m; i++) {
                int after = marks ^ 1 << i;
                if ((needs[i] & ~marks) == 0 && way[after] == null && Integer.bitCount(after) <= b) {
                    way[after] = Arrays.copyOf(way[marks], way[marks].length + 1);
                    way[after][way[marks].length] = i;
                    order.add(after);
                }
            }
        }
        return way[1 << (m - 1)];
    }

    static int marks(int[] needs) {
        int b = 1;
        while (moves(needs, b) == null) {
            b++;
        }
        return b;
    }

    private static int[] numbers(List<Integer> list) {
        int[] all = new int[list.size()];
        for (int i = 0; i < all.length; i++) {
            all[i] = list.get(i);
        }
        return all;
    }
}
