import java.util.ArrayList;
import java.util.List;
import java.util.Random;

/** The whole list of LEAST STEPS of many systems, held against all vectors tried one by one. */
public final class LeastStepsTest {
    private static int wrong;
    private static int most;

    public static void main(String[] args) {
        int systems = args.length > 0 ? Integer.parseInt(args[0]) : 2500;
        Random random = new Random(7);
        for (int k = 0; k < systems && wrong == 0; k++) {
            int n = random.nextInt(3) > 0 ? 4 : 1 + random.nextInt(3);
            int m = random.nextInt(4);
            check(n, draw(n, m, random));
        }
        // the greatest minors, and the systems with the most steps and sums that were found
        check(4, List.of(new int[] {6, 6, -6, 1}, new int[] {6, -6, 6, 1}, new int[] {-6, 6, 6, 1}));
        check(4, List.of(new int[] {6, 6, 1, 0}, new int[] {-6, 6, 0, 1}));
        check(4, List.of(new int[] {-5, 6, 0, 0}, new int[] {6, 6, -1, 1}));
        check(4, List.of(new int[] {5, -5, 6, 6}));
        check(4, List.of(new int[] {0, 0, 0, 0}, new int[] {1, 5, 6, -6}));
        // a walk that starts at a basis as it comes finds too many here
        check(4, List.of(new int[] {0, -2, 5, -3}, new int[] {-5, -1, 0, 0}));
        check(4, List.of(new int[] {-1, -1, 0, 6}, new int[] {4, -3, 4, -6}));
        check(4, List.of(new int[] {-3, 4, -3, 2}, new int[] {3, 0, -4, 5}));
        check(4, List.of(new int[] {6, 3, -2, -3}, new int[] {0, 6, 6, 4}));
        check(4, List.of(new int[] {-5, -5, -3, 3}, new int[] {6, -3, -1, -3}));
        System.out.println(wrong == 0
            ? "LeastStepsTest: all lists agree, the longest has " + most : "LeastStepsTest: wrong");
        System.exit(wrong == 0 ? 0 : 1);
    }

    /** Some rows are all 0, some multiples or sums of others. */
    private static List<int[]> draw(int n, int m, Random random) {
        List<int[]> rows = new ArrayList<>();
        int size = random.nextInt(4) == 0 ? 2 : 6;
        for (int e = 0; e < m; e++) {
            int[] row = new int[n];
            int way = random.nextInt(8);
            for (int u = 0; u < n; u++) {
                int plain = random.nextInt(2 * size + 1) - size;
                int first = e > 0 ? rows.get(0)[u] : 0;
                int last = e > 0 ? rows.get(e - 1)[u] : 0;
                row[u] = way == 0 ? 0 : way == 1 ? -first : way == 2 ? first - last : plain;
                if (row[u] < -6 || row[u] > 6 || random.nextInt(12) == 0) {
                    row[u] = 0;
                }
            }
            rows.add(row);
        }
        return rows;
    }

    private static void check(int n, List<int[]> rows) {
        StepWorks works = new StepWorks();
        works.works(n);
        StringBuilder told = new StringBuilder();
        for (int[] row : rows) {
            int e = works.equation();
            for (int u = 0; u < n; u++) {
                works.put(e, u, row[u]);
                told.append(row[u]).append(' ');
            }
            told.append("/ ");
        }
        List<int[]> due = NaiveModel.leastSteps(n, rows);
        most = Math.max(most, due.size());
        if (works.least() != due.size()) {
            tell(told + "least() = " + works.least() + ", due is " + due.size());
            return;
        }
        for (int i = 0; i < due.size(); i++) {
            for (int u = 0; u < n; u++) {
                if (works.step(i, u) != due.get(i)[u]) {
                    tell(told + "step(" + i + ", " + u + ") = " + works.step(i, u) + ", due is " + due.get(i)[u]);
                    return;
                }
            }
        }
    }

    private static void tell(String text) {
        wrong++;
        System.out.println(text);
    }
}
