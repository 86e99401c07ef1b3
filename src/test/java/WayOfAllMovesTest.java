import java.util.List;

/**
 * Short ways once more with all moves there are, also those that can't matter to the step: so
 * neither MaskHall nor the Model's own short search leaves out a move that would help.
 */
public final class WayOfAllMovesTest {
    private static final int DEEPEST = 3;

    public static void main(String[] args) {
        int wrong = 0;
        int[] seen = new int[7];
        for (int n = 0; n < 150; n++) {
            MaskHall hall = new MaskHall();
            Model model = new Model();
            prepare(n, hall, model);
            int way = hall.way();
            seen[way + 1]++;
            List<int[]> path = hall.can() ? model.shortest(true, DEEPEST) : null;
            int want = path == null ? -1 : path.size();
            if (way != hall.wayAnew() || (way > DEEPEST ? -1 : way) != want) {
                wrong++;
                System.out.println("canvas " + n + ": way " + way + ", anew " + hall.wayAnew() + ", due " + want);
            }
        }
        boolean enough = seen[2] > 5 && seen[3] > 5 && seen[4] > 5 && seen[5] > 5;
        System.out.println(wrong + " wrong; ways from -1 on: " + java.util.Arrays.toString(seen));
        if (wrong != 0 || !enough) {
            System.exit(1);
        }
    }

    private static void prepare(int n, MaskHall hall, Model model) {
        int kind = n % 5;
        int secret = n / 5 % 4;
        int knower = 2 + n % 3;
        hall.knows(knower, secret, true);
        model.knows(knower, secret, true);
        hall.has(secret, n % 7 - 1);
        model.has(secret, n % 7 - 1);
        int[][] steps = {{kind, 0, 1, secret}, {0, 0, 5, secret}, {4, 2, 3, 0}};
        for (int[] s : steps) {
            hall.step(s[0], s[1], s[2], s[3]);
            model.step(s[0], s[1], s[2], s[3]);
        }
        hall.night(30);
        model.night(30);
        for (int mask = 0; mask < 6; mask++) {
            if ((n * 11 + 5 >> mask & 1) == 1 && !(kind == MaskHall.ENTER && mask == 0)) {
                hall.enter(mask);
                model.enter(mask);
            }
        }
    }
}
