import java.util.ArrayList;
import java.util.Arrays;
import java.util.Collections;
import java.util.List;
import java.util.Random;

/**
 * Random changes of a scene in which two members exchange their cells, compared with the plain
 * model. Random scenes as such never come to that: the places given have the least sum, so that
 * only a member that has stepped aside in the same round can be exchanged.
 */
public final class ExchangeTests {
    private static final int SCENES = Integer.getInteger("scenes", 12000);
    private static final int ROUNDS = 8;
    private static final int MOST_MEMBERS = 6;
    /** Columns and rows of slots from the anchor, of walls, and of members, the leader first. */
    private static final int[][][] WIDE = {
        {{-1, -1}, {0, -1}, {0, 0}, {0, 1}, {1, 1}},
        {{2, 0}, {5, 1}, {3, 2}, {0, 2}, {6, 0}, {6, 1}, {6, 2}, {0, 3}, {1, 3}, {2, 3}, {3, 3}, {4, 3},
            {5, 3}},
        {{4, 1}, {1, 1}, {5, 0}, {4, 2}, {1, 0}, {4, 0}}};
    /** Two members come around a corner from two sides; one of them is stuck behind the leader. */
    private static final int[][][] SMALL = {
        {{-1, 0}, {0, 0}, {1, 1}},
        {{0, -1}, {1, -1}, {2, -1}, {-1, 0}, {3, 0}, {0, 1}, {3, 1}, {0, 2}, {2, 2}, {0, 3}, {2, 3},
            {1, 4}},
        {{1, 0}, {2, 0}, {1, 3}}};

    private final Random random;
    private final SwarmPlanner planner = new SwarmPlanner();
    private final PlainModel model = new PlainModel();
    private final int scene;
    private final int[][] slots;
    private final int[][] walls;
    private final int[][] mates;
    private final int way;
    private final int columns;
    private final int rows;

    private ExchangeTests(int scene) {
        this.scene = scene;
        random = new Random(scene * 104729L + 3);
        int[][][] start = scene % 4 == 0 ? SMALL : WIDE;
        slots = start[0];
        walls = start[1];
        mates = start[2];
        way = random.nextInt(8);
        columns = random.nextInt(14) - 7;
        rows = random.nextInt(14) - 7;
    }

    public static void main(String[] args) {
        int[] exchanges = new int[4];
        for (int scene = 0; scene < SCENES && Check.wrongSoFar() == 0; scene++) {
            new ExchangeTests(scene).play(exchanges);
        }
        System.out.println("exchanges by direction: " + Arrays.toString(exchanges));
        for (int direction = 0; direction < 4; direction++) {
            Check.that("some exchanges in direction " + direction, exchanges[direction] > 0);
        }
        Check.end();
    }

    private void play(int[] exchanges) {
        buildShape();
        buildWalls();
        buildMembers();
        for (int round = 0; round < ROUNDS && planner.swarm(0) > 0; round++) {
            int before = planner.account(3);
            int[] cells = numbers(0);
            int[] steps = numbers(6);
            planner.rounds(1);
            if (planner.account(3) > before) {
                // The model is slow: it comes after the program only where that matters.
                model.call("rounds", planner.account(0) - model.call("account", 0));
                compare();
                countExchange(exchanges, cells, steps);
            }
        }
    }

    private void buildShape() {
        String[] rowsOfText = {"...", "...", "..."};
        for (int[] slot : slots) {
            put(rowsOfText, turned(slot), '#');
        }
        if (random.nextInt(3) == 0) {
            put(rowsOfText, new int[] {random.nextInt(3) - 1, random.nextInt(3) - 1}, '#');
        }
        put(rowsOfText, new int[] {0, 0}, '*');
        String text = String.join("/", rowsOfText);
        Check.feed(planner, text);
        for (int sign : text.toCharArray()) {
            model.call("feed", 1, sign, 0, 0, 0, 0);
        }
        Check.due("shape", planner.shape(0), model.call("shape", 0));
    }

    private static void put(String[] text, int[] at, char sign) {
        char[] row = text[at[1] + 1].toCharArray();
        row[at[0] + 1] = sign;
        text[at[1] + 1] = new String(row);
    }

    private void buildWalls() {
        for (int[] wall : walls) {
            int cell = cellOf(wall);
            if (random.nextInt(10) > 0 && cell >= 0) {
                turnWall(cell);
            }
        }
        for (int more = random.nextInt(4); more > 1; more--) {
            turnWall(random.nextInt(120));
        }
    }

    private void turnWall(int cell) {
        Check.due("obstacle", planner.obstacle(cell), model.call("obstacle", cell));
    }

    private void buildMembers() {
        List<int[]> members = new ArrayList<>(List.of(mates));
        if (random.nextInt(2) == 0) {
            Collections.shuffle(members, random);
        }
        for (int[] member : members) {
            int cell = random.nextInt(20) == 0 ? random.nextInt(120) : cellOf(member);
            if (cell >= 0) {
                int number = planner.add(cell % 12, cell / 12);
                Check.due("add", number, model.call("add", cell % 12, cell / 12));
                if (member == mates[0] && number >= 0) {
                    Check.due("lead", planner.lead(number), model.call("lead", number));
                }
            }
        }
    }

    private int[] turned(int[] point) {
        int column = way >= 4 ? -point[0] : point[0];
        int row = point[1];
        for (int turn = 0; turn < way % 4; turn++) {
            int old = column;
            column = -row;
            row = old;
        }
        return new int[] {column, row};
    }

    private int cellOf(int[] point) {
        int[] turned = turned(point);
        int column = turned[0] + columns;
        int row = turned[1] + rows;
        return column < 0 || column > 11 || row < 0 || row > 9 ? -1 : 12 * row + column;
    }

    private void compare() {
        for (int what = 0; what < 8; what++) {
            Check.due("scene " + scene + ", account(" + what + ")", planner.account(what),
                    model.call("account", what));
        }
        for (int member = 0; member < MOST_MEMBERS; member++) {
            for (int what = 0; what < 9; what++) {
                Check.due("scene " + scene + ", member(" + member + ", " + what + ")",
                        planner.member(member, what), model.call("member", member, what));
            }
        }
    }

    private int[] numbers(int what) {
        int[] numbers = new int[MOST_MEMBERS];
        for (int member = 0; member < numbers.length; member++) {
            numbers[member] = planner.member(member, what);
        }
        return numbers;
    }

    /** The acting member made one step in the round, the other one two: it stepped aside before. */
    private void countExchange(int[] exchanges, int[] cells, int[] steps) {
        int[] ways = {1, 12, -1, -12};
        for (int member = 0; member < MOST_MEMBERS; member++) {
            boolean acted = planner.member(member, 4) == 4
                    && planner.member(member, 6) == steps[member] + 1;
            for (int direction = 0; direction < 4; direction++) {
                if (acted && planner.member(member, 0) == cells[member] + ways[direction]) {
                    exchanges[direction]++;
                }
            }
        }
    }
}
