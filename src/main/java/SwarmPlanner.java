import java.util.Arrays;

/** A planner for swarms on a grid. The class is not thread-safe. */
public final class SwarmPlanner {
    public static final int NONE = -1, BAD = -2, STATE = -3, FULL = -4;

    /** Answers, and marks inside, that there is no such cell, member, slot, way or number. */
    private static final int ABSENT = -5;
    private static final int TEXT_WRONG = -100, REFUSED = -200, NO_SLOT_NUMBER = -100;

    private static final int COLUMNS = 12, ROWS = 10, CELLS = 120;
    private static final int DIRECTIONS = 4;
    private static final int MOST_MEMBERS = 10, SHAPES = 3, MOST_SLOTS = 10;
    private static final int MOST_SHAPE_COLUMNS = 6, MOST_SHAPE_ROWS = 6, SYMMETRIES = 8;
    private static final int MOST_ROUNDS = 40, MOST_BYTES = 60, MOST_UNDONE = 8;
    /** A command has two bytes or more, so that no tape holds so many. */
    private static final int MOST_COMMANDS = 30;

    /** What a cell holds where no member stands. */
    private static final int FREE = -1, WALL = -2;

    private static final int ROUNDS_MADE = 0, GOOD_STEPS = 1, WAITS = 2, EXCHANGES = 3;
    private static final int ASIDES = 4, LOST = 5, WALLS = 6, ADDED = 7, ACCOUNTS = 8;

    private static final int STEPPED = 0, ON_PLACE = 1, NO_SLOT = 2, WAITED = 3, EXCHANGED = 4;
    private static final int ASIDE = 5, NO_TARGET = 6, AT_TARGET = 7, NO_WAY = 8, LEADER_WAITED = 9;

    private static final int ACCEPTED = 0, NO_CELL = 1, ON_WALL = 2, ON_MEMBER = 3;
    private static final int ALL_ADDED = 4, NO_MEMBER = 5, BAD_ROUNDS = 6;

    /** Tells that a text has no error position. */
    private static final int RIGHT = -1;

    private final World world = new World();
    /** The world as it was ahead of a trial: commands that may be refused, or healing. */
    private final World spare = new World();
    private final World picture = new World();
    private boolean pictured = false;
    private final Past past = new Past();
    private final Tape tape = new Tape();
    private final ShapeText shapeText = new ShapeText();
    private final CommandText commandText = new CommandText();
    private final Ways ways = new Ways(world);
    private final Giving giving = new Giving(world, ways);
    private final Turns turns = new Turns(world, ways, giving);
    private int refusedFor = ABSENT;
    private int refusedCommand = ABSENT;

    public SwarmPlanner() {
    }

    public int add(int x, int y) {
        int cell = cellAt(x, y);
        if (cell < 0) {
            return BAD;
        }
        if (world.holds[cell] != FREE) {
            return STATE;
        }
        if (world.accounts[ADDED] >= MOST_MEMBERS) {
            return FULL;
        }
        past.keep(world);
        return world.join(cell);
    }

    public int lose(int member) {
        if (!world.hasMember(member)) {
            return NONE;
        }
        past.keep(world);
        world.part(member);
        return world.living();
    }

    public int lead(int member) {
        if (!world.hasMember(member)) {
            return NONE;
        }
        past.keep(world);
        int before = world.leader();
        world.named = member;
        return before;
    }

    public int target(int cell) {
        if (cell != -1 && !isCell(cell)) {
            return BAD;
        }
        past.keep(world);
        int before = world.goal;
        world.goal = cell == -1 ? ABSENT : cell;
        return before;
    }

    public int obstacle(int cell) {
        if (!isCell(cell)) {
            return NONE;
        }
        if (world.holds[cell] >= 0) {
            return STATE;
        }
        past.keep(world);
        turnWall(cell);
        return world.holds[cell] == WALL ? 1 : 0;
    }

    public int feed(int n, int a, int b, int c, int d, int e) {
        if (n < 1 || n > 5 || !isByte(a) || !isByte(b) || !isByte(c) || !isByte(d) || !isByte(e)) {
            return BAD;
        }
        if (tape.length + n > MOST_BYTES) {
            return FULL;
        }
        tape.append(a);
        if (n > 1) {
            tape.append(b);
        }
        if (n > 2) {
            tape.append(c);
        }
        if (n > 3) {
            tape.append(d);
        }
        if (n > 4) {
            tape.append(e);
        }
        return tape.length;
    }

    public int shape(int shape) {
        if (!isShape(shape)) {
            return NONE;
        }
        int wrong = shapeText.read(tape);
        tape.empty();
        if (wrong != RIGHT) {
            return TEXT_WRONG - wrong;
        }
        past.keep(world);
        world.shapes[shape].copyFrom(shapeText.draft);
        return world.shapes[shape].size;
    }

    public int choose(int shape) {
        if (!isShape(shape)) {
            return NONE;
        }
        past.keep(world);
        int before = world.present;
        world.present = shape;
        return before;
    }

    public int rounds(int n) {
        if (n < 1 || n > MOST_ROUNDS) {
            return BAD;
        }
        if (world.living() == 0) {
            return STATE;
        }
        spare.copyFrom(world);
        past.keep(world);
        for (int round = 0; round < n; round++) {
            turns.makeRound();
        }
        return world.movedSince(spare);
    }

    public int execute() {
        int wrong = commandText.read(tape);
        tape.empty();
        if (wrong != RIGHT) {
            return TEXT_WRONG - wrong;
        }
        spare.copyFrom(world);
        for (int command = 0; command < commandText.size; command++) {
            int reason = obey(commandText.kind[command],
                    commandText.first[command], commandText.second[command]);
            if (reason != ACCEPTED) {
                restore(spare);
                refusedFor = reason;
                refusedCommand = command;
                return REFUSED - reason;
            }
        }
        past.keep(spare);
        return commandText.size;
    }

    public int refusal(int what) {
        switch (what) {
            case 0: return refusedFor;
            case 1: return refusedCommand;
            default: return NONE;
        }
    }

    public int member(int member, int what) {
        if (!world.hasMember(member)) {
            return NONE;
        }
        switch (what) {
            case 0: return world.cellOf[member];
            case 1:
            case 2:
            case 3: return numberGiven(member, what);
            case 4: return world.reasonOf[member];
            case 5: return world.waitsInRow[member];
            case 6: return world.stepsOf[member];
            case 7: return world.waitsOf[member];
            case 8: return world.roundsOf[member];
            default: return NONE;
        }
    }

    public int swarm(int what) {
        switch (what) {
            case 0: return world.living();
            case 1: return world.leader();
            case 2: return world.goal;
            case 3: return world.present;
            case 4:
            case 5:
            case 6:
            case 7: return numberOfGiving(what);
            default: return NONE;
        }
    }

    public int cell(int cell, int what) {
        if (!isCell(cell)) {
            return NONE;
        }
        switch (what) {
            case 0: return world.holds[cell] == WALL ? 1 : 0;
            case 1: return world.holds[cell] >= 0 ? world.holds[cell] : ABSENT;
            case 2: return slotWithPlace(cell);
            case 3: return distanceFromLeader(cell);
            case 4: return neighborsWithoutWall(cell);
            default: return NONE;
        }
    }

    public int distance(int one, int other) {
        if (!isCell(one) || !isCell(other)) {
            return NONE;
        }
        return ways.from(one)[other];
    }

    public int slot(int shape, int what) {
        if (!isShape(shape) || world.shapes[shape].size == 0) {
            return NO_SLOT_NUMBER;
        }
        Shape read = world.shapes[shape];
        if (what == 0) {
            return read.size;
        }
        if (what == 1) {
            return read.anchor;
        }
        if (what >= 10 && what < 10 + read.size) {
            return read.columnsFromAnchor(what - 10);
        }
        if (what >= 30 && what < 30 + read.size) {
            return read.rowsFromAnchor(what - 30);
        }
        return NO_SLOT_NUMBER;
    }

    public int recognized(int shape) {
        if (!isShape(shape)) {
            return NONE;
        }
        if (world.shapes[shape].size == 0) {
            return STATE;
        }
        return world.shapes[shape].lowestWay(world);
    }

    public int healed(int most) {
        if (most < 0 || most > MOST_ROUNDS) {
            return BAD;
        }
        if (world.living() == 0) {
            return STATE;
        }
        return triedWithout(ABSENT, most);
    }

    public int healedWithout(int member, int most) {
        if (!world.hasMember(member)) {
            return NONE;
        }
        if (most < 0 || most > MOST_ROUNDS) {
            return BAD;
        }
        if (world.living() == 1) {
            return STATE;
        }
        return triedWithout(member, most);
    }

    public int again() {
        return giving.sumBySlots();
    }

    public int account(int what) {
        return what >= 0 && what < ACCOUNTS ? world.accounts[what] : NONE;
    }

    public int back() {
        if (past.size == 0) {
            return STATE;
        }
        restore(past.takeLatest());
        return past.size;
    }

    public int image() {
        picture.copyFrom(world);
        pictured = true;
        return world.living();
    }

    public int undo() {
        if (!pictured) {
            return STATE;
        }
        restore(picture);
        past.forget();
        return world.living();
    }

    public int count(int what) {
        switch (what) {
            case 0: return tape.length;
            case 1: return past.size;
            case 2: return world.shapeSet();
            default: return NONE;
        }
    }

    private static boolean isCell(int cell) {
        return cell >= 0 && cell < CELLS;
    }

    private static boolean isShape(int shape) {
        return shape >= 0 && shape < SHAPES;
    }

    private static boolean isByte(int value) {
        return value >= 0 && value <= 127;
    }

    private static int cellAt(int column, int row) {
        boolean inside = column >= 0 && column < COLUMNS && row >= 0 && row < ROWS;
        return inside ? COLUMNS * row + column : ABSENT;
    }

    private static int neighbor(int cell, int direction) {
        switch (direction) {
            case 0: return cell % COLUMNS + 1 < COLUMNS ? cell + 1 : ABSENT;
            case 1: return cell / COLUMNS + 1 < ROWS ? cell + COLUMNS : ABSENT;
            case 2: return cell % COLUMNS > 0 ? cell - 1 : ABSENT;
            default: return cell / COLUMNS > 0 ? cell - COLUMNS : ABSENT;
        }
    }

    private void restore(World from) {
        world.copyFrom(from);
        ways.forget();
    }

    private void turnWall(int cell) {
        world.turnWall(cell);
        ways.forget();
    }

    /** Carries a command out, or answers with the reason to refuse it. */
    private int obey(int kind, int first, int second) {
        switch (kind) {
            case 'a': return obeyAdding(cellAt(first, second));
            case 'o': return obeyWall(cellAt(first, second));
            case 't': return obeyTarget(cellAt(first, second));
            case 'l': return obeyLeading(first);
            case 'x': return obeyLosing(first);
            default: break;
        }
        if (world.living() == 0) {
            return NO_MEMBER;
        }
        if (first < 1 || first > MOST_ROUNDS) {
            return BAD_ROUNDS;
        }
        for (int round = 0; round < first; round++) {
            turns.makeRound();
        }
        return ACCEPTED;
    }

    private int obeyAdding(int cell) {
        if (cell < 0) {
            return NO_CELL;
        }
        if (world.holds[cell] == WALL) {
            return ON_WALL;
        }
        if (world.holds[cell] >= 0) {
            return ON_MEMBER;
        }
        if (world.accounts[ADDED] >= MOST_MEMBERS) {
            return ALL_ADDED;
        }
        world.join(cell);
        return ACCEPTED;
    }

    private int obeyWall(int cell) {
        if (cell < 0) {
            return NO_CELL;
        }
        if (world.holds[cell] >= 0) {
            return ON_MEMBER;
        }
        turnWall(cell);
        return ACCEPTED;
    }

    private int obeyTarget(int cell) {
        if (cell < 0) {
            return NO_CELL;
        }
        world.goal = cell;
        return ACCEPTED;
    }

    private int obeyLeading(int member) {
        if (!world.hasMember(member)) {
            return NO_MEMBER;
        }
        world.named = member;
        return ACCEPTED;
    }

    private int obeyLosing(int member) {
        if (!world.hasMember(member)) {
            return NO_MEMBER;
        }
        world.part(member);
        return ACCEPTED;
    }

    private int numberGiven(int member, int what) {
        giving.renew();
        int place = giving.placeOf[member];
        if (place < 0 || what == 2) {
            return place;
        }
        return what == 1 ? giving.slotOf[member] : ways.from(place)[world.cellOf[member]];
    }

    private int numberOfGiving(int what) {
        giving.renew();
        switch (what) {
            case 4: return giving.given;
            case 5: return giving.sum;
            case 6: return giving.isFormed() ? 1 : 0;
            default: return giving.openSlots;
        }
    }

    private int slotWithPlace(int cell) {
        giving.renew();
        int slots = world.presentShape().size;
        for (int slot = 0; slot < slots; slot++) {
            if (giving.placeOfSlot[slot] == cell) {
                return slot;
            }
        }
        return ABSENT;
    }

    private int distanceFromLeader(int cell) {
        int leader = world.leader();
        return leader < 0 ? ABSENT : ways.from(world.cellOf[leader])[cell];
    }

    private int neighborsWithoutWall(int cell) {
        int count = 0;
        for (int direction = 0; direction < DIRECTIONS; direction++) {
            int next = neighbor(cell, direction);
            if (next >= 0 && world.holds[next] != WALL) {
                count++;
            }
        }
        return count;
    }

    private int triedWithout(int member, int most) {
        spare.copyFrom(world);
        world.goal = ABSENT;
        if (member >= 0) {
            world.part(member);
        }
        int needed = ABSENT;
        for (int made = 0; made <= most && needed < 0; made++) {
            giving.renew();
            if (giving.isFormed()) {
                needed = made;
            } else if (made < most) {
                turns.makeRound();
            }
        }
        // Rounds move no walls, so that the ways that are known stay right.
        world.copyFrom(spare);
        return needed;
    }

    /** What a snapshot contains, and each change that can be undone. */
    private static final class World {
        /** For each cell the member on it, FREE or WALL. */
        final int[] holds = new int[CELLS];
        /** For each member its cell, ABSENT if it is lost or was never added. */
        final int[] cellOf = new int[MOST_MEMBERS];
        final int[] reasonOf = new int[MOST_MEMBERS];
        final int[] waitsInRow = new int[MOST_MEMBERS];
        final int[] stepsOf = new int[MOST_MEMBERS];
        final int[] waitsOf = new int[MOST_MEMBERS];
        final int[] roundsOf = new int[MOST_MEMBERS];
        final int[] accounts = new int[ACCOUNTS];
        final Shape[] shapes = new Shape[SHAPES];
        /** The member that was made the leader last; it may be lost since. */
        int named = ABSENT;
        int goal = ABSENT;
        int present = 0;

        World() {
            Arrays.fill(holds, FREE);
            Arrays.fill(cellOf, ABSENT);
            Arrays.fill(reasonOf, ABSENT);
            for (int shape = 0; shape < SHAPES; shape++) {
                shapes[shape] = new Shape();
            }
        }

        void copyFrom(World other) {
            System.arraycopy(other.holds, 0, holds, 0, CELLS);
            System.arraycopy(other.cellOf, 0, cellOf, 0, MOST_MEMBERS);
            System.arraycopy(other.reasonOf, 0, reasonOf, 0, MOST_MEMBERS);
            System.arraycopy(other.waitsInRow, 0, waitsInRow, 0, MOST_MEMBERS);
            System.arraycopy(other.stepsOf, 0, stepsOf, 0, MOST_MEMBERS);
            System.arraycopy(other.waitsOf, 0, waitsOf, 0, MOST_MEMBERS);
            System.arraycopy(other.roundsOf, 0, roundsOf, 0, MOST_MEMBERS);
            System.arraycopy(other.accounts, 0, accounts, 0, ACCOUNTS);
            for (int shape = 0; shape < SHAPES; shape++) {
                shapes[shape].copyFrom(other.shapes[shape]);
            }
            named = other.named;
            goal = other.goal;
            present = other.present;
        }

        int living() {
            return accounts[ADDED] - accounts[LOST];
        }

        boolean hasMember(int member) {
            return member >= 0 && member < MOST_MEMBERS && cellOf[member] >= 0;
        }

        int leader() {
            if (hasMember(named)) {
                return named;
            }
            for (int member = 0; member < MOST_MEMBERS; member++) {
                if (hasMember(member)) {
                    return member;
                }
            }
            return ABSENT;
        }

        Shape presentShape() {
            return shapes[present];
        }

        int shapeSet() {
            int set = 0;
            for (int shape = 0; shape < SHAPES; shape++) {
                if (shapes[shape].size > 0) {
                    set |= 1 << shape;
                }
            }
            return set;
        }

        int join(int cell) {
            int member = accounts[ADDED];
            accounts[ADDED]++;
            cellOf[member] = cell;
            holds[cell] = member;
            return member;
        }

        void part(int member) {
            holds[cellOf[member]] = FREE;
            cellOf[member] = ABSENT;
            accounts[LOST]++;
        }

        void turnWall(int cell) {
            boolean wall = holds[cell] == WALL;
            holds[cell] = wall ? FREE : WALL;
            accounts[WALLS] += wall ? -1 : 1;
        }

        void step(int member, int to, int reason) {
            holds[cellOf[member]] = FREE;
            put(member, to, reason);
        }

        void exchange(int one, int other) {
            int cell = cellOf[one];
            put(one, cellOf[other], EXCHANGED);
            put(other, cell, EXCHANGED);
        }

        private void put(int member, int to, int reason) {
            holds[to] = member;
            cellOf[member] = to;
            stepsOf[member]++;
            waitsInRow[member] = 0;
            reasonOf[member] = reason;
        }

        void stay(int member, int reason) {
            waitsOf[member]++;
            accounts[WAITS]++;
            reasonOf[member] = reason;
        }

        int movedSince(World before) {
            int moved = 0;
            for (int member = 0; member < MOST_MEMBERS; member++) {
                if (cellOf[member] != before.cellOf[member]) {
                    moved++;
                }
            }
            return moved;
        }
    }

    /** The slots of a shape in the order of its text; a missing shape has none. */
    private static final class Shape {
        private final int[] columns = new int[MOST_SLOTS];
        private final int[] rows = new int[MOST_SLOTS];
        int size = 0;
        int anchor = ABSENT;

        void copyFrom(Shape other) {
            System.arraycopy(other.columns, 0, columns, 0, MOST_SLOTS);
            System.arraycopy(other.rows, 0, rows, 0, MOST_SLOTS);
            size = other.size;
            anchor = other.anchor;
        }

        void empty() {
            size = 0;
            anchor = ABSENT;
        }

        boolean takeSlot(int column, int row) {
            if (size >= MOST_SLOTS) {
                return false;
            }
            columns[size] = column;
            rows[size] = row;
            size++;
            return true;
        }

        boolean takeAnchor(int column, int row) {
            int slot = size;
            if (anchor >= 0 || !takeSlot(column, row)) {
                return false;
            }
            anchor = slot;
            return true;
        }

        int columnsFromAnchor(int slot) {
            return columns[slot] - columns[anchor];
        }

        int rowsFromAnchor(int slot) {
            return rows[slot] - rows[anchor];
        }

        int lowestWay(World world) {
            if (world.living() != size) {
                return ABSENT;
            }
            for (int way = 0; way < SYMMETRIES; way++) {
                if (isMade(world, way)) {
                    return way;
                }
            }
            return ABSENT;
        }

        /** The shift is known as soon as it is known which member's cell comes from slot 0. */
        private boolean isMade(World world, int way) {
            for (int member = 0; member < MOST_MEMBERS; member++) {
                if (world.hasMember(member) && isMadeFrom(world, way, world.cellOf[member])) {
                    return true;
                }
            }
            return false;
        }

        private boolean isMadeFrom(World world, int way, int first) {
            int column = first % COLUMNS - turnedColumn(0, way);
            int row = first / COLUMNS - turnedRow(0, way);
            for (int slot = 0; slot < size; slot++) {
                int cell = cellAt(column + turnedColumn(slot, way), row + turnedRow(slot, way));
                if (cell < 0 || world.holds[cell] < 0) {
                    return false;
                }
            }
            return true;
        }

        private int mirroredColumn(int slot, int way) {
            return way >= 4 ? -columns[slot] : columns[slot];
        }

        private int turnedColumn(int slot, int way) {
            switch (way % 4) {
                case 0: return mirroredColumn(slot, way);
                case 1: return -rows[slot];
                case 2: return -mirroredColumn(slot, way);
                default: return rows[slot];
            }
        }

        private int turnedRow(int slot, int way) {
            switch (way % 4) {
                case 0: return rows[slot];
                case 1: return mirroredColumn(slot, way);
                case 2: return -rows[slot];
                default: return -mirroredColumn(slot, way);
            }
        }
    }

    /** The distances of cells, measured when they are asked for and kept until the walls change. */
    private static final class Ways {
        private final World world;
        private final int[][] distances = new int[CELLS][CELLS];
        private final boolean[] known = new boolean[CELLS];
        private final int[] queue = new int[CELLS];

        Ways(World world) {
            this.world = world;
        }

        void forget() {
            for (int cell = 0; cell < CELLS; cell++) {
                known[cell] = false;
            }
        }

        /** For each cell its distance from the start, ABSENT if it does not exist. */
        int[] from(int start) {
            int[] distance = distances[start];
            if (known[start]) {
                return distance;
            }
            known[start] = true;
            Arrays.fill(distance, ABSENT);
            if (world.holds[start] == WALL) {
                return distance;
            }
            distance[start] = 0;
            queue[0] = start;
            int length = 1;
            for (int at = 0; at < length && at < CELLS; at++) {
                int cell = queue[at];
                for (int direction = 0; direction < DIRECTIONS; direction++) {
                    int next = neighbor(cell, direction);
                    if (next >= 0 && distance[next] < 0 && world.holds[next] != WALL) {
                        distance[next] = distance[cell] + 1;
                        queue[length] = next;
                        length++;
                    }
                }
            }
            return distance;
        }
    }

    /** The places given to the members, as the world was when they were renewed. */
    private static final class Giving {
        /** More than nine members can have on the way together. */
        private static final int MISS = 1100;
        private static final long FORBIDDEN = 1L << 50;
        /** A digit for each slot number, and the last one for no slot. */
        private static final int DIGITS = 11, NO_SLOT_DIGIT = 10;
        /** DIGITS to the power of nine, the most members that can be given a slot. */
        private static final long DISTANCE_WEIGHT = 2357947691L;
        /** A set for each choice of the nine members that can be given a slot. */
        private static final int SETS = 512;

        final int[] slotOf = new int[MOST_MEMBERS];
        final int[] placeOf = new int[MOST_MEMBERS];
        final int[] placeOfSlot = new int[MOST_SLOTS];
        int openSlots = 0;
        int given = 0;
        int sum = 0;
        private final World world;
        private final Ways ways;
        private final Match match = new Match();
        private final int[] followers = new int[MOST_MEMBERS];
        private int followerCount = 0;
        private final int[] open = new int[MOST_SLOTS];
        private final int[] leastBySet = new int[SETS];

        Giving(World world, Ways ways) {
            this.world = world;
            this.ways = ways;
        }

        void renew() {
            Arrays.fill(slotOf, ABSENT);
            Arrays.fill(placeOf, ABSENT);
            given = 0;
            sum = 0;
            listFollowers();
            listOpenSlots();
            if (followerCount == 0 || openSlots == 0) {
                return;
            }
            priceChoices();
            match.solve(followerCount, openSlots + followerCount);
            for (int column = 1; column <= openSlots; column++) {
                if (match.rowAt[column] > 0) {
                    give(open[column - 1], followers[match.rowAt[column] - 1]);
                }
            }
        }

        boolean isFormed() {
            int slots = world.presentShape().size;
            return world.leader() >= 0 && sum == 0 && (given > 0 || slots == 1);
        }

        private void listFollowers() {
            int leader = world.leader();
            followerCount = 0;
            for (int member = 0; member < MOST_MEMBERS; member++) {
                if (member != leader && world.hasMember(member)) {
                    followers[followerCount] = member;
                    followerCount++;
                }
            }
        }

        private void listOpenSlots() {
            Shape shape = world.presentShape();
            int leader = world.leader();
            openSlots = 0;
            for (int slot = 0; slot < shape.size; slot++) {
                placeOfSlot[slot] = leader < 0 ? ABSENT : placeFrom(world.cellOf[leader], shape, slot);
                if (placeOfSlot[slot] >= 0 && slot != shape.anchor) {
                    open[openSlots] = slot;
                    openSlots++;
                }
            }
        }

        private int placeFrom(int leaderCell, Shape shape, int slot) {
            int place = cellAt(leaderCell % COLUMNS + shape.columnsFromAnchor(slot),
                    leaderCell / COLUMNS + shape.rowsFromAnchor(slot));
            return place >= 0 && world.holds[place] != WALL ? place : ABSENT;
        }

        /**
         * Prices choices so that the cheapest way has the fewest members without a slot, of such
         * the least sum of distances, and of such the least row of slots, read as one number.
         */
        private void priceChoices() {
            long digit = 1;
            for (int row = followerCount; row >= 1; row--) {
                int cell = world.cellOf[followers[row - 1]];
                for (int column = 1; column <= openSlots; column++) {
                    int slot = open[column - 1];
                    int distance = ways.from(placeOfSlot[slot])[cell];
                    match.price[row][column] = distance < 0 ? FORBIDDEN
                            : distance * DISTANCE_WEIGHT + slot * digit;
                }
                for (int column = 1; column <= followerCount; column++) {
                    match.price[row][openSlots + column] =
                            MISS * DISTANCE_WEIGHT + NO_SLOT_DIGIT * digit;
                }
                digit *= DIGITS;
            }
        }

        private void give(int slot, int member) {
            slotOf[member] = slot;
            placeOf[member] = placeOfSlot[slot];
            given++;
            sum += ways.from(placeOf[member])[world.cellOf[member]];
        }

        /** The least sum, found by giving each slot in turn to one of the members or to none. */
        int sumBySlots() {
            listFollowers();
            listOpenSlots();
            Arrays.fill(leastBySet, MISS * (MOST_SLOTS + 1));
            leastBySet[0] = 0;
            for (int index = 0; index < openSlots; index++) {
                takeSlotIn(ways.from(placeOfSlot[open[index]]));
            }
            int least = leastBySet[0];
            for (int set = 1; set < SETS; set++) {
                least = Math.min(least, leastBySet[set]);
            }
            return least % MISS;
        }

        /** Downwards, because a set is made from smaller ones as they were ahead of this slot. */
        private void takeSlotIn(int[] distances) {
            for (int set = SETS - 1; set >= 0; set--) {
                int least = leastBySet[set] + MISS;
                for (int index = 0; index < followerCount; index++) {
                    int distance = distances[world.cellOf[followers[index]]];
                    if ((set & (1 << index)) != 0 && distance >= 0) {
                        least = Math.min(least, leastBySet[set ^ (1 << index)] + distance);
                    }
                }
                leastBySet[set] = least;
            }
        }
    }

    /** Gives each row a column of its own at the least price in all (the Hungarian method). */
    private static final class Match {
        private static final int MOST_ROWS = 10, MOST_COLUMNS = 20;
        private static final long FAR = 1L << 60;

        /** Rows and columns are numbered from 1; row 0 is none, column 0 a help in the search. */
        final long[][] price = new long[MOST_ROWS][MOST_COLUMNS];
        final int[] rowAt = new int[MOST_COLUMNS];
        private final long[] rowShare = new long[MOST_ROWS];
        private final long[] columnShare = new long[MOST_COLUMNS];
        private final long[] slack = new long[MOST_COLUMNS];
        private final int[] cameFrom = new int[MOST_COLUMNS];
        private final boolean[] reached = new boolean[MOST_COLUMNS];

        void solve(int rows, int columns) {
            Arrays.fill(rowAt, 0);
            Arrays.fill(rowShare, 0);
            Arrays.fill(columnShare, 0);
            for (int row = 1; row <= rows; row++) {
                seat(row, columns);
            }
        }

        private void seat(int row, int columns) {
            for (int column = 0; column <= columns; column++) {
                slack[column] = FAR;
                reached[column] = false;
            }
            rowAt[0] = row;
            int column = 0;
            for (int tries = 0; tries <= columns && rowAt[column] != 0; tries++) {
                reached[column] = true;
                column = reachNext(column, columns);
            }
            for (int steps = 0; steps <= columns && column != 0; steps++) {
                rowAt[column] = rowAt[cameFrom[column]];
                column = cameFrom[column];
            }
        }

        private int reachNext(int column, int columns) {
            int row = rowAt[column];
            int nearest = 0;
            long least = FAR;
            for (int next = 1; next <= columns; next++) {
                if (!reached[next]) {
                    long rest = price[row][next] - rowShare[row] - columnShare[next];
                    if (rest < slack[next]) {
                        slack[next] = rest;
                        cameFrom[next] = column;
                    }
                    if (slack[next] < least) {
                        least = slack[next];
                        nearest = next;
                    }
                }
            }
            for (int each = 0; each <= columns; each++) {
                if (reached[each]) {
                    rowShare[rowAt[each]] += least;
                    columnShare[each] -= least;
                } else {
                    slack[each] -= least;
                }
            }
            return nearest;
        }
    }

    /** Makes rounds by the local rules. */
    private static final class Turns {
        private static final int PATIENCE = 3;

        private final World world;
        private final Ways ways;
        private final Giving giving;
        private final int[] line = new int[MOST_MEMBERS];
        private final int[] farFromPlace = new int[MOST_MEMBERS];
        private int lined = 0;

        Turns(World world, Ways ways, Giving giving) {
            this.world = world;
            this.ways = ways;
            this.giving = giving;
        }

        void makeRound() {
            int leader = world.leader();
            if (leader < 0) {
                return;
            }
            moveLeader(leader);
            giving.renew();
            lineUp(leader);
            for (int turn = 0; turn < lined; turn++) {
                act(line[turn]);
            }
            countRound();
        }

        private void countRound() {
            world.accounts[ROUNDS_MADE]++;
            for (int member = 0; member < MOST_MEMBERS; member++) {
                if (world.hasMember(member)) {
                    world.roundsOf[member]++;
                }
            }
        }

        private void moveLeader(int leader) {
            int cell = world.cellOf[leader];
            if (world.goal < 0) {
                world.reasonOf[leader] = NO_TARGET;
                return;
            }
            if (world.goal == cell) {
                world.reasonOf[leader] = AT_TARGET;
                return;
            }
            int[] distance = ways.from(world.goal);
            if (distance[cell] < 0) {
                world.reasonOf[leader] = NO_WAY;
                return;
            }
            int next = firstNearer(distance, cell);
            if (next >= 0 && world.holds[next] == FREE) {
                world.step(leader, next, STEPPED);
                world.accounts[GOOD_STEPS]++;
            } else {
                world.stay(leader, LEADER_WAITED);
            }
        }

        private int firstNearer(int[] distance, int cell) {
            for (int direction = 0; direction < DIRECTIONS; direction++) {
                int next = neighbor(cell, direction);
                if (next >= 0 && distance[next] == distance[cell] - 1) {
                    return next;
                }
            }
            return ABSENT;
        }

        private void lineUp(int leader) {
            lined = 0;
            for (int member = 0; member < MOST_MEMBERS; member++) {
                if (member != leader && world.hasMember(member)) {
                    lineUpMember(member);
                }
            }
        }

        private void lineUpMember(int member) {
            int place = giving.placeOf[member];
            if (place < 0) {
                world.reasonOf[member] = NO_SLOT;
            } else if (place == world.cellOf[member]) {
                world.reasonOf[member] = ON_PLACE;
            } else {
                insert(member, ways.from(place)[world.cellOf[member]]);
            }
        }

        /** Behind all that are as far or farther: members come in ascending order. */
        private void insert(int member, int far) {
            int at = lined;
            for (; at > 0 && farFromPlace[at - 1] < far; at--) {
                line[at] = line[at - 1];
                farFromPlace[at] = farFromPlace[at - 1];
            }
            line[at] = member;
            farFromPlace[at] = far;
            lined++;
        }

        private void act(int member) {
            int cell = world.cellOf[member];
            int place = giving.placeOf[member];
            if (cell == place) {
                return;
            }
            int[] distance = ways.from(place);
            int next = firstFreeNearer(distance, cell);
            if (next >= 0) {
                world.step(member, next, STEPPED);
                world.accounts[GOOD_STEPS]++;
                return;
            }
            int other = firstPartner(distance, cell);
            if (other >= 0) {
                world.exchange(member, other);
                world.accounts[EXCHANGES]++;
                return;
            }
            stayOrStepAside(member, cell);
        }

        private int firstFreeNearer(int[] distance, int cell) {
            for (int direction = 0; direction < DIRECTIONS; direction++) {
                int next = neighbor(cell, direction);
                if (next >= 0 && distance[next] == distance[cell] - 1
                        && world.holds[next] == FREE) {
                    return next;
                }
            }
            return ABSENT;
        }

        /** The first member on a good cell that comes nearer to its own place by the exchange. */
        private int firstPartner(int[] distance, int cell) {
            for (int direction = 0; direction < DIRECTIONS; direction++) {
                int next = neighbor(cell, direction);
                boolean good = next >= 0 && distance[next] == distance[cell] - 1;
                int other = good ? world.holds[next] : ABSENT;
                // The leader has no place, either.
                int place = other >= 0 ? giving.placeOf[other] : ABSENT;
                if (place >= 0 && ways.from(place)[next] > ways.from(place)[cell]) {
                    return other;
                }
            }
            return ABSENT;
        }

        private void stayOrStepAside(int member, int cell) {
            int aside = world.waitsInRow[member] + 1 >= PATIENCE ? firstFree(cell) : ABSENT;
            if (aside >= 0) {
                world.step(member, aside, ASIDE);
                world.accounts[ASIDES]++;
            } else {
                world.stay(member, WAITED);
                world.waitsInRow[member]++;
            }
        }

        private int firstFree(int cell) {
            for (int direction = 0; direction < DIRECTIONS; direction++) {
                int next = neighbor(cell, direction);
                if (next >= 0 && world.holds[next] == FREE) {
                    return next;
                }
            }
            return ABSENT;
        }
    }

    /** The bytes that were fed and not read yet. */
    private static final class Tape {
        int length = 0;
        private final int[] bytes = new int[MOST_BYTES];

        void append(int value) {
            if (length < MOST_BYTES) {
                bytes[length] = value;
                length++;
            }
        }

        void empty() {
            length = 0;
        }

        /** The byte at a position, ABSENT behind the last one. */
        int at(int position) {
            return position >= 0 && position < length ? bytes[position] : ABSENT;
        }
    }

    /** Reads a shape into a draft, so that a wrong text leaves the earlier shape alone. */
    private static final class ShapeText {
        final Shape draft = new Shape();
        private int column = 0;
        private int row = 0;

        /** The error position of the text, or RIGHT. */
        int read(Tape tape) {
            draft.empty();
            column = 0;
            row = 0;
            for (int at = 0; at < tape.length; at++) {
                if (!takes(tape.at(at))) {
                    return at;
                }
            }
            return draft.anchor < 0 || column == 0 ? tape.length : RIGHT;
        }

        private boolean takes(int sign) {
            if (sign == '/') {
                return takesRowEnd();
            }
            if (column >= MOST_SHAPE_COLUMNS || !takesSlot(sign)) {
                return false;
            }
            column++;
            return true;
        }

        private boolean takesRowEnd() {
            if (column == 0 || row + 1 >= MOST_SHAPE_ROWS) {
                return false;
            }
            row++;
            column = 0;
            return true;
        }

        private boolean takesSlot(int sign) {
            switch (sign) {
                case '.': return true;
                case '#': return draft.takeSlot(column, row);
                case '*': return draft.takeAnchor(column, row);
                default: return false;
            }
        }
    }

    /** Reads commands, all of them before the first one is carried out. */
    private static final class CommandText {
        final int[] kind = new int[MOST_COMMANDS];
        final int[] first = new int[MOST_COMMANDS];
        final int[] second = new int[MOST_COMMANDS];
        int size = 0;
        private int at = 0;

        /** The error position of the text, or RIGHT. */
        int read(Tape tape) {
            size = 0;
            at = 0;
            for (int command = 0; command < MOST_COMMANDS; command++) {
                if (!readCommand(tape, command)) {
                    return at;
                }
                size++;
                if (at == tape.length) {
                    return RIGHT;
                }
                if (!readSign(tape, ';')) {
                    return at;
                }
            }
            return at;
        }

        private boolean readCommand(Tape tape, int command) {
            int letter = tape.at(at);
            boolean pair = letter == 'a' || letter == 'o' || letter == 't';
            if (!pair && letter != 'l' && letter != 'x' && letter != 'g') {
                return false;
            }
            at++;
            kind[command] = letter;
            first[command] = readNumber(tape);
            second[command] = 0;
            if (pair && first[command] >= 0) {
                second[command] = readSign(tape, ',') ? readNumber(tape) : ABSENT;
            }
            return first[command] >= 0 && second[command] >= 0;
        }

        private boolean readSign(Tape tape, int sign) {
            if (tape.at(at) != sign) {
                return false;
            }
            at++;
            return true;
        }

        /** The number, ABSENT if there is no digit. */
        private int readNumber(Tape tape) {
            if (!isDigit(tape.at(at))) {
                return ABSENT;
            }
            int number = tape.at(at) - '0';
            at++;
            if (isDigit(tape.at(at))) {
                number = 10 * number + tape.at(at) - '0';
                at++;
            }
            return number;
        }

        private static boolean isDigit(int sign) {
            return sign >= '0' && sign <= '9';
        }
    }

    /** The world ahead of each of the latest changes, as a ring. */
    private static final class Past {
        int size = 0;
        private final World[] kept = new World[MOST_UNDONE];
        private int next = 0;

        Past() {
            for (int change = 0; change < MOST_UNDONE; change++) {
                kept[change] = new World();
            }
        }

        void keep(World world) {
            kept[next].copyFrom(world);
            next = (next + 1) % MOST_UNDONE;
            size = Math.min(size + 1, MOST_UNDONE);
        }

        World takeLatest() {
            next = (next + MOST_UNDONE - 1) % MOST_UNDONE;
            size--;
            return kept[next];
        }

        void forget() {
            size = 0;
        }
    }
}
