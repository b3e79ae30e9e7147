import java.util.ArrayList;
import java.util.Arrays;
import java.util.HashSet;
import java.util.List;
import java.util.Map;
import java.util.HashMap;
import java.util.Set;
import java.util.TreeMap;

/**
 * The document once more, written for plainness and not for speed, and in other ways than the
 * program: distances by relaxing, places by trying every choice, error positions by trying which
 * prefixes can be continued.
 */
final class PlainModel {
    static final int NONE = -1, BAD = -2, STATE = -3, FULL = -4, NO = -5;

    /** A member as plain numbers. */
    static final class Mate {
        int cell, reason = NO, row, steps, waits, age;

        Mate copy() {
            Mate mate = new Mate();
            mate.cell = cell;
            mate.reason = reason;
            mate.row = row;
            mate.steps = steps;
            mate.waits = waits;
            mate.age = age;
            return mate;
        }
    }

    /** All that a snapshot contains. */
    static final class Scene {
        Set<Integer> walls = new HashSet<>();
        TreeMap<Integer, Mate> mates = new TreeMap<>();
        int added, lost, rounds, good, waits, swaps, asides;
        int made = NO, target = NO, present;
        String[] shapes = new String[3];

        Scene copy() {
            Scene scene = new Scene();
            scene.walls.addAll(walls);
            mates.forEach((number, mate) -> scene.mates.put(number, mate.copy()));
            scene.added = added;
            scene.lost = lost;
            scene.rounds = rounds;
            scene.good = good;
            scene.waits = waits;
            scene.swaps = swaps;
            scene.asides = asides;
            scene.made = made;
            scene.target = target;
            scene.present = present;
            scene.shapes = shapes.clone();
            return scene;
        }

        int leader() {
            return mates.isEmpty() ? NO : mates.containsKey(made) ? made : mates.firstKey();
        }

        int at(int cell) {
            for (Map.Entry<Integer, Mate> entry : mates.entrySet()) {
                if (entry.getValue().cell == cell) {
                    return entry.getKey();
                }
            }
            return NO;
        }
    }

    /** One way to give places: how many, how far in all, and the row of slots. */
    private record Way(int given, int sum, List<Integer> row) {
        boolean better(Way other) {
            if (given != other.given) {
                return given > other.given;
            }
            if (sum != other.sum) {
                return sum < other.sum;
            }
            for (int i = 0; i < row.size(); i++) {
                if (!row.get(i).equals(other.row.get(i))) {
                    return row.get(i) < other.row.get(i);
                }
            }
            return false;
        }
    }

    Scene scene = new Scene();
    private Scene picture;
    private final ArrayList<Scene> past = new ArrayList<>();
    private String tape = "";
    private int refusal = NO, refused = NO;
    private final Map<String, int[]> far = new HashMap<>();

    int call(String name, int... a) {
        switch (name) {
            case "add": return add(a[0], a[1]);
            case "lose": return gone(a[0]) ? NONE : changed(() -> lose(a[0]));
            case "lead": return gone(a[0]) ? NONE : changed(() -> lead(a[0]));
            case "target": return a[0] < -1 || a[0] > 119 ? BAD : changed(() -> target(a[0]));
            case "obstacle": return outside(a[0]) ? NONE : scene.at(a[0]) != NO ? STATE
                    : changed(() -> obstacle(a[0]));
            case "feed": return feed(a);
            case "shape": return shape(a[0]);
            case "choose": return a[0] < 0 || a[0] > 2 ? NONE : changed(() -> choose(a[0]));
            case "rounds": return a[0] < 1 || a[0] > 40 ? BAD : scene.mates.isEmpty() ? STATE
                    : changed(() -> rounds(a[0]));
            case "execute": return execute();
            case "refusal": return a[0] == 0 ? refusal : a[0] == 1 ? refused : NONE;
            case "member": return member(a[0], a[1]);
            case "swarm": return swarm(a[0]);
            case "cell": return cell(a[0], a[1]);
            case "distance": return outside(a[0]) || outside(a[1]) ? NONE : distance(a[0], a[1]);
            case "slot": return slot(a[0], a[1]);
            case "recognized": return recognized(a[0]);
            case "healed": return a[0] < 0 || a[0] > 40 ? BAD : scene.mates.isEmpty() ? STATE
                    : healed(NO, a[0]);
            case "healedWithout": return gone(a[0]) ? NONE : a[1] < 0 || a[1] > 40 ? BAD
                    : scene.mates.size() == 1 ? STATE : healed(a[0], a[1]);
            case "again": return given().sum;
            case "account": return account(a[0]);
            case "back": return back();
            case "image": picture = scene.copy(); return scene.mates.size();
            case "undo": return undo();
            case "count": return a[0] == 0 ? tape.length() : a[0] == 1 ? past.size()
                    : a[0] == 2 ? shapeSet() : NONE;
            default: throw new IllegalArgumentException(name);
        }
    }

    private interface Change {
        int make();
    }

    private int changed(Change change) {
        keep(scene.copy());
        return change.make();
    }

    private void keep(Scene before) {
        past.add(before);
        if (past.size() > 8) {
            past.remove(0);
        }
    }

    private boolean gone(int member) {
        return !scene.mates.containsKey(member);
    }

    private static boolean outside(int cell) {
        return cell < 0 || cell > 119;
    }

    private int add(int x, int y) {
        if (x < 0 || x > 11 || y < 0 || y > 9) {
            return BAD;
        }
        int cell = 12 * y + x;
        if (scene.walls.contains(cell) || scene.at(cell) != NO) {
            return STATE;
        }
        return scene.added == 10 ? FULL : changed(() -> join(cell));
    }

    private int join(int cell) {
        Mate mate = new Mate();
        mate.cell = cell;
        scene.mates.put(scene.added, mate);
        return scene.added++;
    }

    private int lose(int member) {
        scene.mates.remove(member);
        scene.lost++;
        return scene.mates.size();
    }

    private int lead(int member) {
        int before = scene.leader();
        scene.made = member;
        return before;
    }

    private int target(int cell) {
        int before = scene.target;
        scene.target = cell < 0 ? NO : cell;
        return before;
    }

    private int obstacle(int cell) {
        if (!scene.walls.remove(cell)) {
            scene.walls.add(cell);
        }
        return scene.walls.contains(cell) ? 1 : 0;
    }

    private int feed(int[] a) {
        if (a[0] < 1 || a[0] > 5 || Arrays.stream(a, 1, 6).anyMatch(b -> b < 0 || b > 127)) {
            return BAD;
        }
        if (tape.length() + a[0] > 60) {
            return FULL;
        }
        for (int i = 1; i <= a[0]; i++) {
            tape += (char) a[i];
        }
        return tape.length();
    }

    private int shape(int shape) {
        if (shape < 0 || shape > 2) {
            return NONE;
        }
        String text = tape;
        tape = "";
        int wrong = wrongInShape(text);
        return wrong >= 0 ? -100 - wrong : changed(() -> {
            scene.shapes[shape] = text;
            return slots(text).size();
        });
    }

    private static int wrongInShape(String text) {
        for (int n = 1; n <= text.length(); n++) {
            String head = text.substring(0, n);
            String[] rows = head.split("/", -1);
            boolean right = head.matches("[#*./]*") && rows.length <= 6
                    && head.replaceAll("[^#*]", "").length() <= 10
                    && head.replaceAll("[^*]", "").length() <= 1;
            for (int i = 0; i < rows.length; i++) {
                boolean last = i == rows.length - 1;
                right &= rows[i].length() <= 6 && (last || !rows[i].isEmpty());
            }
            if (!right) {
                return n - 1;
            }
        }
        return text.isEmpty() || text.endsWith("/") || !text.contains("*") ? text.length() : -1;
    }

    /** Column, row and 1 for the anchor, of each slot. */
    private static List<int[]> slots(String text) {
        List<int[]> slots = new ArrayList<>();
        String[] rows = text.split("/");
        for (int r = 0; r < rows.length; r++) {
            for (int c = 0; c < rows[r].length(); c++) {
                if (rows[r].charAt(c) != '.') {
                    slots.add(new int[] {c, r, rows[r].charAt(c) == '*' ? 1 : 0});
                }
            }
        }
        return slots;
    }

    private static int anchor(List<int[]> slots) {
        int anchor = 0;
        while (slots.get(anchor)[2] == 0) {
            anchor++;
        }
        return anchor;
    }

    private int choose(int shape) {
        int before = scene.present;
        scene.present = shape;
        return before;
    }

    private int rounds(int n) {
        Map<Integer, Integer> before = new HashMap<>();
        scene.mates.forEach((number, mate) -> before.put(number, mate.cell));
        for (int i = 0; i < n; i++) {
            round();
        }
        int moved = 0;
        for (int number : scene.mates.keySet()) {
            moved += before.get(number) != scene.mates.get(number).cell ? 1 : 0;
        }
        return moved;
    }

    private static int[] neighbors(int cell) {
        int x = cell % 12, y = cell / 12;
        int[] found = new int[4];
        int n = 0;
        if (x < 11) {
            found[n++] = cell + 1;
        }
        if (y < 9) {
            found[n++] = cell + 12;
        }
        if (x > 0) {
            found[n++] = cell - 1;
        }
        if (y > 0) {
            found[n++] = cell - 12;
        }
        return Arrays.copyOf(found, n);
    }

    private int distance(int one, int other) {
        int[] row = far.computeIfAbsent(one + " " + scene.walls, key -> relax(one));
        return row[other];
    }

    private int[] relax(int one) {
        int[] row = new int[120];
        Arrays.fill(row, NO);
        if (!scene.walls.contains(one)) {
            row[one] = 0;
        }
        for (boolean again = true; again;) {
            again = false;
            for (int cell = 0; cell < 120; cell++) {
                for (int next : neighbors(cell)) {
                    boolean open = row[cell] >= 0 && !scene.walls.contains(next);
                    if (open && (row[next] < 0 || row[next] > row[cell] + 1)) {
                        row[next] = row[cell] + 1;
                        again = true;
                    }
                }
            }
        }
        return row;
    }

    /** For each slot of the present shape its place, or NO. */
    private List<Integer> places() {
        List<Integer> places = new ArrayList<>();
        String text = scene.shapes[scene.present];
        if (text == null) {
            return places;
        }
        List<int[]> slots = slots(text);
        int[] anchor = slots.get(anchor(slots));
        for (int[] slot : slots) {
            int place = NO;
            if (!scene.mates.isEmpty()) {
                int cell = scene.mates.get(scene.leader()).cell;
                int x = cell % 12 + slot[0] - anchor[0], y = cell / 12 + slot[1] - anchor[1];
                boolean inside = x >= 0 && x < 12 && y >= 0 && y < 10;
                place = inside && !scene.walls.contains(12 * y + x) ? 12 * y + x : NO;
            }
            places.add(place);
        }
        return places;
    }

    private List<Integer> followers() {
        List<Integer> followers = new ArrayList<>(scene.mates.keySet());
        followers.remove((Integer) scene.leader());
        return followers;
    }

    private Way given() {
        List<Integer> places = places();
        if (!places.isEmpty()) {
            places.set(anchor(slots(scene.shapes[scene.present])), NO);
        }
        return best(followers(), 0, places, 0, new HashMap<>());
    }

    private Way best(List<Integer> followers, int from, List<Integer> places, int used,
            Map<Integer, Way> known) {
        if (from == followers.size()) {
            return new Way(0, 0, List.of());
        }
        Way found = known.get(from << 10 | used);
        if (found != null) {
            return found;
        }
        Way best = null;
        for (int slot = 0; slot <= places.size(); slot++) {
            boolean none = slot == places.size();
            int cell = scene.mates.get(followers.get(from)).cell;
            if (!none && ((used >> slot & 1) == 1 || places.get(slot) == NO)) {
                continue;
            }
            int distance = none ? 0 : distance(cell, places.get(slot));
            if (distance == NO) {
                continue;
            }
            Way rest = best(followers, from + 1, places, none ? used : used | 1 << slot, known);
            List<Integer> row = new ArrayList<>();
            row.add(none ? 99 : slot);
            row.addAll(rest.row);
            Way way = new Way(rest.given + (none ? 0 : 1), rest.sum + distance, row);
            if (best == null || way.better(best)) {
                best = way;
            }
        }
        known.put(from << 10 | used, best);
        return best;
    }

    private Map<Integer, Integer> slotOf(Way way) {
        Map<Integer, Integer> slotOf = new HashMap<>();
        List<Integer> followers = followers();
        for (int i = 0; i < followers.size(); i++) {
            if (way.row.get(i) != 99) {
                slotOf.put(followers.get(i), way.row.get(i));
            }
        }
        return slotOf;
    }

    private boolean formed() {
        String text = scene.shapes[scene.present];
        if (text == null || scene.mates.isEmpty()) {
            return false;
        }
        Way way = given();
        List<Integer> places = places();
        for (Map.Entry<Integer, Integer> entry : slotOf(way).entrySet()) {
            if (scene.mates.get(entry.getKey()).cell != places.get(entry.getValue())) {
                return false;
            }
        }
        return way.given > 0 || slots(text).size() == 1;
    }

    private void round() {
        int leader = scene.leader();
        leaderTurn(scene.mates.get(leader));
        List<Integer> places = places();
        Map<Integer, Integer> goal = new HashMap<>();
        slotOf(given()).forEach((number, slot) -> goal.put(number, places.get(slot)));
        List<int[]> order = new ArrayList<>();
        for (int number : followers()) {
            Mate mate = scene.mates.get(number);
            mate.reason = !goal.containsKey(number) ? 2 : mate.cell == goal.get(number) ? 1 : NO;
            if (mate.reason == NO) {
                order.add(new int[] {number, distance(mate.cell, goal.get(number))});
            }
        }
        order.sort((a, b) -> a[1] != b[1] ? b[1] - a[1] : a[0] - b[0]);
        for (int[] entry : order) {
            if (scene.mates.get(entry[0]).cell != goal.get(entry[0])) {
                turn(entry[0], goal);
            }
        }
        scene.rounds++;
        scene.mates.values().forEach(mate -> mate.age++);
    }

    private void leaderTurn(Mate mate) {
        if (scene.target == NO) {
            mate.reason = 6;
        } else if (scene.target == mate.cell) {
            mate.reason = 7;
        } else if (distance(mate.cell, scene.target) == NO) {
            mate.reason = 8;
        } else {
            int next = good(mate.cell, scene.target).get(0);
            if (scene.at(next) == NO) {
                move(mate, next, 0);
                scene.good++;
            } else {
                mate.reason = 9;
                mate.waits++;
                scene.waits++;
            }
        }
    }

    private List<Integer> good(int cell, int goal) {
        List<Integer> good = new ArrayList<>();
        for (int next : neighbors(cell)) {
            if (!scene.walls.contains(next) && distance(next, goal) == distance(cell, goal) - 1) {
                good.add(next);
            }
        }
        return good;
    }

    private static void move(Mate mate, int cell, int reason) {
        mate.cell = cell;
        mate.reason = reason;
        mate.steps++;
        mate.row = 0;
    }

    private void turn(int number, Map<Integer, Integer> goal) {
        Mate mate = scene.mates.get(number);
        List<Integer> good = good(mate.cell, goal.get(number));
        for (int next : good) {
            if (scene.at(next) == NO) {
                move(mate, next, 0);
                scene.good++;
                return;
            }
        }
        for (int next : good) {
            int other = scene.at(next);
            Integer wish = goal.get(other);
            if (wish != null && distance(next, wish) > distance(mate.cell, wish)) {
                move(scene.mates.get(other), mate.cell, 4);
                move(mate, next, 4);
                scene.swaps++;
                return;
            }
        }
        if (mate.row >= 2) {
            for (int next : neighbors(mate.cell)) {
                if (!scene.walls.contains(next) && scene.at(next) == NO) {
                    move(mate, next, 5);
                    scene.asides++;
                    return;
                }
            }
        }
        mate.reason = 3;
        mate.row++;
        mate.waits++;
        scene.waits++;
    }

    private static final String COMMAND = "([aot]\\d\\d?,\\d\\d?|[lxg]\\d\\d?)";

    private static boolean isCommandText(String text) {
        return text.matches(COMMAND + "(;" + COMMAND + ")*");
    }

    /** A head of a text can be continued if one of a few tails makes it a whole text. */
    private static boolean canGoOn(String head) {
        for (String tail : List.of("", "0", "l0", "0,0", ",0")) {
            if (isCommandText(head + tail)) {
                return true;
            }
        }
        return false;
    }

    private int execute() {
        String text = tape;
        tape = "";
        for (int n = 1; n <= text.length(); n++) {
            if (!canGoOn(text.substring(0, n))) {
                return -100 - (n - 1);
            }
        }
        if (!isCommandText(text)) {
            return -100 - text.length();
        }
        Scene before = scene.copy();
        String[] commands = text.split(";");
        for (int i = 0; i < commands.length; i++) {
            String[] numbers = commands[i].substring(1).split(",");
            int first = Integer.parseInt(numbers[0]);
            int second = numbers.length > 1 ? Integer.parseInt(numbers[1]) : 0;
            int reason = obey(commands[i].charAt(0), first, second);
            if (reason != 0) {
                scene = before;
                refusal = reason;
                refused = i;
                return -200 - reason;
            }
        }
        keep(before);
        return commands.length;
    }

    private int obey(char letter, int first, int second) {
        boolean cellLetter = "aot".indexOf(letter) >= 0;
        int cell = 12 * second + first;
        if (cellLetter && (first > 11 || second > 9)) {
            return 1;
        }
        if (letter == 'a' && scene.walls.contains(cell)) {
            return 2;
        }
        if ((letter == 'a' || letter == 'o') && scene.at(cell) != NO) {
            return 3;
        }
        if (letter == 'a' && scene.added == 10) {
            return 4;
        }
        if ((letter == 'l' || letter == 'x') && gone(first) || letter == 'g' && scene.mates.isEmpty()) {
            return 5;
        }
        if (letter == 'g' && (first < 1 || first > 40)) {
            return 6;
        }
        switch (letter) {
            case 'a': join(cell); break;
            case 'o': obstacle(cell); break;
            case 't': target(cell); break;
            case 'l': lead(first); break;
            case 'x': lose(first); break;
            default: rounds(first); break;
        }
        return 0;
    }

    private int member(int member, int what) {
        if (gone(member)) {
            return NONE;
        }
        Mate mate = scene.mates.get(member);
        if (what >= 1 && what <= 3) {
            Integer slot = slotOf(given()).get(member);
            return slot == null ? NO : what == 1 ? slot : what == 2 ? places().get(slot)
                    : distance(mate.cell, places().get(slot));
        }
        switch (what) {
            case 0: return mate.cell;
            case 4: return mate.reason;
            case 5: return mate.row;
            case 6: return mate.steps;
            case 7: return mate.waits;
            case 8: return mate.age;
            default: return NONE;
        }
    }

    private int swarm(int what) {
        switch (what) {
            case 0: return scene.mates.size();
            case 1: return scene.leader();
            case 2: return scene.target;
            case 3: return scene.present;
            case 4: return given().given;
            case 5: return given().sum;
            case 6: return formed() ? 1 : 0;
            case 7: return (int) places().stream().filter(place -> place != NO).count()
                    - (scene.mates.isEmpty() || places().isEmpty() ? 0 : 1);
            default: return NONE;
        }
    }

    private int cell(int cell, int what) {
        if (outside(cell)) {
            return NONE;
        }
        switch (what) {
            case 0: return scene.walls.contains(cell) ? 1 : 0;
            case 1: return scene.at(cell);
            case 2: return places().contains(cell) ? places().indexOf(cell) : NO;
            case 3: return scene.mates.isEmpty() ? NO
                    : distance(scene.mates.get(scene.leader()).cell, cell);
            case 4: return (int) Arrays.stream(neighbors(cell))
                    .filter(next -> !scene.walls.contains(next)).count();
            default: return NONE;
        }
    }

    private int slot(int shape, int what) {
        if (shape < 0 || shape > 2 || scene.shapes[shape] == null) {
            return -100;
        }
        List<int[]> slots = slots(scene.shapes[shape]);
        int anchor = anchor(slots);
        if (what == 0 || what == 1) {
            return what == 0 ? slots.size() : anchor;
        }
        int part = what >= 10 && what <= 19 ? 0 : what >= 30 && what <= 39 ? 1 : NO;
        if (part == NO || what % 10 >= slots.size()) {
            return -100;
        }
        return slots.get(what % 10)[part] - slots.get(anchor)[part];
    }

    private int recognized(int shape) {
        if (shape < 0 || shape > 2) {
            return NONE;
        }
        if (scene.shapes[shape] == null) {
            return STATE;
        }
        Set<List<Integer>> cells = new HashSet<>();
        scene.mates.values().forEach(mate -> cells.add(List.of(mate.cell % 12, mate.cell / 12)));
        for (int g = 0; g < 8; g++) {
            for (int dx = -6; dx <= 17; dx++) {
                for (int dy = -6; dy <= 15; dy++) {
                    Set<List<Integer>> turned = new HashSet<>();
                    for (int[] slot : slots(scene.shapes[shape])) {
                        int c = g >= 4 ? -slot[0] : slot[0], r = slot[1];
                        for (int i = 0; i < g % 4; i++) {
                            int old = c;
                            c = -r;
                            r = old;
                        }
                        turned.add(List.of(c + dx, r + dy));
                    }
                    if (turned.equals(cells)) {
                        return g;
                    }
                }
            }
        }
        return NO;
    }

    private int healed(int member, int most) {
        Scene before = scene;
        scene = before.copy();
        scene.target = NO;
        scene.mates.remove(member);
        int answer = NO;
        for (int n = 0; n <= most && answer == NO; n++) {
            if (formed()) {
                answer = n;
            } else {
                round();
            }
        }
        scene = before;
        return answer;
    }

    private int account(int what) {
        int[] accounts = {scene.rounds, scene.good, scene.waits, scene.swaps, scene.asides,
            scene.lost, scene.walls.size(), scene.added};
        return what < 0 || what > 7 ? NONE : accounts[what];
    }

    private int back() {
        if (past.isEmpty()) {
            return STATE;
        }
        scene = past.remove(past.size() - 1);
        return past.size();
    }

    private int undo() {
        if (picture == null) {
            return STATE;
        }
        scene = picture.copy();
        past.clear();
        return scene.mates.size();
    }

    private int shapeSet() {
        int set = 0;
        for (int i = 0; i < 3; i++) {
            set += scene.shapes[i] == null ? 0 : 1 << i;
        }
        return set;
    }
}
