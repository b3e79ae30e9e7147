/** Calls of the program by their names. */
final class Calls {
    private Calls() {
    }

    static int answer(SwarmPlanner planner, String name, int... a) {
        switch (name) {
            case "add": return planner.add(a[0], a[1]);
            case "lose": return planner.lose(a[0]);
            case "lead": return planner.lead(a[0]);
            case "target": return planner.target(a[0]);
            case "obstacle": return planner.obstacle(a[0]);
            case "feed": return planner.feed(a[0], a[1], a[2], a[3], a[4], a[5]);
            case "shape": return planner.shape(a[0]);
            case "choose": return planner.choose(a[0]);
            case "rounds": return planner.rounds(a[0]);
            case "execute": return planner.execute();
            case "refusal": return planner.refusal(a[0]);
            case "member": return planner.member(a[0], a[1]);
            case "swarm": return planner.swarm(a[0]);
            case "cell": return planner.cell(a[0], a[1]);
            case "distance": return planner.distance(a[0], a[1]);
            case "slot": return planner.slot(a[0], a[1]);
            case "recognized": return planner.recognized(a[0]);
            case "healed": return planner.healed(a[0]);
            case "healedWithout": return planner.healedWithout(a[0], a[1]);
            case "again": return planner.again();
            case "account": return planner.account(a[0]);
            case "back": return planner.back();
            case "image": return planner.image();
            case "undo": return planner.undo();
            case "count": return planner.count(a[0]);
            default: throw new IllegalArgumentException(name);
        }
    }
}
