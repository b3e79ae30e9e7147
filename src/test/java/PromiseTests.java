/** What the document promises, promise by promise: ordinary calls, edges and wrong inputs. */
public final class PromiseTests {
    private PromiseTests() {
    }

    public static void main(String[] args) {
        newObject();
        add();
        lose();
        lead();
        target();
        obstacle();
        feed();
        shape();
        shapeTextsThatAreWrong();
        choose();
        rounds();
        leaderRounds();
        waitsAndSteppingAside();
        exchanges();
        waitsInARow();
        orderOfTurns();
        theFirstCellAndTheFirstMember();
        execute();
        commandTextsThatAreWrong();
        refusedCommands();
        refusal();
        member();
        swarm();
        formed();
        leastRowOfSlots();
        cell();
        distance();
        slot();
        recognized();
        healed();
        healedWithout();
        again();
        account();
        back();
        image();
        undo();
        count();
        Check.end();
    }

    private static void due(String call, long got, long want) {
        Check.due(call, got, want);
    }

    /** A planner with shape 0 and with members added by a text of commands. */
    private static SwarmPlanner planner(String shape, String... commands) {
        SwarmPlanner x = new SwarmPlanner();
        if (!shape.isEmpty()) {
            Check.that("shape " + shape, Check.shape(x, 0, shape) > 0);
        }
        for (String text : commands) {
            Check.that("commands " + text, Check.execute(x, text) > 0);
        }
        return x;
    }

    private static void members(String call, SwarmPlanner x, int what, int... want) {
        for (int member = 0; member < want.length; member++) {
            due(call + ", member(" + member + ", " + what + ")", x.member(member, what), want[member]);
        }
    }

    private static void newObject() {
        SwarmPlanner x = new SwarmPlanner();
        due("new: members", x.swarm(0), 0);
        due("new: leader", x.swarm(1), -5);
        due("new: target", x.swarm(2), -5);
        due("new: present shape", x.swarm(3), 0);
        for (int what = 4; what <= 7; what++) {
            due("new: swarm(" + what + ")", x.swarm(what), 0);
        }
        for (int what = 0; what <= 7; what++) {
            due("new: account(" + what + ")", x.account(what), 0);
        }
        for (int what = 0; what <= 2; what++) {
            due("new: count(" + what + ")", x.count(what), 0);
        }
        for (int cell = 0; cell < 120; cell++) {
            due("new: wall on " + cell, x.cell(cell, 0), 0);
            due("new: member on " + cell, x.cell(cell, 1), -5);
        }
        due("new: refusal", x.refusal(0), -5);
    }

    private static void add() {
        SwarmPlanner x = new SwarmPlanner();
        due("add", x.add(0, 0), 0);
        due("add at the last cell", x.add(11, 9), 1);
        due("its cell", x.member(1, 0), 119);
        due("add too far right", x.add(12, 0), -2);
        due("add too far down", x.add(0, 10), -2);
        due("add left of all", x.add(-1, 0), -2);
        due("add above all", x.add(0, -1), -2);
        due("add at huge numbers", x.add(Integer.MAX_VALUE, Integer.MIN_VALUE), -2);
        due("add on a member", x.add(0, 0), -3);
        x.obstacle(5);
        due("add on an obstacle", x.add(5, 0), -3);
        due("refused ones are no changes", x.count(1), 3);
        x.lose(0);
        for (int i = 2; i < 10; i++) {
            due("add the next", x.add(i, 3), i);
        }
        due("add the eleventh, one is lost", x.add(0, 0), -4);
        due("the cell before the limit", x.add(5, 0), -3);
        due("the range before the limit", x.add(50, 0), -2);
        due("added", x.account(7), 10);
    }

    private static void lose() {
        SwarmPlanner x = planner("", "a0,0;a1,0;a2,0");
        due("lose nobody", x.lose(3), -1);
        due("lose below all", x.lose(-1), -1);
        due("lose above all", x.lose(Integer.MAX_VALUE), -1);
        due("lose", x.lose(1), 2);
        due("lose a lost one", x.lose(1), -1);
        due("its cell is free", x.cell(1, 1), -5);
        due("a new number", x.add(1, 0), 3);
        due("lose the leader", x.lose(0), 2);
        due("the lowest leads", x.swarm(1), 2);
        due("lose", x.lose(3), 1);
        due("lose the last one", x.lose(2), 0);
        due("nobody leads", x.swarm(1), -5);
        due("lost", x.account(5), 4);
    }

    private static void lead() {
        SwarmPlanner x = planner("", "a0,0;a1,0;a2,0;a3,0");
        due("lead of nobody", x.lead(4), -1);
        due("lead below all", x.lead(-1), -1);
        due("lead", x.lead(1), 0);
        due("lead", x.lead(2), 1);
        due("lead the leader", x.lead(2), 2);
        x.lose(2);
        due("the lowest leads, not the one made the leader before", x.swarm(1), 0);
        due("lead of a lost one", x.lead(2), -1);
        due("lead", x.lead(3), 0);
        x.lose(0);
        due("another loss changes no leader", x.swarm(1), 3);
        SwarmPlanner y = planner("", "a0,0;a1,0;l1;x0;x1");
        y.add(5, 5);
        due("one added when nobody was left leads", y.swarm(1), 2);
    }

    private static void target() {
        SwarmPlanner x = new SwarmPlanner();
        due("target without members", x.target(119), -5);
        due("target", x.target(0), 119);
        due("target above all", x.target(120), -2);
        due("target below all", x.target(-2), -2);
        due("the target stays", x.swarm(2), 0);
        due("remove", x.target(-1), 0);
        due("remove again", x.target(-1), -5);
        due("all were changes", x.count(1), 4);
        x.obstacle(7);
        due("target on an obstacle", x.target(7), -5);
        x.add(0, 0);
        x.add(1, 0);
        x.lose(0);
        due("the next leader has it", x.swarm(2), 7);
    }

    private static void obstacle() {
        SwarmPlanner x = new SwarmPlanner();
        due("obstacle above all", x.obstacle(120), -1);
        due("obstacle below all", x.obstacle(-1), -1);
        due("obstacle", x.obstacle(119), 1);
        due("obstacle", x.obstacle(0), 1);
        due("obstacles", x.account(6), 2);
        due("no longer", x.obstacle(119), 0);
        due("obstacles", x.account(6), 1);
        x.add(1, 0);
        due("obstacle under a member", x.obstacle(1), -3);
        x.lose(0);
        due("obstacle where it was", x.obstacle(1), 1);
    }

    private static void feed() {
        SwarmPlanner x = new SwarmPlanner();
        due("feed of none", x.feed(0, 1, 1, 1, 1, 1), -2);
        due("feed of six", x.feed(6, 1, 1, 1, 1, 1), -2);
        due("feed of less than none", x.feed(-1, 1, 1, 1, 1, 1), -2);
        due("a too large", x.feed(5, 128, 1, 1, 1, 1), -2);
        due("b too large", x.feed(1, 1, 128, 1, 1, 1), -2);
        due("c too small", x.feed(2, 1, 1, -1, 1, 1), -2);
        due("d too large", x.feed(3, 1, 1, 1, 128, 1), -2);
        due("e too small", x.feed(4, 1, 1, 1, 1, -1), -2);
        due("nothing was appended", x.count(0), 0);
        due("feed", x.feed(5, 0, 127, 0, 127, 0), 5);
        due("feed", x.feed(1, '*', 0, 0, 0, 0), 6);
        for (int length = 11; length <= 56; length += 5) {
            due("feed", x.feed(5, 1, 1, 1, 1, 1), length);
        }
        due("too long", x.feed(5, 1, 1, 1, 1, 1), -4);
        due("the range before the length", x.feed(5, 1, 1, 1, 1, 200), -2);
        due("none was appended", x.count(0), 56);
        due("feed", x.feed(4, 1, 1, 1, 1, 1), 60);
        due("too long by one", x.feed(1, 1, 1, 1, 1, 1), -4);
        due("feeding is no change", x.count(1), 0);
    }

    private static void shape() {
        SwarmPlanner x = new SwarmPlanner();
        Check.feed(x, "#*#");
        due("no such shape", x.shape(3), -1);
        due("no such shape", x.shape(-1), -1);
        due("the tape stays then", x.count(0), 3);
        due("shape", x.shape(0), 3);
        due("the tape is empty then", x.count(0), 0);
        due("a wrong text", Check.shape(x, 0, "##"), -102);
        due("the tape is empty after that, too", x.count(0), 0);
        due("the earlier shape stands", x.slot(0, 0), 3);
        due("one change", x.count(1), 1);
        due("a shape in place of it", Check.shape(x, 0, "*"), 1);
        due("slots", x.slot(0, 0), 1);
        due("six rows of unlike lengths", Check.shape(x, 2, ".../*/....../#/./.#"), 3);
        due("ten slots", Check.shape(x, 1, "######/###*"), 10);
        due("a set of shapes", x.count(2), 7);
    }

    private static void shapeTextsThatAreWrong() {
        SwarmPlanner x = new SwarmPlanner();
        due("six columns", Check.shape(x, 0, "*....."), 1);
        String[] texts = {"", "/", "*/", "*//#", "#x", "*#*", "......#", "*......", "######/#*###",
            "*#####/#####", "#/#/#/#/#/*/#", "*/./././././", "./.", "##########", "######/####*",
            "#", " *", "*;", "././././././", "......*"};
        int[] wrongAt = {0, 0, 2, 2, 1, 2, 6, 6, 11, 11, 11, 11, 3, 6, 11, 1, 0, 1, 11, 6};
        for (int i = 0; i < texts.length; i++) {
            due("shape of \"" + texts[i] + "\"", Check.shape(x, 0, texts[i]), -100 - wrongAt[i]);
        }
        due("a text of dots", Check.shape(x, 1, "....../......"), -113);
        due("ten slots without an anchor", Check.shape(x, 1, "#####/#####"), -111);
        due("wrong texts leave it missing", x.slot(1, 0), -100);
    }

    private static void choose() {
        SwarmPlanner x = new SwarmPlanner();
        due("choose", x.choose(2), 0);
        due("choose", x.choose(2), 2);
        due("choose", x.choose(0), 2);
        due("no such shape", x.choose(3), -1);
        due("no such shape", x.choose(-1), -1);
        due("the present one", x.swarm(3), 0);
        due("changes", x.count(1), 3);
    }

    private static void rounds() {
        SwarmPlanner x = new SwarmPlanner();
        due("no rounds before no members", x.rounds(0), -2);
        due("too many rounds before no members", x.rounds(41), -2);
        due("no members", x.rounds(40), -3);
        x = planner("#*#", "a5,5;a0,0;a11,9;a0,9");
        due("rounds too few", x.rounds(0), -2);
        due("rounds too many", x.rounds(41), -2);
        due("two step", x.rounds(1), 2);
        members("one round", x, 4, 6, 2, 0, 0);
        due("rounds on the way", x.rounds(40), 2);
        due("formed", x.swarm(6), 1);
        due("all stand", x.rounds(40), 0);
        members("all stand", x, 4, 6, 2, 1, 1);
        due("rounds", x.account(0), 81);
        due("rounds of a member", x.member(3, 8), 81);
        x = planner("", "a5,5;a5,6");
        due("a missing shape", x.rounds(3), 0);
        members("a missing shape", x, 4, 6, 2);
    }

    private static void leaderRounds() {
        SwarmPlanner x = planner("", "a5,5;t7,6;g1");
        due("right before down", x.member(0, 0), 66);
        due("it stepped", x.member(0, 4), 0);
        Check.execute(x, "g2");
        due("down", x.member(0, 0), 79);
        Check.execute(x, "g1");
        due("it was there", x.member(0, 4), 7);
        Check.execute(x, "t0,9;o0,8;o1,9;g1");
        due("no distance", x.member(0, 4), 8);
        due("no steps", x.member(0, 6), 3);
        x.target(0);
        x.obstacle(0);
        x.rounds(1);
        due("the target is an obstacle", x.member(0, 4), 8);
        x.target(-1);
        x.rounds(1);
        due("no target", x.member(0, 4), 6);
        x = planner("", "a5,5;a6,5;t6,6;g4");
        due("only the first nearer neighbor counts", x.member(0, 0), 65);
        due("it waited", x.member(0, 4), 9);
        due("its waits", x.member(0, 7), 4);
        due("none of them in a row", x.member(0, 5), 0);
        due("its waits in the account", x.account(2), 4);
        due("moved", x.rounds(1), 0);
    }

    private static void waitsAndSteppingAside() {
        // The leader fills the lane ahead of the place.
        SwarmPlanner x = planner("*#", "a1,0;a0,0;o0,1;o1,1;o2,1");
        due("the place is behind the leader", x.member(1, 2), 2);
        for (int wait = 1; wait <= 4; wait++) {
            due("nobody moves", x.rounds(1), 0);
            due("reason", x.member(1, 4), 3);
            due("waits in a row go on", x.member(1, 5), wait);
        }
        x.obstacle(12);
        due("now there is a cell aside", x.rounds(1), 1);
        due("it stepped aside", x.member(1, 4), 5);
        due("its cell", x.member(1, 0), 12);
        due("its waits begin anew", x.member(1, 5), 0);
        due("its waits", x.member(1, 7), 4);
        due("its steps", x.member(1, 6), 1);
        due("steps aside", x.account(4), 1);
        due("steps to good cells", x.account(1), 0);
        due("waits", x.account(2), 4);
        x = planner("*#", "a1,0;a0,0;o1,1;o2,1;g2");
        due("two waits", x.member(1, 5), 2);
        due("the third is none", x.rounds(1), 1);
        due("it stepped aside", x.member(1, 0), 12);
        due("waits", x.account(2), 2);
    }

    /**
     * Member 5 cannot get past the leader; it steps aside in front of member 1, whose turn comes
     * behind it in the same round. Given places have the least sum, so that only a member that
     * has stepped aside can be exchanged.
     */
    private static void exchanges() {
        SwarmPlanner x = planner("##./.*./.##", "a4,1;a1,1;a5,0;a4,2;a1,0;a4,0",
                "o2,0;o5,1;o3,2;o0,2;o6,0;o6,1;o6,2;o0,3;o1,3;o2,3", "o3,3;o4,3;o5,3");
        members("slots", x, 1, -5, 0, 1, 3, -5, 4);
        due("one steps", x.rounds(1), 1);
        members("reasons", x, 4, 6, 0, 3, 1, 2, 3);
        due("one steps", x.rounds(1), 1);
        members("waits in a row", x, 5, 0, 0, 2, 0, 0, 2);
        due("one steps aside, two exchange, one steps behind them", x.rounds(1), 3);
        members("reasons", x, 4, 6, 4, 0, 1, 2, 4);
        members("cells", x, 0, 16, 3, 4, 28, 1, 15);
        members("steps", x, 6, 0, 3, 1, 0, 0, 2);
        members("waits in a row", x, 5, 0, 0, 0, 0, 0, 0);
        members("waits", x, 7, 0, 0, 2, 0, 0, 2);
        int[] want = {3, 3, 4, 1, 1};
        for (int what = 0; what < want.length; what++) {
            due("account(" + what + ")", x.account(what), want[what]);
        }
    }

    private static void waitsInARow() {
        SwarmPlanner x = planner("*#", "a1,0;a0,0;o0,1;o1,1;o2,1;g2");
        due("two waits", x.member(1, 5), 2);
        x.choose(1);
        x.rounds(3);
        due("rounds in which it does not act", x.member(1, 5), 2);
        due("reason", x.member(1, 4), 2);
        x.choose(0);
        x.obstacle(12);
        due("the third wait is none", x.rounds(1), 1);
        due("reason", x.member(1, 4), 5);
        x = planner("*#", "a1,0;a0,0;o0,1;o1,1;o2,1;g2;l1;t2,0;g3");
        due("the leader waits", x.member(1, 4), 9);
        due("its waits", x.member(1, 7), 5);
        due("none of them counts for its row", x.member(1, 5), 2);
        Check.execute(x, "o0,1;t0,1;g1");
        due("the leader steps", x.member(1, 4), 0);
        due("a member that steps has no waits in a row", x.member(1, 5), 0);
    }

    private static void orderOfTurns() {
        // Members 1 and 2 are both two steps from their places and want the cell 5,5 first.
        SwarmPlanner x = planner("*..../....#/...#.", "a1,4;a4,5;a5,4");
        members("distances", x, 3, -5, 1, 1);
        // In a lane the one ahead, which is nearer, acts later: the one behind waits for it.
        x = planner("*..##", "a0,0;a1,0;a2,0;o1,1;o2,1;o0,1");
        members("slots", x, 1, -5, 1, 2);
        members("distances", x, 3, -5, 2, 2);
        due("the lower number of equal ones goes first and waits", x.rounds(1), 1);
        members("reasons", x, 4, 6, 3, 0);
        x = planner("*..##", "a0,0;a2,0;a1,0;o1,1;o2,1;o0,1");
        members("slots", x, 1, -5, 1, 2);
        members("distances", x, 3, -5, 1, 3);
        due("the farther one goes first and waits", x.rounds(1), 1);
        members("reasons", x, 4, 6, 0, 3);
    }

    private static void theFirstCellAndTheFirstMember() {
        SwarmPlanner x = planner("#*", "a1,0;a0,1;g1");
        due("a step to cell 0", x.member(1, 0), 0);
        due("its place", x.member(1, 2), 0);
        due("no distance", x.member(1, 3), 0);
        x.rounds(1);
        due("it stood there", x.member(1, 4), 1);
        due("the slot of cell 0", x.cell(0, 2), 0);
        due("just formed", x.healed(0), 0);
        x = planner("", "a1,0;t0,0;g1");
        due("the leader steps to cell 0", x.member(0, 0), 0);
        Check.execute(x, "g1");
        due("the leader is there", x.member(0, 4), 7);
        x = planner("*/#", "a0,1;a0,2;a0,3;a1,2;x1;o1,3;o0,4;t1,1;g1");
        due("member 3 beside the place", x.member(3, 0), 25);
        x = planner("*#", "a2,0;a1,0;o1,1;o2,1;g3");
        due("a step aside to cell 0", x.member(1, 0), 0);
        due("its reason", x.member(1, 4), 5);
        x = planner("*#", "a5,5;a0,0;l1;g1");
        due("member 0 has a slot", x.member(0, 1), 1);
        due("member 0 steps", x.member(0, 4), 0);
    }

    private static void execute() {
        SwarmPlanner x = new SwarmPlanner();
        due("an empty tape", x.execute(), -100);
        due("one change at the most", x.count(1), 0);
        due("execute", Check.execute(x, "a01,1;o2,02;t03,03;l00;g1"), 5);
        due("one change", x.count(1), 1);
        due("the tape is empty", x.count(0), 0);
        due("its cell", x.member(0, 0), 14);
        due("the obstacle", x.cell(26, 0), 1);
        due("the target", x.swarm(2), 39);
        due("an obstacle taken away", Check.execute(x, "o2,2"), 1);
        due("the obstacle", x.cell(26, 0), 0);
        due("lose", Check.execute(x, "x0"), 1);
        due("members", x.swarm(0), 0);
        due("twenty commands", Check.execute(x, "a0,0" + ";g1".repeat(18)), 19);
        due("rounds", x.member(1, 8), 18);
        due("a number with zeros", Check.execute(x, "g01"), 1);
        due("forty rounds", Check.execute(x, "g40"), 1);
    }

    private static void commandTextsThatAreWrong() {
        SwarmPlanner x = new SwarmPlanner();
        String[] texts = {"", "a", "a1", "a1,", "a1,2;", "a123,1", "a1,123", "a,1", "a1;", "a1,2,3",
            "g", "g;", "g111", "l1,2", "q", ";", "a1,1 ", "A1,1", "x1;;x1", "a12", "g1;g", " g1",
            "a1,1g1", "t1,x", "o1", "g1;b"};
        int[] wrongAt = {0, 1, 2, 3, 5, 3, 5, 1, 2, 4, 1, 1, 3, 2, 0, 0, 4, 0, 3, 3, 4, 0, 4, 3, 2, 3};
        for (int i = 0; i < texts.length; i++) {
            due("execute of \"" + texts[i] + "\"", Check.execute(x, texts[i]), -100 - wrongAt[i]);
            due("the tape is empty", x.count(0), 0);
        }
        due("a full tape that ends too early", Check.execute(x, "g1;".repeat(20)), -160);
        due("nothing came of it", x.swarm(0), 0);
        due("a wrong text is no refusal", x.refusal(0), -5);
        due("and no change", x.count(1), 0);
    }

    private static void refusedCommands() {
        SwarmPlanner x = planner("", "a3,3;o4,4");
        String[] texts = {"a12,0", "a0,10", "a4,4", "a3,3", "o12,0", "o3,3", "t0,10", "t99,99", "l1",
            "l99", "x1", "g0", "g41", "x0;g1", "x0;g0", "a5,5;o5,5", "o5,5;a5,5", "a99,3", "x0;l0"};
        int[] reasons = {1, 1, 2, 3, 1, 3, 1, 1, 5, 5, 5, 6, 6, 5, 5, 3, 2, 1, 5};
        int[] commands = {0, 0, 0, 0, 0, 0, 0, 0, 0, 0, 0, 0, 0, 1, 1, 1, 1, 0, 1};
        for (int i = 0; i < texts.length; i++) {
            due("execute of " + texts[i], Check.execute(x, texts[i]), -200 - reasons[i]);
            due("reason of " + texts[i], x.refusal(0), reasons[i]);
            due("command of " + texts[i], x.refusal(1), commands[i]);
            due("one change", x.count(1), 1);
        }
        due("nobody was lost", x.account(5), 0);
        due("one member", x.swarm(0), 1);
        due("one obstacle", x.account(6), 1);
        Check.execute(x, "a0,1;a1,1;a2,1;a3,1;a4,1;a5,1;a6,1;a7,1;a8,1");
        due("the eleventh", Check.execute(x, "x9;a9,1"), -204);
        due("an occupied cell before it", Check.execute(x, "a8,1"), -203);
        due("an obstacle before it", Check.execute(x, "a4,4"), -202);
        due("no cell before it", Check.execute(x, "a40,4"), -201);
        due("rounds are taken back, too", Check.execute(x, "t9,9;g5;o3,3;o3,4;l0;a50,1"), -201);
        due("the command's number", x.refusal(1), 5);
        due("its cell", x.member(0, 0), 39);
        due("its rounds", x.member(0, 8), 0);
        due("distances of the obstacles as before", x.distance(40, 28), 1);
    }

    private static void refusal() {
        SwarmPlanner x = new SwarmPlanner();
        due("none yet", x.refusal(0), -5);
        due("none yet", x.refusal(1), -5);
        due("no such part", x.refusal(2), -1);
        due("no such part", x.refusal(-1), -1);
        Check.execute(x, "o1,1;l0");
        x.image();
        due("the reason", x.refusal(0), 5);
        due("the command", x.refusal(1), 1);
        Check.execute(x, "a1,1");
        Check.execute(x, "a1");
        due("it is kept", x.refusal(0), 5);
        Check.execute(x, "g41");
        due("the next one", x.refusal(0), 6);
        x.back();
        x.undo();
        due("it is in no change and no snapshot", x.refusal(0), 6);
        due("its command", x.refusal(1), 0);
    }

    private static void member() {
        SwarmPlanner x = planner("#*#", "a5,5;a5,8;a5,9");
        due("no such member", x.member(3, 0), -1);
        due("no such member", x.member(-1, 0), -1);
        due("no such member", x.member(10, 0), -1);
        due("no such number", x.member(0, 9), -1);
        due("no such number", x.member(0, -1), -1);
        members("cells", x, 0, 65, 101, 113);
        members("slots", x, 1, -5, 0, 2);
        members("places", x, 2, -5, 64, 66);
        members("distances", x, 3, -5, 4, 5);
        members("no reasons yet", x, 4, -5, -5, -5);
        x.rounds(2);
        x.add(0, 0);
        x.rounds(1);
        members("rounds", x, 8, 3, 3, 3, 1);
        members("steps", x, 6, 0, 3, 3, 0);
        members("waits", x, 7, 0, 0, 0, 0);
        members("reasons", x, 4, 6, 0, 0, 2);
        due("no slot", x.member(3, 1), -5);
        due("no place", x.member(3, 2), -5);
        due("no distance", x.member(3, 3), -5);
        x.rounds(5);
        due("there", x.member(1, 3), 0);
    }

    private static void swarm() {
        SwarmPlanner x = planner("#*#/#", "a0,0;a5,5;a6,6;a7,7");
        due("no such number", x.swarm(8), -1);
        due("no such number", x.swarm(-1), -1);
        due("members", x.swarm(0), 4);
        due("places that exist", x.swarm(7), 1);
        due("given", x.swarm(4), 1);
        due("sum", x.swarm(5), 9);
        x.lead(1);
        due("places that exist", x.swarm(7), 3);
        due("given", x.swarm(4), 3);
        x.obstacle(64);
        due("an obstacle is no place", x.swarm(7), 2);
        due("given", x.swarm(4), 2);
        Check.execute(x, "o0,1;o1,0");
        due("one cannot go", x.swarm(4), 2);
        x.lose(3);
        due("one cannot go", x.swarm(4), 1);
        x.choose(2);
        due("a missing shape", x.swarm(4), 0);
        due("its places", x.swarm(7), 0);
    }

    private static void formed() {
        SwarmPlanner x = planner("*", "a5,5;a0,0");
        due("the anchor alone", x.swarm(6), 1);
        due("nothing given", x.swarm(4), 0);
        Check.execute(x, "x0;x1");
        due("nobody leads", x.swarm(6), 0);
        x = planner("*#", "a5,5");
        due("nobody has a slot", x.swarm(6), 0);
        x.add(7, 5);
        due("not there", x.swarm(6), 0);
        x.rounds(1);
        due("there", x.swarm(6), 1);
        x.add(0, 0);
        due("one without a slot", x.swarm(6), 1);
        x.choose(1);
        due("a missing shape", x.swarm(6), 0);
        x = planner("###*", "a1,0;a0,0");
        due("slots without a place do not matter", x.swarm(6), 1);
    }

    private static void leastRowOfSlots() {
        // Both ways have the sum 2; member 1 has the lower slot.
        SwarmPlanner x = planner("#/*/#", "a5,5;a4,4;a4,6");
        members("slots", x, 1, -5, 0, 2);
        x = planner("##/*.", "a5,5;a8,4;a9,4");
        members("equal sums, the lower slot for the lower member", x, 1, -5, 0, 1);
        x = planner("*#", "a5,5;a7,5;a6,4");
        members("equal distances but one: the lower has it", x, 1, -5, 1, -5);
        x = planner("*#", "a5,5;a9,5;a7,5");
        members("the nearer has it", x, 1, -5, -5, 1);
        x = planner("#*#", "a5,5;a6,5;a7,5");
        members("the least sum", x, 1, -5, 0, 2);
        due("sum", x.swarm(5), 3);
    }

    private static void cell() {
        SwarmPlanner x = planner("#*#", "a0,0;a5,5;o1,1");
        due("no such cell", x.cell(120, 0), -1);
        due("no such cell", x.cell(-1, 0), -1);
        due("no such number", x.cell(0, 5), -1);
        due("no such number", x.cell(0, -1), -1);
        due("no obstacle", x.cell(0, 0), 0);
        due("an obstacle", x.cell(13, 0), 1);
        due("a member", x.cell(65, 1), 1);
        due("no member on an obstacle", x.cell(13, 1), -5);
        due("the anchor", x.cell(0, 2), 1);
        due("a slot", x.cell(1, 2), 2);
        due("no slot behind the edge", x.cell(11, 2), -5);
        due("far from the leader", x.cell(119, 3), 20);
        due("the leader", x.cell(0, 3), 0);
        due("an obstacle is not far", x.cell(13, 3), -5);
        due("a corner", x.cell(0, 4), 2);
        due("an edge beside an obstacle", x.cell(1, 4), 2);
        due("an obstacle has neighbors", x.cell(13, 4), 4);
        due("in the middle", x.cell(65, 4), 4);
        x.obstacle(1);
        due("an obstacle is no place", x.cell(1, 2), -5);
        Check.execute(x, "x0;x1");
        due("nobody leads", x.cell(0, 2), -5);
        due("nobody leads", x.cell(0, 3), -5);
    }

    private static void distance() {
        SwarmPlanner x = new SwarmPlanner();
        due("no such cell", x.distance(0, 120), -1);
        due("no such cell", x.distance(120, 0), -1);
        due("no such cell", x.distance(-1, -1), -1);
        due("the same cell", x.distance(7, 7), 0);
        due("corners", x.distance(0, 119), 20);
        due("no wrapping around", x.distance(11, 12), 12);
        x.add(1, 0);
        due("members do not matter", x.distance(0, 2), 2);
        x.obstacle(2);
        due("from an obstacle", x.distance(2, 3), -5);
        due("to an obstacle", x.distance(3, 2), -5);
        due("an obstacle from itself", x.distance(2, 2), -5);
        due("around it", x.distance(1, 3), 4);
        x.obstacle(14);
        x.obstacle(12);
        x.obstacle(13);
        due("closed in", x.distance(0, 3), -5);
        due("closed in together", x.distance(0, 1), 1);
        x.obstacle(2);
        due("open again", x.distance(0, 3), 3);
        x.back();
        due("closed again", x.distance(0, 3), -5);
        x.back();
        due("open on the other side", x.distance(0, 3), 7);
    }

    private static void slot() {
        SwarmPlanner x = planner("..#/#.*/....#");
        due("slots", x.slot(0, 0), 4);
        due("anchor", x.slot(0, 1), 2);
        int[] columns = {0, -2, 0, 2};
        int[] rows = {-1, 0, 0, 1};
        for (int s = 0; s < 4; s++) {
            due("columns of " + s, x.slot(0, 10 + s), columns[s]);
            due("rows of " + s, x.slot(0, 30 + s), rows[s]);
        }
        int[] wrong = {-1, 2, 9, 14, 19, 20, 29, 34, 39, 40, Integer.MIN_VALUE};
        for (int what : wrong) {
            due("slot(0, " + what + ")", x.slot(0, what), -100);
        }
        due("a missing shape", x.slot(1, 0), -100);
        due("no such shape", x.slot(3, 0), -100);
        due("no such shape", x.slot(-1, 0), -100);
        Check.shape(x, 2, "######/###*");
        due("the tenth slot's columns", x.slot(2, 19), 0);
        due("the tenth slot's rows", x.slot(2, 39), 0);
        due("the first slot's columns", x.slot(2, 10), -3);
    }

    private static void recognized() {
        SwarmPlanner x = planner("*##/#");
        due("no such shape", x.recognized(3), -1);
        due("no such shape", x.recognized(-1), -1);
        due("a missing shape", x.recognized(1), -3);
        due("nobody is there", x.recognized(0), -5);
        // The four signs of an L in each of its eight ways, at the edge of the world.
        String[] swarms = {"a0,0;a1,0;a2,0;a0,1", "a1,0;a1,1;a1,2;a0,0", "a2,1;a1,1;a0,1;a2,0",
            "a0,2;a0,1;a0,0;a1,2", "a2,0;a1,0;a0,0;a2,1", "a1,2;a1,1;a1,0;a0,2",
            "a0,1;a1,1;a2,1;a0,0", "a0,0;a0,1;a0,2;a1,0"};
        for (int way = 0; way < 8; way++) {
            SwarmPlanner y = planner("*##/#", swarms[way]);
            due("recognized " + swarms[way], y.recognized(0), way);
            y.add(11, 9);
            due("one too many", y.recognized(0), -5);
            y.lose(0);
            due("not the cells", y.recognized(0), -5);
        }
        x = planner("#*#", "a5,5;a5,6;a5,7");
        due("the lowest of several ways", x.recognized(0), 1);
        x.lead(2);
        due("whatever slot the leader is on", x.recognized(0), 1);
        x = planner("*", "a11,9");
        due("one member", x.recognized(0), 0);
        x = planner("./..#/.*#", "a0,1;a1,1;a1,0");
        due("a shape with space around it", x.recognized(0), 0);
        x = planner("./..#/.*#", "a11,9;a10,9;a10,8");
        due("the same turned, in the last corner", x.recognized(0), 1);
        x = planner("*##", "a11,0;a0,1;a1,1");
        due("a row does not go on in the next one", x.recognized(0), -5);
    }

    private static void healed() {
        SwarmPlanner x = new SwarmPlanner();
        due("the range before the members", x.healed(41), -2);
        due("the range before the members", x.healed(-1), -2);
        due("no members", x.healed(40), -3);
        x = planner("#*#", "a5,5;a5,1;a5,9;t0,0");
        due("too few rounds", x.healed(4), -5);
        due("just enough", x.healed(5), 5);
        due("more than enough", x.healed(40), 5);
        due("none", x.healed(0), -5);
        due("nothing changed", x.account(0), 0);
        due("the target stays", x.swarm(2), 0);
        due("no change was made", x.count(1), 2);
        x.target(-1);
        x.rounds(5);
        due("formed", x.swarm(6), 1);
        due("formed now", x.healed(0), 0);
        due("no steps are kept", x.member(1, 6), 5);
    }

    private static void healedWithout() {
        SwarmPlanner x = planner("#*#", "a5,5");
        due("no such member", x.healedWithout(1, 41), -1);
        due("the range", x.healedWithout(0, 41), -2);
        due("the range", x.healedWithout(0, -1), -2);
        due("the only one", x.healedWithout(0, 40), -3);
        Check.execute(x, "a5,1;a5,9;a5,8;t0,0");
        due("without one", x.healedWithout(3, 40), 5);
        due("without another", x.healedWithout(2, 40), 5);
        due("without the leader", x.healedWithout(0, 40), 9);
        due("not counted", x.account(5), 0);
        due("nothing changed", x.swarm(0), 4);
        due("the target stays", x.swarm(2), 0);
        due("it stands where it stood", x.cell(65, 1), 0);
        due("too few", x.healedWithout(3, 4), -5);
        due("none", x.healedWithout(3, 0), -5);
        SwarmPlanner y = planner("*#", "a5,5;a6,5;a9,9");
        due("formed at once", y.healedWithout(2, 0), 0);
        x.lose(3);
        due("a lost one", x.healedWithout(3, 4), -1);
    }

    private static void again() {
        SwarmPlanner x = new SwarmPlanner();
        due("nobody", x.again(), 0);
        x = planner("###/#*#/###", "a5,5;a0,0;a11,0;a0,9;a11,9;a5,0;a5,9;a0,5;a11,5;a8,8");
        due("the same sum", x.again(), x.swarm(5));
        due("the sum", x.again(), 44);
        Check.execute(x, "o0,1;o1,0");
        due("one that cannot go", x.swarm(4), 8);
        due("the same sum", x.again(), x.swarm(5));
        x.choose(1);
        due("a missing shape", x.again(), 0);
        x = planner("*#", "a0,0;a5,5;o1,0");
        due("no place", x.again(), 0);
        x = planner("#*#", "a5,5;a4,5;a7,5");
        due("one is there, one is a step away", x.again(), 1);
    }

    private static void account() {
        SwarmPlanner x = planner("*#", "a1,0;a0,0;o1,1;o2,1;g3");
        int[] want = {3, 0, 2, 0, 1, 0, 2, 2};
        for (int what = 0; what < want.length; what++) {
            due("account(" + what + ")", x.account(what), want[what]);
        }
        due("no such account", x.account(8), -1);
        due("no such account", x.account(-1), -1);
        x.target(13);
        Check.execute(x, "o1,1;x1;g2");
        due("a step of the leader", x.account(1), 1);
        due("lost", x.account(5), 1);
        due("obstacles", x.account(6), 1);
        due("rounds", x.account(0), 5);
    }

    private static void back() {
        SwarmPlanner x = new SwarmPlanner();
        due("nothing to undo", x.back(), -3);
        x.add(0, 0);
        x.target(5);
        x.obstacle(50);
        x.choose(1);
        x.rounds(2);
        x.lead(0);
        Check.shape(x, 1, "*");
        Check.execute(x, "a1,1");
        due("eight", x.count(1), 8);
        x.lose(1);
        due("no more than eight", x.count(1), 8);
        due("the loss", x.back(), 7);
        due("members", x.swarm(0), 2);
        due("commands", x.back(), 6);
        due("members", x.swarm(0), 1);
        due("the shape", x.back(), 5);
        due("shapes", x.count(2), 0);
        due("lead", x.back(), 4);
        due("member(0, 4)", x.member(0, 4), 0);
        due("rounds", x.back(), 3);
        due("member(0, 4)", x.member(0, 4), -5);
        due("rounds", x.account(0), 0);
        due("its cell", x.member(0, 0), 0);
        due("choose", x.back(), 2);
        due("the present shape", x.swarm(3), 0);
        due("the obstacle", x.back(), 1);
        due("obstacles", x.account(6), 0);
        due("the target", x.back(), 0);
        due("the target", x.swarm(2), -5);
        due("the first one is too old", x.back(), -3);
        due("the member", x.swarm(0), 1);
        due("a refused change is none", x.add(0, 0), -3);
        due("so is a question", x.healed(3), -5);
        due("and feeding", x.feed(1, 42, 0, 0, 0, 0), 1);
        due("nothing to undo", x.back(), -3);
        x.choose(0);
        due("a change without effect", x.back(), 0);
        SwarmPlanner y = planner("*#", "a1,0;a0,0;o0,1;o1,1;o2,1;g2");
        y.rounds(3);
        y.lead(1);
        y.back();
        due("the leader before", y.swarm(1), 0);
        y.back();
        due("waits in a row before", y.member(1, 5), 2);
        due("waits before", y.member(1, 7), 2);
        due("rounds before", y.member(1, 8), 2);
        due("the tape stays", x.count(0), 1);
    }

    private static void image() {
        SwarmPlanner x = planner("#*#", "a5,5;a6,6;o0,0;t9,9");
        due("image", x.image(), 2);
        due("no change", x.count(1), 2);
        x.rounds(4);
        x.lose(1);
        due("another one", x.image(), 1);
        x.add(0, 1);
        due("undo", x.undo(), 1);
        due("rounds", x.account(0), 4);
        due("an empty world", new SwarmPlanner().image(), 0);
    }

    private static void undo() {
        SwarmPlanner x = planner("#*#", "a5,5;a6,6;o0,0;t9,9");
        due("no snapshot", x.undo(), -3);
        due("the changes stay then", x.count(1), 2);
        x.image();
        Check.execute(x, "x0;g3;o0,0;o1,1;t1,1;a9,9");
        Check.shape(x, 0, "*");
        x.choose(2);
        Check.feed(x, "abc");
        due("undo", x.undo(), 2);
        due("no changes", x.count(1), 0);
        due("nothing to undo", x.back(), -3);
        due("the tape stays", x.count(0), 3);
        due("leader", x.swarm(1), 0);
        due("target", x.swarm(2), 117);
        due("obstacle", x.cell(0, 0), 1);
        due("obstacle", x.cell(13, 0), 0);
        due("distances", x.distance(1, 13), 1);
        due("shape", x.slot(0, 0), 3);
        due("present", x.swarm(3), 0);
        due("added", x.account(7), 2);
        due("lost", x.account(5), 0);
        x.lose(0);
        due("the snapshot stays", x.undo(), 2);
        x.add(0, 5);
        due("a change after it", x.count(1), 1);
    }

    private static void count() {
        SwarmPlanner x = planner("*", "a0,0");
        due("no such count", x.count(3), -1);
        due("no such count", x.count(-1), -1);
        Check.shape(x, 2, "*");
        Check.feed(x, "hello world");
        due("bytes", x.count(0), 11);
        due("changes", x.count(1), 3);
        due("shapes", x.count(2), 5);
    }
}
