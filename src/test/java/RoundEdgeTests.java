/** The sentences on rounds and reasons, each with its boundary cases. */
public final class RoundEdgeTests {
    /** Member 1 waits behind the leader in a lane; a cell of row 1 can be opened for it. */
    private static final String LANE = """
            shape 0 '*#' = 2
            map 10./### = 2
            """;
    /** Member 5 steps aside in the third round, in front of member 1, which exchanges with it. */
    private static final String EXCHANGE = """
            shape 0 '##./.*./.##' = 5
            execute 'a4,1;a1,1;a5,0;a4,2;a1,0;a4,0' = 6
            execute 'o2,0;o5,1;o3,2;o0,2;o6,0;o6,1;o6,2;o0,3;o1,3;o2,3' = 10
            execute 'o3,3;o4,3;o5,3' = 3
            rounds 2 = 1
            account 3 = 0
            """;

    private RoundEdgeTests() {
    }

    public static void main(String[] args) {
        leaderFirst();
        leaderSteps();
        leaderLooksAtTheFirst();
        placesAfterTheLeader();
        orderOfTurns();
        orderBehindTheGiving();
        noOthersAct();
        goodCells();
        exchanges();
        waits();
        steppingAside();
        waitsBeginAnew();
        noCellAside();
        stepsEndTheRow();
        roundsWithoutActing();
        waitsOfTheLeader();
        oneTurnEach();
        latestRound();
        reasonsOfMembers();
        reasonsOfTheLeader();
        inDoubts();
        Quotes.printUnquoted();
        Check.end();
    }

    private static void rounds(String sentence, String... scripts) {
        Edges.edge("Rounds", sentence, scripts);
    }

    private static void reasons(String sentence, String... scripts) {
        Edges.edge("Reasons", sentence, scripts);
    }

    private static void inDoubt(String sentence, String... scripts) {
        Edges.edge("In doubt", sentence, scripts);
    }

    private static void leaderFirst() {
        rounds("In a round, the leader comes first.", """
            shape 0 '#*' = 2
            map 10.. = 2
            target 3 = -5
            rounds 1 = 2
            member 0..1 0 = 2 1
            """, """
            shape 0 '#*' = 2
            map 01.. = 2
            lead 1 = 0
            target 3 = -5
            rounds 1 = 2
            member 0..1 0 = 1 2
            """, """
            shape 0 '*..#' = 2
            map 01.. = 2
            target 3 = -5
            rounds 1 = 1
            member 0..1 0 = 0 2
            member 0..1 4 = 9 0
            """);
    }

    private static void leaderSteps() {
        rounds("If it has a target, is not there, and the distance exists, it steps to the first neighbor"
                + " whose distance from the target is less by 1 than its own, if no member stands"
                + " there; otherwise it waits.", """
            map 01./### = 2
            rounds 1 = 0
            member 0 4 = 6
            target 0 = -5
            rounds 1 = 0
            member 0 4 = 7
            target 2 = 0
            rounds 1 = 0
            member 0 4 = 9
            member 0 7 = 1
            account 2 = 1
            lose 1 = 1
            rounds 1 = 1
            member 0 4 = 0
            member 0 0 = 1
            rounds 1 = 1
            member 0 0 = 2
            rounds 1 = 0
            member 0 4 = 7
            obstacle 3 = 1
            target 4 = 2
            rounds 1 = 0
            member 0 4 = 8
            target 3 = 4
            rounds 1 = 0
            member 0 4 = 8
            obstacle 3 = 0
            rounds 1 = 1
            member 0 0 = 3
            member 0 6..8 = 3 1 9
            account 0..2 = 9 3 1
            """, """
            map 10 = 2
            target 0 = -5
            rounds 1 = 0
            member 0 4 = 9
            lead 1 = 0
            rounds 1 = 0
            member 1 4 = 7
            """);
    }

    private static void leaderLooksAtTheFirst() {
        inDoubt("The leader looks only at the first neighbor that is nearer by 1.", """
            add 5 5 = 0
            add 6 5 = 1
            target 78 = -5
            rounds 3 = 0
            member 0 4 = 9
            member 0 7 = 3
            """, """
            add 5 5 = 0
            add 5 6 = 1
            target 78 = -5
            rounds 1 = 1
            member 0 0 = 66
            member 0 4 = 0
            """, """
            add 5 5 = 0
            add 4 5 = 1
            target 52 = -5
            rounds 1 = 0
            member 0 4 = 9
            lose 1 = 1
            rounds 1 = 1
            member 0 0 = 64
            """);
    }

    private static void placesAfterTheLeader() {
        rounds("Then places are given,", """
            shape 0 '#*' = 2
            map 10. = 2
            swarm 6 = 1
            target 2 = -5
            rounds 1 = 2
            member 0..1 4 = 0 0
            member 1 0 = 1
            """, """
            shape 0 '*.#' = 2
            add 5 5 = 0
            add 8 5 = 1
            member 1 3 = 1
            target 70 = -5
            rounds 1 = 1
            member 1 4 = 1
            member 1 0 = 68
            """, """
            shape 0 '#*' = 2
            map .0.1 = 2
            target 0 = -5
            member 1 2 = 0
            rounds 1 = 1
            member 1 4 = 2
            member 1 0 = 3
            """);
    }

    private static void orderOfTurns() {
        rounds("and the members with slots that do not stand on their places act one after the other,"
                + " those with a greater distance from their places first, of several the lower number"
                + " first,",
            // In a lane the one behind waits if it comes first.
            """
            shape 0 '*..##' = 3
            map 021../##### = 3
            member 1..2 3 = 1 3
            rounds 1 = 1
            member 1..2 4 = 0 3
            member 1..2 0 = 3 1
            """, """
            shape 0 '*..##' = 3
            map 012../##### = 3
            member 1..2 3 = 2 2
            rounds 1 = 1
            member 1..2 4 = 3 0
            member 1..2 0 = 1 3
            """,
            // Three of them, whose numbers are not in the order of their turns.
            """
            shape 0 '###/*..' = 4
            map ..132#/0##### = 4
            member 1..3 3 = 2 3 1
            rounds 1 = 2
            member 1..3 4 = 0 3 0
            member 1..3 0 = 1 4 2
            """,
            // Both come to one cell, from the left and from above.
            """
            shape 0 '.#/#*' = 3
            map #2##/1...#/##.0#/#### = 3
            member 1..2 3 = 3 3
            rounds 1 = 1
            member 1..2 0 = 13 1
            member 1..2 4 = 0 3
            """, """
            shape 0 '.#/#*' = 3
            map #1##/2...#/##.0#/#### = 3
            member 1..2 3 = 3 3
            rounds 1 = 1
            member 1..2 0 = 13 12
            member 1..2 4 = 0 3
            """);
    }

    private static void orderBehindTheGiving() {
        rounds("by the distances and places as they are behind this giving; this order does not change in"
                + " the round,",
            // The leader's step makes the farther one the nearer one.
            """
            shape 0 '#.*#' = 3
            map ..#1.2#/...#.#./......./....0.. = 3
            member 1..2 3 = 6 5
            rounds 1 = 1
            member 1..2 0 = 4 5
            member 1..2 4 = 0 3
            """, """
            shape 0 '#.*#' = 3
            map ..#1.2#/...#.#./......./....0.. = 3
            target 45 = -5
            rounds 1 = 2
            member 0..2 0 = 41 3 4
            member 0..2 4 = 0 3 0
            """);
    }

    private static void noOthersAct() {
        rounds("and no other members act.", """
            shape 0 '*#' = 2
            add 5 5 = 0
            add 6 5 = 1
            add 7 5 = 2
            rounds 4 = 0
            member 0..2 4 = 6 1 2
            member 0..2 5 = 0
            member 0..2 7 = 0
            member 0..2 8 = 4
            account 1..4 = 0
            lose 1 = 2
            rounds 1 = 1
            member 2 4 = 0
            """);
    }

    private static void goodCells() {
        rounds("The good cells are its neighbors that are no obstacles and whose distance from its place"
                + " is less by 1 than its own at that moment. It steps to the first good cell on which"
                + " no member stands.",
            stepOfMember("*....#", "a1,6", 66), stepOfMember("#....*", "a9,6", 77),
            stepOfMember("#....*", "a9,4", 64), stepOfMember("*....#", "a1,4", 66),
            stepOfMember("*....#", "a0,7;o5,6", 66), stepOfMember("*....#", "a2,5;o6,5", 77),
            stepOfMember("*....#", "a0,3", 53), stepOfMember("#....*", "a8,5", 64),
            stepOfMember("*....#", "a0,3;o5,4", 66), stepOfMember("#....*", "a8,5;o4,5", 77),
            // The leader stands on the first good cell, then on the only one.
            stepOfMember("*/#", "a6,5", 77), stepOfMember("*/#", "a6,5;o5,6", 65),
            """
            shape 0 '##/*#' = 4
            add 5 5 = 0
            add 5 4 = 1
            add 6 4 = 2
            add 5 3 = 3
            member 1..3 1 = 0 1 3
            rounds 1 = 1
            member 1..3 0 = 53 54 42
            member 3 3 = 2
            """);
    }

    private static String stepOfMember(String shape, String commands, int cell) {
        return "shape 0 '" + shape + "' = 2\nexecute '" + commands + ";a5,5' = "
                + (commands.split(";").length + 1) + "\nrounds 1 = " + (cell == 65 ? 0 : 1)
                + "\nmember 1 0 = " + cell + "\nmember 1 4 = " + (cell == 65 ? 3 : 0);
    }

    private static void exchanges() {
        rounds("If there is none, the first good cell is looked at whose member is not the leader, has a"
                + " slot, and whose distance from its place is greater there than it is, or would be, on"
                + " the cell of the acting member: both exchange their cells.",
            EXCHANGE + """
            member 1 0 = 15
            member 5 0 = 4
            rounds 1 = 3
            member 0..5 0 = 16 3 4 28 1 15
            member 0..5 6 = 0 3 1 0 0 2
            account 1..4 = 3 4 1 1
            """,
            // One waits behind the leader and steps aside in front of the other, in each direction.
            exchange("#*./..#", ".01#/#..#/#.##/#2.#/####", "13 14"),
            exchange(".##/.*#/#.#", "#.#.#/2..0#/##.1#/..###/#####", "14 26"),
            exchange("#../.*#", "...#/#.1#/..##/20.#/####", "24 25"),
            exchange("#.../.*#./.#..", ".#.2#/1..0#/....#/#####", "2 14"),
            exchange("#../.*#/.#.", ".2#.#/.0.##/.####/1..##/#####", "0 12"),
            // The lowest number is exchanged by another one, and by its own acting.
            """
            shape 0 '.#../#*../#.#.' = 5
            map .4..1#/30.#.#/#...2#/###### = 5
            lead 4 = 0
            rounds 2 = 1
            member 0..4 0 = 13 2 28 12 1
            rounds 1 = 2
            member 0..4 0 = 2 14 28 12 1
            member 0..4 4 = 4 4 2 1 6
            account 3..4 = 1 1
            """, """
            shape 0 '.#../..*#' = 3
            map #.1#.#/..2.##/0##..#/###.##/###### = 3
            lead 2 = 0
            rounds 2 = 1
            member 0..2 0 = 13 2 14
            rounds 1 = 2
            member 0..2 0 = 1 13 14
            member 0..2 4 = 4 4 6
            account 3..4 = 1 1
            """,
            // The one ahead is the leader, stands on its place, or goes the same way.
            """
            shape 0 '*#' = 2
            map 10. = 2
            rounds 2 = 0
            account 2..3 = 2 0
            """, """
            shape 0 '*.##' = 3
            map 021./#### = 3
            member 1..2 1 = 1 2
            member 1..2 3 = 0 2
            rounds 1 = 0
            member 1..2 4 = 1 3
            account 3 = 0
            """, """
            shape 0 '*..##' = 3
            map 021../##### = 3
            rounds 1 = 1
            member 2 4 = 3
            account 3 = 0
            """);
    }

    /** In the third round members 1 and 2 exchange, and stand on the cells then. */
    private static String exchange(String shape, String map, String cells) {
        int slots = shape.replaceAll("[^#*]", "").length();
        return "shape 0 '" + shape + "' = " + slots + "\nmap " + map + " = 3\nrounds 2 = 1\naccount 3..4 = 0"
                + "\nrounds 1 = 2\nmember 1..2 0 = " + cells + "\nmember 1..2 4..5 = 4 0 4 0"
                + "\naccount 1..4 = 2 2 1 1\naccount 0 = 3";
    }

    private static void waits() {
        rounds("If there is none either, it waits.", LANE + """
            rounds 1 = 0
            member 1 4..7 = 3 1 0 1
            rounds 1 = 0
            member 1 4..7 = 3 2 0 2
            account 2 = 2
            """);
    }

    private static void steppingAside() {
        rounds("A member that waits for the third time or more directly after one another, in rounds in"
                + " which it acts, steps aside instead: to the first neighbor that is no obstacle and on"
                + " which no member stands, if there is one,",
            aside("*#", "a6,5;a5,5", 77), aside("*#", "a6,5;a5,5;o5,6", 64),
            aside("*#", "a6,5;a5,5;o5,6;o4,5", 53), aside("#*", "a4,5;a5,5", 66),
            aside("#*", "a4,5;a5,5;o6,5", 77), aside("*/#", "a5,6;a5,5", 66),
            aside("#/*", "a5,4;a5,5;o6,5;o5,6", 64), aside("*#", "a6,5;a5,5;a5,6", 64),
            aside("*#", "a6,5;a5,5;a5,6;a4,5", 53), aside("*#", "a6,5;a5,5;a5,6;a4,5;a5,4", 65),
            aside("*#", "a6,5;a5,5;o5,6;o4,5;a5,4", 65));
    }

    /** Two waits of member 1, and then its step to the cell, or a third wait. */
    private static String aside(String shape, String commands, int cell) {
        int members = commands.split("a").length - 1;
        String row = cell == 65 ? "3 3 0 3" : "5 0 1 2";
        return "shape 0 '" + shape + "' = 2\nexecute '" + commands + "' = " + commands.split(";").length
                + "\nswarm 0 = " + members + "\nrounds 1 = 0\nmember 1 4..7 = 3 1 0 1\nrounds 1 = 0"
                + "\nmember 1 4..7 = 3 2 0 2\nrounds 1 = " + (cell == 65 ? 0 : 1)
                + "\nmember 1 0 = " + cell + "\nmember 1 4..7 = " + row;
    }

    private static void waitsBeginAnew() {
        rounds("and its waits in a row begin anew;", """
            shape 0 '*#' = 2
            map .10./.### = 2
            rounds 3 = 1
            member 1 4..7 = 5 0 1 2
            member 1 0 = 0
            target 1 = -5
            rounds 1 = 1
            member 0..1 0 = 1 0
            member 1 4..7 = 3 1 1 3
            rounds 1 = 0
            member 1 4..7 = 3 2 1 4
            rounds 1 = 1
            member 1 4..7 = 5 0 2 4
            member 1 0 = 12
            """);
    }

    private static void noCellAside() {
        rounds("if there is none, it waits, and tries so again at its next wait;", LANE + """
            rounds 3 = 0
            member 1 4..7 = 3 3 0 3
            rounds 1 = 0
            member 1 4..7 = 3 4 0 4
            account 2 = 4
            account 4 = 0
            obstacle 12 = 0
            rounds 1 = 1
            member 1 4..7 = 5 0 1 4
            account 2 = 4
            account 4 = 1
            """);
    }

    private static void stepsEndTheRow() {
        rounds("a member that steps or is exchanged has no waits in a row, either;", LANE + """
            rounds 2 = 0
            member 1 5 = 2
            target 2 = -5
            rounds 1 = 2
            member 1 4..7 = 0 0 1 2
            target -1 = 2
            rounds 1 = 0
            member 1 4..7 = 3 1 1 3
            rounds 1 = 0
            member 1 4..7 = 3 2 1 4
            rounds 1 = 1
            member 1 4..7 = 5 0 2 4
            member 1 0 = 0
            """, EXCHANGE + """
            member 1 5 = 0
            member 2 5 = 2
            member 5 5 = 2
            rounds 1 = 3
            member 0..5 5 = 0
            """);
    }

    private static void roundsWithoutActing() {
        rounds("rounds in which it does not act leave them,",
            // Without a slot, on its place, and as the leader.
            LANE + """
            rounds 2 = 0
            choose 1 = 0
            rounds 3 = 0
            member 1 4..5 = 2 2
            choose 0 = 1
            obstacle 12 = 0
            rounds 1 = 1
            member 1 4..5 = 5 0
            """, LANE + """
            shape 1 '#*' = 2
            rounds 2 = 0
            choose 1 = 0
            rounds 3 = 0
            member 1 4..5 = 1 2
            choose 0 = 1
            obstacle 12 = 0
            rounds 1 = 1
            member 1 4..5 = 5 0
            """, LANE + """
            rounds 2 = 0
            lead 1 = 0
            rounds 3 = 0
            member 1 4..5 = 6 2
            lead 0 = 1
            obstacle 12 = 0
            rounds 1 = 1
            member 1 4..5 = 5 0
            """, LANE + """
            rounds 1 = 0
            choose 1 = 0
            rounds 3 = 0
            choose 0 = 1
            obstacle 12 = 0
            rounds 1 = 0
            member 1 4..5 = 3 2
            rounds 1 = 1
            member 1 4..5 = 5 0
            """);
    }

    private static void waitsOfTheLeader() {
        rounds("and those of the leader do not count for them.", LANE + """
            lead 1 = 0
            target 2 = -5
            rounds 4 = 0
            member 1 4..7 = 9 0 0 4
            lead 0 = 1
            target -1 = 2
            obstacle 12 = 0
            rounds 1 = 0
            member 1 4..7 = 3 1 0 5
            lead 1 = 0
            target 2 = -5
            rounds 1 = 0
            member 1 4..7 = 9 1 0 6
            lead 0 = 1
            target -1 = 2
            rounds 1 = 0
            member 1 4..7 = 3 2 0 7
            lead 1 = 0
            target 2 = -5
            rounds 3 = 0
            member 1 4..7 = 9 2 0 10
            lead 0 = 1
            target -1 = 2
            rounds 1 = 1
            member 1 4..7 = 5 0 1 10
            """);
    }

    private static void oneTurnEach() {
        rounds("A member that has stepped, waited or stepped aside does not act again in the round;", """
            shape 0 '*#' = 2
            add 5 5 = 0
            add 9 5 = 1
            rounds 1 = 1
            member 1 0 = 68
            member 1 6 = 1
            rounds 2 = 1
            member 1 0 = 66
            rounds 1 = 0
            member 1 6 = 3
            """, LANE + """
            obstacle 12 = 0
            rounds 2 = 0
            account 2 = 2
            rounds 1 = 1
            member 1 6..7 = 1 2
            """);
        rounds("one that was exchanged by another one still acts, if its turn comes and it does not stand"
                + " on its place.", EXCHANGE + """
            member 1 5 = 0
            rounds 1 = 3
            member 5 0 = 15
            member 5 3 = 3
            member 5 4 = 4
            member 1 3..4 = 0 4
            """);
    }

    private static void latestRound() {
        reasons("For each member, the reason of the latest round in which it was a member tells what"
                + " happened, of several things the last one:", """
            shape 0 '*#' = 2
            map 01 = 2
            member 0..1 4 = -5
            rounds 1 = 0
            add 5 5 = 2
            member 0..2 4 = 6 1 -5
            lead 1 = 0
            target 0 = -5
            member 0..2 4 = 6 1 -5
            rounds 1 = 0
            member 0..2 4 = 3 9 2
            """, EXCHANGE + """
            member 5 4 = 3
            rounds 1 = 3
            account 4 = 1
            member 5 4 = 4
            """);
    }

    private static void reasonsOfMembers() {
        reasons("0 it stepped;", "shape 0 '*#' = 2\nadd 5 5 = 0\nadd 8 5 = 1\nrounds 2 = 1\nmember 1 4 = 0\n"
                + "member 1 3 = 0\nrounds 1 = 0\nmember 1 4 = 1");
        reasons("1 it stood on its place at the beginning of the turns;", """
            shape 0 '*#' = 2
            add 5 5 = 0
            add 7 5 = 1
            rounds 1 = 1
            member 1 4 = 0
            rounds 1 = 0
            member 1 4 = 1
            target 66 = -5
            rounds 1 = 0
            member 0..1 4 = 9 1
            target 53 = 66
            rounds 1 = 2
            member 0..1 4 = 0 0
            """);
        reasons("2 it had no slot;", """
            shape 0 '*#' = 2
            map 0.#1/### = 2
            rounds 1 = 0
            member 1 4 = 2
            obstacle 2 = 0
            rounds 1 = 1
            member 1 4 = 0
            choose 1 = 0
            rounds 1 = 0
            member 1 4 = 2
            """);
        reasons("3 it waited;", LANE + """
            rounds 1 = 0
            member 1 4 = 3
            rounds 40 = 0
            member 1 4 = 3
            """);
        reasons("4 it exchanged cells, by its own acting or another one's;", EXCHANGE + """
            rounds 1 = 3
            member 0..5 4 = 6 4 0 1 2 4
            """);
        reasons("5 it stepped aside;", LANE + """
            obstacle 12 = 0
            rounds 2 = 0
            member 1 4 = 3
            rounds 1 = 1
            member 1 4 = 5
            rounds 1 = 1
            member 1 4 = 0
            """);
    }

    private static void reasonsOfTheLeader() {
        reasons("for the leader 6 it had no target, 7 it was there, 8 the distance did not exist, 9 it"
                + " waited, or 0.", """
            shape 0 '*#' = 2
            map 01.. = 2
            rounds 1 = 0
            member 0 4 = 6
            target 0 = -5
            rounds 1 = 0
            member 0 4 = 7
            target 13 = 0
            rounds 1 = 0
            member 0 4 = 9
            target 12 = 13
            rounds 1 = 2
            member 0 4 = 0
            rounds 1 = 0
            member 0 4 = 7
            target 119 = 12
            obstacle 119 = 1
            rounds 1 = 0
            member 0 4 = 8
            obstacle 119 = 0
            obstacle 118 = 1
            obstacle 107 = 1
            rounds 1 = 0
            member 0 4 = 8
            target -1 = 119
            rounds 1 = 0
            member 0 4 = 6
            lead 1 = 0
            rounds 1 = 0
            member 0..1 4 = 3 6
            """);
    }

    private static void inDoubts() {
        inDoubt("A third wait in a row is none if the member steps aside, and is not counted; if it"
                + " cannot, waits in a row go on.", LANE + """
            obstacle 12 = 0
            rounds 3 = 1
            member 1 4..7 = 5 0 1 2
            account 2 = 2
            account 4 = 1
            """, LANE + """
            rounds 3 = 0
            member 1 4..7 = 3 3 0 3
            account 2 = 3
            account 4 = 0
            rounds 37 = 0
            member 1 5 = 40
            """);
        inDoubt("An exchanged member that stands on its place then keeps the reason 4.", EXCHANGE + """
            rounds 1 = 3
            member 1 3 = 0
            member 1 4 = 4
            rounds 1 = 0
            member 1 4 = 1
            """);
        inDoubt("rounds() compares the cells behind all rounds with those ahead of them.", """
            shape 0 '*#' = 2
            map .10./#### = 2
            rounds 4 = 0
            member 1 6 = 2
            back = 7
            rounds 3 = 1
            rounds 1 = 1
            """);
    }
}
