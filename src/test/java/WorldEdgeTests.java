/** The sentences on the world, the members and the shapes, each with its boundary cases. */
public final class WorldEdgeTests {
    private WorldEdgeTests() {
    }

    public static void main(String[] args) {
        cells();
        neighbors();
        obstacles();
        distances();
        membersAdded();
        cellsOfMembers();
        leader();
        target();
        numbersOfShapes();
        slots();
        placesInTheWorld();
        placesOnObstacles();
        anchor();
        Quotes.printUnquoted();
        Check.end();
    }

    private static void world(String sentence, String... scripts) {
        Edges.edge("World", sentence, scripts);
    }

    private static void members(String sentence, String... scripts) {
        Edges.edge("Members", sentence, scripts);
    }

    private static void shapes(String sentence, String... scripts) {
        Edges.edge("Shapes", sentence, scripts);
    }

    private static void inDoubt(String sentence, String... scripts) {
        Edges.edge("In doubt", sentence, scripts);
    }

    private static void cells() {
        world("There are 120 cells, in 12 columns and 10 rows; the cell in column x and row y has the"
                + " number 12 * y + x.", """
            add 0 0 = 0
            add 11 0 = 1
            add 0 1 = 2
            add 0 9 = 3
            add 11 9 = 4
            add 7 4 = 5
            member 0..5 0 = 0 11 12 108 119 55
            cell 0 1 = 0
            cell 11..12 1 = 1 2
            cell 108 1 = 3
            cell 119 1 = 4
            cell 55 1 = 5
            cell -1 1 = -1
            cell 120 1 = -1
            add 12 0 = -2
            add -1 1 = -2
            add 0 10 = -2
            add 11 -1 = -2
            """, """
            execute 'o11,9;o0,0' = 2
            cell 0 0 = 1
            cell 119 0 = 1
            execute 'o12,0' = -201
            execute 'o0,10' = -201
            account 6 = 2
            """);
    }

    private static void neighbors() {
        world("The neighbors of a cell are, in this order, the one in the next column (direction 0), in"
                + " the next row (1), in the column before (2) and in the row before (3), as far as they"
                + " exist.", """
            cell 0 4 = 2
            cell 1..10 4 = 3
            cell 11..12 4 = 2 3
            cell 13..22 4 = 4
            cell 23..24 4 = 3
            cell 95..96 4 = 3
            cell 97..106 4 = 4
            cell 107..108 4 = 3 2
            cell 109..118 4 = 3
            cell 119 4 = 2
            distance 0 1 = 1
            distance 0 12 = 1
            distance 119 118 = 1
            distance 119 107 = 1
            distance 11 12 = 12
            distance 107 108 = 12
            distance 0 108 = 9
            distance 0 11 = 11
            """,
            // Of two that are nearer, the first: each direction against each later one.
            stepOfLeader("t6,6", 66), stepOfLeader("t4,6", 77), stepOfLeader("t4,4", 64),
            stepOfLeader("t6,4", 66), stepOfLeader("o5,6;t5,7", 66), stepOfLeader("o6,5;t7,5", 77),
            stepOfLeader("t5,4", 53), stepOfLeader("o5,4;t5,3", 66), stepOfLeader("o4,5;t3,5", 77));
    }

    private static String stepOfLeader(String commands, int cell) {
        return "add 5 5 = 0\nexecute '" + commands + ";g1' = " + (commands.split(";").length + 1)
                + "\nmember 0 0 = " + cell + "\nmember 0 4 = 0";
    }

    private static void obstacles() {
        world("A cell is an obstacle or not; at first none is.", """
            cell 0..119 0 = 0
            account 6 = 0
            """, """
            obstacle 119 = 1
            cell 118..119 0 = 0 1
            obstacle 119 = 0
            cell 119 0 = 0
            obstacle 119 = 1
            cell 119 0 = 1
            account 6 = 1
            """);
    }

    private static void distances() {
        world("The distance of two cells that are no obstacles is the least number of steps from"
                + " neighbor to neighbor over cells that are no obstacles, whatever members stand"
                + " there; it does not exist if there is no such way.", """
            distance 0 119 = 20
            distance 11 108 = 20
            distance 119 0 = 20
            distance 65 65 = 0
            distance 65 66 = 1
            map 01./##./2.. = 3
            distance 0 24 = 6
            distance 24 0 = 6
            distance 0 12 = -5
            distance 12 0 = -5
            distance 12 13 = -5
            distance 1 2 = 1
            """, """
            obstacle 1 = 1
            distance 0 2 = 4
            obstacle 12 = 1
            distance 0 2 = -5
            distance 2 0 = -5
            distance 0 0 = 0
            cell 0 4 = 0
            obstacle 1 = 0
            distance 0 2 = 2
            distance 0 24 = 4
            """, """
            obstacle 11..119 = 1
            distance 0 10 = 10
            obstacle 5 = 1
            distance 4 6 = -5
            distance 0 4 = 4
            distance 10 6 = 4
            """);
        inDoubt("The distance of an obstacle from itself does not exist.", """
            distance 7 7 = 0
            obstacle 7 = 1
            distance 7 7 = -5
            distance 8 8 = 0
            distance 0 0 = 0
            obstacle 0 = 1
            distance 0 0 = -5
            obstacle 7 = 0
            distance 7 7 = 0
            """);
    }

    private static void membersAdded() {
        members("At most 10 members can be added, numbered from 0; the number of a lost member is not"
                + " used again.", """
            add 0 0 = 0
            add 1 0 = 1
            lose 0 = 1
            add 0 0 = 2
            lose 2 = 1
            add 0 0 = 3
            add 2 0 = 4
            add 3 0 = 5
            add 4 0 = 6
            add 5 0 = 7
            add 6 0 = 8
            add 7 0 = 9
            add 8 0 = -4
            swarm 0 = 8
            account 7 = 10
            lose 9 = 7
            add 8 0 = -4
            execute 'a8,0' = -204
            back = 7
            add 8 0 = -4
            back = 6
            member 9 0 = -1
            add 8 0 = 9
            add 9 0 = -4
            """, """
            map 0123456789 = 10
            add 10 0 = -4
            lose 0..9 = 9 8 7 6 5 4 3 2 1 0
            add 10 0 = -4
            member 0..10 0 = -1
            """);
    }

    private static void cellsOfMembers() {
        members("A member stands on a cell that is no obstacle, and no two members stand on the same"
                + " cell.", """
            add 5 5 = 0
            add 5 5 = -3
            add 5 6 = 1
            obstacle 66 = 1
            add 6 5 = -3
            obstacle 66 = 0
            add 6 5 = 2
            obstacle 65 = -3
            lose 0 = 2
            obstacle 65 = 1
            add 5 5 = -3
            obstacle 65 = 0
            add 5 5 = 3
            obstacle 65 = -3
            """);
    }

    private static void leader() {
        members("The leader is the member that was made the leader last, as long as it is not lost;"
                + " otherwise it is the member with the lowest number.", """
            swarm 1 = -5
            map 0123 = 4
            swarm 1 = 0
            lead 2 = 0
            swarm 1 = 2
            lead 3 = 2
            swarm 1 = 3
            lose 0 = 3
            lose 2 = 2
            swarm 1 = 3
            lose 3 = 1
            swarm 1 = 1
            lose 1 = 0
            swarm 1 = -5
            add 0 5 = 4
            add 0 6 = 5
            swarm 1 = 4
            """);
        inDoubt("If the member that was made the leader last is lost, the one with the lowest number"
                + " leads, whoever was made the leader before.", """
            map 0123 = 4
            lead 3 = 0
            lead 2 = 3
            lose 2 = 3
            swarm 1 = 0
            lose 0 = 2
            swarm 1 = 1
            lead 1 = 1
            lead 3 = 1
            swarm 1 = 3
            """);
    }

    private static void target() {
        members("The leader can have a target, which is a cell; it belongs to whoever is the leader.", """
            swarm 2 = -5
            target 2 = -5
            swarm 2 = 2
            map 0 = 1
            add 5 5 = 1
            rounds 1 = 1
            member 0 0 = 1
            lead 1 = 0
            swarm 2 = 2
            rounds 1 = 1
            member 0 0 = 1
            member 1 0 = 64
            lose 1 = 1
            swarm 2 = 2
            rounds 40 = 1
            member 0 0 = 2
            lose 0 = 0
            swarm 2 = 2
            add 0 0 = 2
            rounds 1 = 1
            member 2 0 = 1
            """, """
            target 0 = -5
            target 119 = 0
            target 120 = -2
            target -1 = 119
            target -2 = -2
            swarm 2 = -5
            """);
    }

    private static void numbersOfShapes() {
        shapes("There are 3 shapes, numbered from 0; at first they are missing, and shape 0 is the"
                + " present one.", """
            count 2 = 0
            slot -1..3 0 = -100
            recognized -1..3 = -1 -3 -3 -3 -1
            swarm 3 = 0
            shape 2 '*' = 1
            count 2 = 4
            slot 0..2 0 = -100 -100 1
            choose 2 = 0
            swarm 3 = 2
            choose 3 = -1
            choose -1 = -1
            swarm 3 = 2
            shape 0 '*#' = 2
            count 2 = 5
            shape 1 '*#' = 2
            count 2 = 7
            feed '*' = 1
            shape 3 = -1
            shape -1 = -1
            count 2 = 7
            swarm 3 = 2
            """);
    }

    private static void slots() {
        shapes("A shape has 1 to 10 slots, numbered in the order of its text, row by row; one of them is"
                + " the anchor.", """
            shape 0 '*' = 1
            slot 0 0..1 = 1 0
            slot 0 10..11 = 0 -100
            slot 0 30..31 = 0 -100
            shape 1 '###/##*/####' = 10
            slot 1 0..1 = 10 5
            slot 1 10..20 = -2 -1 0 -2 -1 0 -2 -1 0 1 -100
            slot 1 30..40 = -1 -1 -1 0 0 0 1 1 1 1 -100
            shape 2 '######/####*' = -111
            shape 2 '##########' = -106
            shape 2 '###/###/###/*' = 10
            slot 2 1 = 9
            shape 2 '.' = -101
            slot 2 0 = 10
            shape 2 '.#/#.#/.*' = 4
            slot 2 0..1 = 4 3
            slot 2 10..14 = 0 -1 1 0 -100
            slot 2 30..34 = -2 -1 -1 0 -100
            """);
    }

    private static void placesInTheWorld() {
        shapes("The place of a slot is the cell that is as many columns and rows from the cell of the"
                + " leader as the slot is from the anchor;", """
            shape 0 '#..#/.#*/....#' = 5
            add 5 5 = 0
            cell 51 2 = 0
            cell 54 2 = 1
            cell 64..65 2 = 2 3
            cell 79 2 = 4
            cell 52..53 2 = -5
            cell 63 2 = -5
            cell 66..78 2 = -5
            cell 80 2 = -5
            swarm 7 = 4
            add 0 0 = 1
            lead 1 = 0
            cell 0 2 = 3
            cell 14 2 = 4
            swarm 7 = 1
            """);
        shapes("it exists if this lies in the world and is no obstacle.",
            // One column, one row inside and outside, on each side.
            "shape 0 '*#' = 2\nadd 10 3 = 0\nadd 11 3 = 1\nswarm 7 = 1\ncell 47 2 = 1\nlead 1 = 0\n"
                + "swarm 7 = 0\ncell 48 2 = -5",
            "shape 0 '#*' = 2\nadd 1 3 = 0\nadd 0 3 = 1\nswarm 7 = 1\ncell 36 2 = 0\nlead 1 = 0\n"
                + "swarm 7 = 0\ncell 35 2 = -5",
            "shape 0 '*/#' = 2\nadd 3 8 = 0\nadd 3 9 = 1\nswarm 7 = 1\ncell 111 2 = 1\nlead 1 = 0\n"
                + "swarm 7 = 0\ncell 3 2 = -5",
            "shape 0 '#/*' = 2\nadd 3 1 = 0\nadd 3 0 = 1\nswarm 7 = 1\ncell 3 2 = 0\nlead 1 = 0\n"
                + "swarm 7 = 0\ncell 111 2 = -5",
            "shape 0 '*....#' = 2\nadd 6 3 = 0\nadd 7 3 = 1\nswarm 7 = 1\nlead 1 = 0\nswarm 7 = 0",
            "shape 0 '*/././././#' = 2\nadd 6 4 = 0\nadd 6 5 = 1\nswarm 7 = 1\nlead 1 = 0\nswarm 7 = 0");
    }

    private static void placesOnObstacles() {
        shapes("it exists if this lies in the world and is no obstacle.", """
            shape 0 '#*#' = 3
            add 5 5 = 0
            add 6 5 = 1
            add 9 9 = 2
            swarm 7 = 2
            obstacle 64 = 1
            swarm 7 = 1
            cell 64 2 = -5
            cell 66 2 = 2
            member 1..2 1 = 2 -5
            obstacle 64 = 0
            swarm 7 = 2
            cell 64 2 = 0
            member 1..2 1 = 0 2
            """);
    }

    private static void anchor() {
        shapes("The anchor is the slot of the leader.", """
            shape 0 '#*#' = 3
            swarm 7 = 0
            cell 65 2 = -5
            add 5 5 = 0
            add 6 5 = 1
            add 4 5 = 2
            add 5 6 = 3
            cell 65 2 = 1
            member 0..3 1 = -5 2 0 -5
            swarm 4 = 2
            lead 1 = 0
            cell 66 2 = 1
            member 0..3 1 = 0 -5 2 -5
            """, """
            shape 0 '*' = 1
            map 01 = 2
            member 0..1 1 = -5
            swarm 7 = 0
            swarm 4 = 0
            """);
    }
}
