/** The sentences on the places given and on being formed, each with its boundary cases. */
public final class GivingEdgeTests {
    private GivingEdgeTests() {
    }

    public static void main(String[] args) {
        whoAndWhat();
        oneEach();
        whereADistanceExists();
        asManyAsPossible();
        leastSum();
        leastRow();
        noneGiven();
        formed();
        secondWay();
        Quotes.printUnquoted();
        Check.end();
    }

    private static void given(String sentence, String... scripts) {
        Edges.edge("Places given", sentence, scripts);
    }

    private static void inDoubt(String sentence, String... scripts) {
        Edges.edge("In doubt", sentence, scripts);
    }

    private static void whoAndWhat() {
        given("The slots of the present shape other than the anchor, whose places exist, are given to"
                + " the members other than the leader:", """
            shape 0 '#*#' = 3
            shape 1 '#/*' = 2
            map 01234 = 5
            swarm 4 = 1
            swarm 7 = 1
            member 0..4 1 = -5 2 -5 -5 -5
            member 0..4 2 = -5 1 -5 -5 -5
            member 0..4 3 = -5 0 -5 -5 -5
            lead 2 = 0
            member 0..4 1 = -5 0 -5 2 -5
            member 0..4 2 = -5 1 -5 3 -5
            swarm 4 = 2
            choose 1 = 0
            swarm 4 = 0
            member 0..4 1 = -5
            choose 0 = 1
            obstacle 12..15 = 1
            swarm 4 = 2
            add 11 9 = 5
            lead 5 = 2
            swarm 7 = 1
            member 0..5 1 = -5 -5 -5 -5 0 -5
            obstacle 118 = 1
            swarm 7 = 0
            member 0..5 1 = -5
            """);
    }

    private static void oneEach() {
        given("at most one slot to each member, each slot to at most one member,", """
            shape 0 '#*#/.#' = 4
            add 5 5 = 0
            add 4 5 = 1
            swarm 4 = 1
            member 1 1 = 0
            add 3 5 = 2
            swarm 4 = 2
            member 1..2 1 = 0 2
            add 3 6 = 3
            swarm 4 = 3
            add 4 6 = 4
            swarm 4 = 3
            swarm 7 = 3
            member 0..4 1 = -5 0 2 -5 3
            swarm 5 = 4
            """, """
            shape 0 '*####/#####' = 10
            map 0123456789 = 10
            swarm 4 = 9
            member 0..9 1 = -5 1 2 3 4 5 6 7 8 9
            lose 4 = 9
            swarm 4 = 8
            """);
    }

    private static void whereADistanceExists() {
        given("and only if the distance of the member from the place exists.", """
            shape 0 '*#' = 2
            map 0.#1/### = 2
            swarm 7 = 1
            swarm 4 = 0
            member 1 1..3 = -5
            obstacle 2 = 0
            swarm 4 = 1
            member 1 1..3 = 1 1 2
            """, """
            shape 0 '#*#' = 3
            map .0.#1/####./2.... = 3
            swarm 4 = 0
            obstacle 3 = 0
            swarm 4 = 2
            member 1..2 1 = 0 2
            obstacle 5 = 1
            obstacle 24..25 = -3 1
            obstacle 36 = 1
            swarm 4 = 1
            member 1..2 1 = 2 -5
            """);
    }

    private static void asManyAsPossible() {
        given("As many as possible are given;", """
            shape 0 '#*#' = 3
            add 5 5 = 0
            add 6 5 = 1
            add 0 9 = 2
            member 1..2 1 = 2 0
            swarm 4..5 = 2 8
            lose 1 = 2
            swarm 4..5 = 1 8
            """, """
            shape 0 '#*#' = 3
            map .0.1#/####/2... = 3
            swarm 4..5 = 1 1
            obstacle 4 = 0
            swarm 4..5 = 2 11
            member 1..2 1 = 0 2
            """);
    }

    private static void leastSum() {
        given("of all such ways the one with the least sum of the distances;",
            // The lower member would be nearer to the lower slot, but not both in all.
            """
            shape 0 '##*' = 3
            add 5 5 = 0
            add 4 5 = 1
            add 6 5 = 2
            swarm 5 = 3
            member 1..2 1 = 0 1
            """, """
            shape 0 '##*' = 3
            add 5 5 = 0
            add 4 4 = 1
            add 2 5 = 2
            member 1..2 1 = 1 0
            swarm 5 = 2
            """, """
            shape 0 '*#' = 2
            add 5 5 = 0
            add 9 5 = 1
            add 8 5 = 2
            add 9 4 = 3
            member 1..3 1 = -5 1 -5
            swarm 5 = 2
            obstacle 79 = 1
            obstacle 67 = 1
            obstacle 55 = 1
            member 1..3 1 = -5 1 -5
            swarm 5 = 6
            obstacle 91 = 1
            obstacle 56 = 1
            member 1..3 1 = -5 -5 1
            swarm 5 = 6
            obstacle 91 = 0
            member 1..3 1 = -5 1 -5
            swarm 5 = 6
            """,
            // The last of nine is nearer by one than the first.
            """
            shape 0 '#*' = 2
            add 5 5 = 0
            add 4 3 = 1
            add 11 0..6 = 2 3 4 5 6 7 8
            add 3 5 = 9
            member 1..9 1 = -5 -5 -5 -5 -5 -5 -5 -5 0
            swarm 5 = 1
            lose 9 = 9
            member 1..8 1 = 0 -5 -5 -5 -5 -5 -5 -5
            swarm 5 = 2
            """);
    }

    private static void leastRow() {
        given("of several the one that is lexicographically least, as the row of the slots of the members"
                + " in ascending order, where no slot counts as 99.", """
            shape 0 '#*#' = 3
            add 5 5 = 0
            add 5 4 = 1
            add 5 6 = 2
            member 1..2 1 = 0 2
            lose 1 = 2
            member 2 1 = 0
            add 5 4 = 3
            member 2..3 1 = 0 2
            add 7 5 = 4
            member 2..4 1 = 0 -5 2
            add 4 4 = 5
            member 2..5 1 = -5 -5 2 0
            """, """
            shape 0 '*#' = 2
            add 5 5 = 0
            add 7 5 = 1
            add 6 4 = 2
            add 6 6 = 3
            member 1..3 1 = 1 -5 -5
            lose 1 = 3
            member 2..3 1 = 1 -5
            """,
            // The last slot of ten is still less than none.
            """
            shape 0 '*#####/####' = 10
            add 0 8 = 0
            obstacle 97..101 = 1
            obstacle 108..110 = 1
            swarm 7 = 1
            cell 111 2 = 9
            add 5 9 = 1
            add 6 9 = 2
            member 1..2 1 = 9 -5
            lose 1 = 2
            add 5 9 = 3
            member 2..3 1 = -5 9
            obstacle 113..117 = -3 -3 1 1 1
            lose 3 = 2
            member 2 1 = 9
            """,
            """
            shape 0 '#####/##*##' = 10
            add 0 0 = 0
            add 8 2 = 1
            add 10 0 = 2
            add 0 8 = 3
            add 0 3 = 4
            swarm 7 = 2
            member 1..4 3 = 8 -5 -5 4
            member 1..4 1 = 9 -5 -5 8
            """,
            // Nine members behind one gate, so that all ways have the same sum.
            """
            shape 0 '#####/####*' = 10
            map .123456789../............/............/###########./..../..../..../..../..../....0 = 10
            member 0..9 1 = -5 0 1 2 3 4 5 6 7 8
            swarm 4..5 = 9 213
            again = 213
            lose 1 = 9
            member 2..9 1 = 0 1 2 3 4 6 7 8
            lose 9 = 8
            member 2..8 1 = 0 1 2 3 4 7 8
            lose 5 = 7
            member 2..4 1 = 1 2 3
            member 6..8 1 = 4 7 8
            swarm 4 = 6
            """);
    }

    private static void noneGiven() {
        given("Without members or if the present shape is missing, none are given.", """
            shape 0 '#*#' = 3
            swarm 4..7 = 0
            add 5 5 = 0
            swarm 4..7 = 0 0 0 2
            add 4 5 = 1
            swarm 4..7 = 1 0 1 2
            choose 1 = 0
            swarm 4..7 = 0
            member 0..1 1 = -5
            cell 64..66 2 = -5
            choose 0 = 1
            swarm 4..7 = 1 0 1 2
            lose 1 = 1
            lose 0 = 0
            swarm 4..7 = 0
            cell 64..66 2 = -5
            """);
    }

    private static void formed() {
        given("The swarm is formed if each member that has a slot stands on its place, at least one slot"
                + " besides the anchor is given or the shape has the anchor alone, and there is a"
                + " leader.", """
            shape 0 '#*#' = 3
            add 5 5 = 0
            swarm 6 = 0
            add 4 5 = 1
            swarm 6 = 1
            add 7 5 = 2
            swarm 6 = 0
            rounds 1 = 1
            swarm 6 = 1
            obstacle 67 = 1
            swarm 6 = 1
            lose 2 = 2
            swarm 6 = 1
            lose 1 = 1
            swarm 6 = 0
            """, """
            shape 0 '*' = 1
            swarm 6 = 0
            add 5 5 = 0
            swarm 6 = 1
            add 0 0 = 1
            swarm 6 = 1
            target 0 = -5
            swarm 6 = 1
            choose 1 = 0
            swarm 6 = 0
            choose 0 = 1
            lose 0 = 1
            swarm 6 = 1
            lose 1 = 0
            swarm 6 = 0
            """, """
            shape 0 '*#' = 2
            add 11 0 = 0
            add 0 0 = 1
            swarm 7 = 0
            swarm 6 = 0
            """);
        inDoubt("Members without slots and slots that are given to nobody do not matter for being"
                + " formed.", """
            shape 0 '###*###' = -106
            shape 0 '##*###' = 6
            add 5 5 = 0
            add 4 5 = 1
            swarm 4 = 1
            swarm 6..7 = 1 5
            add 3 5 = 2
            add 6 5 = 3
            add 7 5 = 4
            add 8 5 = 5
            swarm 6 = 1
            add 0 0 = 6
            member 6 1 = -5
            swarm 6 = 1
            lose 3 = 6
            swarm 6 = 0
            member 6 1 = 3
            """, """
            shape 0 '#*#' = 3
            map 01#2/###. = 3
            member 1..2 1 = 2 -5
            swarm 6 = 1
            obstacle 2 = 0
            swarm 6 = 1
            lose 1 = 2
            swarm 6 = 0
            """);
    }

    private static void secondWay() {
        inDoubt("again() tells 0 if nothing can be given.", """
            again = 0
            shape 0 '*#' = 2
            again = 0
            map 0.#1/### = 2
            again = 0
            swarm 4 = 0
            obstacle 2 = 0
            again = 2
            choose 2 = 0
            again = 0
            choose 0 = 2
            lose 1 = 1
            again = 0
            lose 0 = 0
            again = 0
            """, """
            shape 0 '*' = 1
            map 01 = 2
            again = 0
            """);
    }
}
