/** The sentences on changes, the snapshot and errors, each with its boundary cases. */
public final class ChangeEdgeTests {
    private ChangeEdgeTests() {
    }

    public static void main(String[] args) {
        successfulCalls();
        eachIsUndone();
        othersAreNone();
        atMostEight();
        snapshot();
        unchangedByErrors();
        tapeAndErrors();
        firstError();
        kindsOfErrors();
        noneOnlyWithoutErrors();
        allCalls();
        Quotes.printUnquoted();
        Check.end();
    }

    private static void changes(String sentence, String... scripts) {
        Edges.edge("Changes", sentence, scripts);
    }

    private static void snapshot(String sentence, String... scripts) {
        Edges.edge("Snapshot", sentence, scripts);
    }

    private static void errors(String sentence, String... scripts) {
        Edges.edge("Errors", sentence, scripts);
    }

    private static void successfulCalls() {
        changes("The successful calls of add, lose, lead, target, obstacle, shape, choose, rounds and"
                + " execute are changes, also if nothing is different;", """
            add 0 0 = 0
            count 1 = 1
            lead 0 = 0
            count 1 = 2
            target -1 = -5
            count 1 = 3
            choose 0 = 0
            count 1 = 4
            rounds 1 = 0
            count 1 = 5
            obstacle 5 = 1
            count 1 = 6
            shape 0 '*' = 1
            count 1 = 7
            lose 0 = 0
            count 1 = 8
            """, """
            shape 0 '*' = 1
            shape 0 '*' = 1
            count 1 = 2
            add 0 0 = 0
            lead 0 = 0
            execute 'l0' = 1
            count 1 = 5
            execute 't5,5;g1;l0' = 3
            count 1 = 6
            target 65 = 65
            count 1 = 7
            back = 6
            back = 5
            swarm 2 = -5
            """);
    }

    private static void eachIsUndone() {
        String sentence = "at most 8 of them can be undone, the latest first.";
        changes(sentence,
            // All that each change has changed is as before it.
            """
            add 3 3 = 0
            back = 0
            member 0 0 = -1
            swarm 0..1 = 0 -5
            account 7 = 0
            cell 39 1 = -5
            add 4 4 = 0
            """, """
            map 012 = 3
            lead 2 = 0
            lose 2 = 2
            back = 4
            swarm 0..1 = 3 2
            account 5 = 0
            cell 2 1 = 2
            back = 3
            swarm 1 = 0
            lose 0 = 2
            back = 3
            swarm 1 = 0
            """, """
            target 7 = -5
            target -1 = 7
            back = 1
            swarm 2 = 7
            back = 0
            swarm 2 = -5
            """, """
            obstacle 1 = 1
            distance 0 2 = 4
            obstacle 12 = 1
            distance 0 2 = -5
            back = 1
            distance 0 2 = 4
            account 6 = 1
            obstacle 1 = 0
            distance 0 2 = 2
            back = 1
            cell 1 0 = 1
            distance 0 2 = 4
            """, """
            shape 1 '*#' = 2
            shape 1 '#/*/#' = 3
            back = 1
            slot 1 0..1 = 2 0
            slot 1 11 = 1
            slot 1 31 = 0
            back = 0
            count 2 = 0
            slot 1 0 = -100
            recognized 1 = -3
            """, """
            choose 2 = 0
            choose 1 = 2
            back = 1
            swarm 3 = 2
            back = 0
            swarm 3 = 0
            """, """
            shape 0 '*#' = 2
            map 10./### = 2
            target 1 = -5
            rounds 2 = 0
            rounds 2 = 0
            obstacle 12 = 0
            rounds 1 = 1
            member 1 4..8 = 5 0 1 4 5
            back = 7
            member 1 0 = 0
            member 1 4..8 = 3 4 0 4 4
            account 0..4 = 4 0 4 0 0
            back = 6
            back = 5
            member 1 4..8 = 3 2 0 2 2
            account 0..4 = 2 0 2 0 0
            member 0 4 = 7
            back = 4
            member 0..1 4 = -5
            member 1 5..8 = 0
            """, """
            map 01 = 2
            execute 'a5,5;o7,7;t3,3;l1;x0;g3' = 6
            back = 2
            swarm 0..3 = 2 0 -5 0
            member 0..1 0 = 0 1
            member 1 4..8 = -5 0 0 0 0
            cell 91 0 = 0
            account 0..7 = 0 0 0 0 0 0 0 2
            distance 90 92 = 2
            """);
    }

    private static void othersAreNone() {
        changes("The successful calls of add, lose, lead, target, obstacle, shape, choose, rounds and"
                + " execute are changes,", """
            feed '*' = 1
            count 1 = 0
            shape 3 = -1
            count 1 = 0
            image = 0
            count 1 = 0
            healed 5 = -3
            again = 0
            shape 0 = 1
            map 01 = 2
            count 1 = 3
            healed 40 = 0
            healedWithout 0 40 = 0
            again = 0
            recognized 0 = -5
            swarm 0..7 = 2 0 -5 0 0 0 1 0
            add 0 0 = -3
            add 12 0 = -2
            lose 2 = -1
            lead 2 = -1
            target 120 = -2
            obstacle 0 = -3
            obstacle 120 = -1
            shape 0 '' = -100
            choose 3 = -1
            rounds 0 = -2
            rounds 41 = -2
            execute = -100
            execute 'l2' = -205
            execute 'l0;l2' = -205
            image = 2
            count 1 = 3
            back = 2
            swarm 0 = 1
            undo = 2
            count 1 = 0
            """);
    }

    private static void atMostEight() {
        changes("at most 8 of them can be undone, the latest first.", """
            count 1 = 0
            back = -3
            target 0 = -5
            count 1 = 1
            back = 0
            back = -3
            target 1..8 = -5 1 2 3 4 5 6 7
            count 1 = 8
            target 9 = 8
            count 1 = 8
            back = 7
            swarm 2 = 8
            back = 6
            swarm 2 = 7
            target 17 = 7
            count 1 = 7
            target 18 = 17
            count 1 = 8
            target 19 = 18
            count 1 = 8
            back = 7
            swarm 2 = 18
            back = 6
            swarm 2 = 17
            back = 5
            swarm 2 = 7
            back = 4
            swarm 2 = 6
            back = 3
            swarm 2 = 5
            back = 2
            swarm 2 = 4
            back = 1
            swarm 2 = 3
            back = 0
            swarm 2 = 2
            back = -3
            swarm 2 = 2
            count 1 = 0
            """, """
            target 0..7 = -5 0 1 2 3 4 5 6
            back = 7
            back = 6
            back = 5
            back = 4
            back = 3
            back = 2
            back = 1
            back = 0
            swarm 2 = -5
            back = -3
            """, """
            target 0..119 = -5 0 1 2 3 4 5 6 7 8 9 10 11 12 13 14 15 16 17 18 19 20 21 22 23 24 25 26 27 28 29 \
            30 31 32 33 34 35 36 37 38 39 40 41 42 43 44 45 46 47 48 49 50 51 52 53 54 55 56 57 58 59 60 61 62 \
            63 64 65 66 67 68 69 70 71 72 73 74 75 76 77 78 79 80 81 82 83 84 85 86 87 88 89 90 91 92 93 94 95 \
            96 97 98 99 100 101 102 103 104 105 106 107 108 109 110 111 112 113 114 115 116 117 118
            count 1 = 8
            back = 7
            swarm 2 = 118
            back = 6
            back = 5
            back = 4
            back = 3
            back = 2
            back = 1
            back = 0
            swarm 2 = 111
            back = -3
            """);
    }

    private static void snapshot() {
        snapshot("The snapshot contains everything but itself, the tape, the refusal and the changes that"
                + " can be undone.",
            // Everything.
            """
            shape 0 '*#' = 2
            shape 1 '#/*' = 2
            map 10./### = 2
            add 9 9 = 2
            choose 1 = 0
            choose 0 = 1
            target 1 = -5
            lead 2 = 0
            lose 2 = 2
            rounds 2 = 0
            image = 2
            obstacle 12 = 0
            rounds 1 = 1
            add 8 8 = 3
            lead 1 = 0
            lose 0 = 2
            target 5 = 1
            obstacle 50 = 1
            shape 0 '*/#/#' = 3
            shape 1 '*' = 1
            shape 2 '*' = 1
            choose 2 = 0
            rounds 5 = 1
            undo = 2
            swarm 0..3 = 2 0 1 0
            member 0..2 0 = 1 0 -1
            member 0 4..8 = 7 0 0 0 2
            member 1 4..8 = 3 2 0 2 2
            cell 12 0 = 1
            cell 50 0 = 0
            cell 96 1 = -5
            account 0..7 = 2 0 2 0 0 1 3 3
            count 1..2 = 0 3
            slot 0 0..1 = 2 0
            slot 0 11 = 1
            slot 0 31 = 0
            slot 1 0..1 = 2 1
            slot 2 0 = -100
            distance 0 12 = -5
            distance 49 51 = 2
            add 8 8 = 3
            lose 0 = 2
            swarm 1 = 1
            """,
            // Itself, the tape, the refusal and the changes are as they were.
            """
            execute 'g1' = -205
            feed '*' = 1
            target 5 = -5
            image = 0
            feed '#' = 2
            target 6 = 5
            undo = 0
            count 0..1 = 2 0
            refusal 0..1 = 5 0
            back = -3
            shape 0 = 2
            execute 't0,0;x9' = -205
            image = 0
            execute 'g0;x9' = -205
            execute 'o50,0' = -201
            feed 'abc' = 3
            undo = 0
            refusal 0..1 = 1 0
            count 0..2 = 3 0 1
            """,
            // A snapshot of before and the changes behind it: back() leaves it.
            """
            target 5 = -5
            image = 0
            back = 0
            swarm 2 = -5
            undo = 0
            swarm 2 = 5
            target 6 = 5
            back = 0
            swarm 2 = 5
            undo = 0
            swarm 2 = 5
            """);
    }

    private static void unchangedByErrors() {
        errors("A call that returns an error code leaves the state unchanged,", """
            shape 0 '*#' = 2
            execute 'a0,0;o1,0;a2,0;x1;a5,5' = 5
            target 3 = -5
            rounds 1 = 2
            feed 'abc' = 3
            add 12 0 = -2
            add 5 10 = -2
            add 1 0 = -3
            add 12 12 = -2
            lose 1 = -1
            lose 3 = -1
            lead 1 = -1
            target 120 = -2
            target -2 = -2
            obstacle 12 = -3
            obstacle 120 = -1
            feed 0 0 0 0 0 0 = -2
            feed 5 0 0 0 0 128 = -2
            shape 3 = -1
            choose 3 = -1
            rounds 0 = -2
            rounds 41 = -2
            refusal 2 = -1
            healed 41 = -2
            healedWithout 1 0 = -1
            healedWithout 2 41 = -2
            undo = -3
            count 0..2 = 3 4 1
            swarm 0..7 = 2 0 3 0 1 7 0 1
            member 0 4..8 = 0 0 1 0 1
            member 2 4..8 = 0 0 1 0 1
            account 0..7 = 1 2 0 0 0 1 1 3
            refusal 0..1 = -5
            """, """
            add 0 0 = 0
            healedWithout 0 5 = -3
            swarm 0 = 1
            recognized 0 = -3
            back = 0
            back = -3
            rounds 1 = -3
            healed 0 = -3
            account 0..7 = 0
            """);
    }

    private static void tapeAndErrors() {
        errors("except that shape and execute empty the tape unless they return NONE, and that execute keeps"
                + " its refusal.", """
            feed '*' = 1
            shape 3 = -1
            shape -1 = -1
            count 0 = 1
            shape 2 = 1
            count 0 = 0
            feed 'xyz' = 3
            shape 0 = -100
            count 0 = 0
            feed 'l0' = 2
            shape 0 = -100
            execute = -100
            feed 'l0' = 2
            execute = -205
            count 0 = 0
            refusal 0..1 = 5 0
            feed 'l0;' = 3
            execute = -103
            count 0 = 0
            feed 'a0,0' = 4
            execute = 1
            count 0 = 0
            execute = -100
            feed 1 42 0 0 0 0 = 1
            """);
    }

    private static void firstError() {
        errors("If several errors apply, the one that is listed first in the @return line is returned.",
            // add: BAD, STATE, FULL.
            """
            map 0123456789# = 10
            add 12 0 = -2
            add 0 0 = -3
            add 10 0 = -3
            add 11 0 = -4
            """,
            // obstacle, choose, member, cell: NONE alone; recognized, healedWithout: NONE first.
            """
            recognized 3 = -1
            recognized 0 = -3
            healedWithout 0 41 = -1
            healedWithout 0 5 = -1
            healed 41 = -2
            healed -1 = -2
            healed 5 = -3
            rounds 0 = -2
            rounds 41 = -2
            rounds 1 = -3
            add 0 0 = 0
            healedWithout 1 41 = -1
            healedWithout 0 41 = -2
            healedWithout 0 -1 = -2
            healedWithout 0 40 = -3
            add 0 1 = 1
            healedWithout 0 41 = -2
            healedWithout 0 40 = -5
            """,
            // feed: BAD, FULL.
            """
            feed '............................................................' = 60
            feed 1 0 0 0 0 0 = -4
            feed 0 0 0 0 0 0 = -2
            feed 6 0 0 0 0 0 = -2
            feed 1 0 0 0 0 128 = -2
            feed 1 -1 0 0 0 0 = -2
            shape 3 = -1
            count 0 = 60
            """);
    }

    private static void kindsOfErrors() {
        errors("NONE means that a number or selector is invalid, BAD that a value is out of range, STATE"
                + " that something is missing or in the way, and FULL that a limit is reached.", """
            map 01 = 2
            lose 2 = -1
            lead 2 = -1
            obstacle 120 = -1
            choose 3 = -1
            shape 3 = -1
            refusal 2 = -1
            member 2 0 = -1
            member 0 9 = -1
            swarm 8 = -1
            cell 120 0 = -1
            cell 0 5 = -1
            distance 0 120 = -1
            distance 120 0 = -1
            recognized 3 = -1
            healedWithout 2 5 = -1
            account 8 = -1
            count 3 = -1
            add 12 0 = -2
            target 120 = -2
            feed 6 0 0 0 0 0 = -2
            rounds 41 = -2
            healed 41 = -2
            healedWithout 1 41 = -2
            add 0 0 = -3
            obstacle 0 = -3
            recognized 0 = -3
            undo = -3
            """);
    }

    private static void noneOnlyWithoutErrors() {
        errors("The result -5 is returned only if no error applies.", """
            refusal 0..1 = -5
            refusal 2 = -1
            swarm 1..2 = -5
            swarm 8 = -1
            cell 0 1..3 = -5
            cell 0 5 = -1
            cell 120 1..3 = -1
            cell -1 2 = -1
            member 0 1 = -1
            add 0 0 = 0
            member 0 1..4 = -5
            member 0 9 = -1
            member 1 1..4 = -1
            obstacle 5 = 1
            distance 5 5 = -5
            distance 5 120 = -1
            distance -1 5 = -1
            recognized 0 = -3
            shape 0 '*#' = 2
            recognized 0 = -5
            healed 40 = -5
            healed 41 = -2
            healedWithout 0 41 = -2
            healedWithout 0 40 = -3
            target -2 = -2
            target -1 = -5
            """);
    }

    /** The document tells of 512 calls in its first chapter. */
    private static void allCalls() {
        SwarmPlanner planner = new SwarmPlanner();
        Check.due("call 1", planner.add(0, 0), 0);
        for (int call = 2; call <= 510; call++) {
            Check.due("call " + call, planner.rounds(40), 0);
        }
        Check.due("call 511", planner.member(0, 8), 40 * 509);
        Check.due("call 512", planner.account(0), 40 * 509);
    }
}
