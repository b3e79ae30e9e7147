/** The sentences on texts and refusals, each with its boundary cases. */
public final class TextEdgeTests {
    private TextEdgeTests() {
    }

    public static void main(String[] args) {
        rowsOfShapes();
        signsOfRows();
        limitsOfShapes();
        wrongThemselves();
        unlikeRows();
        commandLists();
        commands();
        numbers();
        thirdDigits();
        errorPositions();
        everyByteOfShapes();
        everyByteOfCommands();
        reasons();
        firstReason();
        anyCells();
        noneHasAnEffect();
        effectsOfThoseAhead();
        Quotes.printUnquoted();
        Check.end();
    }

    private static void texts(String sentence, String... scripts) {
        Edges.edge("Texts", sentence, scripts);
    }

    private static void refusals(String sentence, String... scripts) {
        Edges.edge("Refusals", sentence, scripts);
    }

    private static void inDoubt(String sentence, String... scripts) {
        Edges.edge("In doubt", sentence, scripts);
    }

    private static void rowsOfShapes() {
        texts("A shape is read from the tape as rows with \"/\" between two of them;", """
            shape 0 '*' = 1
            shape 0 '*/#' = 2
            slot 0 10..11 = 0 0
            slot 0 30..31 = 0 1
            shape 0 '*#' = 2
            slot 0 10..11 = 0 1
            slot 0 30..31 = 0 0
            shape 0 '/*' = -100
            shape 0 '*/' = -102
            shape 0 '/' = -100
            shape 0 = -100
            slot 0 0 = 2
            """);
    }

    private static void signsOfRows() {
        texts("a row consists of 1 to 6 of the signs \"#\" for a slot, \"*\" for the anchor and \".\" for"
                + " none;", """
            shape 0 '*' = 1
            shape 0 '*#####' = 6
            slot 0 15 = 5
            shape 0 '*######' = -106
            shape 0 '.....*' = 1
            shape 0 '......*' = -106
            shape 0 '......' = -106
            shape 0 '*.....' = 1
            shape 0 '*......' = -106
            shape 0 '*/######' = 7
            shape 0 '*/#######' = -108
            shape 0 '*/......#' = -108
            shape 0 '......./*' = -106
            shape 0 '....../*' = 1
            shape 0 '*/' = -102
            shape 0 '*//' = -102
            shape 0 '*x' = -101
            shape 0 '* ' = -101
            shape 0 '+*' = -100
            """);
    }

    private static void limitsOfShapes() {
        texts("there are at most 6 rows, at most 10 slots with the anchor, and exactly one \"*\".", """
            shape 0 '*/#/#/#/#/#' = 6
            slot 0 35 = 5
            shape 0 '*/#/#/#/#/#/#' = -111
            shape 0 './././././*' = 1
            shape 0 '././././././*' = -111
            shape 0 '*#####/####' = 10
            shape 0 '*#####/#####' = -111
            shape 0 '######/###*' = 10
            shape 0 '######/####*' = -111
            shape 0 '######/####' = -111
            shape 0 '*' = 1
            shape 0 '**' = -101
            shape 0 '*/#*' = -103
            shape 0 '#' = -101
            shape 0 '....../....../....../....../....../.....*' = 1
            slot 0 0..1 = 1 0
            """);
    }

    private static void wrongThemselves() {
        texts("A seventh sign of a row, an eleventh slot and a second \"*\" are wrong themselves, a seventh"
                + " row at the \"/\" ahead of it; a text without \"*\" is wrong at its length.", """
            shape 0 '*#####.' = -106
            shape 0 '*#####*' = -106
            shape 0 '*#####./' = -106
            shape 0 '*#####/' = -107
            shape 0 '*####/#####/.' = 10
            shape 0 '*####/#####/.#' = -113
            shape 0 '*####/#####/#.' = -112
            shape 0 '#####/#####*' = -111
            shape 0 '#####/#####/*' = -112
            shape 0 '#####/#####' = -111
            shape 0 '#####/####*' = 10
            shape 0 '*.*' = -102
            shape 0 '*.*#x' = -102
            shape 0 '*/./././././.' = -111
            shape 0 '*/./././././' = -111
            shape 0 '*/./././././x' = -111
            shape 0 '*/././././.' = 1
            shape 0 '*/././././/' = -110
            shape 0 '.' = -101
            shape 0 './.' = -103
            shape 0 '.#/#.' = -105
            shape 0 '././././././' = -111
            shape 0 '././././././.' = -111
            shape 0 './././././.' = -111
            shape 0 = -100
            shape 0 '......#' = -106
            """, """
            shape 0 '######' = -106
            shape 0 '####################' = -106
            shape 0 '..........................................................*' = -106
            feed '....../....../....../....../....../.....#' = 41
            feed '/....../.....*/...' = 59
            feed '.' = 60
            shape 0 = -141
            count 0 = 0
            """);
    }

    private static void unlikeRows() {
        inDoubt("Rows can be of unlike lengths and without slots, but not empty: an empty row is wrong at"
                + " the sign behind the \"/\".", """
            shape 0 '*/.../#' = 2
            slot 0 11 = 0
            slot 0 31 = 2
            shape 0 './....../.*' = 1
            shape 0 '#.#/.....*/#' = 4
            slot 0 1 = 2
            slot 0 10..13 = -5 -3 0 -5
            slot 0 30..33 = -1 -1 0 1
            shape 0 '*/' = -102
            shape 0 '*//' = -102
            shape 0 '*//#' = -102
            shape 0 '/*' = -100
            shape 0 '//' = -100
            shape 0 '*/.//' = -104
            shape 0 './/*' = -102
            """);
    }

    private static void commandLists() {
        texts("Commands are read as command { \";\" command }, where { } means that the part can be repeated"
                + " or left out:", """
            execute 'a0,0' = 1
            execute 'a1,0;a2,0' = 2
            execute 't1,1;o5,5;l1;g1;x0' = 5
            execute 't1,1;' = -105
            execute ';t1,1' = -100
            execute 't1,1;;t1,1' = -105
            execute = -100
            execute 't1,1 t1,1' = -104
            execute 't1,1,l1' = -104
            execute 'l1l1' = -102
            execute ';' = -100
            """,
            // As many as a full tape holds.
            """
            execute 'a0,0' = 1
            execute 'g1;g1;g1;g1;g1;g1;g1;g1;g1;g1;g1;g1;g1;g1;g1;g1;g1;g1;g1;g10' = 20
            member 0 8 = 29
            feed 'l0;l0;l0;l0;l0;l0;l0;l0;l0;l0;l0;l0;l0;l0;l0;l0;l0;l0;l0;l0;' = 60
            execute = -160
            execute 'l0;l0;l0;l0;l0;l0;l0;l0;l0;l0;l0;l0;l0;l0;l0;l0;l0;l0;l0;l1' = -205
            refusal 1 = 19
            """);
    }

    private static void commands() {
        texts("\"a\" number \",\" number adds a member at a column and row,", """
            execute 'a7,4' = 1
            member 0 0 = 55
            execute 'a4,7;a11,9;a0,0' = 3
            member 1..3 0 = 88 119 0
            account 7 = 4
            """);
        texts("\"o\" number \",\" number sets an obstacle there or takes it away,", """
            execute 'o7,4' = 1
            cell 55 0 = 1
            distance 55 55 = -5
            execute 'o7,4' = 1
            cell 55 0 = 0
            distance 55 55 = 0
            execute 'o7,4;o7,4;o7,4' = 3
            cell 55 0 = 1
            account 6 = 1
            """);
        texts("\"t\" number \",\" number sets the target,", """
            execute 't7,4' = 1
            swarm 2 = 55
            execute 't0,0;t11,9' = 2
            swarm 2 = 119
            execute 't0,0' = 1
            swarm 2 = 0
            """);
        texts("\"l\" number makes a member the leader,", """
            map 012 = 3
            execute 'l2' = 1
            swarm 1 = 2
            execute 'l0;l1' = 2
            swarm 1 = 1
            """);
        texts("\"x\" number loses a member,", """
            map 012 = 3
            execute 'x0' = 1
            swarm 0..1 = 2 1
            cell 0 1 = -5
            account 5 = 1
            execute 'x2;x1' = 2
            swarm 0..1 = 0 -5
            """);
        texts("\"g\" number makes as many rounds.", """
            map 0 = 1
            execute 'g1' = 1
            account 0 = 1
            execute 'g40' = 1
            account 0 = 41
            execute 'g2;g3' = 2
            account 0 = 46
            target 5 = -5
            execute 'g4' = 1
            member 0 0 = 4
            """);
    }

    private static void numbers() {
        texts("A number has 1 or 2 digits, zeros at the front allowed.", """
            execute 'a1,2' = 1
            execute 'a01,03' = 1
            execute 'a11,09' = 1
            execute 'a00,0' = 1
            member 0..3 0 = 25 37 119 0
            execute 'l01;g01;x00;g09' = 4
            execute 'a,1' = -101
            execute 'a1,' = -103
            execute 'a1,;' = -103
            execute 'l' = -101
            execute 'l;' = -101
            execute 'a-1,1' = -101
            execute 'a001,1' = -103
            execute 'a1,001' = -105
            execute 'g001' = -103
            """);
    }

    private static void thirdDigits() {
        inDoubt("A number with a third digit is wrong at it.", """
            map 01 = 2
            execute 'g11' = 1
            execute 'g110' = -103
            execute 'g000' = -103
            execute 'a111,1' = -103
            execute 'a11,111' = -106
            execute 'l000' = -103
            execute 'x100;l0' = -103
            execute 'l1;o00,000' = -109
            execute 't119,0' = -103
            """);
    }

    private static void errorPositions() {
        texts("The error position of a text is the index of its first byte with which no such text can"
                + " continue, or its length if it ends too early.", """
            execute 'a' = -101
            execute 'a1' = -102
            execute 'a12' = -103
            execute 'a1,' = -103
            execute 'a12,' = -104
            execute 'a1;' = -102
            execute 'a12;' = -103
            execute 'l1,' = -102
            execute 'l12,' = -103
            execute 'g1;l' = -104
            execute 'q' = -100
            execute 'A1,1' = -100
            execute 'a1,1x' = -104
            execute 'a1,11x' = -105
            execute 'g99;o99,99;x99;q' = -115
            execute 'a1.1' = -102
            execute 'aa' = -101
            swarm 0 = 0
            refusal 0 = -5
            """,
            // A wrong text comes before a refusal.
            """
            execute 'x0;' = -103
            execute 'x0' = -205
            execute 'x0q' = -102
            shape 0 '' = -100
            shape 0 '#' = -101
            shape 0 'a' = -100
            shape 0 '#a' = -101
            """);
    }

    /** Of all bytes behind a text, those and only those that can continue it are no error. */
    private static void everyByte(String text, String right, boolean shape) {
        for (char sign = 0; sign < 128; sign++) {
            SwarmPlanner planner = new SwarmPlanner();
            Check.feed(planner, text + sign);
            int answer = shape ? planner.shape(0) : planner.execute();
            boolean wrongThere = answer == -100 - text.length();
            Check.that("\"" + text + "\" and the byte " + (int) sign + " answered " + answer,
                    wrongThere == (right.indexOf(sign) < 0));
        }
    }

    private static void everyByteOfShapes() {
        String[][] rights = {{"", "#*."}, {"#", "#*./"}, {"*", "#./"}, {".", "#*./"}, {"#/", "#*."},
            {"*/", "#."}, {"......", "/"}, {"*.....", "/"}, {"######", "/"}, {"#####/#####", "./"},
            {"*####/#####", "./"}, {"*#####/###", "#./"}, {"*#####/####", "./"}, {"./././././.", "#*."},
            {"./././././......", ""}, {"./././././*", "#."}, {"./././././", "#*."}};
        for (String[] each : rights) {
            everyByte(each[0], each[1], true);
        }
    }

    private static void everyByteOfCommands() {
        String digits = "0123456789";
        everyByte("", "aotlxg", false);
        everyByte("g1;", "aotlxg", false);
        everyByte("a1,1;", "aotlxg", false);
        for (char letter : "aot".toCharArray()) {
            everyByte("" + letter, digits, false);
            everyByte(letter + "0", digits + ",", false);
            everyByte(letter + "99", ",", false);
            everyByte(letter + "9,", digits, false);
            everyByte(letter + "0,0", digits + ";", false);
            everyByte(letter + "0,99", ";", false);
        }
        for (char letter : "lxg".toCharArray()) {
            everyByte("" + letter, digits, false);
            everyByte(letter + "0", digits + ";", false);
            everyByte(letter + "99", ";", false);
        }
    }

    private static void reasons() {
        refusals("A command is refused with the reason 1 if there is no such cell, 2 if the cell is an"
                + " obstacle, 3 if a member stands there, 4 if 10 members were added already, 5 if there"
                + " is no such member, or for g none at all, 6 if the number of rounds is not from 1 to"
                + " 40;",
            // 1 of a, o and t, on both sides of the edges.
            """
            execute 'a11,9;o10,9;t11,9' = 3
            execute 'a12,9' = -201
            execute 'a11,10' = -201
            execute 'o12,0' = -201
            execute 'o0,10' = -201
            execute 't12,0' = -201
            execute 't0,10' = -201
            execute 'a99,99' = -201
            execute 'o99,0' = -201
            execute 't0,99' = -201
            refusal 0 = 1
            execute 'a00,00;o0,9;t0,09' = 3
            """,
            // 2 and 3 of a, 3 of o.
            """
            obstacle 5 = 1
            add 6 0 = 0
            execute 'a5,0' = -202
            refusal 0 = 2
            execute 'a6,0' = -203
            refusal 0 = 3
            execute 'o6,0' = -203
            execute 'o5,0;a5,0' = 2
            lose 0 = 1
            execute 'a6,0' = 1
            """,
            // 4 of a.
            """
            execute 'a0,0;a1,0;a2,0;a3,0;a4,0;a5,0;a6,0;a7,0;a8,0' = 9
            execute 'a9,0;a10,0' = -204
            refusal 0..1 = 4 1
            swarm 0 = 9
            execute 'a9,0' = 1
            execute 'a10,0' = -204
            execute 'x0;a10,0' = -204
            refusal 0..1 = 4 1
            swarm 0 = 10
            """,
            // 5 of l and x, and of g.
            """
            execute 'l0' = -205
            execute 'x0' = -205
            execute 'g1' = -205
            execute 'a0,0;a1,0' = 2
            execute 'l2' = -205
            execute 'x2' = -205
            execute 'l10' = -205
            execute 'x99' = -205
            refusal 0 = 5
            execute 'l1;x1' = 2
            execute 'l1' = -205
            execute 'x1' = -205
            execute 'g1' = 1
            execute 'x0;g1' = -205
            execute 'x0' = 1
            execute 'g1' = -205
            """,
            // 6 of g.
            """
            add 0 0 = 0
            execute 'g0' = -206
            execute 'g00' = -206
            execute 'g1' = 1
            execute 'g40' = 1
            execute 'g41' = -206
            execute 'g99' = -206
            refusal 0..1 = 6 0
            account 0 = 41
            """);
    }

    private static void firstReason() {
        refusals("of several, by the first that applies in this order.", """
            execute 'g0' = -205
            execute 'g41' = -205
            execute 'a0,0;a1,0;a2,0;a3,0;a4,0;a5,0;a6,0;a7,0;a8,0;a9,0' = 10
            obstacle 12 = 1
            execute 'a12,0' = -201
            execute 'a0,1' = -202
            execute 'a0,0' = -203
            execute 'a0,2' = -204
            execute 'x0;x1;x2;x3;x4;x5;x6;x7;x8;x9' = 10
            execute 'g0' = -205
            execute 'a0,0' = -204
            """);
    }

    private static void anyCells() {
        refusals("An obstacle cannot be set where a member stands (3); a target can be any cell.", """
            map 0#. = 1
            execute 'o0,0' = -203
            execute 'o1,0' = 1
            execute 'o2,0' = 1
            cell 1..2 0 = 0 1
            execute 't0,0' = 1
            execute 't2,0' = 1
            swarm 2 = 2
            execute 't11,9' = 1
            execute 'a5,5;t5,5' = 2
            swarm 2 = 65
            """);
    }

    private static void noneHasAnEffect() {
        refusals("If a command is refused, none of the text has an effect, and the reason and the number of"
                + " the command, from 0, are kept.", """
            shape 0 '*#' = 2
            map 01 = 2
            add 3 0 = 2
            refusal 0..1 = -5
            execute 'a5,5;o5,0;t6,0;l2;x1;g9;g41' = -206
            refusal 0..1 = 6 6
            swarm 0..5 = 3 0 -5 0 1 0
            member 0..2 0 = 0 1 3
            member 0..2 4..8 = -5 0 0 0 0 -5 0 0 0 0 -5 0 0 0 0
            account 0..7 = 0 0 0 0 0 0 0 3
            cell 5 0 = 0
            cell 65 1 = -5
            distance 4 6 = 2
            cell 5 3 = 5
            count 0..1 = 0 4
            healed 0 = 0
            execute 'x3;x0' = -205
            refusal 0..1 = 5 0
            member 0 0 = 0
            execute 'o5,5;o5,6;o5,4;a5,5' = -202
            refusal 0..1 = 2 3
            distance 64 66 = 2
            execute 'x0;x1;x2;g1' = -205
            refusal 0..1 = 5 3
            swarm 0..1 = 3 0
            """, """
            execute 'a0,0;o1,0;a1,0' = -202
            account 0..7 = 0
            add 0 0 = 0
            add 1 0 = 1
            """);
    }

    private static void effectsOfThoseAhead() {
        inDoubt("Commands see the effects of those ahead, and a refusal is kept until the next one.", """
            execute 'a1,1;a1,1' = -203
            execute 'o1,1;a1,1' = -202
            execute 'o1,1;o1,1;a1,1' = 3
            execute 'x0;l0' = -205
            refusal 0..1 = 5 1
            execute 'a2,1;l1;x0' = 3
            refusal 0..1 = 5 1
            execute 't4,1;g2;a2,1;o3,1' = 4
            member 1..2 0 = 16 14
            refusal 0..1 = 5 1
            execute 'q' = -100
            shape 0 'q' = -100
            add 50 50 = -2
            refusal 0..1 = 5 1
            execute 'g41' = -206
            refusal 0..1 = 6 0
            image = 2
            undo = 2
            choose 1 = 0
            back = 0
            refusal 0..1 = 6 0
            execute 'a2,2;a2,2' = -203
            refusal 0..1 = 3 1
            """);
    }
}
