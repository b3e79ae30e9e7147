/** The sentences of promises 1 to 26: the ranges of the parameters and the answers. */
public final class CallEdgeTests {
    /** A place behind four lanes, each open at the end at which the one before is not. */
    private static final String FORTY_STEPS = """
            shape 0 '*#' = 2
            add 10 1 = 0
            obstacle 12..21 = 1
            obstacle 37..47 = 1
            obstacle 60..70 = 1
            obstacle 85..95 = 1
            """;

    private CallEdgeTests() {
    }

    public static void main(String[] args) {
        newObject();
        add();
        lose();
        lead();
        target();
        obstacle();
        feed();
        shape();
        choose();
        rounds();
        execute();
        refusal();
        memberCellsAndSlots();
        memberRounds();
        swarm();
        cell();
        distance();
        slot();
        recognized();
        healed();
        healedWithout();
        again();
        account();
        back();
        image();
        undo();
        count();
        Quotes.printUnquoted();
        Check.end();
    }

    private static void promise(int number, String sentence, String... scripts) {
        Edges.edge("Promise " + number, sentence, scripts);
    }

    private static void newObject() {
        promise(1, "Creates a world without members and obstacles.", """
            swarm -1..8 = -1 0 -5 -5 0 0 0 0 0 -1
            cell 0..119 0 = 0
            cell 0..119 1 = -5
            account 0..7 = 0
            count 0..2 = 0
            member 0..9 0 = -1
            refusal 0..1 = -5
            again = 0
            """, """
            rounds 1 = -3
            healed 0 = -3
            healedWithout 0 0 = -1
            recognized 0..2 = -3
            slot 0..2 0 = -100
            back = -3
            undo = -3
            distance 0 119 = 20
            shape 0 = -100
            execute = -100
            cell 0..119 2..3 = -5
            image = 0
            undo = 0
            swarm 0 = 0
            """);
    }

    private static void add() {
        promise(2, "Adds a member.", """
            add 4 3 = 0
            swarm 0 = 1
            member 0 0 = 40
            cell 40 1 = 0
            account 7 = 1
            """);
        promise(2, "- `x`: the column, 0 to 11", "add 0 5 = 0\nadd 11 5 = 1\nadd -1 5 = -2\nadd 12 5 = -2\n"
                + "add MIN 5 = -2\nadd MAX 5 = -2\nmember 0..1 0 = 60 71");
        promise(2, "- `y`: the row, 0 to 9", "add 5 0 = 0\nadd 5 9 = 1\nadd 5 -1 = -2\nadd 5 10 = -2\n"
                + "add 5 MIN = -2\nadd 5 MAX = -2\nmember 0..1 0 = 5 113");
        promise(2, "Returns its number; BAD if x or y is out of range; STATE if the cell is an obstacle or a"
                + " member stands there; FULL if 10 members were added.", """
            obstacle 1 = 1
            add 1 0 = -3
            add 0 0 = 0
            add 0 0 = -3
            lose 0 = 0
            add 0 0 = 1
            obstacle 1 = 0
            add 1 0 = 2
            add 2..8 0 = 3 4 5 6 7 8 9
            add 9 0 = -4
            add 8 0 = -3
            add 12 0 = -2
            add -1 10 = -2
            lose 5 = 8
            add 9 0 = -4
            obstacle 10 = 1
            add 10 0 = -3
            """);
    }

    private static void lose() {
        promise(3, "Loses a member.", """
            map 012 = 3
            lose 1 = 2
            member 1 0..8 = -1
            cell 1 1 = -5
            obstacle 1 = 1
            lead 1 = -1
            account 5 = 1
            """);
        promise(3, "Returns the number of members that remain; NONE if there is no such member.", """
            lose 0 = -1
            map 012 = 3
            lose 3 = -1
            lose -1 = -1
            lose 10 = -1
            lose MIN = -1
            lose MAX = -1
            lose 0 = 2
            lose 0 = -1
            lose 2 = 1
            lose 1 = 0
            lose 1 = -1
            account 5 = 3
            add 0 0 = 3
            lose 3 = 0
            """, "map 0123456789 = 10\nlose 9 = 9\nlose 9 = -1\nlose 10 = -1");
    }

    private static void lead() {
        promise(4, "Makes a member the leader.", """
            map 012 = 3
            lead 2 = 0
            swarm 1 = 2
            lead 1 = 2
            swarm 1 = 1
            lead 0 = 1
            swarm 1 = 0
            """);
        promise(4, "Returns the leader before; NONE if there is no such member.", """
            lead 0 = -1
            map 0123456789 = 10
            lead 0 = 0
            lead 9 = 0
            lead 9 = 9
            lead 10 = -1
            lead -1 = -1
            lead MIN = -1
            lead MAX = -1
            swarm 1 = 9
            lose 9 = 9
            lead 9 = -1
            swarm 1 = 0
            lose 0 = 8
            lead 5 = 1
            lead 0 = -1
            swarm 1 = 5
            """);
    }

    private static void target() {
        promise(5, "Sets the target, or removes it.", "target 5 = -5\nswarm 2 = 5\ntarget -1 = 5\nswarm 2 = -5");
        promise(5, "- `cell`: the cell, or -1 to remove it", """
            target 0 = -5
            target 119 = 0
            target 120 = -2
            target -2 = -2
            target -5 = -2
            target MIN = -2
            target MAX = -2
            swarm 2 = 119
            target -1 = 119
            target 120 = -2
            swarm 2 = -5
            """);
        promise(5, "Returns the target before, -5 if there was none; BAD if there is no such cell.", """
            target -1 = -5
            target 0 = -5
            target 0 = 0
            target 7 = 0
            obstacle 8 = 1
            target 8 = 7
            target -1 = 8
            target -1 = -5
            count 1 = 8
            """);
    }

    private static void obstacle() {
        promise(6, "Makes a cell an obstacle, or no longer one.", "obstacle 5 = 1\ncell 5 0 = 1\nobstacle 5 = 0\n"
                + "cell 5 0 = 0");
        promise(6, "Returns 1 if it is an obstacle then, otherwise 0; NONE if there is no such cell; STATE if"
                + " a member stands there.", """
            obstacle 0 = 1
            obstacle 119 = 1
            obstacle 120 = -1
            obstacle -1 = -1
            obstacle MIN = -1
            obstacle MAX = -1
            obstacle 0 = 0
            account 6 = 1
            add 0 0 = 0
            obstacle 0 = -3
            lose 0 = 0
            obstacle 0 = 1
            add 0 0 = -3
            account 6 = 2
            target 5 = -5
            obstacle 5 = 1
            """);
    }

    private static void feed() {
        promise(7, "Appends bytes to the tape.", "feed 3 35 42 35 0 0 = 3\nshape 0 = 3\nslot 0 1 = 1\n"
                + "feed 1 35 42 42 42 42 = 1\nfeed 2 42 46 35 35 35 = 3\nshape 0 = 2\nslot 0 1 = 1");
        promise(7, "- `n`: the number of bytes, 1 to 5; a is the first one, b the second, and so on", """
            feed 0 1 1 1 1 1 = -2
            feed -1 1 1 1 1 1 = -2
            feed 6 1 1 1 1 1 = -2
            feed MIN 1 1 1 1 1 = -2
            feed MAX 1 1 1 1 1 = -2
            count 0 = 0
            feed 1 97 98 98 98 98 = 1
            feed 4 49 44 50 59 98 = 5
            feed 2 108 48 98 98 98 = 7
            execute = 2
            member 0 0 = 25
            feed 5 97 48 44 53 59 = 5
            feed 3 103 48 50 98 98 = 8
            execute = 2
            member 1 0 = 60
            account 0 = 2
            """);
        for (int place = 1; place <= 5; place++) {
            promise(7, "- `" + "abcde".charAt(place - 1) + "`: a byte, 0 to 127", feedWith(1, place, 0, 1)
                    + feedWith(5, place, 127, 6) + feedWith(5, place, 128, -2) + feedWith(5, place, -1, -2)
                    + feedWith(1, place, 128, -2) + feedWith(1, place, -1, -2)
                    + feedWith(5, place, Integer.MAX_VALUE, -2) + feedWith(4, place, Integer.MIN_VALUE, -2)
                    + "count 0 = 6");
        }
        promise(7, "Returns the new length of the tape; BAD if n or any of the bytes is out of range, also of"
                + " those that are not appended; FULL if the tape would be longer than 60 bytes, and then"
                + " none is appended.", """
            feed 1 1 1 1 1 128 = -2
            feed 4 1 1 1 1 -1 = -2
            count 0 = 0
            feed '........................................................' = 56
            feed 5 1 1 1 1 1 = -4
            count 0 = 56
            feed 4 1 1 1 1 1 = 60
            feed 1 1 1 1 1 1 = -4
            feed 5 1 1 1 1 1 = -4
            feed 5 1 1 1 1 128 = -2
            count 0 = 60
            shape 0 = -106
            feed 5 1 1 1 1 1 = 5
            """, """
            feed '*.........................................................' = 58
            feed 3 1 1 1 0 0 = -4
            feed 2 1 1 0 0 0 = 60
            """, """
            feed 'a0,0;g1;g1;g1;g1;g1;g1;g1;g1;g1;g1;g1;g1;g1;g1;g1;g1;g1;g1' = 58
            feed 2 59 108 0 0 0 = 60
            feed 1 48 0 0 0 0 = -4
            execute = -160
            account 0 = 0
            """);
    }

    private static String feedWith(int n, int place, int value, int due) {
        StringBuilder row = new StringBuilder("feed " + n);
        for (int i = 1; i <= 5; i++) {
            row.append(' ').append(i == place ? value : 1);
        }
        return row.append(" = ").append(due).append('\n').toString();
    }

    private static void shape() {
        promise(8, "Reads a shape, in place of an earlier one.", """
            shape 1 '*####' = 5
            shape 1 '#/*' = 2
            slot 1 0..1 = 2 1
            slot 1 10..12 = 0 0 -100
            slot 1 30..32 = -1 0 -100
            add 5 5 = 0
            add 5 4 = 1
            choose 1 = 0
            swarm 6 = 1
            shape 1 '*#' = 2
            swarm 6 = 0
            member 1 2 = 66
            """);
        promise(8, "- `shape`: the shape, 0 to 2", "shape 0 '*' = 1\nshape 2 '*' = 1\ncount 2 = 5\nfeed '*' = 1\n"
                + "shape 3 = -1\nshape -1 = -1\nshape MIN = -1\nshape MAX = -1\nshape 1 = 1\ncount 2 = 7");
        promise(8, "Returns the number of its slots; NONE if there is no such number; -100 minus the error"
                + " position if the text is wrong.", """
            shape 0 '*' = 1
            shape 0 '*#####/####' = 10
            shape 0 '.' = -101
            shape 0 '' = -100
            slot 0 0 = 10
            shape 0 '....../....../....../....../....../....*' = 1
            feed '*....................................................' = 53
            feed '.......' = 60
            shape 0 = -106
            slot 0 0 = 1
            """);
    }

    private static void choose() {
        promise(9, "Makes a shape the present one.", "shape 1 '*' = 1\nadd 0 0 = 0\nswarm 6 = 0\nchoose 1 = 0\n"
                + "swarm 3 = 1\nswarm 6 = 1\ncell 0 2 = 0");
        promise(9, "Returns the present one before; NONE if there is no such number.", """
            choose 0..2 = 0 0 1
            choose 2 = 2
            choose 3 = -1
            choose -1 = -1
            choose MIN = -1
            choose MAX = -1
            swarm 3 = 2
            choose 0 = 2
            """);
    }

    private static void rounds() {
        promise(10, "Makes rounds.", "add 0 0 = 0\ntarget 11 = -5\nrounds 3 = 1\nmember 0 0 = 3\naccount 0 = 3");
        promise(10, "- `n`: the number of rounds, 1 to 40", """
            add 0 0 = 0
            rounds 1 = 0
            rounds 40 = 0
            rounds 0 = -2
            rounds 41 = -2
            rounds -1 = -2
            rounds MIN = -2
            rounds MAX = -2
            account 0 = 41
            """);
        promise(10, "Returns how many members, the leader included, stand on another cell than before; BAD if n"
                + " is out of range; STATE if there are no members.", """
            rounds 1 = -3
            rounds 0 = -2
            shape 0 '#*' = 2
            map 10 = 2
            rounds 1 = 0
            target 3 = -5
            rounds 1 = 2
            target 2 = 3
            lose 1 = 1
            rounds 1 = 0
            target 5 = 2
            rounds 40 = 1
            lose 0 = 0
            rounds 40 = -3
            """,
            // One steps, one is without a slot, one is lost, one comes back to its cell.
            """
            shape 0 '*#' = 2
            map .10./#### = 2
            rounds 3 = 1
            rounds 1 = 1
            rounds 4 = 0
            rounds 8 = 0
            add 9 9 = 2
            rounds 3 = 1
            """);
    }

    private static void execute() {
        promise(11, "Reads commands and carries them out, all or none.", """
            execute 'a0,0;a1,0' = 2
            swarm 0 = 2
            execute 'a2,0;a1,0' = -203
            swarm 0 = 2
            execute 'a2,0;' = -105
            swarm 0 = 2
            execute 'a2,0' = 1
            swarm 0 = 3
            """);
        promise(11, "Returns the number of commands; -100 minus the error position if the text is wrong; -200"
                + " minus the reason if one is refused.", """
            execute = -100
            execute 'a0,0' = 1
            execute 't1,1;t2,2;t3,3' = 3
            execute 't1,1;q' = -105
            execute 'x9;q' = -103
            execute 'x9' = -205
            execute 'a0,0' = -203
            execute 'g0' = -206
            execute 'a12,0' = -201
            """);
    }

    private static void refusal() {
        promise(12, "Returns a part of the latest refusal.", """
            execute 'g1' = -205
            refusal 0..1 = 5 0
            execute 't0,0;t0,0;a12,0' = -201
            refusal 0..1 = 1 2
            """);
        promise(12, "- `what`: 0 for the reason, 1 for the number of the command", """
            execute 't0,0;x0' = -205
            refusal -1..2 = -1 5 1 -1
            refusal MIN = -1
            refusal MAX = -1
            """);
        promise(12, "Returns the part, -5 if no command was refused; NONE if what is invalid.", """
            refusal -1..2 = -1 -5 -5 -1
            execute 'q' = -100
            execute 't0,0' = 1
            refusal 0..1 = -5
            execute 'x0' = -205
            refusal 0..1 = 5 0
            """);
    }

    private static void memberCellsAndSlots() {
        promise(13, "Returns a number of a member.", "map 01 = 2\nmember 0..1 0 = 0 1");
        promise(13, "0 its cell;", "add 0 0 = 0\nadd 11 9 = 1\nmember 0..1 0 = 0 119\ntarget 1 = -5\nrounds 1 = 1\n"
                + "member 0 0 = 1");
        promise(13, "1 the slot that it is given, -5 if it has none, as the leader;", """
            shape 0 '#*#' = 3
            map 1.02 = 3
            member 0..2 1 = -5 0 2
            add 11 9 = 3
            member 3 1 = -5
            lead 3 = 0
            member 0..3 1 = -5 -5 0 -5
            """);
        promise(13, "2 the place of its slot, -5 without one;", "shape 0 '#*' = 2\nmap .012 = 3\n"
                + "member 0..2 2 = -5 0 -5");
        promise(13, "3 the distance from there, -5 without one;", "shape 0 '#*' = 2\nmap .012 = 3\n"
                + "member 0..2 3 = -5 2 -5\nlose 0 = 2\nmember 1..2 3 = -5 2\nrounds 2 = 0\nmember 2 3 = 2");
        promise(13, "Returns the number; NONE if there is no such member or what is invalid.", """
            member 0 0 = -1
            map 0123456789 = 10
            member 9 0 = 9
            member 10 0 = -1
            member -1 0 = -1
            member MIN 0 = -1
            member MAX 0 = -1
            member 0 -1..9 = -1 0 -5 -5 -5 -5 0 0 0 0 -1
            member 0 MIN = -1
            member 0 MAX = -1
            lose 9 = 9
            member 9 0 = -1
            member 9 9 = -1
            """);
    }

    private static void memberRounds() {
        String lane = "shape 0 '*#' = 2\nmap 10./### = 2\n";
        promise(13, "4 its reason of the latest round, -5 without one;", lane + """
            member 0..1 4 = -5
            rounds 1 = 0
            member 0..1 4 = 6 3
            add 9 9 = 2
            member 2 4 = -5
            rounds 1 = 0
            member 0..2 4 = 6 3 2
            """);
        promise(13, "5 its waits in a row;", lane + "member 1 5 = 0\nrounds 1 = 0\nmember 1 5 = 1\nrounds 4 = 0\n"
                + "member 0..1 5 = 0 5");
        promise(13, "6 its steps, stepping aside and exchanges included;", lane + """
            obstacle 12 = 0
            rounds 3 = 1
            member 0..1 6 = 0 1
            rounds 1 = 1
            member 1 6 = 2
            target 2 = -5
            rounds 1 = 2
            member 0..1 6 = 1 3
            """, """
            shape 0 '##./.*./.##' = 5
            execute 'a4,1;a1,1;a5,0;a4,2;a1,0;a4,0' = 6
            execute 'o2,0;o5,1;o3,2;o0,2;o6,0;o6,1;o6,2;o0,3;o1,3;o2,3' = 10
            execute 'o3,3;o4,3;o5,3' = 3
            rounds 2 = 1
            member 0..5 6 = 0 2 0 0 0 0
            rounds 1 = 3
            member 0..5 6 = 0 3 1 0 0 2
            """);
        promise(13, "7 all of its waits;", lane + """
            rounds 4 = 0
            member 0..1 7 = 0 4
            lead 1 = 0
            target 2 = -5
            rounds 2 = 0
            member 0..1 7 = 0 6
            """);
        promise(13, "8 the rounds since it was added", lane + """
            member 0..1 8 = 0
            rounds 3 = 0
            add 9 9 = 2
            member 0..2 8 = 3 3 0
            rounds 40 = 0
            member 0..2 8 = 43 43 40
            """);
    }

    private static void swarm() {
        promise(14, "Returns a number of the swarm.", "swarm 0 = 0\nadd 0 0 = 0\nswarm 0 = 1");
        promise(14, "0 the members;", "swarm 0 = 0\nmap 0123456789 = 10\nswarm 0 = 10\nlose 3 = 9\nswarm 0 = 9");
        promise(14, "1 the leader, -5 without one;", "swarm 1 = -5\nadd 0 0 = 0\nswarm 1 = 0\nlose 0 = 0\n"
                + "swarm 1 = -5\nadd 0 0 = 1\nswarm 1 = 1");
        promise(14, "2 the target, -5 without one;", "swarm 2 = -5\ntarget 0 = -5\nswarm 2 = 0\ntarget -1 = 0\n"
                + "swarm 2 = -5");
        promise(14, "3 the present shape;", "swarm 3 = 0\nchoose 2 = 0\nswarm 3 = 2");
        promise(14, "4 the slots that are given;", "shape 0 '#*#' = 3\nmap .0 = 1\nswarm 4 = 0\nadd 5 5 = 1\n"
                + "swarm 4 = 1\nadd 5 6 = 2\nswarm 4 = 2\nadd 5 7 = 3\nswarm 4 = 2\nlose 0 = 3\nswarm 4 = 2");
        promise(14, "5 the sum of the distances of those;", "shape 0 '#*#' = 3\nmap .0 = 1\nswarm 5 = 0\n"
                + "add 3 0 = 1\nswarm 5 = 1\nadd 0 1 = 2\nswarm 5 = 2\nadd 9 9 = 3\nswarm 5 = 2\nrounds 1 = 2\n"
                + "swarm 5 = 0");
        promise(14, "6: 1 if the swarm is formed, otherwise 0;", "shape 0 '#*#' = 3\nmap .0 = 1\nswarm 6 = 0\n"
                + "add 3 0 = 1\nswarm 6 = 0\nrounds 1 = 1\nswarm 6 = 1\nlose 1 = 1\nswarm 6 = 0");
        promise(14, "7 the slots besides the anchor whose places exist", """
            shape 0 '###/#*#/###' = 9
            swarm 7 = 0
            add 5 5 = 0
            swarm 7 = 8
            obstacle 52 = 1
            swarm 7 = 7
            add 0 5 = 1
            lead 1 = 0
            swarm 7 = 5
            add 11 9 = 2
            lead 2 = 1
            swarm 7 = 3
            choose 1 = 0
            swarm 7 = 0
            """, "shape 0 '*' = 1\nadd 0 0 = 0\nswarm 7 = 0");
        promise(14, "Returns the number; NONE if what is invalid.", "swarm -1 = -1\nswarm 8 = -1\nswarm MIN = -1\n"
                + "swarm MAX = -1\nswarm 0 = 0\nswarm 7 = 0");
    }

    private static void cell() {
        promise(15, "Returns a number of a cell.", "cell 0 4 = 2");
        promise(15, "0: 1 if it is an obstacle, otherwise 0;", "cell 5 0 = 0\nobstacle 5 = 1\ncell 5 0 = 1\n"
                + "add 6 0 = 0\ncell 6 0 = 0");
        promise(15, "1 the member there, -5 without one;", "cell 6 1 = -5\nadd 6 0 = 0\ncell 6 1 = 0\n"
                + "obstacle 5 = 1\ncell 5 1 = -5\nlose 0 = 0\ncell 6 1 = -5");
        promise(15, "2 the slot of the present shape whose place it is, the anchor included, -5 without one;", """
            shape 0 '#*#' = 3
            cell 0..2 2 = -5
            map 0 = 1
            cell 0..2 2 = 1 2 -5
            cell 11 2 = -5
            obstacle 1 = 1
            cell 0..2 2 = 1 -5 -5
            choose 1 = 0
            cell 0 2 = -5
            choose 0 = 1
            lose 0 = 0
            cell 0 2 = -5
            """);
        promise(15, "3 the distance from the leader, -5 if it does not exist;", """
            cell 0 3 = -5
            map 01#./### = 2
            cell 0..3 3 = 0 1 -5 -5
            obstacle 2 = 0
            cell 0..3 3 = 0 1 2 3
            lead 1 = 0
            cell 0..3 3 = 1 0 1 2
            cell 12 3 = -5
            cell 119 3 = 19
            """);
        promise(15, "4 the number of its neighbors that are no obstacles", """
            cell 0 4 = 2
            cell 5 4 = 3
            cell 65 4 = 4
            obstacle 66 = 1
            cell 65 4 = 3
            obstacle 77 = 1
            obstacle 64 = 1
            obstacle 53 = 1
            cell 65 4 = 0
            obstacle 65 = 1
            cell 65 4 = 0
            cell 66 4 = 3
            add 0 1 = 0
            cell 0 4 = 2
            """);
        promise(15, "Returns the number; NONE if there is no such cell or what is invalid.", """
            cell 119 0 = 0
            cell 120 0 = -1
            cell -1 0 = -1
            cell MIN 0 = -1
            cell MAX 0 = -1
            cell 0 -1..5 = -1 0 -5 -5 -5 2 -1
            cell 0 MIN = -1
            cell 0 MAX = -1
            cell 120 5 = -1
            """);
    }

    private static void distance() {
        promise(16, "Returns the distance of two cells.", "distance 0 13 = 2\ndistance 13 0 = 2");
        promise(16, "Returns the distance, -5 if it does not exist; NONE if there is no such cell.", """
            distance 119 0 = 20
            distance 0 0 = 0
            distance 120 0 = -1
            distance 0 120 = -1
            distance -1 0 = -1
            distance 0 -1 = -1
            distance MIN MAX = -1
            distance 5 MIN = -1
            distance MAX 5 = -1
            obstacle 1 = 1
            distance 0 1 = -5
            distance 1 0 = -5
            distance 1 1 = -5
            distance 1 120 = -1
            distance 0 2 = 4
            obstacle 12 = 1
            distance 0 2 = -5
            obstacle 12 = 0
            distance 0 2 = 4
            """);
    }

    private static void slot() {
        promise(17, "Returns a number of a shape.", "shape 0 '#*' = 2\nslot 0 0..1 = 2 1");
        promise(17, "- `what`: 0 the number of its slots; 1 its anchor; 10 + s the columns of slot s from the"
                + " anchor; 30 + s its rows from the anchor", """
            shape 0 '#....*/#/#/#/#/.....#' = 7
            slot 0 0..1 = 7 1
            slot 0 10..16 = -5 0 -5 -5 -5 -5 0
            slot 0 30..36 = 0 0 1 2 3 4 5
            shape 1 '#/./././././' = -111
            shape 1 '#/././././*....#' = 3
            slot 1 0..1 = 3 1
            slot 1 10..12 = 0 0 5
            slot 1 30..32 = -5 0 0
            shape 2 '######/###*' = 10
            slot 2 10..19 = -3 -2 -1 0 1 2 -3 -2 -1 0
            slot 2 30..39 = -1 -1 -1 -1 -1 -1 0 0 0 0
            """);
        promise(17, "Returns the number, which can be negative; -100 if there is no such number, the shape is"
                + " missing or what is invalid.", """
            slot 0..2 0 = -100
            shape 1 '*#' = 2
            slot -1..3 0 = -100 -100 2 -100 -100
            slot MIN 0 = -100
            slot MAX 0 = -100
            slot 1 -1..2 = -100 2 0 -100
            slot 1 9..12 = -100 0 1 -100
            slot 1 29..32 = -100 0 0 -100
            slot 1 MIN = -100
            slot 1 MAX = -100
            shape 2 '######/###*' = 10
            slot 2 2..9 = -100
            slot 2 19..29 = 0 -100 -100 -100 -100 -100 -100 -100 -100 -100 -100
            slot 2 39..42 = 0 -100 -100 -100
            """);
    }

    private static void recognized() {
        promise(18, "Returns in which way a shape is recognized.", "shape 0 '*#' = 2\nmap 0/1 = 2\n"
                + "recognized 0 = 1");
        promise(18, "Returns the lowest way, -5 if there is none; NONE if there is no such number; STATE if it"
                + " is missing.", """
            recognized -1..3 = -1 -3 -3 -3 -1
            recognized MIN = -1
            recognized MAX = -1
            shape 1 '#*#' = 3
            recognized 0..2 = -3 -5 -3
            map 012 = 3
            recognized 0..2 = -3 0 -3
            lose 1 = 2
            recognized 1 = -5
            """);
    }

    private static void healed() {
        promise(19, "Returns after how many rounds the swarm would be formed for the first time, if the target"
                + " was removed. Nothing changes.", """
            shape 0 '*#' = 2
            map 0../... = 1
            add 6 0 = 1
            target 108 = -5
            healed 40 = 5
            swarm 2 = 108
            member 0..1 0 = 0 6
            member 1 4..8 = -5 0 0 0 0
            account 0..7 = 0 0 0 0 0 0 0 2
            count 1 = 4
            target -1 = 108
            rounds 4 = 1
            swarm 6 = 0
            rounds 1 = 1
            swarm 6 = 1
            """,
            // Waits in a row and reasons come back as well.
            """
            shape 0 '*#' = 2
            map 10./#.. = 2
            rounds 1 = 0
            healed 40 = -5
            member 0..1 4 = 6 3
            member 1 5..8 = 1 0 1 1
            lead 1 = 0
            lead 0 = 1
            healed 40 = -5
            swarm 1 = 0
            """);
        promise(19, "- `most`: the greatest number of rounds, 0 to 40", """
            shape 0 '*' = 1
            add 0 0 = 0
            healed 0 = 0
            healed 40 = 0
            healed -1 = -2
            healed 41 = -2
            healed MIN = -2
            healed MAX = -2
            """);
        promise(19, "Returns the number, 0 if it is formed now, -5 if it would not be formed within so many"
                + " rounds; BAD if most is out of range; STATE if there are no members.", """
            healed 0 = -3
            healed 41 = -2
            shape 0 '*#' = 2
            map 0./#. = 1
            healed 40 = -5
            add 3 0 = 1
            healed 0 = -5
            healed 1 = -5
            healed 2 = 2
            healed 3 = 2
            healed 40 = 2
            rounds 2 = 1
            healed 0 = 0
            healed 40 = 0
            lose 1 = 1
            healed 40 = -5
            lose 0 = 0
            healed 40 = -3
            """,
            // Ways of forty steps and of one more, through lanes that are open at alternate ends.
            FORTY_STEPS + """
            add 0 8 = 1
            member 1 3 = 40
            healed 39 = -5
            healed 40 = 40
            """, FORTY_STEPS + """
            add 1 8 = 1
            member 1 3 = 41
            healed 40 = -5
            rounds 1 = 1
            healed 40 = 40
            """);
    }

    private static void healedWithout() {
        promise(20, "Returns the number of rounds after which the swarm would be formed, as healed, if a member"
                + " was lost before. Nothing changes, and the loss is not counted.", """
            shape 0 '*#' = 2
            map 0...1...2 = 3
            target 108 = -5
            healedWithout 1 40 = 7
            healedWithout 2 40 = 3
            healedWithout 0 40 = 3
            swarm 0..2 = 3 0 108
            member 0..2 0 = 0 4 8
            member 0..2 8 = 0
            cell 4 1 = 1
            account 0..7 = 0 0 0 0 0 0 0 3
            count 1 = 5
            lose 1 = 2
            target -1 = 108
            rounds 6 = 1
            swarm 6 = 0
            rounds 1 = 1
            swarm 6 = 1
            """);
        promise(20, "- `most`: the greatest number of rounds, 0 to 40", """
            shape 0 '*' = 1
            map 01 = 2
            healedWithout 1 0 = 0
            healedWithout 1 40 = 0
            healedWithout 1 -1 = -2
            healedWithout 1 41 = -2
            healedWithout 1 MIN = -2
            healedWithout 1 MAX = -2
            """);
        promise(20, "Returns the number, -5 if it would not be formed within so many rounds; NONE if there is"
                + " no such member; BAD if most is out of range; STATE if it is the only one.", """
            healedWithout 0 0 = -1
            shape 0 '*#' = 2
            map 0 = 1
            healedWithout 0 0 = -3
            healedWithout 0 41 = -2
            healedWithout 1 41 = -1
            healedWithout -1 0 = -1
            healedWithout MIN 0 = -1
            healedWithout MAX 0 = -1
            add 4 0 = 1
            healedWithout 0 40 = -5
            healedWithout 1 40 = -5
            add 8 0 = 2
            healedWithout 2 2 = -5
            healedWithout 2 3 = 3
            healedWithout 1 6 = -5
            healedWithout 1 7 = 7
            healedWithout 1 40 = 7
            lose 2 = 2
            healedWithout 2 3 = -1
            healedWithout 10 3 = -1
            lose 0 = 1
            healedWithout 1 40 = -3
            """);
    }

    private static void again() {
        promise(21, "Returns the sum of the distances by a second way: the slots, in ascending order, are given"
                + " to members, or to none.", """
            shape 0 '###/#*#/###' = 9
            map 0123456789 = 10
            lead 5 = 0
            swarm 4..5 = 5 8
            again = 8
            lead 0 = 5
            swarm 4..5 = 3 6
            again = 6
            """);
        promise(21, "Returns the least sum with as many given slots as possible.", """
            again = 0
            shape 0 '#*#' = 3
            add 5 5 = 0
            again = 0
            add 6 5 = 1
            again = 0
            add 0 9 = 2
            swarm 4..5 = 2 8
            again = 8
            add 7 5 = 3
            again = 3
            obstacle 64 = 1
            again = 0
            obstacle 66 = -3
            lose 1 = 3
            again = 1
            """);
    }

    private static void account() {
        String lane = "shape 0 '*#' = 2\nmap 10./### = 2\n";
        promise(22, "Returns an account.", "account 7 = 0\nadd 0 0 = 0\naccount 7 = 1");
        promise(22, "0 the rounds;", "add 0 0 = 0\naccount 0 = 0\nrounds 1 = 0\nrounds 40 = 0\naccount 0 = 41\n"
                + "execute 'g3;g4' = 2\naccount 0 = 48\nhealed 5 = -5\naccount 0 = 48");
        promise(22, "1 the steps to good cells or by the leader;", lane + """
            rounds 2 = 0
            account 1 = 0
            obstacle 12 = 0
            rounds 1 = 1
            account 1 = 0
            rounds 1 = 1
            account 1 = 1
            target 2 = -5
            rounds 1 = 2
            account 1 = 3
            """);
        promise(22, "2 the waits, the leader's included;", lane + "rounds 4 = 0\naccount 2 = 4\nlead 1 = 0\n"
                + "target 2 = -5\nrounds 3 = 0\naccount 2 = 7");
        promise(22, "3 the exchanges of two;", """
            shape 0 '##./.*./.##' = 5
            execute 'a4,1;a1,1;a5,0;a4,2;a1,0;a4,0' = 6
            execute 'o2,0;o5,1;o3,2;o0,2;o6,0;o6,1;o6,2;o0,3;o1,3;o2,3' = 10
            execute 'o3,3;o4,3;o5,3' = 3
            rounds 2 = 1
            account 3 = 0
            rounds 1 = 3
            account 3 = 1
            """);
        promise(22, "4 the steps aside;", lane + "rounds 3 = 0\naccount 4 = 0\nobstacle 12 = 0\nrounds 1 = 1\n"
                + "account 4 = 1\nrounds 1 = 1\naccount 4 = 1");
        promise(22, "5 the members that were lost;", "map 01 = 2\naccount 5 = 0\nlose 0 = 1\naccount 5 = 1\n"
                + "lose 0 = -1\naccount 5 = 1\nexecute 'x1' = 1\naccount 5 = 2");
        promise(22, "6 the obstacles;", "account 6 = 0\nobstacle 5 = 1\nobstacle 6 = 1\naccount 6 = 2\n"
                + "obstacle 5 = 0\naccount 6 = 1\nexecute 'o5,0' = 1\naccount 6 = 2");
        promise(22, "7 the members that were added", "account 7 = 0\nmap 0123456789 = 10\naccount 7 = 10\n"
                + "lose 0 = 9\naccount 7 = 10\nadd 0 0 = -4\naccount 7 = 10");
        promise(22, "Returns the account; NONE if what is invalid.", "account -1..8 = -1 0 0 0 0 0 0 0 0 -1\n"
                + "account MIN = -1\naccount MAX = -1");
    }

    private static void back() {
        promise(23, "Undoes the latest change that was not undone.", """
            target 5 = -5
            target 6 = 5
            back = 1
            swarm 2 = 5
            target 7 = 5
            back = 1
            swarm 2 = 5
            back = 0
            swarm 2 = -5
            """);
        promise(23, "Returns the number of changes that can still be undone; STATE if there is none.", """
            back = -3
            target 5 = -5
            back = 0
            back = -3
            target 1..9 = -5 1 2 3 4 5 6 7 8
            back = 7
            back = 6
            image = 0
            undo = 0
            back = -3
            """);
    }

    private static void image() {
        promise(24, "Takes a snapshot, in place of an earlier one.", """
            target 5 = -5
            image = 0
            target 6 = 5
            image = 0
            target 7 = 6
            undo = 0
            swarm 2 = 6
            """);
        promise(24, "Returns the number of members.", "image = 0\nmap 0123456789 = 10\nimage = 10\nlose 4 = 9\n"
                + "image = 9");
    }

    private static void undo() {
        promise(25, "Restores the snapshot, which stays. No changes can be undone then.", """
            target 5 = -5
            image = 0
            target 6 = 5
            count 1 = 2
            undo = 0
            swarm 2 = 5
            count 1 = 0
            back = -3
            target 7 = 5
            count 1 = 1
            back = 0
            target 8 = 5
            undo = 0
            swarm 2 = 5
            undo = 0
            swarm 2 = 5
            """);
        promise(25, "Returns the number of members; STATE if there is no snapshot.", """
            target 5 = -5
            undo = -3
            count 1 = 1
            map 012 = 3
            undo = -3
            image = 3
            lose 0 = 2
            undo = 3
            back = -3
            undo = 3
            """);
    }

    private static void count() {
        promise(26, "Returns a count.", "count 0 = 0\nfeed 'a' = 1\ncount 0 = 1");
        promise(26, "0 the bytes on the tape;", "count 0 = 0\nfeed 'abcdefg' = 7\ncount 0 = 7\nexecute = -101\n"
                + "count 0 = 0");
        promise(26, "1 the changes that can be undone;", "count 1 = 0\ntarget 1..8 = -5 1 2 3 4 5 6 7\ncount 1 = 8\n"
                + "target 9 = 8\ncount 1 = 8\nback = 7\ncount 1 = 7");
        promise(26, "2 the shapes, as a set", "count 2 = 0\nshape 1 '*' = 1\ncount 2 = 2\nshape 2 '*' = 1\n"
                + "count 2 = 6\nshape 0 '*' = 1\ncount 2 = 7\nshape 0 '*' = 1\ncount 2 = 7\nback = 3\nback = 2\n"
                + "count 2 = 6");
        promise(26, "Returns the count; NONE if what is invalid.", "count -1..3 = -1 0 0 0 -1\ncount MIN = -1\n"
                + "count MAX = -1");
    }
}
