/** The sentences on recognizing, each with its boundary cases. */
public final class RecognizingEdgeTests {
    /** Three in a row and one below the first, in each of the eight ways, from the first corner. */
    private static final String[] WAYS = {"a0,0;a1,0;a2,0;a0,1", "a1,0;a1,1;a1,2;a0,0",
        "a2,1;a1,1;a0,1;a2,0", "a0,2;a0,1;a0,0;a1,2", "a2,0;a1,0;a0,0;a2,1", "a1,2;a1,1;a1,0;a0,2",
        "a0,1;a1,1;a2,1;a0,0", "a0,0;a0,1;a0,2;a1,0"};

    private RecognizingEdgeTests() {
    }

    public static void main(String[] args) {
        asMany();
        ways();
        shifts();
        whateverSlot();
        Quotes.printUnquoted();
        Check.end();
    }

    private static void recognizing(String sentence, String... scripts) {
        Edges.edge("Recognizing", sentence, scripts);
    }

    private static void asMany() {
        recognizing("A shape is recognized in the way g, from 0 to 7, if the members, leader included,"
                + " are as many as its slots and stand on cells that come from its slots by the symmetry"
                + " g and a shift:", """
            shape 0 '*#' = 2
            recognized 0 = -5
            map 0 = 1
            recognized 0 = -5
            add 1 0 = 1
            recognized 0 = 0
            add 2 0 = 2
            recognized 0 = -5
            lose 0 = 2
            recognized 0 = 0
            lose 1 = 1
            recognized 0 = -5
            add 2 1 = 3
            recognized 0 = 1
            lose 2 = 1
            add 3 2 = 4
            recognized 0 = -5
            """, """
            shape 0 '*' = 1
            recognized 0 = -5
            add 7 7 = 0
            recognized 0 = 0
            add 0 0 = 1
            recognized 0 = -5
            lose 0 = 1
            recognized 0 = 0
            lose 1 = 0
            recognized 0 = -5
            """, """
            shape 2 '######/####*' = -111
            shape 2 '######/###*' = 10
            map 012345/678. = 9
            recognized 2 = -5
            add 3 1 = 9
            recognized 2 = 0
            lose 9 = 9
            recognized 2 = -5
            """,
            // As many, but one of them stands elsewhere.
            """
            shape 0 '###/#*' = 5
            map 0.1/23./4.. = 5
            recognized 0 = -5
            lose 4 = 4
            add 1 0 = 5
            recognized 0 = 0
            """,
            // Neither the present shape, nor obstacles, nor the target matter.
            """
            shape 2 '*#' = 2
            map ##./01# = 2
            target 14 = -5
            choose 1 = 0
            recognized 0..2 = -3 -3 0
            """);
    }

    private static void ways() {
        String sentence = "the symmetry turns each slot at column c and row r, in this order, if g is 4 or"
                + " more, to column -c, and then g modulo 4 times from c, r to -r, c.";
        for (int way = 0; way < 8; way++) {
            recognizing(sentence, "shape 0 '*##/#' = 4\nexecute '" + WAYS[way] + "' = 4\nrecognized 0 = "
                    + way);
        }
        recognizing(sentence,
            // The lowest of several ways.
            "shape 0 '#*#' = 3\nmap 012 = 3\nrecognized 0 = 0",
            "shape 0 '#*#' = 3\nmap 0/1/2 = 3\nrecognized 0 = 1",
            "shape 0 '##/#*' = 4\nmap 01/32 = 4\nrecognized 0 = 0",
            "shape 0 '#*#/.#' = 4\nmap 012/.3 = 4\nrecognized 0 = 0",
            "shape 0 '#*#/.#' = 4\nmap .0/12/.3 = 4\nrecognized 0 = 1",
            "shape 0 '#*#/.#' = 4\nmap .3/012 = 4\nrecognized 0 = 2",
            "shape 0 '#*#/.#' = 4\nmap 0/12/3 = 4\nrecognized 0 = 3",
            // Turned about alone, and turned over.
            "shape 0 '.##/#*' = 4\nmap .01/23 = 4\nrecognized 0 = 0",
            "shape 0 '.##/#*' = 4\nmap 0./12/.3 = 4\nrecognized 0 = 1",
            "shape 0 '.##/#*' = 4\nmap 01./.23 = 4\nrecognized 0 = 4",
            "shape 0 '.##/#*' = 4\nmap .0/12/3. = 4\nrecognized 0 = 5",
            "shape 0 '.##/#*' = 4\nmap .0/123 = 4\nrecognized 0 = -5");
    }

    private static void shifts() {
        String sentence = "and stand on cells that come from its slots by the symmetry g and a shift:";
        recognizing(sentence,
            // In the corners of the world, with space around the shape or without it.
            corner("*##/#", "a0,0;a1,0;a2,0;a0,1", 0), corner("*##/#", "a9,8;a10,8;a11,8;a9,9", 0),
            corner("*##/#", "a9,0;a10,0;a11,0;a9,1", 0), corner("*##/#", "a0,8;a1,8;a2,8;a0,9", 0),
            corner("*##/#", "a11,9;a10,9;a9,9;a11,8", 2), corner("*##/#", "a11,8;a11,9;a10,8;a9,8", 4),
            corner("./.../..#/..*##", "a0,0;a0,1;a1,1;a2,1", 0),
            corner("./.../..#/..*##", "a9,8;a9,9;a10,9;a11,9", 0),
            corner("..../....../....*/.....#", "a11,9;a10,8", 0),
            corner("..../....../....*/.....#", "a0,0;a1,1", 0),
            corner("..../....../....*/.....#", "a0,1;a1,0", 1),
            corner("*....#", "a0,0;a0,5", 1), corner("*....#", "a11,4;a11,9", 1),
            // Nothing goes on behind an edge.
            corner("*##", "a10,0;a11,0;a0,1", -5), corner("*##", "a11,0;a0,1;a1,1", -5),
            corner("*/#/#", "a5,8;a5,9;a5,0", -5), corner("*#/#", "a11,0;a0,1;a11,1", -5),
            corner("*#", "a11,8;a0,9", -5), corner("#*", "a0,0;a11,0", -5),
            // Not by a part alone.
            corner("*##", "a0,0;a1,0;a3,0", -5), corner("*.#", "a0,0;a1,0", -5),
            corner("*#", "a0,0;a2,0", -5), corner("*#", "a0,0;a1,1", -5));
    }

    private static String corner(String shape, String members, int way) {
        int size = members.split(";").length;
        return "shape 1 '" + shape + "' = " + size + "\nexecute '" + members + "' = " + size
                + "\nrecognized 1 = " + way;
    }

    private static void whateverSlot() {
        Edges.edge("In doubt", "A shape is recognized by the cells alone, whatever slot the leader is on.", """
            shape 0 '*##/#' = 4
            map 012/3 = 4
            recognized 0 = 0
            lead 1 = 0
            recognized 0 = 0
            lead 2 = 1
            recognized 0 = 0
            lead 3 = 2
            recognized 0 = 0
            swarm 6 = 0
            """);
    }
}
