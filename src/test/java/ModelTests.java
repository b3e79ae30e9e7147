import java.util.Arrays;
import java.util.Random;

/** Random runs of calls, each answered by the program and by the plain model. */
public final class ModelTests {
    private static final int RUNS = Integer.getInteger("runs", 150);
    private static final int CALLS = 500;
    private static final String[] SHAPES = {
        "*", "#*#", "##/#*/.#", ".#./#*#/.#.", "##./.*./.##", "*#####/####", "#..#/.*../#..#",
        "*/#/#/#/#/#", "......*/#", "###/#*#/###", "*.....#/#", "#####*", "..#/.#./*..", "#/*/#",
        "##/*#/##", ".*./#.#", "#####/#*###"};

    private final Random random;
    private final SwarmPlanner planner = new SwarmPlanner();
    private final PlainModel model = new PlainModel();
    private final StringBuilder story = new StringBuilder();
    private final int run;
    private int calls = 0;

    private ModelTests(int run) {
        this.run = run;
        this.random = new Random(run * 7919L + 17);
    }

    public static void main(String[] args) {
        for (int run = 0; run < RUNS && Check.wrongSoFar() == 0; run++) {
            new ModelTests(run).play();
        }
        Check.end();
    }

    private void play() {
        if (below(4) > 0) {
            build();
        }
        while (calls < CALLS && Check.wrongSoFar() == 0) {
            change();
            look();
        }
        if (Check.wrongSoFar() > 0) {
            System.out.println("run " + run + " was: " + story);
        }
    }

    private int below(int bound) {
        return random.nextInt(bound);
    }

    private int call(String name, int... a) {
        calls++;
        int got = Calls.answer(planner, name, a);
        story.append(name).append(Arrays.toString(a)).append('=').append(got).append(' ');
        Check.due("run " + run + ", call " + calls + ": " + name + Arrays.toString(a), got,
                model.call(name, a));
        return got;
    }

    private void feed(String text) {
        for (int at = 0; at < text.length(); at += 5) {
            int[] a = new int[6];
            a[0] = Math.min(5, text.length() - at);
            for (int i = 1; i <= 5; i++) {
                a[i] = i <= a[0] ? text.charAt(at + i - 1) : below(128);
            }
            call("feed", a);
        }
    }

    /** A start with a shape, walls and a crowd, so that members are often in each other's way. */
    private void build() {
        feed(SHAPES[below(SHAPES.length)]);
        call("shape", 0);
        int walls = below(3) == 0 ? 0 : below(30);
        int wide = 2 + below(10);
        int high = 2 + below(8);
        for (int i = 0; i < walls; i++) {
            call("obstacle", 12 * below(10) + below(12));
        }
        int crowd = 1 + below(10);
        if (below(4) == 0) {
            standAsShape(SHAPES[below(SHAPES.length)]);
            crowd = below(2);
        }
        for (int i = 0; i < crowd; i++) {
            call("add", below(wide), below(high));
        }
    }

    /** Adds members on the slots of a shape, turned and shifted, so that it can be recognized. */
    private void standAsShape(String text) {
        int way = below(8);
        int dx = below(12);
        int dy = below(10);
        String[] rows = text.split("/");
        for (int r = 0; r < rows.length; r++) {
            for (int c = 0; c < rows[r].length(); c++) {
                if (rows[r].charAt(c) != '.') {
                    int across = way % 2 == 0 ? c : r;
                    int down = way % 2 == 0 ? r : c;
                    call("add", dx + (way / 2 % 2 == 0 ? across : -across),
                            dy + (way >= 4 ? -down : down));
                }
            }
        }
        feed(text);
        call("shape", below(3));
        for (int shape = 0; shape < 3; shape++) {
            call("recognized", shape);
        }
    }

    private int member() {
        return below(12) - 1;
    }

    private int cell() {
        return below(20) == 0 ? below(8) * 40 - 100 : below(120);
    }

    private void change() {
        int kind = below(100);
        if (kind < 12) {
            call("add", below(14) - 1, below(12) - 1);
        } else if (kind < 17) {
            call("lose", member());
        } else if (kind < 25) {
            call("lead", member());
        } else if (kind < 35) {
            call("target", below(8) == 0 ? -1 : cell());
        } else if (kind < 47) {
            call("obstacle", cell());
        } else if (kind < 57) {
            feed(mutated(SHAPES[below(SHAPES.length)], "#*./x"));
            call("shape", below(8) == 0 ? below(5) - 1 : below(3));
        } else if (kind < 61) {
            call("choose", below(5) - 1);
        } else if (kind < 74) {
            call("rounds", below(10) == 0 ? below(90) - 20 : 1 + below(6));
        } else if (kind < 87) {
            feed(mutated(commands(), "aotlxg;,0123456789 "));
            call("execute");
        } else if (kind < 90) {
            call("feed", below(7), below(130) - 1, below(130) - 1, below(128), below(128), below(128));
        } else if (kind < 96) {
            call("back");
        } else if (kind < 98) {
            call("image");
        } else {
            call("undo");
        }
    }

    private String mutated(String text, String signs) {
        StringBuilder mutated = new StringBuilder(text);
        for (int times = Math.max(0, below(6) - 3); times > 0; times--) {
            int at = below(mutated.length() + 1);
            char sign = signs.charAt(below(signs.length()));
            int how = below(3);
            if (how == 0 || at == mutated.length()) {
                mutated.insert(at, sign);
            } else if (how == 1) {
                mutated.setCharAt(at, sign);
            } else {
                mutated.deleteCharAt(at);
            }
        }
        return mutated.toString();
    }

    private String commands() {
        StringBuilder text = new StringBuilder();
        int size = 1 + below(5);
        for (int i = 0; i < size; i++) {
            char letter = "aaootlxgg".charAt(below(9));
            text.append(i > 0 ? ";" : "").append(letter);
            if (letter == 'a' || letter == 'o' || letter == 't') {
                text.append(number(below(15) == 0 ? 99 : 11)).append(',');
                text.append(number(below(15) == 0 ? 99 : 9));
            } else if (letter == 'g') {
                text.append(number(below(15) == 0 ? 60 : 8));
            } else {
                text.append(number(below(15) == 0 ? 99 : 9));
            }
        }
        return text.toString();
    }

    private String number(int most) {
        int number = below(most + 1);
        return number < 10 && below(4) == 0 ? "0" + number : "" + number;
    }

    private void look() {
        for (int times = 1 + below(8); times > 0; times--) {
            lookOnce();
        }
    }

    private void lookOnce() {
        switch (below(16)) {
            case 0: call("healed", below(5) == 0 ? below(60) - 10 : below(41)); break;
            case 1: call("healedWithout", member(), below(8) == 0 ? below(60) - 10 : below(41)); break;
            case 2: call("recognized", below(5) - 1); break;
            case 3: call("distance", cell(), cell()); break;
            case 4: call("slot", below(5) - 1, below(45) - 2); break;
            case 5: case 6: call("cell", cell(), below(7) - 1); break;
            case 7: call("account", below(10) - 1); break;
            case 8: call("count", below(5) - 1); break;
            case 9: call("refusal", below(4) - 1); break;
            case 10: call("again"); break;
            case 11: case 12: call("swarm", below(10) - 1); break;
            default: call("member", member(), below(11) - 1); break;
        }
    }
}
