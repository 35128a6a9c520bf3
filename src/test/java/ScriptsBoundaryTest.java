import java.util.List;

/** The boundaries that the document names for scripts: promises 27 and 28. */
final class ScriptsBoundaryTest {
    private static final String TWENTY =
            "n1;t9;t9;t9;t9;t9;t9;t9;t9;t9;t9;t9;t9;t9;t9;t9;t9;t9;t9;t8;";
    private static final String COMMANDS = "A script is a text of one or more commands, each "
            + "followed by a semicolon: n and a number adds a node with this weight; d, f or r "
            + "and a number drains, fails or recovers a node; w, a number, = and a number sets "
            + "the weight of a node; t and a number makes so many ticks.";
    private static final String DIGITS = "A number is one or two digits.";
    private static final String POSITION = "The error position of a text is the offset, from 0, "
            + "of the first character that cannot continue a script, or the length of the text if "
            + "it ends too early.";
    private static final String REFUSED = "Throws `UnsupportedOperationException` if the text is "
            + "correct, and the corresponding method throws an exception for one of the commands";

    public static void main(String[] args) {
        Boundary.runAll(ScriptsBoundaryTest.class);
    }

    /** Checks the answer to a text that is no script, and that only the buffer changes. */
    private static void wrong(String text, int position) {
        Check.same("perform() of " + text, Stores.run(Stores.after("n3;"), text),
                -100 - position);
    }

    private static void right(String text, int commands) {
        Check.same("perform() of " + text, Stores.run(Stores.after("n3;"), text), commands);
    }

    @Says(promise = 28, sentence = COMMANDS)
    static void aScriptHasOneOrMoreCommands() {
        wrong("", 0);
        wrong(";", 0);
        right("n1;", 1);
        right("n1;n1;", 2);
        right(TWENTY.substring(0, 57), 19);
        Check.same("the length of twenty commands", TWENTY.length(), 60);
        right(TWENTY, 20);
        wrong("n1", 2);
        wrong("n1;n1", 5);
        wrong("n1;;", 3);
        wrong("n1;n1;;", 6);
        wrong(" n1;", 0);
        wrong("n1; n1;", 3);
        wrong("n1;\n", 3);
    }

    @Says(promise = 28, sentence = COMMANDS)
    static void eachCommandDoesWhatItsMethodDoes() {
        ShardRebalancer x = new ShardRebalancer();
        Check.same("n5;", Stores.run(x, "n5;"), 1);
        Check.same("a node was added", x.node(0, 0) * 10 + x.node(0, 1), 15);
        Check.same("d0;", Stores.run(x, "d0;"), 1);
        Check.same("the node drains", x.node(0, 0), 2);
        Check.same("f0;", Stores.run(x, "f0;"), 1);
        Check.same("the node is down", x.node(0, 0), 3);
        Check.same("r0;", Stores.run(x, "r0;"), 1);
        Check.same("the node is active", x.node(0, 0), 1);
        Check.same("w0=1;", Stores.run(x, "w0=1;"), 1);
        Check.same("the weight was set", x.node(0, 1), 1);
        Check.same("t1;", Stores.run(x, "t1;"), 1);
        Check.same("a tick was made", x.statistic(0), 1);
        Check.same("t50;", Stores.run(x, "t50;"), 1);
        Check.same("50 ticks were made", x.statistic(0), 51);
        Check.same("node 7", Stores.run(x, "n1;n1;n1;n1;n1;n1;n2;w7=5;d7;r7;f7;"), 11);
        Check.same("node 7 is down", x.node(7, 0) * 10 + x.node(7, 1), 35);
        for (char letter = 0; letter < 128; letter++) {
            if ("ndfrwt".indexOf(letter) < 0) {
                wrong(letter + "1;", 0);
                wrong("n1;" + letter + "1;", 3);
            }
        }
        for (String other : new String[] {"N1;", "D0;", "F0;", "R0;", "W0=1;", "T1;", "\u00eex"}) {
            wrong(other, 0);
        }
        wrong("d0=1;", 2);
        wrong("t0=1;", 2);
        wrong("w0;", 2);
        wrong("w0==1;", 3);
        wrong("w0=1=1;", 4);
    }

    @Says(promise = 28, sentence = DIGITS)
    static void aNumberHasOneOrTwoDigits() {
        wrong("n;", 1);
        right("n1;", 1);
        right("n01;", 1);
        wrong("n001;", 3);
        wrong("t;", 1);
        right("t9;", 1);
        right("t50;", 1);
        wrong("t050;", 3);
        wrong("t100;", 3);
        wrong("w=1;", 1);
        wrong("w0=;", 3);
        right("w0=1;", 1);
        right("w00=01;", 1);
        wrong("w000=1;", 3);
        wrong("w0=001;", 5);
        wrong("w00=001;", 6);
        for (char digit = 0; digit < 128; digit++) {
            if (digit < '0' || digit > '9') {
                wrong("n" + digit + ";", 1);
                if (digit != ';') {
                    wrong("n1" + digit + ";", 2);
                    wrong("n01" + digit + ";", 3);
                }
            }
        }
        for (String sign : new String[] {"/", ":", "+1", "-1", "\u0661", "\uff11", "\u00b2"}) {
            wrong("n" + sign + ";", 1);
            wrong("w0=" + sign + ";", 3);
        }
        for (char digit = '0'; digit <= '9'; digit++) {
            Check.same("t1" + digit + ";", Stores.after("t1" + digit + ";").statistic(0),
                    10 + digit - '0');
            if (digit != '0') {
                Check.same("t" + digit + ";", Stores.after("t" + digit + ";").statistic(0),
                        digit - '0');
            }
        }
    }

    @Says(promise = 28, sentence = {POSITION,
        "Returns the number of commands; -100 minus the error position after a syntax error."})
    static void theErrorPositionOfEachPrefixAndOfEachSign() {
        String script = "n1;w0=12;d00;t5;r1;f01;w01=1;";
        String ends = "3 9 13 16 19 23 29";
        for (int length = 0; length < script.length(); length++) {
            String prefix = script.substring(0, length);
            if (!List.of(ends.split(" ")).contains(String.valueOf(length))) {
                wrong(prefix, length);
            }
            wrong(prefix + "!", length);
            wrong(prefix + "!" + script.substring(length + 1), length);
            wrong(prefix + (char) 0, length);
            wrong(prefix + Character.MAX_VALUE + ";", length);
        }
        right("n1;", 1);
        right("n1;w0=3;", 2);
        right("n1;w0=3;d00;", 3);
    }

    @Says(promise = 28, sentence = POSITION)
    static void theErrorPositionOfAFullBuffer() {
        String start = TWENTY.substring(0, 57);
        wrong(start + "t12", 60);
        wrong(start + "t1!", 59);
        wrong(start + "t;;", 58);
        wrong(start + ";t1", 57);
        wrong(start + "t1", 59);
        wrong(start + "t", 58);
        wrong("!" + TWENTY.substring(1), 0);
        Check.same("perform() of an empty buffer", new ShardRebalancer().perform(), -100);
    }

    @Says(promise = 28, sentence =
            "Returns the number of commands; -100 minus the error position after a syntax error.")
    static void anErrorChangesTheBufferAlone() {
        String[] texts = {"", "x", "n1", "n1;n1;!", "n1;t5;d0", "t50;t50;t50;n0;w"};
        int[] positions = {0, 0, 2, 6, 8, 16};
        for (int i = 0; i < texts.length; i++) {
            String text = texts[i];
            int due = -100 - positions[i];
            Stores.same("the state after " + text,
                    Stores.whole(() -> {
                        ShardRebalancer x = Stores.after("n2;n3;t9;f1;");
                        Check.same("perform() of " + text, Stores.run(x, text), due);
                        return x;
                    }), Stores.whole(() -> Stores.after("n2;n3;t9;f1;")));
        }
    }

    @Says(promise = 27, sentence = {"Appends a character to the input buffer.",
        "`letter`: any character", "Returns the number of characters in the buffer."})
    static void feedTakesAnyCharacter() {
        char[] letters = {0, 1, ' ', ';', 'n', '~', 127, 128, 255, 256, '\u20ac', '\ud800',
            Character.MAX_VALUE};
        ShardRebalancer x = new ShardRebalancer();
        for (int i = 0; i < letters.length; i++) {
            Check.same("feed of the character " + (int) letters[i], x.feed(letters[i]), i + 1);
        }
        Check.same("perform() of these", x.perform(), -100);
        for (char letter : letters) {
            ShardRebalancer y = new ShardRebalancer();
            Stores.run(y, "n1;");
            y.feed('n');
            y.feed('1');
            y.feed(letter);
            Check.same("perform() with the character " + (int) letter, y.perform(),
                    letter == ';' ? 1 : -102);
        }
    }

    @Says(promise = 27, sentence =
            "Throws `IllegalStateException` if the buffer already holds 60 characters")
    static void feedRefusesA61stCharacter() {
        ShardRebalancer x = new ShardRebalancer();
        for (int i = 1; i <= 60; i++) {
            Check.same("feed of the character number " + i, x.feed(TWENTY.charAt(i - 1)), i);
        }
        for (char letter : new char[] {'n', ';', 0, Character.MAX_VALUE}) {
            Check.refused("feed of a 61st character", Boundary.STATE, () -> x.feed(letter));
        }
        Check.same("perform() of the first 60", x.perform(), 20);
        Check.same("feed then", x.feed('n'), 1);
        for (char letter : new char[] {'n', ';', 0, Character.MAX_VALUE}) {
            Boundary.refused(ScriptsBoundaryTest::fed, "feed of a 61st character", Boundary.STATE,
                    y -> y.feed(letter));
        }
    }

    /** A store whose buffer is full. */
    private static ShardRebalancer fed() {
        ShardRebalancer x = Stores.after("n2;t3;");
        for (char letter : TWENTY.toCharArray()) {
            x.feed(letter);
        }
        return x;
    }

    @Says(promise = 28, sentence =
            "Parses the input buffer as a script and performs its commands.")
    static void aScriptDoesWhatTheCallsDo() {
        Stores.same("the state after a script", Stores.picture(() -> Stores.after(
                "n2;n4;t12;f1;t3;n1;r1;t40;w2=5;t9;d0;t07;")), Stores.picture(() -> {
                    ShardRebalancer x = new ShardRebalancer();
                    x.addNode(2);
                    x.addNode(4);
                    x.tick(12);
                    x.fail(1);
                    x.tick(3);
                    x.addNode(1);
                    x.recover(1);
                    x.tick(40);
                    x.setWeight(2, 5);
                    x.tick(9);
                    x.drain(0);
                    x.tick(7);
                    return x;
                }));
    }

    @Says(promise = 28, sentence =
            "The buffer is empty afterwards, also after an error or an exception.")
    static void theBufferIsEmptyAfterwards() {
        String[] texts = {"n1;", TWENTY, "", "n", "x", TWENTY.substring(0, 59) + "x", "n0;",
            "n1;n1;d5;"};
        for (String text : texts) {
            ShardRebalancer x = new ShardRebalancer();
            Check.outcome(() -> Stores.run(x, text));
            Check.same("feed after " + text, x.feed('n'), 1);
            Check.same("perform() of that", x.perform(), -101);
            Check.same("perform() of nothing", x.perform(), -100);
            Check.same("a script then", Stores.run(x, "n4;"), 1);
        }
    }

    @Says(promise = 28, sentence =
            "If a command cannot be performed, none of the commands has an effect.")
    static void oneImpossibleCommandAndNoneIsDone() {
        String[] scripts = {"n0;n1;t5;", "n1;n0;t5;", "n1;t5;n0;", "t50;t50;t50;d7;",
            "d0;f1;d0;", "w0=5;w1=5;w2=5;w3=5;", "r1;r1;", "f0;f1;f0;", "n1;n1;n1;n1;n1;n1;n1;",
            "t5;t0;", "t51;", "d0;t1;d0;t99;", "n6;"};
        for (String script : scripts) {
            Stores.same("the state after " + script,
                    Stores.whole(() -> {
                        ShardRebalancer x = Stores.after("n2;n3;t9;f1;");
                        Check.refused("perform() of " + script,
                                UnsupportedOperationException.class, () -> Stores.run(x, script));
                        return x;
                    }), Stores.whole(() -> Stores.after("n2;n3;t9;f1;")));
        }
    }

    @Says(promise = 28, sentence = REFUSED)
    static void eachCommandAtTheEndsOfItsMethod() {
        String states = "n1;n2;n3;d1;f2;";
        String[] allowed = {"n1;", "n5;", "d0;", "f0;", "f1;", "r1;", "r2;", "w0=1;", "w0=5;",
            "w1=5;", "w2=5;", "t1;", "t50;", "n1;n1;n1;n1;n1;", "n1;n1;n1;n1;n1;d7;", "t1;n1;d1;"};
        for (String script : allowed) {
            Check.same("perform() of " + script, Stores.run(Stores.after(states), script),
                    script.replaceAll("[^;]", "").length());
        }
        String[] refused = {"n0;", "n6;", "n99;", "d1;", "d2;", "d3;", "d7;", "d8;", "d99;",
            "f2;", "f3;", "f8;", "f99;", "r0;", "r3;", "r8;", "r99;", "w0=0;", "w0=6;", "w0=99;",
            "w3=1;", "w8=1;", "w99=0;", "t0;", "t00;", "t51;", "t99;", "n1;n1;n1;n1;n1;n1;",
            "t1;d1;", "d0;d0;", "f0;f0;", "f0;d0;", "r1;r1;"};
        for (String script : refused) {
            ShardRebalancer x = Stores.after(states);
            Check.refused("perform() of " + script, UnsupportedOperationException.class,
                    () -> Stores.run(x, script));
            Check.same("no node has changed", x.nodes(1) + x.nodes(2) * 10 + x.nodes(3) * 100,
                    421);
        }
        wrong("n0;n0", 5);
        wrong("t99;d9;!", 7);
    }
}
