/** Promises 27 and 28: the input buffer and scripts. */
final class ScriptTest {
    public static void main(String[] args) {
        promise27();
        promise28();
        syntaxErrors();
        impossibleCommands();
        longScripts();
        Check.finish("ScriptTest");
    }

    private static void promise27() {
        ShardRebalancer x = new ShardRebalancer();
        for (int i = 1; i <= 60; i++) {
            char letter = i % 2 == 0 ? (char) 0 : Character.MAX_VALUE;
            Check.same("feed", x.feed(letter), i);
        }
        Check.refused("feed a 61st", IllegalStateException.class, () -> x.feed('n'));
        Check.refused("feed again", IllegalStateException.class, () -> x.feed('n'));
        Check.same("perform of what no script is", x.perform(), -100);
        Check.same("the buffer is empty", x.feed('n'), 1);
    }

    private static void promise28() {
        ShardRebalancer x = new ShardRebalancer();
        Check.same("n5;", Stores.run(x, "n5;"), 1);
        Check.same("a node was added", x.node(0, 1), 5);
        Check.same("n01;w0=03;t50;", Stores.run(x, "n01;w0=03;t50;"), 3);
        Check.same("a node with a zero before", x.node(1, 1), 1);
        Check.same("the weight was set", x.node(0, 1), 3);
        Check.same("ticks were made", x.statistic(0), 50);
        Check.same("d1;", Stores.run(x, "d1;"), 1);
        Check.same("draining", x.node(1, 0), 2);
        Check.same("f01;", Stores.run(x, "f01;"), 1);
        Check.same("down", x.node(1, 0), 3);
        Check.same("r1;d0;", Stores.run(x, "r1;d0;"), 2);
        Check.same("active", x.node(1, 0), 1);
        Check.same("draining", x.node(0, 0), 2);
        ShardRebalancer byScript = Stores.after("n2;n4;t12;f1;t3;n1;r1;t40;w2=5;t9;d0;t07;");
        ShardRebalancer byCalls = new ShardRebalancer();
        byCalls.addNode(2);
        byCalls.addNode(4);
        byCalls.tick(12);
        byCalls.fail(1);
        byCalls.tick(3);
        byCalls.addNode(1);
        byCalls.recover(1);
        byCalls.tick(40);
        byCalls.setWeight(2, 5);
        byCalls.tick(9);
        byCalls.drain(0);
        byCalls.tick(7);
        Check.same("a script does what the calls do", Stores.brief(byScript),
                Stores.brief(byCalls));
    }

    private static void syntaxErrors() {
        String[] texts = {"", "x1;", ";", "1;", "n", "n;", "nn", "n1",
            "n12", "n123;", "n1 ;", "n1;;", "n1;x", "n1; n1;", "w", "w0;",
            "w0", "w01", "w012=1;", "w0=", "w0=;", "w0=1", "w0=12", "w0=123;",
            "w=1;", "n1=1;", "t1;n", "N1;", "n-1;", "n1;n1;n1", "d0;f0;r0;t5;w1=1;q", "t1:",
            "t1/", "n1;\u0161", "\u0666"};
        int[] positions = {0, 0, 0, 0, 1, 1, 1, 2,
            3, 3, 2, 3, 3, 3, 1, 2,
            2, 3, 3, 3, 3, 4, 5, 5,
            1, 2, 4, 0, 1, 8, 17, 2,
            2, 3, 0};
        Check.same("a position for each text", positions.length, texts.length);
        for (int i = 0; i < texts.length; i++) {
            ShardRebalancer x = Stores.settled();
            String before = Stores.brief(x);
            Check.same("perform of " + texts[i], Stores.run(x, texts[i]), -100 - positions[i]);
            Check.same("nothing changes", Stores.brief(x), before);
            Check.same("the buffer is empty", x.feed('x'), 1);
            Check.same("it is no change", x.undo(), 0);
        }
    }

    private static void impossibleCommands() {
        String[] scripts = {"n0;", "n6;", "n99;", "n1;n1;n1;n1;n1;n1;n1;n1;", "d1;", "d8;",
            "d99;", "d0;d0;", "f0;f0;", "f7;", "f0;d0;", "r0;", "r9;", "f0;r0;r0;", "w0=0;",
            "w0=6;", "w8=1;", "w1=1;", "t0;", "t00;", "t51;", "t5;n5;t99;", "w0=5;d0;t50;n0;"};
        for (String script : scripts) {
            ShardRebalancer x = Stores.settled();
            String before = Stores.brief(x);
            Check.refused("perform of " + script, UnsupportedOperationException.class,
                    () -> Stores.run(x, script));
            Check.same("none has an effect: " + script, Stores.brief(x), before);
            Check.same("the buffer is empty", x.feed('x'), 1);
            Check.same("it is no change", x.undo(), 0);
            Check.refused("only one was there", IllegalStateException.class, () -> x.undo());
        }
        ShardRebalancer x = new ShardRebalancer();
        Check.same("an error in the syntax comes first", Stores.run(x, "n0;n"), -104);
    }

    private static void longScripts() {
        ShardRebalancer x = new ShardRebalancer();
        Check.same("twenty commands", Stores.run(x, "n1;t9;t9;t9;t9;t9;t9;t9;t9;t9;t9;t9;t9;t9;t9;"
                + "t9;t9;t9;t9;t8;"), 20);
        Check.same("their time", x.statistic(0), 18 * 9 + 8);
        Check.same("sixty characters that end too early", Stores.run(x, "n1;t9;t9;t9;t9;t9;t9;t9;"
                + "t9;t9;t9;t9;t9;t9;t9;t9;t9;t9;t9;t99"), -160);
        Check.same("the longest commands", Stores.run(x, "w00=01;w00=02;w00=03;w00=04;w00=05;"
                + "w00=01;w00=02;t50;"), 8);
        Check.same("the last one counts", x.node(0, 1), 2);
    }
}
