/** Promises 15 to 18: pending shards, questions of the form what if, slack and fill. */
final class TargetsTest {
    private static final String[] SCRIPTS = {"n1;", "n1;n1;", "n1;n1;n1;", "n1;n5;n2;",
        "n1;n1;n1;n1;", "n2;n4;n3;n3;n3;n3;n3;n3;", "n5;n1;n1;n1;n1;n1;n1;n1;",
        "n2;n2;n3;n2;t20;n4;n2;n2;n2;d3;f5;"};

    public static void main(String[] args) {
        promise15();
        promise16();
        promise17();
        promise18();
        Check.finish("TargetsTest");
    }

    private static void promise15() {
        Check.same("pending without nodes", new ShardRebalancer().pending(), 32);
        ShardRebalancer x = Stores.settled();
        Check.same("pending when all is done", x.pending(), 0);
        x.drain(0);
        Check.same("pending without active nodes", x.pending(), 32);
        x.recover(0);
        x.addNode(2);
        Check.same("pending with a new node", x.pending(), x.node(1, 4));
        x.fail(1);
        Check.same("pending without it", x.pending(), 0);
        x.fail(0);
        x.tick(5);
        Check.same("pending without owners", x.pending(), 32);
        for (String script : SCRIPTS) {
            ShardRebalancer y = Stores.after(script);
            y.tick(7);
            int due = 0;
            for (int s = 0; s < 32; s++) {
                due += y.shard(s, 3) == -1 || y.shard(s, 3) != y.shard(s, 2) ? 1 : 0;
            }
            Check.same("pending after " + script, y.pending(), due);
        }
    }

    private static void promise16() {
        ShardRebalancer x = Stores.after("n1;n1;n1;d1;");
        Check.refused("changedIf(-1, 9)", IndexOutOfBoundsException.class,
                () -> x.changedIf(-1, 9));
        Check.refused("changedIf(8, 0)", IndexOutOfBoundsException.class,
                () -> x.changedIf(8, 0));
        Check.refused("changedIf(0, -1)", IllegalArgumentException.class,
                () -> x.changedIf(0, -1));
        Check.refused("changedIf(1, 6)", IllegalArgumentException.class,
                () -> x.changedIf(1, 6));
        Check.refused("changedIf of a draining one", IllegalStateException.class,
                () -> x.changedIf(1, 1));
        Check.refused("changedIf of an absent one", IllegalStateException.class,
                () -> x.changedIf(7, 0));
        ShardRebalancer called = new ShardRebalancer();
        called.addNode(2);
        called.addNode(2);
        int ofSecond = called.node(1, 4);
        Check.same("changedIf of one of two", called.changedIf(1, 0), ofSecond);
        called.addNode(1);
        called.fail(2);
        Check.same("changedIf after a failure", called.changedIf(1, 0), ofSecond);
        Check.same("changedIf of the only one", Stores.after("n3;").changedIf(0, 0), 32);
        Check.same("changedIf of the only one, active", Stores.after("n3;").changedIf(0, 5), 0);
        for (String script : SCRIPTS) {
            for (int n = 0; n < 8; n++) {
                changedIfAfter(script, n);
            }
        }
    }

    /** Compares what would change with what does change. */
    private static void changedIfAfter(String script, int node) {
        for (int weight = 0; weight <= 5; weight++) {
            ShardRebalancer x = Stores.after(script);
            if (x.node(node, 0) != 1) {
                return;
            }
            String before = Stores.brief(x);
            int answer = x.changedIf(node, weight);
            Check.same("changedIf changes nothing", Stores.brief(x), before);
            ShardRebalancer changed = Stores.after(script);
            if (weight == 0) {
                changed.fail(node);
            } else {
                changed.setWeight(node, weight);
            }
            int due = 0;
            for (int s = 0; s < 32; s++) {
                due += x.shard(s, 2) != changed.shard(s, 2) ? 1 : 0;
            }
            Check.same(script + ": changedIf(" + node + ", " + weight + ")", answer, due);
        }
    }

    private static void promise17() {
        Check.refused("leastSlack without nodes", IllegalStateException.class,
                () -> new ShardRebalancer().leastSlack());
        ShardRebalancer down = Stores.after("n1;n1;f0;d1;");
        Check.refused("leastSlack without active nodes", IllegalStateException.class,
                () -> down.leastSlack());
        Check.same("leastSlack of one node", Stores.after("n4;").leastSlack(), 0);
        int none = 0;
        int greatest = 0;
        for (String script : SCRIPTS) {
            int due = 0;
            while (due <= 100 && Stores.skipped(script, due) != 0) {
                due++;
            }
            none += due > 100 ? 1 : 0;
            greatest += due == 100 ? 1 : 0;
            String answer = due > 100 ? "NoSuchElementException" : String.valueOf((double) due);
            ShardRebalancer x = Stores.after(script);
            for (int slack : new int[] {25, 0, 100, 42}) {
                x.set(0, slack);
                Check.same(script + ": leastSlack", Check.outcome(x::leastSlack), answer);
            }
            Check.same("leastSlack leaves the slack", x.set(0, 1), 42);
        }
        Check.holds("scripts without such a slack, and one with 100", none > 0 && greatest > 0);
    }

    private static void promise18() {
        Check.refused("greatestFill without nodes", ArithmeticException.class,
                () -> new ShardRebalancer().greatestFill());
        ShardRebalancer x = Stores.settled();
        Check.same("greatestFill of one node", x.greatestFill(), 32 / 41.0);
        x.addNode(1);
        Check.same("greatestFill with another", x.greatestFill(), 32 / 21.0);
        x.drain(0);
        Check.same("greatestFill does not regard the draining one", x.greatestFill(), 0.0);
        x.tick(2);
        Check.same("greatestFill of the other one", x.greatestFill(), 2 / 41.0);
        x.fail(1);
        Check.refused("greatestFill without active nodes", ArithmeticException.class,
                () -> x.greatestFill());
        ShardRebalancer light = Stores.settled();
        Stores.run(light, "n5;n5;n5;n5;n5;n5;n5;");
        light.set(0, 0);
        Check.same("the least capacity of all", light.node(0, 2), 1);
        Check.same("greatestFill with that capacity", light.greatestFill(), 32.0);
        ShardRebalancer three = Stores.after("n1;n5;n2;t50;t50;");
        double due = 0;
        for (int n = 0; n < 3; n++) {
            due = Math.max(due, (double) three.node(n, 3) / three.node(n, 2));
        }
        Check.same("greatestFill of three nodes", three.greatestFill(), due);
    }
}
