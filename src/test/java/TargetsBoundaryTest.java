import java.util.NoSuchElementException;

/** The boundaries that the document names for targets, slack and fill: promises 15 to 18. */
final class TargetsBoundaryTest {
    private static final int LEAST = Integer.MIN_VALUE;
    private static final int GREATEST = Integer.MAX_VALUE;
    private static final String EIGHT = "n5;n5;n5;n5;n5;n5;n5;n5;";

    public static void main(String[] args) {
        Boundary.runAll(TargetsBoundaryTest.class);
    }

    @Says(promise = {7, 13, 18}, sentence = {
        "The capacity of an active node with the weight w is 1 plus 32 * w * (100 + slack) / "
        + "(100 * W), rounded down, where the slack is a number from 0 to 100, at first 25."})
    static void capacitiesAreRoundedDown() {
        Check.same("the slack at first", Stores.after("n1;n1;").node(0, 2), 21);
        capacities("n1;n1;", 1, new int[][] {{0, 17}, {6, 17}, {7, 18}, {12, 18}, {13, 19},
            {24, 20}, {25, 21}, {26, 21}, {93, 31}, {94, 32}, {99, 32}, {100, 33}});
        capacities("n1;", 0, new int[][] {{0, 33}, {3, 33}, {4, 34}, {24, 40}, {25, 41},
            {26, 41}, {100, 65}});
        capacities("n5;", 0, new int[][] {{0, 33}, {3, 33}, {4, 34}, {100, 65}});
        capacities(EIGHT, 7, new int[][] {{0, 5}, {1, 5}, {24, 5}, {25, 6}, {26, 6}, {49, 6},
            {50, 7}, {99, 8}, {100, 9}});
        String light = "n1;n5;n5;n5;n5;n5;n5;n5;";
        capacities(light, 0, new int[][] {{0, 1}, {12, 1}, {13, 2}, {100, 2}});
        capacities(light, 7, new int[][] {{0, 5}, {12, 5}, {13, 6}, {34, 6}, {35, 7}, {100, 9}});
        capacities("n1;n2;", 0, new int[][] {{0, 11}, {3, 11}, {4, 12}, {100, 22}});
        capacities("n1;n2;", 1, new int[][] {{0, 22}, {3, 22}, {4, 23}, {100, 43}});
    }

    private static void capacities(String script, int node, int[][] due) {
        ShardRebalancer x = Stores.after(script);
        for (int[] row : due) {
            x.set(0, row[0]);
            Check.same("the capacity with the slack " + row[0] + " after " + script,
                    x.node(node, 2), row[1]);
        }
    }

    @Says(promise = {7, 10, 13}, sentence = "Let W be the sum of the weights of all active nodes.")
    static void onlyActiveNodesCountForTheCapacity() {
        ShardRebalancer x = Stores.after("n1;n5;n4;");
        Check.same("the capacity for W = 10", x.node(0, 2), 1 + 4);
        x.drain(1);
        Check.same("the capacity for W = 5", x.node(0, 2), 1 + 8);
        x.fail(2);
        Check.same("the capacity for W = 1", x.node(0, 2), 1 + 40);
        Check.same("the capacity of a draining node", x.node(1, 2), 0);
        Check.same("the capacity of a node that is down", x.node(2, 2), 0);
        x.tick(1);
        Check.same("the capacity of a node that has left", x.node(1, 2), 0);
        x.recover(2);
        Check.same("the capacity for W = 5 again", x.node(0, 2), 1 + 8);
        x.setWeight(0, 5);
        Check.same("the capacity for w = 5, W = 9", x.node(0, 2), 1 + 22);
    }

    @Says(promise = {7, 13}, sentence = "The target of each shard is found in ascending order of "
            + "shards: the points are passed in the order of the ring, beginning with the "
            + "successor of the place of the shard, up to the first one whose node is the target "
            + "of fewer shards so far than its capacity; this node is the target.")
    static void aNodeTakesShardsUpToItsCapacity() {
        ShardRebalancer x = Stores.after("n1;n1;");
        int[] slacks = {24, 25, 31, 32};
        int[] capacities = {20, 21, 21, 22};
        int[] last = {21, 22, 22, 23};
        for (int i = 0; i < slacks.length; i++) {
            x.set(0, slacks[i]);
            Check.same("the capacity", x.node(0, 2), capacities[i]);
            Check.same("it is reached", x.node(0, 4), capacities[i]);
            Check.same("the others", x.node(1, 4), 32 - capacities[i]);
            Check.same("the target of the last one that fits", x.shard(last[i], 2), 0);
            Check.same("none is skipped for it", x.shard(last[i], 7), 0);
            Check.same("the target of the next one", x.shard(last[i] + 1, 2), 1);
            Check.same("node 0 is skipped for it", x.shard(last[i] + 1, 7), 1);
        }
        Check.same("a shard that comes to node 1 first", x.shard(14, 2), 1);
        Check.same("none is skipped for that", x.shard(14, 7), 0);
    }

    @Says(promise = {7, 13}, sentence = "beginning with the successor of the place of the shard")
    static void aPointAtTheVeryPlaceOfAShard() {
        ShardRebalancer x = Stores.after("n1;n1;n1;n1;n1;n1;n1;f1;f2;f3;f4;f5;");
        x.set(0, 100);
        Check.same("the place of shard 26", x.shard(26, 0), 672);
        int at = x.successor(672);
        Check.same("the point at its place", x.point(at, 0), 672);
        Check.same("the node of that point", x.point(at, 1), 0);
        Check.same("the next point's node", x.point(at + 1, 1), 6);
        Check.same("the target of shard 26", x.shard(26, 2), 0);
        Check.same("the target of shard 28, before it", x.shard(28, 2), 0);
    }

    @Says(promise = 13, sentence =
            "The nodes of points that are passed before it are skipped.")
    static void noneOneAndSeveralNodesAreSkipped() {
        ShardRebalancer one = Stores.after("n3;");
        for (int s = 0; s < 32; s++) {
            Check.same("skipped for shard " + s + " of one node", one.shard(s, 7), 0);
        }
        ShardRebalancer two = Stores.after("n1;n1;");
        Check.same("a node with two points that are passed", two.shard(24, 7), 1);
        ShardRebalancer four = Stores.after("n1;n1;n1;n1;");
        int[][] due = {{0, 0}, {19, 0}, {20, 8}, {22, 0}, {23, 9}, {24, 1}, {25, 9}, {31, 8}};
        for (int[] row : due) {
            Check.same("skipped for shard " + row[0] + " of four nodes", four.shard(row[0], 7),
                    row[1]);
            Check.same("the target is not skipped",
                    four.shard(row[0], 7) >> four.shard(row[0], 2) & 1, 0);
        }
    }

    @Says(promise = {7, 13}, sentence = "Without active nodes, there are no targets.")
    static void noTargetsWithoutActiveNodes() {
        String[] scripts = {"", "n5;d0;", "n5;f0;", "n1;t50;t50;d0;", "n1;t50;f0;", "n1;d0;t1;"};
        for (String script : scripts) {
            ShardRebalancer x = Stores.after(script);
            for (int s = 0; s < 32; s++) {
                Check.same("the target after " + script, x.shard(s, 2), -1);
            }
            for (int n = 0; n < 8; n++) {
                Check.same("targets of node " + n, x.node(n, 4), 0);
            }
        }
        ShardRebalancer x = Stores.after("n1;n1;f0;");
        Check.same("all are targets of the only active node", x.node(1, 4), 32);
    }

    @Says(promise = 15, sentence = {
        "Returns the number of shards whose owner is not their target, or that have no owner.",
        "Returns the number of shards."})
    static void pendingFromAllToNone() {
        Check.same("pending() of a new store", new ShardRebalancer().pending(), 32);
        ShardRebalancer x = Stores.withOneShard();
        Check.same("pending() with one shard at its target", x.pending(), 31);
        x.tick(50);
        x.tick(50);
        x.tick(49);
        Check.same("the time", x.statistic(0), 151);
        Check.same("pending() with all but one", x.pending(), 1);
        x.tick(1);
        Check.same("pending() with all", x.pending(), 0);
        x.drain(0);
        Check.same("pending() of owned shards without targets", x.pending(), 32);
        x.recover(0);
        x.addNode(1);
        Check.same("pending() with two nodes", x.pending(), 11);
        x.drain(0);
        Check.same("pending() when all must move", x.pending(), 32);
    }

    @Says(promise = 16, sentence = {"Returns the number of shards whose target would be another "
            + "one, or none, if an active node had another weight.", "`node`: the node",
        "`weight`: the weight, 1 to 5, or 0 if it were not active",
        "Returns the number of shards."})
    static void changedIfTakesWeightsFrom0To5() {
        for (int old = 1; old <= 5; old++) {
            for (int weight = 0; weight <= 5; weight++) {
                ShardRebalancer x = Stores.after("n3;n" + old + ";n2;");
                ShardRebalancer changed = Stores.after("n3;n" + old + ";n2;");
                if (weight == 0) {
                    changed.fail(1);
                } else {
                    changed.setWeight(1, weight);
                }
                int due = 0;
                for (int s = 0; s < 32; s++) {
                    due += x.shard(s, 2) != changed.shard(s, 2) ? 1 : 0;
                }
                Check.same("changedIf(1, " + weight + ") of the weight " + old,
                        x.changedIf(1, weight), due);
            }
        }
        ShardRebalancer only = Stores.after("n3;");
        int[] due = {32, 0, 0, 0, 0, 0};
        for (int weight = 0; weight <= 5; weight++) {
            Check.same("changedIf(0, " + weight + ") of the only node",
                    only.changedIf(0, weight), due[weight]);
        }
        ShardRebalancer last = Stores.after(EIGHT);
        Check.same("changedIf(7, 5) of eight nodes", last.changedIf(7, 5), 0);
        Check.holds("changedIf(7, 0) of eight nodes", last.changedIf(7, 0) >= last.node(7, 4));
    }

    @Says(promise = 16, sentence = "Nothing changes.")
    static void changedIfChangesNothing() {
        for (int weight = 0; weight <= 5; weight++) {
            int w = weight;
            Boundary.unchanged(Stores::busy, "changedIf(0, " + w + ")", x -> x.changedIf(0, w));
        }
        Boundary.unchanged(Stores::settled, "changedIf(0, 0)", x -> x.changedIf(0, 0));
    }

    @Says(promise = 16, sentence = "Throws `IndexOutOfBoundsException` if there is no such node")
    static void changedIfRefusesOtherNodes() {
        for (int n : new int[] {-1, 8, LEAST, GREATEST}) {
            for (int weight : new int[] {-1, 0, 5, 6}) {
                Boundary.refused(Stores::busy, "changedIf(" + n + ", " + weight + ")",
                        Boundary.INDEX, x -> x.changedIf(n, weight));
            }
        }
    }

    @Says(promise = 16, sentence =
            "Throws `IllegalArgumentException` if the weight is out of range")
    static void changedIfRefusesOtherWeights() {
        for (int weight : new int[] {-1, 6, LEAST, GREATEST}) {
            for (int n : new int[] {0, 1, 2, 7}) {
                Boundary.refused(Stores::busy, "changedIf(" + n + ", " + weight + ")",
                        Boundary.ARGUMENT, x -> x.changedIf(n, weight));
            }
        }
    }

    @Says(promise = 16, sentence = "Throws `IllegalStateException` if the node is not active")
    static void changedIfRefusesNodesThatAreNotActive() {
        for (int weight : new int[] {0, 1, 5}) {
            for (int n : new int[] {1, 2, 7}) {
                Boundary.refused(Stores::busy, "changedIf(" + n + ", " + weight + ")",
                        Boundary.STATE, x -> x.changedIf(n, weight));
            }
            Boundary.refused("", "changedIf(0, " + weight + ") of a new store", Boundary.STATE,
                    x -> x.changedIf(0, weight));
        }
        Check.same("changedIf of one that recovered", Stores.after("n1;f0;r0;").changedIf(0, 1),
                0);
    }

    @Says(promise = 17, sentence = {
        "Returns the least slack with which no node is skipped for any shard.",
        "Returns the slack."})
    static void leastSlackFrom0To100() {
        leastSlack("n1;", 0);
        leastSlack("n5;n5;f0;", 0);
        leastSlack("n2;n1;n5;d1;", 1);
        leastSlack("n1;n1;n4;n1;f0;f1;", 2);
        leastSlack("n1;n1;", 75);
        leastSlack("n2;n3;n1;n4;", 98);
        leastSlack("n3;n1;n3;n1;", 100);
    }

    @Says(promise = 17, sentence =
            "Returns the least slack with which no node is skipped for any shard.")
    static void leastSlackForEachNodeThatNeedsIt() {
        for (int node = 0; node < 8; node++) {
            ShardRebalancer x = Stores.after("n1;n1;n1;n1;n1;n1;n1;n1;");
            for (int n = 0; n < 8; n++) {
                x.setWeight(n, n == node ? 1 : 5);
            }
            String answer = Check.outcome(x::leastSlack);
            int due = 0;
            while (due <= 100 && skips(node, due)) {
                due++;
            }
            Check.same("leastSlack() with the light node " + node, answer,
                    due > 100 ? "NoSuchElementException" : String.valueOf((double) due));
        }
    }

    private static boolean skips(int lightNode, int slack) {
        StringBuilder script = new StringBuilder();
        for (int n = 0; n < 8; n++) {
            script.append(n == lightNode ? "n1;" : "n5;");
        }
        return Stores.skipped(script.toString(), slack) != 0;
    }

    @Says(promise = 17, sentence =
            "Throws `NoSuchElementException` if there is none from 0 to 100")
    static void leastSlackRefusesMoreThan100() {
        leastSlack("n3;n1;n3;n1;", 100);
        leastSlack("n1;n1;n3;n4;n3;n5;", 102);
        leastSlack("n1;n2;n2;n5;", 104);
    }

    /**
     * Compares the answer with what is skipped with the least slack and with the one below. No
     * weights at all need 99 or 101, so 98, 100 and 102 are the nearest that can be asked for.
     */
    private static void leastSlack(String script, int due) {
        if (due > 100) {
            Boundary.refused(script, "leastSlack() after " + script,
                    NoSuchElementException.class, x -> x.leastSlack());
        } else {
            ShardRebalancer x = Stores.after(script);
            Check.same("leastSlack() after " + script, x.leastSlack(), due);
            Check.same("leastSlack() again", x.leastSlack(), due);
            Check.same("skipped with it", Stores.skipped(script, due), 0);
        }
        if (due > 0) {
            Check.holds("skipped with less", Stores.skipped(script, Math.min(due - 1, 100)) > 0);
        }
    }

    @Says(promise = 17, sentence = "Throws `IllegalStateException` if no node is active")
    static void leastSlackRefusesStoresWithoutActiveNodes() {
        for (String script : new String[] {"", "n3;d0;", "n3;f0;", "n3;n1;d0;f1;", "n1;d0;t1;"}) {
            Boundary.refused(script, "leastSlack() after " + script, Boundary.STATE,
                    x -> x.leastSlack());
        }
        Check.same("leastSlack() of one active node of three",
                Stores.after("n3;n1;n2;d0;f1;").leastSlack(), 0);
    }

    @Says(promise = 18, sentence = {"Returns the greatest fill of an active node: the number of "
            + "shards that it owns, as a double, divided by its capacity.",
        "Returns the greatest of these quotients."})
    static void greatestFillFromNoneToFull() {
        Check.same("greatestFill() without shards", Stores.after("n1;").greatestFill(), 0.0);
        Check.same("greatestFill() with one shard", Stores.withOneShard().greatestFill(),
                1 / 41.0);
        ShardRebalancer all = Stores.settled();
        Check.same("greatestFill() with all shards", all.greatestFill(), 32 / 41.0);
        all.addNode(1);
        Check.same("greatestFill() above 1", all.greatestFill(), 32 / 21.0);
        all.tick(50);
        all.tick(50);
        Check.same("greatestFill() of a full node", all.greatestFill(), 1.0);
        all.drain(0);
        Check.same("greatestFill() of the other node", all.greatestFill(), 11 / 41.0);
        ShardRebalancer light = Stores.settled();
        light.set(0, 0);
        Stores.run(light, "n5;n5;n5;n5;n5;n5;n5;");
        Check.same("greatestFill() with the capacity 1", light.greatestFill(), 32.0);
        ShardRebalancer second = Stores.after("n1;n1;f0;t50;t50;r0;");
        Check.same("greatestFill() of the second node", second.greatestFill(), 32 / 21.0);
        ShardRebalancer last = Stores.after("n1;n1;n1;n1;n1;n1;n1;n1;f0;f1;f2;f3;f4;f5;f6;t9;");
        Check.same("greatestFill() of node 7", last.greatestFill(), last.node(7, 3) / 41.0);
        Check.holds("it owns some", last.node(7, 3) > 0);
    }

    @Says(promise = 18, sentence = "Throws `ArithmeticException` if no node is active")
    static void greatestFillRefusesStoresWithoutActiveNodes() {
        String[] scripts = {"", "n3;d0;", "n3;f0;", "n1;t50;t50;d0;", "n1;t50;t50;f0;",
            "n1;d0;t1;"};
        for (String script : scripts) {
            Boundary.refused(script, "greatestFill() after " + script, ArithmeticException.class,
                    x -> x.greatestFill());
        }
    }
}
