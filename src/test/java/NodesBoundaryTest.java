/** The boundaries that the document names for the nodes and the settings: promises 1 to 9. */
final class NodesBoundaryTest {
    private static final int LEAST = Integer.MIN_VALUE;
    private static final int GREATEST = Integer.MAX_VALUE;
    private static final String EIGHT = "n1;n2;n3;n4;n5;n1;n2;n3;";

    public static void main(String[] args) {
        Boundary.runAll(NodesBoundaryTest.class);
    }

    @Says(promise = 1, sentence = "Creates a store without nodes.")
    static void aNewStoreIsEmpty() {
        ShardRebalancer x = new ShardRebalancer();
        Check.same("all nodes are absent", x.nodes(0), 255);
        Check.same("points()", x.points(), 0);
        Check.same("pending()", x.pending(), 32);
        Check.same("moves()", x.moves(), 0);
        Check.same("events()", x.events(), 0);
        for (int what = 0; what <= 6; what++) {
            Check.same("statistic(" + what + ")", x.statistic(what), 0);
        }
        Check.refused("undo()", Boundary.STATE, x::undo);
        Check.refused("restore()", Boundary.STATE, x::restore);
        Check.same("perform() of the empty buffer", x.perform(), -100);
    }

    @Says(promise = 1, sentence = "Creates a store without nodes.")
    static void twoStoresShareNothing() {
        ShardRebalancer first = Stores.busy();
        Stores.same("a store made after another one", Stores.whole(ShardRebalancer::new),
                Stores.whole(() -> Stores.after("")));
        ShardRebalancer second = new ShardRebalancer();
        second.addNode(5);
        second.tick(50);
        Check.same("the first store's time", first.statistic(0), 23);
        Check.same("the first store's weight", first.node(0, 1), 2);
        Check.same("the first store's buffer", first.feed('n'), 4);
    }

    @Says(promise = {2, 3, 4, 5, 6, 7, 16}, sentence = "There are nodes with numbers from 0 to 7.")
    static void nodesAreNumberedFrom0To7() {
        ShardRebalancer x = Stores.after(EIGHT);
        for (int n : new int[] {0, 1, 6, 7}) {
            Check.same("node(" + n + ", 0)", x.node(n, 0), 1);
            Check.same("setWeight(" + n + ", 5)", x.setWeight(n, 5), 1 + n % 5);
            Check.same("changedIf(" + n + ", 5)", x.changedIf(n, 5), 0);
            Check.same("drain(" + n + ")", x.drain(n), 0);
            Check.same("fail(" + n + ")", x.fail(n), 0);
            Check.same("recover(" + n + ")", x.recover(n), 3);
        }
        for (int n : new int[] {-1, 8, 16, 255, LEAST, GREATEST}) {
            Check.refused("node(" + n + ", 0)", Boundary.INDEX, () -> x.node(n, 0));
            Check.refused("setWeight(" + n + ", 1)", Boundary.INDEX, () -> x.setWeight(n, 1));
            Check.refused("changedIf(" + n + ", 1)", Boundary.INDEX, () -> x.changedIf(n, 1));
            Check.refused("drain(" + n + ")", Boundary.INDEX, () -> x.drain(n));
            Check.refused("fail(" + n + ")", Boundary.INDEX, () -> x.fail(n));
            Check.refused("recover(" + n + ")", Boundary.INDEX, () -> x.recover(n));
        }
    }

    @Says(promise = {2, 3, 4, 5, 7, 8}, sentence = "A node is absent (state 0), active (1), "
            + "draining (2) or down (3); at first all are absent.")
    static void eachStateHasItsNumber() {
        ShardRebalancer x = new ShardRebalancer();
        for (int n = 0; n < 8; n++) {
            Check.same("node(" + n + ", 0) at first", x.node(n, 0), 0);
        }
        Stores.run(x, "n1;n1;n1;n1;d1;f2;");
        int[] due = {1, 2, 3, 1, 0, 0, 0, 0};
        for (int n = 0; n < 8; n++) {
            Check.same("node(" + n + ", 0)", x.node(n, 0), due[n]);
        }
        x.drain(3);
        Check.same("a draining node", x.node(3, 0), 2);
        x.fail(3);
        Check.same("a node that fails while it drains", x.node(3, 0), 3);
        x.recover(3);
        Check.same("a node that recovers", x.node(3, 0), 1);
        x.drain(3);
        x.tick(1);
        Check.same("a node that has left", x.node(3, 0), 0);
    }

    @Says(promise = {2, 6, 7}, sentence = "A node that is not absent has a weight from 1 to 5.")
    static void weightsAreFrom1To5() {
        for (int weight = 1; weight <= 5; weight++) {
            ShardRebalancer x = new ShardRebalancer();
            Check.same("addNode(" + weight + ")", x.addNode(weight), 0);
            Check.same("its weight", x.node(0, 1), weight);
            Check.same("setWeight(0, " + (6 - weight) + ")", x.setWeight(0, 6 - weight), weight);
            Check.same("the weight then", x.node(0, 1), 6 - weight);
        }
        for (int weight : new int[] {0, 6, -1, 10, LEAST, GREATEST}) {
            Boundary.refused("n2;", "addNode(" + weight + ")", Boundary.ARGUMENT,
                    x -> x.addNode(weight));
            Boundary.refused("n2;", "setWeight(0, " + weight + ")", Boundary.ARGUMENT,
                    x -> x.setWeight(0, weight));
        }
    }

    @Says(promise = 2, sentence = {
        "Adds a node: the absent node with the lowest number becomes active.", "Returns the node."})
    static void theLowestAbsentNodeIsAdded() {
        ShardRebalancer x = new ShardRebalancer();
        for (int n = 0; n <= 7; n++) {
            Check.same("addNode with " + n + " nodes", x.addNode(1 + n % 5), n);
            Check.same("nodes that are active", x.nodes(1), (2 << n) - 1);
        }
        int[][] gaps = {{0}, {7}, {3, 6}, {0, 7}, {1, 2, 4}};
        for (int[] gap : gaps) {
            ShardRebalancer y = Stores.after(EIGHT);
            for (int n : gap) {
                y.drain(n);
            }
            y.tick(1);
            for (int n : gap) {
                Check.same("addNode fills the gap", y.addNode(4), n);
                Check.same("its state", y.node(n, 0), 1);
                Check.same("its weight", y.node(n, 1), 4);
            }
            Check.same("all are active", y.nodes(1), 255);
        }
    }

    @Says(promise = 2, sentence =
            "Adds a node: the absent node with the lowest number becomes active.")
    static void nodesThatDrainOrAreDownAreNotAbsent() {
        ShardRebalancer x = Stores.after("n1;n1;n1;d0;f1;");
        Check.same("addNode behind a draining one and one that is down", x.addNode(2), 3);
        Check.same("the draining one", x.node(0, 0), 2);
        Check.same("the one that is down", x.node(1, 0), 3);
        x.tick(1);
        Check.same("addNode when the draining one has left", x.addNode(2), 0);
    }

    @Says(promise = 2, sentence = {"`weight`: the weight",
        "Throws `IllegalArgumentException` if the weight is out of range"})
    static void addNodeRefusesOtherWeights() {
        for (int weight : new int[] {0, 6, -1, LEAST, GREATEST}) {
            Boundary.refused(Stores::busy, "addNode(" + weight + ")", Boundary.ARGUMENT,
                    x -> x.addNode(weight));
            Boundary.refused(EIGHT, "addNode(" + weight + ") with no absent node",
                    Boundary.ARGUMENT, x -> x.addNode(weight));
        }
        Check.same("addNode(1)", new ShardRebalancer().addNode(1), 0);
        Check.same("addNode(5)", new ShardRebalancer().addNode(5), 0);
    }

    @Says(promise = 2, sentence = "Throws `IllegalStateException` if no node is absent")
    static void addNodeRefusesANinthNode() {
        Check.same("addNode with seven nodes", Stores.after("n1;n1;n1;n1;n1;n1;n1;").addNode(1), 7);
        String[] full = {EIGHT, EIGHT + "f0;f1;f2;f3;f4;f5;f6;f7;", EIGHT + "d0;d7;f3;"};
        for (String script : full) {
            for (int weight = 1; weight <= 5; weight += 4) {
                int w = weight;
                Boundary.refused(script, "addNode(" + w + ") with eight nodes", Boundary.STATE,
                        x -> x.addNode(w));
            }
        }
        ShardRebalancer x = Stores.after(EIGHT + "d4;t1;");
        Check.same("addNode when one has left", x.addNode(1), 4);
        Check.refused("addNode then", Boundary.STATE, () -> x.addNode(1));
    }

    @Says(promise = 3, sentence = {"Makes an active node draining.", "`node`: the node"})
    static void drainMakesAnActiveNodeDraining() {
        for (int n : new int[] {0, 7}) {
            ShardRebalancer x = Stores.after(EIGHT);
            x.drain(n);
            Check.same("the node", x.node(n, 0), 2);
            Check.same("the others", x.nodes(1), 255 - (1 << n));
            Check.same("its weight", x.node(n, 1), n == 0 ? 1 : 3);
            Check.same("its capacity", x.node(n, 2), 0);
        }
        ShardRebalancer last = Stores.settled();
        last.drain(0);
        Check.same("no node is active", last.nodes(1), 0);
        Check.same("no points are left", last.points(), 0);
    }

    @Says(promise = 3, sentence = "Returns the number of shards that it owns.")
    static void drainTellsTheShards() {
        Check.same("drain with no shard", Stores.after("n1;t1;").drain(0), 0);
        Check.same("drain with one shard", Stores.withOneShard().drain(0), 1);
        Check.same("drain with all shards", Stores.settled().drain(0), 32);
        ShardRebalancer x = Stores.settled();
        x.addNode(1);
        Check.same("drain of the other node", x.drain(1), 0);
    }

    @Says(promise = 3, sentence =
            "Throws `IndexOutOfBoundsException` if there is no such node, or it is absent")
    static void drainRefusesNodesThatAreNotThere() {
        for (int n : new int[] {-1, 8, 7, LEAST, GREATEST}) {
            Boundary.refused(Stores::busy, "drain(" + n + ")", Boundary.INDEX, x -> x.drain(n));
        }
        Boundary.refused("", "drain(0) of a new store", Boundary.INDEX, x -> x.drain(0));
        Boundary.refused("n1;n1;d1;t1;", "drain(1) of a node that has left", Boundary.INDEX,
                x -> x.drain(1));
    }

    @Says(promise = 3, sentence = "Throws `IllegalStateException` if it is not active")
    static void drainRefusesNodesThatAreNotActive() {
        Boundary.refused("n1;t9;d0;", "drain(0) of a draining node", Boundary.STATE,
                x -> x.drain(0));
        Boundary.refused("n1;t9;f0;", "drain(0) of a node that is down", Boundary.STATE,
                x -> x.drain(0));
        Boundary.refused("n1;t9;d0;f0;", "drain(0) of one that failed while it drained",
                Boundary.STATE, x -> x.drain(0));
        Check.same("drain(0) of one that recovered", Stores.after("n1;f0;r0;").drain(0), 0);
    }

    @Says(promise = 4, sentence = {"Makes an active or draining node down.", "`node`: the node"})
    static void failMakesANodeDown() {
        for (int n : new int[] {0, 7}) {
            ShardRebalancer active = Stores.after(EIGHT);
            active.fail(n);
            Check.same("an active node", active.node(n, 0), 3);
            Check.same("the others", active.nodes(1), 255 - (1 << n));
            Check.same("its weight", active.node(n, 1), n == 0 ? 1 : 3);
            ShardRebalancer draining = Stores.after(EIGHT + "d0;d7;");
            draining.fail(n);
            Check.same("a draining node", draining.node(n, 0), 3);
            Check.same("the other draining one", draining.node(7 - n, 0), 2);
        }
        ShardRebalancer x = Stores.after("n1;f0;");
        x.tick(50);
        Check.same("a node that is down without shards stays", x.node(0, 0), 3);
    }

    @Says(promise = 4, sentence = "Returns the number of shards that it owns.")
    static void failTellsTheShards() {
        Check.same("fail with no shard", Stores.after("n1;t1;").fail(0), 0);
        Check.same("fail with one shard", Stores.withOneShard().fail(0), 1);
        Check.same("fail with all shards", Stores.settled().fail(0), 32);
        ShardRebalancer x = Stores.settled();
        x.drain(0);
        Check.same("fail of a draining node with all shards", x.fail(0), 32);
    }

    @Says(promise = 4, sentence =
            "Throws `IndexOutOfBoundsException` if there is no such node, or it is absent")
    static void failRefusesNodesThatAreNotThere() {
        for (int n : new int[] {-1, 8, 7, LEAST, GREATEST}) {
            Boundary.refused(Stores::busy, "fail(" + n + ")", Boundary.INDEX, x -> x.fail(n));
        }
        Boundary.refused("", "fail(0) of a new store", Boundary.INDEX, x -> x.fail(0));
        Boundary.refused("n1;n1;d1;t1;", "fail(1) of a node that has left", Boundary.INDEX,
                x -> x.fail(1));
    }

    @Says(promise = 4, sentence = "Throws `IllegalStateException` if it is down")
    static void failRefusesANodeThatIsDown() {
        Boundary.refused("n1;t9;f0;", "fail(0) of a node that is down", Boundary.STATE,
                x -> x.fail(0));
        Boundary.refused("n1;t9;d0;f0;t9;", "fail(0) of one without shards", Boundary.STATE,
                x -> x.fail(0));
        Check.same("fail(0) of one that recovered", Stores.after("n1;f0;r0;").fail(0), 0);
    }

    @Says(promise = 5, sentence = {"Makes a draining node or one that is down active.",
        "`node`: the node", "Returns its previous state."})
    static void recoverMakesANodeActive() {
        for (int n : new int[] {0, 7}) {
            ShardRebalancer x = Stores.after(EIGHT + "d0;f7;");
            Check.same("recover(" + n + ")", x.recover(n), n == 0 ? 2 : 3);
            Check.same("its state", x.node(n, 0), 1);
            Check.same("the others", x.nodes(1), 255 - (1 << 7 - n));
            Check.same("its weight", x.node(n, 1), n == 0 ? 1 : 3);
        }
        Check.same("recover of one that failed while it drained",
                Stores.after("n1;d0;f0;").recover(0), 3);
        ShardRebalancer late = Stores.after("n1;t50;t50;f0;t9;");
        Check.same("recover without shards", late.recover(0), 3);
        Check.same("its shards are lost", late.node(0, 3), 0);
    }

    @Says(promise = 5, sentence =
            "Throws `IndexOutOfBoundsException` if there is no such node, or it is absent")
    static void recoverRefusesNodesThatAreNotThere() {
        for (int n : new int[] {-1, 8, 7, LEAST, GREATEST}) {
            Boundary.refused(Stores::busy, "recover(" + n + ")", Boundary.INDEX,
                    x -> x.recover(n));
        }
        Boundary.refused("", "recover(0) of a new store", Boundary.INDEX, x -> x.recover(0));
        Boundary.refused("n1;n1;d1;t1;", "recover(1) of a node that has left", Boundary.INDEX,
                x -> x.recover(1));
    }

    @Says(promise = 5, sentence = "Throws `IllegalStateException` if it is active")
    static void recoverRefusesAnActiveNode() {
        Boundary.refused("n1;t9;", "recover(0) of an active node", Boundary.STATE,
                x -> x.recover(0));
        Boundary.refused("n1;t9;d0;r0;", "recover(0) of one that has recovered", Boundary.STATE,
                x -> x.recover(0));
    }

    @Says(promise = 6, sentence = {"Sets the weight of a node.", "`node`: the node",
        "Returns the previous weight."})
    static void setWeightSetsAndTellsThePreviousOne() {
        ShardRebalancer x = Stores.after("n3;n2;n2;d1;f2;");
        Check.same("setWeight(0, 1)", x.setWeight(0, 1), 3);
        Check.same("setWeight(0, 1) again", x.setWeight(0, 1), 1);
        Check.same("setWeight(0, 5)", x.setWeight(0, 5), 1);
        Check.same("setWeight(0, 2)", x.setWeight(0, 2), 5);
        Check.same("setWeight(1, 5) of a draining node", x.setWeight(1, 5), 2);
        Check.same("setWeight(2, 1) of one that is down", x.setWeight(2, 1), 2);
        int[] due = {2, 5, 1, 0};
        for (int n = 0; n < due.length; n++) {
            Check.same("the weight of node " + n, x.node(n, 1), due[n]);
        }
        Check.same("the states", x.node(0, 0) * 100 + x.node(1, 0) * 10 + x.node(2, 0), 123);
        ShardRebalancer eight = Stores.after(EIGHT);
        Check.same("setWeight(7, 1)", eight.setWeight(7, 1), 3);
        Check.same("the weight of node 7", eight.node(7, 1), 1);
        Check.same("the points", eight.points(), 4 * (1 + 2 + 3 + 4 + 5 + 1 + 2 + 1));
    }

    @Says(promise = 6, sentence =
            "Throws `IndexOutOfBoundsException` if there is no such node, or it is absent")
    static void setWeightRefusesNodesThatAreNotThere() {
        for (int n : new int[] {-1, 8, 7, LEAST, GREATEST}) {
            for (int weight : new int[] {0, 1, 5, 6}) {
                Boundary.refused(Stores::busy, "setWeight(" + n + ", " + weight + ")",
                        Boundary.INDEX, x -> x.setWeight(n, weight));
            }
        }
        Boundary.refused("n1;n1;d1;t1;", "setWeight(1, 1) of a node that has left",
                Boundary.INDEX, x -> x.setWeight(1, 1));
    }

    @Says(promise = 6, sentence = {"`weight`: the weight",
        "Throws `IllegalArgumentException` if the weight is out of range"})
    static void setWeightRefusesOtherWeights() {
        for (int weight : new int[] {0, 6, -1, LEAST, GREATEST}) {
            for (int node = 0; node <= 2; node++) {
                int n = node;
                Boundary.refused(Stores::busy, "setWeight(" + n + ", " + weight + ")",
                        Boundary.ARGUMENT, x -> x.setWeight(n, weight));
            }
        }
    }

    @Says(promise = 7, sentence = {"Returns a number about a node.", "`node`: the node, 0 to 7",
        "Returns the number.", "`what`: 0 its state; 1 its weight, 0 if it is absent; "
        + "2 its capacity, 0 if it is not active; 3 the number of shards that it owns; "
        + "4 the number of shards whose target it is; 5 the sum of the sizes of the shards that "
        + "it owns; 6 the number of moves whose destination it is"})
    static void nodeTellsEachNumber() {
        same("a new store", new ShardRebalancer(), 0, new int[] {0, 0, 0, 0, 0, 0, 0});
        same("a new store", new ShardRebalancer(), 7, new int[] {0, 0, 0, 0, 0, 0, 0});
        same("a node just added", Stores.after("n4;"), 0, new int[] {1, 4, 41, 0, 32, 0, 0});
        same("two moves to it", Stores.after("n5;t1;"), 0, new int[] {1, 5, 41, 0, 32, 0, 2});
        same("one shard", Stores.withOneShard(), 0, new int[] {1, 1, 41, 1, 32, 1, 1});
        same("all shards", Stores.settled(), 0, new int[] {1, 1, 41, 32, 32, 151, 0});
        ShardRebalancer draining = Stores.settled();
        draining.drain(0);
        same("a draining node", draining, 0, new int[] {2, 1, 0, 32, 0, 151, 0});
        draining.fail(0);
        same("a node that is down", draining, 0, new int[] {3, 1, 0, 32, 0, 151, 0});
        draining.tick(5);
        same("one that has lost all shards", draining, 0, new int[] {3, 1, 0, 0, 0, 0, 0});
        same("a node that has left", Stores.after("n5;d0;t1;"), 0, new int[7]);
        same("the last node", Stores.after("n1;n1;n1;n1;n1;n1;n1;n5;d0;d1;d2;d3;d4;d5;d6;t1;"),
                7, new int[] {1, 5, 41, 0, 32, 0, 2});
    }

    @Says(promise = 7, sentence = "6 the number of moves whose destination it is")
    static void nodeTellsMovesToANodeThatIsDown() {
        ShardRebalancer x = Stores.after("n5;t1;f0;");
        Check.same("moves to it until the next tick", x.node(0, 6), 2);
        x.tick(1);
        Check.same("moves to it then", x.node(0, 6), 0);
        ShardRebalancer y = Stores.after("n5;t1;d0;");
        Check.same("moves to a draining node until the next tick", y.node(0, 6), 2);
        y.tick(1);
        Check.same("moves to a node that has left", y.node(0, 6), 0);
    }

    @Says(promise = 7, sentence = "Throws `IndexOutOfBoundsException` if there is no such node")
    static void nodeRefusesOtherNodes() {
        for (int n : new int[] {-1, 8, LEAST, GREATEST}) {
            for (int what : new int[] {-1, 0, 6, 7}) {
                Boundary.refused(Stores::busy, "node(" + n + ", " + what + ")", Boundary.INDEX,
                        x -> x.node(n, what));
            }
        }
    }

    @Says(promise = 7, sentence = "Throws `IllegalArgumentException` if what is out of range")
    static void nodeRefusesOtherParts() {
        for (int what : new int[] {-1, 7, LEAST, GREATEST}) {
            for (int n : new int[] {0, 7}) {
                Boundary.refused(Stores::busy, "node(" + n + ", " + what + ")",
                        Boundary.ARGUMENT, x -> x.node(n, what));
            }
        }
    }

    @Says(promise = 8, sentence = {"Returns the nodes that are in a state.",
        "`state`: the state, 0 to 3", "Returns the set of nodes, bit n for node n."})
    static void nodesTellsNoneAndAllForEachState() {
        String drains = "d0;d1;d2;d3;d4;d5;d6;d7;";
        String fails = "f0;f1;f2;f3;f4;f5;f6;f7;";
        ShardRebalancer[] stores = {new ShardRebalancer(), Stores.after(EIGHT),
            Stores.after(EIGHT + drains), Stores.after(EIGHT + fails)};
        for (int state = 0; state <= 3; state++) {
            for (int asked = 0; asked <= 3; asked++) {
                Check.same("nodes(" + asked + ") with all in state " + state,
                        stores[state].nodes(asked), asked == state ? 255 : 0);
            }
        }
        ShardRebalancer ends = Stores.after(EIGHT + "d0;f7;");
        Check.same("node 0 drains", ends.nodes(2), 1);
        Check.same("node 7 is down", ends.nodes(3), 128);
        Check.same("the others are active", ends.nodes(1), 126);
        ends.tick(1);
        Check.same("node 0 has left", ends.nodes(0), 1);
    }

    @Says(promise = 8, sentence =
            "Throws `IllegalArgumentException` if there is no such state")
    static void nodesRefusesOtherStates() {
        for (int state : new int[] {-1, 4, LEAST, GREATEST}) {
            Boundary.refused(Stores::busy, "nodes(" + state + ")", Boundary.ARGUMENT,
                    x -> x.nodes(state));
        }
    }

    @Says(promise = 9, sentence = {"Sets a setting.", "`value`: the new value",
        "`what`: 0 the slack, 1 the budget, 2 the lease length", "Returns the previous value."})
    static void setTakesTheEndsOfEachRange() {
        int[] atFirst = {25, 3, 5};
        int[] least = {0, 1, 1};
        int[] greatest = {100, 8, 20};
        for (int what = 0; what <= 2; what++) {
            ShardRebalancer x = new ShardRebalancer();
            int w = what;
            String set = "set(" + what + ", ";
            Check.same(set + least[what] + ")", x.set(what, least[what]), atFirst[what]);
            Check.same(set + "least + 1)", x.set(what, least[what] + 1), least[what]);
            Check.same(set + "greatest)", x.set(what, greatest[what]), least[what] + 1);
            Check.same(set + "greatest - 1)", x.set(what, greatest[what] - 1), greatest[what]);
            Check.refused(set + "greatest + 1)", Boundary.ARGUMENT,
                    () -> x.set(w, greatest[w] + 1));
            Check.refused(set + "least - 1)", Boundary.ARGUMENT, () -> x.set(w, least[w] - 1));
            Check.same(set + "the same)", x.set(what, greatest[what] - 1), greatest[what] - 1);
            for (int other = 0; other <= 2; other++) {
                Check.same("setting " + other, x.set(other, 2),
                        other == what ? greatest[what] - 1 : atFirst[other]);
            }
        }
    }

    @Says(promise = 9, sentence =
            "Throws `IllegalArgumentException` if what or the value is out of range")
    static void setRefusesOtherSettingsAndValues() {
        int[][] wrong = {{0, -1}, {0, 101}, {0, LEAST}, {0, GREATEST}, {1, 0}, {1, 9}, {1, LEAST},
            {1, GREATEST}, {2, 0}, {2, 21}, {2, LEAST}, {2, GREATEST}, {-1, 5}, {3, 5}, {-1, 0},
            {3, 101}, {LEAST, 1}, {GREATEST, 1}};
        for (int[] call : wrong) {
            Boundary.refused(Stores::busy, "set(" + call[0] + ", " + call[1] + ")",
                    Boundary.ARGUMENT, x -> x.set(call[0], call[1]));
        }
    }

    private static void same(String what, ShardRebalancer x, int node, int[] due) {
        for (int i = 0; i < due.length; i++) {
            Check.same(what + ": node(" + node + ", " + i + ")", x.node(node, i), due[i]);
        }
    }
}
