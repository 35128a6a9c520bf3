import java.util.NoSuchElementException;

/** The boundaries in the paragraph "Details" of the document, a test for each sentence. */
final class DetailsBoundaryTest {
    public static void main(String[] args) {
        Boundary.runAll(DetailsBoundaryTest.class);
    }

    @Says(promise = 19, sentence =
            "A move is cancelled if its source is down, even while the lease of the shard lasts.")
    static void cancelledWhileTheLeaseLasts() {
        ShardRebalancer x = Stores.settled();
        Stores.run(x, "n3;t1;f0;t1;");
        Check.same("the time", x.statistic(0), 102);
        Check.same("the lease", x.shard(4, 4), 106);
        Check.same("the owner", x.shard(4, 3), 0);
        Check.same("the moves", x.moves(), 0);
        Check.same("the events", Stores.events(x, 2), "102 2 4 1, 102 2 10 1");
        x.tick(3);
        Check.same("no move begins while the lease lasts", x.statistic(1), 34);
        x.tick(1);
        Check.same("moves when it has run out", Stores.moves(x), "4 -1 1 0, 10 -1 1 0");
    }

    @Says(promise = {13, 14, 23}, sentence = "Shards without an owner are not served.")
    static void notServedWithoutAnOwner() {
        ShardRebalancer x = Stores.after("n1;t1;");
        for (int s = 0; s < 32; s++) {
            Check.same("shard(" + s + ", 5)", x.shard(s, 5), 0);
        }
        Check.refused("route(0)", NoSuchElementException.class, () -> x.route(0));
        Check.same("the unserved time", x.statistic(5), 32);
        ShardRebalancer lost = Stores.after("n1;t50;t50;f0;t5;r0;");
        Check.same("shard(0, 5) when the owner is lost", lost.shard(0, 5), 0);
        Check.refused("route(0) then", NoSuchElementException.class, () -> lost.route(0));
    }

    @Says(promise = {13, 15}, sentence =
            "Without active nodes no node is skipped, and all shards are pending.")
    static void noneIsSkippedAndAllArePending() {
        String[] scripts = {"", "n1;n1;d0;d1;", "n1;n1;f0;f1;", "n1;t50;t50;d0;",
            "n1;t50;t50;f0;", "n1;n1;t50;t50;d0;f1;", "n1;d0;t1;"};
        for (String script : scripts) {
            ShardRebalancer x = Stores.after(script);
            Check.same("pending() after " + script, x.pending(), 32);
            for (int s = 0; s < 32; s++) {
                Check.same("shard(" + s + ", 7) after " + script, x.shard(s, 7), 0);
            }
        }
        ShardRebalancer x = Stores.after("n1;t50;t50;d0;r0;");
        Check.same("pending() with an active node", x.pending(), 0);
    }

    @Says(promise = {19, 20}, sentence = "The moves of a destination, and those that the budget "
            + "counts, are all moves that there are, those that have begun in this tick included.")
    static void movesOfThisTickAndOfEarlierOnesCount() {
        ShardRebalancer one = Stores.after("n1;");
        one.set(1, 8);
        one.tick(1);
        Check.same("two to a destination in one tick", Stores.moves(one), "4 -1 0 0, 10 -1 0 0");
        ShardRebalancer x = Stores.after("n1;n1;n1;n1;t1;");
        Check.same("the budget of one tick", Stores.moves(x), "4 -1 3 0, 10 -1 0 0, 14 -1 3 0");
        x.tick(1);
        Check.same("all have ended", Stores.moves(x), "15 -1 3 0, 2 -1 0 0, 25 -1 1 0");
        x.tick(1);
        Check.same("two earlier ones and a new one", Stores.moves(x),
                "2 -1 0 1, 25 -1 1 1, 27 -1 1 0");
        x.tick(1);
        Check.same("an earlier one and two new ones", Stores.moves(x),
                "27 -1 1 1, 1 -1 0 0, 3 -1 3 0");
        x.set(1, 8);
        x.tick(1);
        Check.same("two to each destination with earlier ones", Stores.moves(x),
                "1 -1 0 1, 3 -1 3 1, 8 -1 0 0, 16 -1 3 0, 24 -1 2 0, 31 -1 1 0, 23 -1 1 0, "
                + "29 -1 2 0");
    }

    @Says(promise = 19, sentence = "All moves are gone through in a tick, also behind one that "
            + "ends or is cancelled.")
    static void movesBehindOthersAreGoneThrough() {
        ShardRebalancer ends = Stores.after("n1;t2;");
        Check.same("both end", Stores.events(ends, 4), "2 1 4 0, 2 1 10 0, 2 0 14 0, 2 0 15 0");
        ShardRebalancer x = Stores.after("n1;n1;");
        x.set(1, 8);
        x.set(0, 0);
        x.tick(2);
        Check.same("the moves", Stores.moves(x), "25 -1 1 1, 15 -1 0 0, 2 -1 0 0, 27 -1 1 0");
        x.set(0, 100);
        x.tick(1);
        Check.same("one is cancelled, one ends, one goes on, one is cancelled",
                Stores.events(x, 6),
                "3 2 25 1, 3 1 15 0, 3 2 27 1, 3 0 25 0, 3 0 31 1, 3 0 17 1");
        Check.same("the moves then", Stores.moves(x),
                "2 -1 0 1, 25 -1 0 0, 31 -1 1 0, 17 -1 1 0");
        ShardRebalancer all = Stores.after("n1;n1;n1;n1;");
        all.set(1, 8);
        all.tick(1);
        Stores.run(all, "f0;f1;f2;f3;t1;");
        Check.same("all eight are cancelled", all.moves(), 0);
        Check.same("in their order", Stores.events(all, 8), "2 2 4 3, 2 2 10 0, 2 2 14 3, "
                + "2 2 2 0, 2 2 25 1, 2 2 27 1, 2 2 24 2, 2 2 29 2");
    }

    @Says(promise = {19, 21}, sentence =
            "A move that begins has the progress 0 at the end of this tick.")
    static void theProgressAtTheEndOfTheFirstTicks() {
        ShardRebalancer x = Stores.after("n1;n1;n1;n1;");
        int[][] due = {{0, 0, 0}, {0, 0, 0}, {1, 1, 0}, {1, 0, 0}, {1, 1, 0}};
        for (int ticks = 1; ticks <= due.length; ticks++) {
            x.tick(1);
            for (int i = 0; i < 3; i++) {
                Check.same("the progress of the move " + i + " at the time " + ticks,
                        x.move(i, 3), due[ticks - 1][i]);
            }
        }
    }

    @Says(promise = 19, sentence = "A draining node leaves in its first tick without shards, also "
            + "if it never had one.")
    static void aNodeWithoutShardsLeavesAtOnce() {
        ShardRebalancer x = Stores.after("n1;n1;d0;");
        Check.same("before the tick", x.node(0, 0), 2);
        x.tick(1);
        Check.same("after its first tick", x.node(0, 0), 0);
        Check.same("the event", Stores.events(x, 1), "1 4 -1 0");
        ShardRebalancer late = Stores.settled();
        Stores.run(late, "n5;d0;t50;t28;");
        Check.same("with its last shard", late.node(0, 3), 1);
        Check.same("it drains", late.node(0, 0), 2);
        late.tick(1);
        Check.same("in the first tick without a shard", late.node(0, 0), 0);
        ShardRebalancer lost = Stores.after("n1;t9;f0;t9;r0;d0;");
        Check.same("one that has lost its shards", lost.node(0, 3), 0);
        lost.tick(1);
        Check.same("leaves", lost.node(0, 0), 0);
    }

    @Says(promise = 14, sentence = "Only a node that is active or draining serves a key.")
    static void keysAreServedInTwoStates() {
        for (int key = -20; key <= 20; key++) {
            int k = key;
            ShardRebalancer x = Stores.settled();
            Check.same("route(" + key + ") of an active node", x.route(k), 0);
            x.drain(0);
            Check.same("route(" + key + ") of a draining node", x.route(k), 0);
            x.fail(0);
            Check.refused("route(" + key + ") of a node that is down",
                    NoSuchElementException.class, () -> x.route(k));
            x.tick(5);
            Check.refused("route(" + key + ") without an owner", NoSuchElementException.class,
                    () -> x.route(k));
        }
    }

    @Says(promise = 16, sentence = "If a single active node were not active, all shards would "
            + "change.")
    static void allChangeWithoutTheSingleActiveNode() {
        for (int weight = 1; weight <= 5; weight++) {
            ShardRebalancer x = Stores.after("n" + weight + ";");
            Check.same("changedIf(0, 0) of the weight " + weight, x.changedIf(0, 0), 32);
        }
        Check.same("changedIf beside nodes that are not active",
                Stores.after("n1;n2;n3;d0;f2;").changedIf(1, 0), 32);
        ShardRebalancer two = Stores.after("n1;n1;");
        Check.same("changedIf(0, 0) of two nodes", two.changedIf(0, 0), 21);
        Check.same("changedIf(1, 0) of two nodes", two.changedIf(1, 0), 11);
    }

    @Says(promise = 17, sentence = "The least slack is asked for all slacks from 0 on, whatever "
            + "the slack is.")
    static void theSlackDoesNotMatterForTheLeastOne() {
        String[] scripts = {"n1;", "n2;n1;n5;d1;", "n3;n1;n3;n1;", "n1;n2;n2;n5;"};
        String[] due = {"0.0", "1.0", "100.0", "NoSuchElementException"};
        for (int i = 0; i < scripts.length; i++) {
            for (int slack : new int[] {0, 1, 2, 25, 99, 100}) {
                ShardRebalancer x = Stores.after(scripts[i]);
                x.set(0, slack);
                Check.same("leastSlack() with the slack " + slack + " after " + scripts[i],
                        Check.outcome(x::leastSlack), due[i]);
                Check.same("the slack then", x.set(0, slack), slack);
            }
        }
    }

    @Says(promise = 22, sentence = "A forecast of 0 does not tell whether it stays so; 300 ticks "
            + "are tried.")
    static void aForecastOf0IsOfNow() {
        ShardRebalancer x = Stores.settled();
        Check.same("forecast()", x.forecast(), 0);
        x.addNode(5);
        Check.holds("forecast() with another node", x.forecast() > 0);
        x.fail(1);
        Check.same("forecast() when that is down, moves or not", x.forecast(), 0);
        ShardRebalancer moving = Stores.settled();
        Stores.run(moving, "n5;t1;f1;");
        Check.same("moves go on", moving.moves(), 2);
        Check.same("forecast() while moves go on that are not wanted", moving.forecast(), 0);
        ShardRebalancer longest = Stores.settled();
        longest.set(1, 1);
        longest.set(2, 20);
        Stores.run(longest, "t1;f0;n1;");
        Check.same("the longest forecast", longest.forecast(), 171);
        longest.fail(1);
        Check.refused("forecast() without end", NoSuchElementException.class,
                longest::forecast);
    }

    @Says(promise = {9, 13, 19}, sentence = "Leases that are set anew use the lease length as it "
            + "is then.")
    static void leasesUseTheLengthOfTheirTick() {
        ShardRebalancer x = Stores.after("n1;n1;t50;t50;f1;");
        Check.same("the lease before", x.shard(4, 4), 105);
        x.set(2, 20);
        Check.same("the lease until the next tick", x.shard(4, 4), 105);
        x.tick(1);
        Check.same("the lease set anew", x.shard(4, 4), 121);
        Check.same("the lease that lasts", x.shard(14, 4), 105);
        x.set(2, 1);
        x.tick(1);
        Check.same("the lease set anew", x.shard(4, 4), 103);
        x.tick(2);
        Check.same("the owner of the one that lasts", x.shard(14, 3), 1);
        x.tick(1);
        Check.same("when it has run out", x.shard(14, 3), -1);
        ShardRebalancer ending = Stores.after("n1;t1;");
        ending.set(2, 9);
        ending.tick(1);
        Check.same("the lease of a move that ends", ending.shard(4, 4), 11);
    }

    @Says(promise = {6, 10}, sentence = "Weights of nodes that are not active have no effect until "
            + "they are.")
    static void weightsHaveNoEffectYet() {
        for (String change : new String[] {"d1;", "f1;"}) {
            ShardRebalancer x = Stores.after("n2;n2;t50;t50;" + change);
            Check.same("the points", x.points(), 8);
            Check.same("the weight before", x.setWeight(1, 5), 2);
            Check.same("its weight", x.node(1, 1), 5);
            Check.same("the points then", x.points(), 8);
            Check.same("the capacity of the other", x.node(0, 2), 41);
            Check.same("the targets of the other", x.node(0, 4), 32);
            Check.same("its capacity", x.node(1, 2), 0);
            x.recover(1);
            Check.same("the points with it", x.points(), 28);
            Check.same("its capacity", x.node(1, 2), 1 + 28);
            Check.same("the capacity of the other", x.node(0, 2), 1 + 11);
        }
    }

    @Says(promise = 28, sentence = "In scripts, numbers can have zeros at their beginning; a "
            + "number that a method does not allow is no syntax error.")
    static void zerosAtTheBeginning() {
        ShardRebalancer x = new ShardRebalancer();
        Check.same("n01;n05;", Stores.run(x, "n01;n05;"), 2);
        Check.same("the weights", x.node(0, 1) * 10 + x.node(1, 1), 15);
        Check.same("w00=02;d01;", Stores.run(x, "w00=02;d01;"), 2);
        Check.same("the weight and the state", x.node(0, 1) * 10 + x.node(1, 0), 22);
        Check.same("f01;r01;t01;t09;", Stores.run(x, "f01;r01;t01;t09;"), 4);
        Check.same("the time", x.statistic(0), 10);
        for (String script : new String[] {"n0;", "n00;", "n06;", "t00;", "t0;", "t51;", "d08;",
            "f99;", "r02;", "w00=00;", "w01=06;", "w02=01;"}) {
            Check.refused(script, UnsupportedOperationException.class,
                    () -> Stores.run(x, script));
        }
        Check.same("n000;", Stores.run(x, "n000;"), -103);
    }

    @Says(promise = {28, 29}, sentence = "A script is one change, as is a call of tick; a call is "
            + "a change also if nothing is different.")
    static void oneChangeEach() {
        ShardRebalancer x = new ShardRebalancer();
        Stores.run(x, "n1;n2;n3;n4;n5;n1;n2;n3;d0;d1;d2;d3;d4;d5;d6;t9;t9;");
        x.tick(50);
        Check.same("undo() of 50 ticks", x.undo(), 1);
        Check.same("the time", x.statistic(0), 18);
        Check.same("undo() of a script", x.undo(), 0);
        Check.same("the nodes", x.nodes(0), 255);
        ShardRebalancer same = Stores.after("n3;");
        same.setWeight(0, 3);
        same.set(0, 25);
        same.set(1, 3);
        same.set(2, 5);
        Check.same("forget(7)", same.forget(7), 0);
        for (int left = 5; left >= 0; left--) {
            Check.same("undo() of what made no difference", same.undo(), left);
            Check.same("the node", same.nodes(1), left == 0 ? 0 : 1);
        }
        ShardRebalancer pushed = Stores.after("n3;");
        for (int i = 0; i < 6; i++) {
            pushed.setWeight(0, 3);
        }
        for (int left = 5; left >= 0; left--) {
            Check.same("undo() of the same weight", pushed.undo(), left);
        }
        Check.refused("undo() of the node", Boundary.STATE, pushed::undo);
        Check.same("the node stays", pushed.nodes(1), 1);
    }

    @Says(promise = {23, 26}, sentence = "Events of a shard that are forgotten do not change the "
            + "statistics.")
    static void statisticsOutlastTheirEvents() {
        ShardRebalancer x = Stores.after("n1;t9;f0;t9;");
        int[] before = new int[7];
        for (int what = 0; what <= 6; what++) {
            before[what] = x.statistic(what);
        }
        Check.holds("there are events of each kind", before[2] > 0 && before[3] > 0
                && before[6] > 0);
        int forgotten = 0;
        for (int s = 0; s < 32; s++) {
            forgotten += x.forget(s);
        }
        Check.holds("events are forgotten", forgotten > 20);
        Check.same("no event is left", x.events(), 0);
        for (int what = 0; what <= 6; what++) {
            Check.same("statistic(" + what + ")", x.statistic(what), before[what]);
        }
    }
}
