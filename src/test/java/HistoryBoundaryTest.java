import java.util.function.Consumer;
import java.util.function.Supplier;

/** The boundaries that the document names for undo and snapshots: promises 29 to 31. */
final class HistoryBoundaryTest {
    private static final String CHANGES = "Takes back the latest change that was not taken back: "
            + "a successful call of addNode, drain, fail, recover, setWeight, set, tick, forget or "
            + "perform.";
    private static final String SIX = "At most 6 changes can be taken back.";
    private static final String LEFT = "Returns the number of changes that can still be taken "
            + "back.";
    private static final String SAVES = "Saves everything but the input buffer and what can be "
            + "taken back, in place of what was saved before.";
    private static final String NODES = "Returns the number of nodes that are not absent.";

    public static void main(String[] args) {
        Boundary.runAll(HistoryBoundaryTest.class);
    }

    private static Supplier<ShardRebalancer> then(Supplier<ShardRebalancer> recipe,
            Consumer<ShardRebalancer> act) {
        return () -> {
            ShardRebalancer x = recipe.get();
            act.accept(x);
            return x;
        };
    }

    /** A store with nodes that drain and are down, with moves and events; one change made it. */
    private static ShardRebalancer base() {
        return Stores.after("n2;n3;n1;t30;d2;f1;t1;n1;t1;");
    }

    /** A store whose only node had the weights 1, 2, 3, 4, 5, 1, .. one after the other. */
    private static ShardRebalancer withChanges(int changes) {
        ShardRebalancer x = new ShardRebalancer();
        for (int i = 0; i < changes; i++) {
            double answer = i == 0 ? x.addNode(1) : x.setWeight(0, 1 + i % 5);
            Check.same("the answer of the change " + i, answer, i == 0 ? 0 : 1 + (i - 1) % 5);
        }
        return x;
    }

    @Says(promise = 29, sentence = CHANGES)
    static void eachKindOfChangeIsTakenBack() {
        takenBack("addNode(5)", x -> x.addNode(5));
        takenBack("drain(0)", x -> x.drain(0));
        takenBack("fail(0)", x -> x.fail(0));
        takenBack("fail(2)", x -> x.fail(2));
        takenBack("recover(1)", x -> x.recover(1));
        takenBack("recover(2)", x -> x.recover(2));
        takenBack("setWeight(0, 5)", x -> x.setWeight(0, 5));
        takenBack("set(0, 100)", x -> x.set(0, 100));
        takenBack("set(1, 8)", x -> x.set(1, 8));
        takenBack("set(2, 20)", x -> x.set(2, 20));
        takenBack("tick(1)", x -> x.tick(1));
        takenBack("tick(50)", x -> x.tick(50));
        takenBack("forget of some events", x -> Check.holds("forgotten",
                x.forget(x.event(0, 2)) > 0));
        takenBack("perform", x -> Check.same("perform", Stores.run(x, "n5;t9;d0;w1=1;t50;"), 5));
    }

    private static void takenBack(String what, Consumer<ShardRebalancer> change) {
        Supplier<ShardRebalancer> base = HistoryBoundaryTest::base;
        Stores.same("undo of " + what, Stores.whole(then(then(base, change), x ->
                Check.same("changes before " + what, x.undo(), 1))), Stores.whole(base));
    }

    @Says(promise = 29, sentence = CHANGES)
    static void otherCallsAreNoChanges() {
        ShardRebalancer x = base();
        x.feed('n');
        x.save();
        x.forecast();
        x.changedIf(0, 1);
        x.leastSlack();
        Check.outcome(() -> x.addNode(0));
        Check.outcome(() -> x.drain(1));
        Check.outcome(() -> x.fail(1));
        Check.outcome(() -> x.recover(0));
        Check.outcome(() -> x.setWeight(0, 6));
        Check.outcome(() -> x.set(0, 101));
        Check.outcome(() -> x.tick(51));
        Check.outcome(() -> x.forget(32));
        Check.same("perform() of what is no script", x.perform(), -101);
        Check.refused("perform() of what cannot be", UnsupportedOperationException.class,
                () -> Stores.run(x, "n1;t0;"));
        Check.same("undo() takes back the script before", x.undo(), 0);
        Check.same("the nodes then", x.nodes(0), 255);
    }

    @Says(promise = 29, sentence = LEFT)
    static void undoTellsWhatIsLeft() {
        ShardRebalancer x = new ShardRebalancer();
        x.addNode(1);
        Check.same("undo() of one change", x.undo(), 0);
        for (int i = 1; i <= 6; i++) {
            x.set(0, i);
        }
        for (int left = 5; left >= 0; left--) {
            Check.same("undo() of six changes", x.undo(), left);
        }
    }

    @Says(promise = 29, sentence = SIX)
    static void fiveSixAndSevenChanges() {
        for (int changes = 0; changes <= 20; changes++) {
            ShardRebalancer x = withChanges(changes);
            int possible = Math.min(changes, 6);
            for (int left = possible - 1; left >= 0; left--) {
                Check.same("undo() of " + changes + " changes", x.undo(), left);
                int stay = changes - possible + left;
                Check.same("the weight after " + stay + " changes", x.node(0, 1),
                        stay == 0 ? 0 : 1 + (stay - 1) % 5);
            }
            Check.refused("undo() of a change too many", Boundary.STATE, x::undo);
            Check.same("the nodes then", x.nodes(1), changes - possible > 0 ? 1 : 0);
        }
    }

    @Says(promise = 29, sentence = {CHANGES, SIX})
    static void changesAfterChangesThatWereTakenBack() {
        ShardRebalancer x = withChanges(9);
        Check.same("undo()", x.undo(), 5);
        Check.same("undo()", x.undo(), 4);
        Check.same("the weight of then", x.node(0, 1), 1 + 6 % 5);
        x.setWeight(0, 5);
        Check.same("undo() of the new change", x.undo(), 4);
        Check.same("the weight before it", x.node(0, 1), 2);
        for (int i = 0; i < 3; i++) {
            x.setWeight(0, 5 - i);
        }
        Check.same("undo() of the last of three new changes", x.undo(), 5);
        Check.same("the weight before it", x.node(0, 1), 4);
        for (int left = 4; left >= 0; left--) {
            Check.same("undo()", x.undo(), left);
        }
        Check.same("the weight of then", x.node(0, 1), 4);
        Check.refused("undo()", Boundary.STATE, x::undo);
        x.tick(1);
        Check.same("undo() of a change after all were taken back", x.undo(), 0);
    }

    @Says(promise = 29, sentence = "Throws `IllegalStateException` if there is none")
    static void undoRefusesWhereNoChangeIsLeft() {
        Boundary.refused("", "undo() of a new store", Boundary.STATE, ShardRebalancer::undo);
        Boundary.refused(then(HistoryBoundaryTest::base, ShardRebalancer::undo),
                "undo() of the only change again", Boundary.STATE, ShardRebalancer::undo);
        Boundary.refused(then(HistoryBoundaryTest::base, x -> {
            x.save();
            x.restore();
        }), "undo() after restore()", Boundary.STATE, ShardRebalancer::undo);
        Boundary.refused(then(() -> withChanges(7), x -> {
            for (int i = 0; i < 6; i++) {
                x.undo();
            }
        }), "undo() of a seventh change", Boundary.STATE, ShardRebalancer::undo);
    }

    @Says(promise = 30, sentence = SAVES)
    static void saveSavesAllOfTheState() {
        Supplier<ShardRebalancer> saved = then(Stores::busy, ShardRebalancer::save);
        Supplier<ShardRebalancer> changed = then(saved, x -> {
            x.set(0, 3);
            x.set(1, 8);
            x.set(2, 1);
            x.forget(x.event(5, 2));
            x.addNode(5);
            x.recover(1);
            x.setWeight(0, 5);
            x.tick(50);
            x.tick(50);
        });
        Stores.same("the state that is restored", Stores.whole(then(changed,
                ShardRebalancer::restore)), Stores.whole(then(saved, ShardRebalancer::restore)));
        Stores.same("what is asked then", Stores.picture(then(changed, ShardRebalancer::restore)),
                Stores.picture(Stores::busy));
    }

    @Says(promise = 30, sentence = SAVES)
    static void saveLeavesTheBufferAndTheHistory() {
        ShardRebalancer x = Stores.after("n1;");
        x.feed('t');
        x.tick(1);
        x.save();
        x.feed('7');
        Check.same("undo() after save()", x.undo(), 1);
        Check.same("the time", x.statistic(0), 0);
        x.feed(';');
        Check.same("restore()", x.restore(), 1);
        Check.same("the time that was saved", x.statistic(0), 1);
        Check.same("perform() of what was fed before, between and after", x.perform(), 1);
        Check.same("the time then", x.statistic(0), 8);
        Check.same("undo() after restore() and perform()", x.undo(), 0);
        Check.same("the time that was saved", x.statistic(0), 1);
        x.perform();
        Stores.same("save() leaves what can be taken back",
                Stores.whole(then(then(() -> withChanges(7), ShardRebalancer::save),
                        ShardRebalancer::save)),
                Stores.whole(then(() -> withChanges(7), ShardRebalancer::save)));
    }

    @Says(promise = 30, sentence = SAVES)
    static void theLatestSaveCounts() {
        ShardRebalancer x = Stores.after("n1;");
        x.save();
        x.tick(1);
        x.save();
        x.tick(1);
        x.restore();
        Check.same("the time that was saved last", x.statistic(0), 1);
    }

    @Says(promise = 30, sentence = NODES)
    static void saveCountsTheNodes() {
        Check.same("save() without nodes", new ShardRebalancer().save(), 0);
        String[] scripts = {"n1;", "n1;d0;", "n1;f0;", "n1;d0;t1;", "n1;n1;d0;t1;",
            "n1;n2;n3;n4;n5;n1;n2;n3;", "n1;n2;n3;n4;n5;n1;n2;n3;d0;f7;d3;",
            "n1;n2;n3;n4;n5;n1;n2;n3;d0;f7;d3;t1;"};
        int[] due = {1, 1, 1, 0, 1, 8, 8, 6};
        for (int i = 0; i < due.length; i++) {
            Check.same("save() after " + scripts[i], Stores.after(scripts[i]).save(), due[i]);
        }
    }

    @Says(promise = 31, sentence = "No change can be taken back afterwards.")
    static void noChangeIsLeftAfterRestore() {
        for (int changes = 0; changes <= 7; changes++) {
            ShardRebalancer x = withChanges(changes);
            x.save();
            x.restore();
            Check.refused("undo() of " + changes + " changes", Boundary.STATE, x::undo);
            Check.same("the weight that was saved", x.node(0, 1),
                    changes == 0 ? 0 : 1 + (changes - 1) % 5);
            x.tick(1);
            Check.same("undo() of a later change", x.undo(), 0);
        }
    }

    @Says(promise = 31, sentence = "Restores what was saved, which stays saved.")
    static void restoreAgainAndAgain() {
        ShardRebalancer x = Stores.after("n1;t5;");
        x.save();
        for (int i = 0; i < 8; i++) {
            for (int j = 0; j < i; j++) {
                x.tick(1);
            }
            Check.same("restore() after " + i + " changes", x.restore(), 1);
            Check.same("the time that was saved", x.statistic(0), 5);
            Check.refused("undo() then", Boundary.STATE, x::undo);
        }
        x.tick(1);
        Check.same("undo() of a later change", x.undo(), 0);
        Check.same("the time that was saved", x.statistic(0), 5);
        Check.refused("undo() again", Boundary.STATE, x::undo);
    }

    @Says(promise = 31, sentence = NODES)
    static void restoreCountsTheNodesOfThen() {
        String eight = "n1;n2;n3;n4;n5;n1;n2;n3;";
        ShardRebalancer none = new ShardRebalancer();
        none.save();
        Stores.run(none, eight);
        Check.same("restore() of no node", none.restore(), 0);
        Check.same("the nodes then", none.nodes(0), 255);
        ShardRebalancer all = Stores.after(eight + "d0;f7;");
        all.save();
        all.tick(1);
        Check.same("node 0 has left", all.nodes(0), 1);
        Check.same("restore() of eight nodes", all.restore(), 8);
        Check.same("the nodes then", all.nodes(0), 0);
    }

    @Says(promise = 31, sentence = "Throws `IllegalStateException` if nothing was saved")
    static void restoreRefusesWhereNothingWasSaved() {
        Boundary.refused("", "restore() of a new store", Boundary.STATE,
                ShardRebalancer::restore);
        Boundary.refused(HistoryBoundaryTest::base, "restore() without save()", Boundary.STATE,
                ShardRebalancer::restore);
        Boundary.refused(() -> withChanges(7), "restore() after seven changes", Boundary.STATE,
                ShardRebalancer::restore);
        ShardRebalancer x = base();
        x.save();
        x.undo();
        Check.same("restore() after save() and undo()", x.restore(), 4);
    }
}
