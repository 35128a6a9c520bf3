import java.util.NoSuchElementException;
import java.util.function.Supplier;

/** The rules of the document that hold for every call, and the limit of 512 calls. */
final class RulesBoundaryTest {
    private static final String UNCHANGED = "A method that throws an exception or returns an error "
            + "code leaves the state unchanged, unless its description says otherwise.";
    private static final String FIRST = "If several exceptions apply, the one named first is "
            + "thrown.";

    public static void main(String[] args) {
        Boundary.runAll(RulesBoundaryTest.class);
    }

    /** A store with eight nodes, none absent, in the midst of moves. */
    private static ShardRebalancer full() {
        ShardRebalancer x = Stores.after("n1;n2;n3;n4;n5;n1;n2;n3;t30;d0;f7;t1;");
        x.feed('x');
        return x;
    }

    private static ShardRebalancer unsaved() {
        ShardRebalancer x = Stores.after("n1;n2;t9;");
        x.feed('n');
        return x;
    }

    @Says(promise = {1, 19, 23, 27}, sentence = "An object is used for at most 512 calls after it "
            + "has been made; what later calls answer is free.")
    static void the512thCallIsAnswered() {
        ShardRebalancer ticks = new ShardRebalancer();
        for (int i = 1; i <= 511; i++) {
            Check.same("tick(50), call " + i, ticks.tick(50), 50 * i);
        }
        Check.same("the unserved time, call 512", ticks.statistic(5), 511 * 50 * 32);
        ShardRebalancer changes = new ShardRebalancer();
        Check.same("addNode(1), call 1", changes.addNode(1), 0);
        for (int i = 2; i <= 511; i++) {
            changes.setWeight(0, 1 + i % 5);
        }
        Check.same("undo(), call 512", changes.undo(), 5);
        ShardRebalancer moves = Stores.after("n1;n2;n3;n4;n5;n1;n2;n3;");
        for (int i = 26; i <= 511; i++) {
            double answer = i % 2 == 0 ? moves.fail(i / 2 % 8) : moves.recover(i / 2 % 8);
            Check.holds("fail and recover, call " + i, answer >= 0);
        }
        Check.same("tick(50), call 512", moves.tick(50), 50);
    }

    @Says(promise = {2, 3, 4, 5, 7, 8}, sentence = UNCHANGED)
    static void theStoresThatRefuseAreInTheMidstOfAll() {
        ShardRebalancer busy = Stores.busy();
        for (int state = 0; state <= 3; state++) {
            Check.holds("a node in the state " + state, busy.nodes(state) != 0);
        }
        Check.holds("moves go on", busy.moves() > 0);
        Check.holds("shards are pending", busy.pending() > 0);
        Check.same("events are kept", busy.events(), 30);
        Check.same("characters are fed", busy.feed('n'), 4);
        Check.holds("there is a forecast", busy.forecast() > 0);
        Check.same("changes can be taken back", busy.undo(), 5);
        Check.same("a snapshot was saved", busy.restore(), 4);
        ShardRebalancer full = full();
        Check.same("no node is absent", full.nodes(0), 0);
        Check.holds("nodes drain and are down", full.nodes(2) != 0 && full.nodes(3) != 0);
        Check.holds("moves go on", full.moves() > 0);
    }

    @Says(promise = {2, 3, 4, 5, 6, 9, 16, 19, 26}, sentence = UNCHANGED)
    static void refusedCallsChangeNothing() {
        Supplier<ShardRebalancer> busy = Stores::busy;
        Supplier<ShardRebalancer> full = RulesBoundaryTest::full;
        Boundary.refused(full, "addNode(6)", Boundary.ARGUMENT, x -> x.addNode(6));
        Boundary.refused(full, "addNode(5)", Boundary.STATE, x -> x.addNode(5));
        Boundary.refused(busy, "drain(-1)", Boundary.INDEX, x -> x.drain(-1));
        Boundary.refused(busy, "drain(2)", Boundary.STATE, x -> x.drain(2));
        Boundary.refused(full, "fail(8)", Boundary.INDEX, x -> x.fail(8));
        Boundary.refused(full, "fail(7)", Boundary.STATE, x -> x.fail(7));
        Boundary.refused(busy, "recover(7)", Boundary.INDEX, x -> x.recover(7));
        Boundary.refused(busy, "recover(0)", Boundary.STATE, x -> x.recover(0));
        Boundary.refused(full, "setWeight(8, 5)", Boundary.INDEX, x -> x.setWeight(8, 5));
        Boundary.refused(full, "setWeight(7, 6)", Boundary.ARGUMENT, x -> x.setWeight(7, 6));
        Boundary.refused(full, "set(1, 9)", Boundary.ARGUMENT, x -> x.set(1, 9));
        Boundary.refused(full, "changedIf(0, 5)", Boundary.STATE, x -> x.changedIf(0, 5));
        Boundary.refused(full, "tick(51)", Boundary.ARGUMENT, x -> x.tick(51));
        Boundary.refused(full, "forget(32)", Boundary.INDEX, x -> x.forget(32));
    }

    @Says(promise = {28, 29, 31}, sentence = UNCHANGED)
    static void refusedCallsOfTheHistoryChangeNothing() {
        Boundary.refused(RulesBoundaryTest::unsaved, "restore()", Boundary.STATE,
                ShardRebalancer::restore);
        Boundary.refused(() -> {
            ShardRebalancer x = unsaved();
            x.undo();
            return x;
        }, "undo()", Boundary.STATE, ShardRebalancer::undo);
        for (String text : new String[] {"n", "n1;n1;t51;", "d0;f1;t9;x", ""}) {
            Stores.same("the state after perform() of " + text, Stores.whole(() -> {
                ShardRebalancer x = Stores.after("n1;n2;t9;");
                Check.outcome(() -> Stores.run(x, text));
                return x;
            }), Stores.whole(() -> Stores.after("n1;n2;t9;")));
        }
    }

    @Says(promise = {7, 11, 12, 13, 14, 17, 18, 21, 22, 23, 25}, sentence = UNCHANGED)
    static void refusedQuestionsChangeNothing() {
        Supplier<ShardRebalancer> down = () -> Stores.after("n1;t9;f0;t2;");
        Boundary.refused(Stores::busy, "node(8, 0)", Boundary.INDEX, x -> x.node(8, 0));
        Boundary.refused(Stores::busy, "point(-1, 0)", Boundary.INDEX, x -> x.point(-1, 0));
        Boundary.refused(down, "successor(5)", NoSuchElementException.class,
                x -> x.successor(5));
        Boundary.refused(Stores::busy, "shard(0, 8)", Boundary.ARGUMENT, x -> x.shard(0, 8));
        Boundary.refused(down, "route(5)", NoSuchElementException.class, x -> x.route(5));
        Boundary.refused(down, "leastSlack()", Boundary.STATE, x -> x.leastSlack());
        Boundary.refused(down, "greatestFill()", ArithmeticException.class,
                x -> x.greatestFill());
        Boundary.refused(Stores::busy, "move(0, 4)", Boundary.ARGUMENT, x -> x.move(0, 4));
        Boundary.refused(down, "forecast()", NoSuchElementException.class, x -> x.forecast());
        Boundary.refused(Stores::busy, "statistic(7)", Boundary.ARGUMENT, x -> x.statistic(7));
        Boundary.refused(Stores::busy, "event(0, 4)", Boundary.ARGUMENT, x -> x.event(0, 4));
    }

    @Says(promise = {2, 6, 7, 11, 12, 13, 16, 21, 25}, sentence = FIRST)
    static void theExceptionNamedFirstIsThrown() {
        ShardRebalancer full = full();
        Check.refused("addNode(0) with no absent node", Boundary.ARGUMENT,
                () -> full.addNode(0));
        Check.refused("setWeight(8, 0)", Boundary.INDEX, () -> full.setWeight(8, 0));
        ShardRebalancer x = Stores.busy();
        Check.refused("setWeight(7, 0) of an absent node", Boundary.INDEX,
                () -> x.setWeight(7, 0));
        Check.refused("node(-1, -1)", Boundary.INDEX, () -> x.node(-1, -1));
        Check.refused("node(8, 7)", Boundary.INDEX, () -> x.node(8, 7));
        Check.refused("point(-1, 3)", Boundary.INDEX, () -> x.point(-1, 3));
        Check.refused("point(n, -1)", Boundary.INDEX, () -> x.point(x.points(), -1));
        Check.refused("shard(32, 8)", Boundary.INDEX, () -> x.shard(32, 8));
        Check.refused("shard(-1, -1)", Boundary.INDEX, () -> x.shard(-1, -1));
        Check.refused("changedIf(8, 6), which is not active either", Boundary.INDEX,
                () -> x.changedIf(8, 6));
        Check.refused("changedIf(-1, -1), which is not active either", Boundary.INDEX,
                () -> x.changedIf(-1, -1));
        Check.refused("changedIf(1, 6) of a node that is down", Boundary.ARGUMENT,
                () -> x.changedIf(1, 6));
        Check.refused("changedIf(7, -1) of an absent node", Boundary.ARGUMENT,
                () -> x.changedIf(7, -1));
        Check.refused("changedIf(8, 1), which is not active either", Boundary.INDEX,
                () -> x.changedIf(8, 1));
        Check.refused("move(n, 4)", Boundary.INDEX, () -> x.move(x.moves(), 4));
        Check.refused("move(-1, -1)", Boundary.INDEX, () -> x.move(-1, -1));
        Check.refused("event(30, 4)", Boundary.INDEX, () -> x.event(30, 4));
        Check.refused("event(-1, -1)", Boundary.INDEX, () -> x.event(-1, -1));
        ShardRebalancer none = new ShardRebalancer();
        Check.refused("successor(-1) without points", Boundary.ARGUMENT,
                () -> none.successor(-1));
        Check.refused("successor(1024) without points", Boundary.ARGUMENT,
                () -> none.successor(1024));
    }

    @Says(promise = {7, 15, 17, 18, 22}, sentence = "All numbers are integers, apart from one "
            + "method that returns a floating-point number.")
    static void oneAnswerIsNoInteger() {
        ShardRebalancer x = Stores.withOneShard();
        double fill = x.greatestFill();
        Check.same("greatestFill()", fill * 41, 1);
        Check.holds("it is between 0 and 1", fill > 0 && fill < 1);
    }
}
