import java.util.HashSet;
import java.util.NoSuchElementException;
import java.util.Set;

/** The boundaries that the document names for owners, moves and ticks: promises 19 to 23. */
final class TicksBoundaryTest {
    private static final int LEAST = Integer.MIN_VALUE;
    private static final int GREATEST = Integer.MAX_VALUE;
    private static final String LEASES = "Second, for each shard with an owner, in ascending "
            + "order: if it is served, its lease becomes the time plus the lease length; if it is "
            + "not, and its lease is not greater than the time, it has no owner any more (event "
            + "3).";
    private static final String CANCELLED = "Third, for each move, in their order: it is "
            + "cancelled (event 2) if its destination is not the target of the shard, or its "
            + "source is not none and not the owner of the shard any more, or is down.";
    private static final String ENDS = "Otherwise its progress increases by 1; if it is the size "
            + "of the shard then, the move ends (event 1), the destination becomes the owner, and "
            + "the lease becomes the time plus the lease length.";
    private static final String BEGIN = "Fourth, moves begin (event 0), as long as there are "
            + "fewer than the budget says and there is a candidate.";
    private static final String CANDIDATE = "A candidate is a shard without a move that has a "
            + "target, which is not its owner and is the destination of fewer than two moves, and "
            + "whose owner, if it has one, is not down.";
    private static final String ORDER = "Candidates without an owner come before those whose "
            + "owner is draining, and these before the others; among these, the ones with a "
            + "lesser size come first, and then those with a lesser number.";
    private static final String LEAVES = "Fifth, each draining node that is the owner of no shard "
            + "becomes absent (event 4), in ascending order.";
    private static final String NUMBERED = "The moves are numbered from 0 in the order in which "
            + "they began; when one ends, the numbers of the later ones decrease by 1.";

    public static void main(String[] args) {
        Boundary.runAll(TicksBoundaryTest.class);
    }

    @Says(promise = {13, 14, 19}, sentence =
            "A shard has an owner, which is a node that is not absent, or none, as at first.")
    static void noOwnerIsAbsent() {
        ShardRebalancer x = new ShardRebalancer();
        for (int s = 0; s < 32; s++) {
            Check.same("the owner at first", x.shard(s, 3), -1);
        }
        ShardRebalancer alone = Stores.withOneShard();
        alone.drain(0);
        alone.tick(50);
        Check.same("an owner of one shard does not leave", alone.node(0, 0), 2);
        Check.same("the shard's owner", alone.shard(4, 3), 0);
        alone.fail(0);
        alone.tick(5);
        Check.same("the shard's owner when the lease has run out", alone.shard(4, 3), -1);
    }

    @Says(promise = {13, 14, 23}, sentence = "It is served if its owner is active or draining.")
    static void servedInTwoStatesOfTheOwner() {
        ShardRebalancer x = Stores.withOneShard();
        Check.same("an active owner", x.shard(4, 5), 1);
        Check.same("no owner", x.shard(10, 5), 0);
        x.drain(0);
        Check.same("a draining owner", x.shard(4, 5), 1);
        x.fail(0);
        Check.same("an owner that is down", x.shard(4, 5), 0);
        x.recover(0);
        Check.same("an owner that has recovered", x.shard(4, 5), 1);
    }

    @Says(promise = {13, 19}, sentence = "A shard with an owner has a lease, which is a time.")
    static void leasesCountFromTheTime() {
        ShardRebalancer x = Stores.after("n1;t1;");
        Check.same("no lease before the move ends", x.shard(4, 4), -1);
        x.tick(1);
        Check.same("the lease at the time 2", x.shard(4, 4), 7);
        x.tick(50);
        Check.same("the lease at the time 52", x.shard(4, 4), 57);
        x.fail(0);
        x.tick(5);
        Check.same("no lease without an owner", x.shard(4, 4), -1);
    }

    @Says(promise = {20, 21}, sentence = "A move has a shard, a source, which is the owner of the "
            + "shard when the move begins, or none, a destination, and a progress, at first 0.")
    static void movesWithAndWithoutASource() {
        ShardRebalancer x = Stores.after("n1;t1;");
        Check.same("moves without a source", Stores.moves(x), "4 -1 0 0, 10 -1 0 0");
        ShardRebalancer y = Stores.settled();
        Stores.run(y, "n3;t1;");
        Check.same("moves with a source", Stores.moves(y), "4 0 1 0, 10 0 1 0");
    }

    @Says(promise = {13, 20, 21}, sentence = "A shard has at most one move.")
    static void noShardHasTwoMoves() {
        ShardRebalancer x = Stores.after("n1;n1;n1;n1;");
        x.set(1, 8);
        for (int ticks = 1; ticks <= 20; ticks++) {
            x.tick(1);
            Set<Integer> shards = new HashSet<>();
            int moves = x.moves();
            for (int i = 0; i < moves; i++) {
                int s = x.move(i, 0);
                shards.add(s);
                Check.same("the number of the shard's move", x.shard(s, 6), i);
            }
            Check.same("shards that move", shards.size(), moves);
        }
        ShardRebalancer last = Stores.after("n1;t50;t22;");
        Check.same("the last two", Stores.moves(last), "13 -1 0 7, 22 -1 0 2");
        last.tick(2);
        Check.same("the very last one", Stores.moves(last), "22 -1 0 4");
    }

    @Says(promise = {20, 21}, sentence = NUMBERED)
    static void numbersDecreaseBehindAnEndedMove() {
        ShardRebalancer x = Stores.after("n1;n1;n1;n1;");
        x.set(1, 8);
        x.tick(1);
        Check.same("eight moves in the order in which they began", Stores.moves(x),
                "4 -1 3 0, 10 -1 0 0, 14 -1 3 0, 2 -1 0 0, 25 -1 1 0, 27 -1 1 0, 24 -1 2 0, "
                + "29 -1 2 0");
        x.tick(1);
        Check.same("the first three have ended", Stores.moves(x),
                "2 -1 0 1, 25 -1 1 1, 27 -1 1 1, 24 -1 2 1, 29 -1 2 1, 15 -1 3 0, 1 -1 0 0, "
                + "3 -1 3 0");
        x.tick(1);
        Check.same("three at the front and one in the midst have ended", Stores.moves(x),
                "24 -1 2 2, 29 -1 2 2, 1 -1 0 1, 3 -1 3 1, 8 -1 0 0, 16 -1 3 0, 31 -1 1 0, "
                + "23 -1 1 0");
        x.set(1, 1);
        x.tick(1);
        Check.same("the first one has ended", Stores.moves(x),
                "29 -1 2 3, 1 -1 0 2, 3 -1 3 2, 8 -1 0 1, 16 -1 3 1, 31 -1 1 1, 23 -1 1 1");
        x.tick(2);
        Check.same("all but the last one have ended", Stores.moves(x), "23 -1 1 3");
        x.tick(1);
        Check.same("the only one has ended", Stores.moves(x), "9 -1 0 0");
    }

    @Says(promise = {19, 23}, sentence = "The time is at first 0.")
    static void theTimeIsAtFirst0() {
        Check.same("the time of a new store", new ShardRebalancer().statistic(0), 0);
        Check.same("the time before a tick", Stores.after("n1;n2;d0;").statistic(0), 0);
        Check.same("the time after one tick", new ShardRebalancer().tick(1), 1);
    }

    @Says(promise = {19, 23}, sentence = "First, the time increases by 1.")
    static void timeIncreasesWithTicksAlone() {
        ShardRebalancer x = new ShardRebalancer();
        Check.same("tick(1)", x.tick(1), 1);
        Check.same("tick(1) again", x.tick(1), 2);
        Check.same("tick(50)", x.tick(50), 52);
        x.addNode(1);
        x.set(1, 2);
        x.forecast();
        x.drain(0);
        Check.same("the time after other calls", x.statistic(0), 52);
        ShardRebalancer y = Stores.after("n1;d0;t1;");
        Check.same("what happens in the first tick has the time 1", y.event(0, 0), 1);
    }

    @Says(promise = {9, 19}, sentence = "The lease length is a number from 1 to 20, at first 5; "
            + "the budget a number from 1 to 8, at first 3.")
    static void endsOfTheLeaseLengthAndTheBudget() {
        int[] lengths = {1, 2, 5, 19, 20};
        for (int length : lengths) {
            ShardRebalancer x = Stores.withOneShard();
            Check.same("the lease at first", x.shard(4, 4), 2 + 5);
            x.set(2, length);
            x.tick(1);
            Check.same("the lease with the length " + length, x.shard(4, 4), 3 + length);
            x.fail(0);
            if (length > 1) {
                x.tick(length - 1);
            }
            Check.same("the owner before its end", x.shard(4, 3), 0);
            x.tick(1);
            Check.same("the owner at its end", x.shard(4, 3), -1);
        }
        ShardRebalancer atFirst = Stores.after("n1;n1;n1;n1;n1;t1;");
        Check.same("moves with the first budget", atFirst.moves(), 3);
        for (int budget = 1; budget <= 8; budget++) {
            ShardRebalancer x = Stores.after("n1;n1;n1;n1;n1;");
            x.set(1, budget);
            x.tick(1);
            Check.same("moves with the budget " + budget, x.moves(), budget);
        }
    }

    @Says(promise = {13, 19}, sentence = LEASES)
    static void aLeaseThatIsLessEqualOrGreater() {
        ShardRebalancer x = Stores.settled();
        Check.same("the lease when the node fails", x.shard(0, 4), 105);
        x.fail(0);
        x.tick(4);
        for (int s = 0; s < 32; s++) {
            Check.same("the owner at the time 104", x.shard(s, 3), 0);
            Check.same("the lease at the time 104", x.shard(s, 4), 105);
        }
        Check.same("no event 3 yet", x.statistic(6), 0);
        x.tick(1);
        for (int s = 0; s < 32; s++) {
            Check.same("the owner at the time 105", x.shard(s, 3), -1);
        }
        Check.same("leases that ran out", x.statistic(6), 32);
        for (int i = 0; i < 30; i++) {
            Check.same("the shard of the event " + i + ", in ascending order", x.event(i, 2),
                    2 + i);
        }
        Check.same("the first event kept", Stores.events(x, 30).substring(0, 9), "105 3 2 0");
    }

    @Says(promise = {13, 19}, sentence = LEASES)
    static void aLeaseOfAServedShardIsRenewed() {
        ShardRebalancer x = Stores.settled();
        x.tick(1);
        Check.same("with an active owner", x.shard(31, 4), 106);
        x.drain(0);
        x.tick(1);
        Check.same("with a draining owner", x.shard(31, 4), 107);
        x.fail(0);
        x.tick(4);
        Check.same("the last tick of the lease", x.statistic(0), 106);
        x.recover(0);
        x.tick(1);
        Check.same("when the owner recovers just in time", x.shard(31, 4), 112);
        Check.same("no lease has run out", x.statistic(6), 0);
        x.fail(0);
        x.tick(5);
        x.recover(0);
        Check.same("when it recovers too late", x.shard(31, 3), -1);
    }

    @Says(promise = {13, 19}, sentence = LEASES)
    static void eachShardHasItsOwnLease() {
        ShardRebalancer x = Stores.after("n1;n1;t50;t50;f0;t3;f1;t1;");
        Check.same("the lease of a shard of node 0", x.shard(4, 4), 105);
        Check.same("the lease of a shard of node 1", x.shard(14, 4), 108);
        x.tick(1);
        Check.same("the owner of the first one", x.shard(4, 3), -1);
        Check.same("the owner of the second one", x.shard(14, 3), 1);
        x.tick(2);
        Check.same("the owner of the second one still", x.shard(14, 3), 1);
        x.tick(1);
        Check.same("the owner of the second one then", x.shard(14, 3), -1);
    }

    @Says(promise = {19, 23}, sentence = CANCELLED)
    static void cancelledWithoutTheTarget() {
        ShardRebalancer down = Stores.settled();
        Stores.run(down, "n3;t1;f1;");
        Check.same("moves until the next tick", down.moves(), 2);
        down.tick(1);
        Check.same("the destination is down", Stores.events(down, 2), "102 2 4 1, 102 2 10 1");
        ShardRebalancer draining = Stores.settled();
        Stores.run(draining, "n3;t1;d1;t1;");
        Check.same("the destination drains, and leaves", Stores.events(draining, 3),
                "102 2 4 1, 102 2 10 1, 102 4 -1 1");
        ShardRebalancer slack = Stores.after("n1;n1;");
        slack.set(1, 8);
        slack.set(0, 0);
        slack.tick(1);
        Check.same("the moves", Stores.moves(slack),
                "4 -1 0 0, 10 -1 0 0, 14 -1 1 0, 25 -1 1 0");
        slack.set(0, 100);
        slack.tick(1);
        Check.same("another target with another slack", Stores.events(slack, 8),
                "2 1 4 0, 2 1 10 0, 2 1 14 1, 2 2 25 1, 2 0 15 0, 2 0 2 0, 2 0 31 1, 2 0 17 1");
        Check.same("moves that were cancelled", slack.statistic(3), 1);
    }

    @Says(promise = {19, 23}, sentence = CANCELLED)
    static void cancelledWithoutTheSource() {
        ShardRebalancer lost = Stores.settled();
        lost.set(2, 1);
        Stores.run(lost, "n3;t1;f0;t1;");
        Check.same("the source loses the shard in this tick", Stores.events(lost, 5),
                "102 3 31 0, 102 2 4 1, 102 2 10 1, 102 0 4 1, 102 0 10 1");
        Check.same("the new moves have no source", Stores.moves(lost), "4 -1 1 0, 10 -1 1 0");
        ShardRebalancer down = Stores.settled();
        Stores.run(down, "n3;t1;f0;t1;");
        Check.same("the source is down", Stores.events(down, 2), "102 2 4 1, 102 2 10 1");
        Check.same("the shard is still its own", down.shard(4, 3), 0);
        ShardRebalancer draining = Stores.settled();
        Stores.run(draining, "n3;t1;d0;t1;");
        Check.same("a source that drains", Stores.events(draining, 4),
                "102 1 4 1, 102 1 10 1, 102 0 14 1, 102 0 15 1");
        ShardRebalancer recovered = Stores.settled();
        Stores.run(recovered, "n3;t1;f0;r0;t1;");
        Check.same("a source that has recovered", recovered.statistic(3), 0);
        ShardRebalancer none = Stores.after("n1;t2;");
        Check.same("moves without a source", none.statistic(2), 2);
    }

    @Says(promise = {19, 21, 23}, sentence = ENDS)
    static void aMoveEndsWhenTheProgressIsTheSize() {
        ShardRebalancer x = Stores.after("n1;");
        x.set(1, 1);
        x.tick(1);
        Check.same("size 1: it begins", Stores.moves(x), "4 -1 0 0");
        x.tick(1);
        Check.same("size 1: it ends in the next tick", x.shard(4, 3), 0);
        x.tick(3);
        Check.same("size 2: it begins", Stores.moves(x), "2 -1 0 0");
        x.tick(1);
        Check.same("size 2: the progress 1", Stores.moves(x), "2 -1 0 1");
        Check.same("size 2: no owner yet", x.shard(2, 3), -1);
        x.set(2, 20);
        x.tick(1);
        Check.same("size 2: the owner", x.shard(2, 3), 0);
        Check.same("size 2: the lease", x.shard(2, 4), 7 + 20);
        Check.same("size 2: the events", Stores.events(x, 2), "7 1 2 0, 7 0 25 0");
        ShardRebalancer big = Stores.after("n1;t50;t23;");
        Check.same("size 9: the progress 8", Stores.moves(big), "13 -1 0 8, 22 -1 0 3");
        big.tick(1);
        Check.same("size 9: it ends", Stores.moves(big), "22 -1 0 4");
        big.tick(4);
        Check.same("size 9: the last tick but one", Stores.moves(big), "22 -1 0 8");
        Check.same("the sizes so far", big.statistic(4), 151 - 9);
        big.tick(1);
        Check.same("size 9: the last one ends", big.moves(), 0);
        Check.same("the sizes of all", big.statistic(4), 151);
        Check.same("moves that ended", big.statistic(2), 32);
    }

    @Says(promise = {19, 20}, sentence = BEGIN)
    static void movesBeginUpToTheBudget() {
        ShardRebalancer x = Stores.after("n1;n1;n1;n1;");
        x.set(1, 8);
        x.tick(3);
        Check.same("as many as the budget says", x.moves(), 8);
        x.set(1, 7);
        x.tick(1);
        Check.same("one has ended, none begins", x.statistic(1) * 100 + x.moves(), 1507);
        x.set(1, 5);
        x.tick(1);
        Check.same("fewer than the budget: one begins", x.statistic(1) * 100 + x.moves(), 1605);
        x.set(1, 1);
        x.tick(1);
        Check.same("more than the budget are not cancelled", x.statistic(3), 0);
        Check.same("and none begins", x.statistic(1), 16);
        ShardRebalancer few = Stores.after("n1;t50;t23;");
        few.set(1, 8);
        Check.same("two moves, no candidate is left", few.moves(), 2);
        few.tick(1);
        Check.same("one move, no candidate is left", few.moves(), 1);
        few.tick(5);
        Check.same("no move, no candidate is left", few.moves(), 0);
        few.tick(50);
        Check.same("moves that began", few.statistic(1), 32);
    }

    @Says(promise = {19, 20}, sentence = CANDIDATE)
    static void aNodeIsTheDestinationOfTwoMovesAtMost() {
        ShardRebalancer x = Stores.after("n1;");
        x.set(1, 1);
        x.tick(5);
        Check.same("one move to it", Stores.moves(x), "2 -1 0 0");
        x.set(1, 8);
        x.tick(1);
        Check.same("another one begins, no third one", Stores.moves(x), "2 -1 0 1, 25 -1 0 0");
        x.tick(1);
        Check.same("one ends, one begins", Stores.moves(x), "25 -1 0 1, 27 -1 0 0");
    }

    @Says(promise = {19, 20}, sentence = CANDIDATE)
    static void ownersThatKeepAShardFromMoving() {
        ShardRebalancer own = Stores.settled();
        own.tick(1);
        Check.same("the target is the owner", own.moves(), 0);
        ShardRebalancer down = Stores.settled();
        Stores.run(down, "f0;n1;t4;");
        Check.same("the owner is down", down.statistic(1), 32);
        down.tick(1);
        Check.same("there is no owner any more", Stores.moves(down), "4 -1 1 0, 10 -1 1 0");
        ShardRebalancer draining = Stores.settled();
        Stores.run(draining, "d0;t1;");
        Check.same("there is no target", draining.moves(), 0);
        Stores.run(draining, "n1;t1;");
        Check.same("the owner drains", Stores.moves(draining), "4 0 1 0, 10 0 1 0");
        ShardRebalancer none = new ShardRebalancer();
        none.tick(50);
        Check.same("neither owner nor target", none.statistic(1), 0);
    }

    @Says(promise = {19, 20, 21}, sentence = ORDER)
    static void candidatesWithoutAnOwnerComeFirst() {
        ShardRebalancer x = Stores.after("n1;");
        x.set(1, 1);
        Stores.run(x, "t50;t50;t42;d0;n1;");
        x.set(1, 8);
        x.tick(1);
        Check.same("size 9 without an owner before size 1 of one that drains", Stores.moves(x),
                "13 -1 1 0, 22 -1 1 0");
        ShardRebalancer y = Stores.after("n1;n1;t50;t50;f1;t4;n5;n5;");
        y.set(1, 8);
        y.tick(1);
        Check.same("candidates without an owner among others", y.move(0, 1) * 10 + y.move(1, 1),
                -11);
    }

    @Says(promise = {19, 20, 21}, sentence = ORDER)
    static void candidatesOfDrainingOwnersComeBeforeTheOthers() {
        ShardRebalancer x = Stores.settled();
        x.set(1, 1);
        Stores.run(x, "n1;d0;t50;t50;t40;n5;");
        x.set(1, 8);
        x.tick(1);
        Check.same("shard 4 of the size 1 has an active owner", x.shard(4, 3), 1);
        Check.same("and another target", x.shard(4, 2), 2);
        Check.same("size 9 of one that drains comes before it", Stores.moves(x),
                "13 0 2 0, 22 0 2 0");
    }

    @Says(promise = {19, 20, 21}, sentence = ORDER)
    static void lesserSizesAndThenLesserNumbersComeFirst() {
        ShardRebalancer x = Stores.after("n1;");
        x.set(1, 1);
        int[] due = {4, 10, 14, 15, 2, 25, 27, 1, 3, 8, 9, 16, 24, 31, 12, 18, 23, 29, 21, 7, 19,
            0, 26, 28, 30, 6, 11, 17, 20, 5, 13, 22};
        for (int i = 0; i < due.length; i++) {
            x.tick(i == 0 ? 1 : x.shard(due[i - 1], 1));
            Check.same("the move that begins as number " + i, Stores.moves(x), due[i] + " -1 0 0");
        }
        ShardRebalancer others = Stores.settled();
        Stores.run(others, "n5;");
        others.set(1, 1);
        others.tick(1);
        Check.same("the first of an active owner", Stores.moves(others), "4 0 1 0");
    }

    @Says(promise = {19, 21}, sentence = "The destination is the target.")
    static void aMoveGoesToTheTarget() {
        ShardRebalancer x = Stores.after("n1;n2;n3;n4;");
        x.set(1, 8);
        x.tick(1);
        for (int i = 0; i < 8; i++) {
            Check.same("the destination of the move " + i, x.move(i, 2),
                    x.shard(x.move(i, 0), 2));
        }
    }

    @Says(promise = {19, 23}, sentence = LEAVES)
    static void drainingNodesLeaveWithoutShards() {
        ShardRebalancer x = Stores.after("n1;n2;n3;n4;d3;d1;d0;");
        Check.same("they drain until the next tick", x.nodes(2), 0b1011);
        x.tick(1);
        Check.same("they leave in ascending order", Stores.events(x, 3),
                "1 4 -1 0, 1 4 -1 1, 1 4 -1 3");
        Check.same("node 2 stays", x.nodes(0), 0b11111011);
        ShardRebalancer down = Stores.after("n1;n1;f1;t50;");
        Check.same("a node that is down stays without shards", down.node(1, 0), 3);
        Check.same("an active node stays without shards", Stores.after("n1;t1;").node(0, 0), 1);
    }

    @Says(promise = {19, 23}, sentence = LEAVES)
    static void aNodeLeavesInTheTickOfItsLastMove() {
        ShardRebalancer x = Stores.settled();
        Stores.run(x, "n1;d0;");
        int ticks = x.forecast();
        Check.same("the forecast", ticks, 79);
        x.tick(50);
        x.tick(28);
        Check.same("the last shard moves", Stores.moves(x), "22 0 1 8");
        Check.same("the node drains", x.node(0, 0), 2);
        x.tick(1);
        Check.same("the node leaves behind the move", Stores.events(x, 2),
                "179 1 22 1, 179 4 -1 0");
        Check.same("the node is absent", x.nodes(0), 0b11111101);
    }

    @Says(promise = {19, 23}, sentence =
            "Last, the number of shards that are not served is added to the unserved time.")
    static void unservedTimeIsCountedAtTheEnd() {
        ShardRebalancer x = Stores.after("n1;");
        Check.same("the unserved time at first", x.statistic(5), 0);
        int[] due = {32, 32 + 30, 32 + 30 + 28, 32 + 30 + 28 + 28};
        for (int i = 0; i < due.length; i++) {
            x.tick(1);
            Check.same("the unserved time at " + (i + 1), x.statistic(5), due[i]);
        }
        ShardRebalancer y = Stores.settled();
        int before = y.statistic(5);
        y.tick(1);
        Check.same("all are served", y.statistic(5), before);
        y.drain(0);
        y.tick(1);
        Check.same("all are served by one that drains", y.statistic(5), before);
        y.fail(0);
        y.tick(1);
        Check.same("none is served while the leases last", y.statistic(5), before + 32);
        y.tick(4);
        Check.same("none is served without an owner", y.statistic(5), before + 160);
    }

    @Says(promise = 19, sentence = {"Makes ticks.", "`ticks`: the number of ticks, 1 to 50",
        "Returns the time then."})
    static void tickTakes1To50() {
        for (int ticks : new int[] {1, 2, 49, 50}) {
            Check.same("tick(" + ticks + ")", Stores.after("n1;n2;").tick(ticks), ticks);
            Stores.same("the state after tick(" + ticks + ")",
                    Stores.picture(() -> {
                        ShardRebalancer x = Stores.after("n1;n2;");
                        x.tick(ticks);
                        return x;
                    }),
                    Stores.picture(() -> {
                        ShardRebalancer x = Stores.after("n1;n2;");
                        for (int i = 0; i < ticks; i++) {
                            x.tick(1);
                        }
                        return x;
                    }));
        }
        ShardRebalancer x = new ShardRebalancer();
        Check.same("tick(50) of a new store", x.tick(50), 50);
        Check.same("tick(50) again", x.tick(50), 100);
    }

    @Says(promise = 19, sentence =
            "Throws `IllegalArgumentException` if the number is out of range")
    static void tickRefusesOtherNumbers() {
        for (int ticks : new int[] {0, 51, -1, 100, LEAST, GREATEST}) {
            Boundary.refused(Stores::busy, "tick(" + ticks + ")", Boundary.ARGUMENT,
                    x -> x.tick(ticks));
            Boundary.refused("", "tick(" + ticks + ") of a new store", Boundary.ARGUMENT,
                    x -> x.tick(ticks));
        }
    }

    @Says(promise = 20, sentence = "Returns the number of moves.")
    static void movesFrom0To8() {
        Check.same("moves() of a new store", new ShardRebalancer().moves(), 0);
        Check.same("moves() before the first tick", Stores.after("n1;").moves(), 0);
        for (int budget = 1; budget <= 8; budget++) {
            ShardRebalancer x = Stores.after("n1;n1;n1;n1;n1;n1;n1;n1;");
            x.set(1, budget);
            Check.same("moves() before the first tick of eight nodes", x.moves(), 0);
            x.tick(1);
            Check.same("moves() with the budget " + budget, x.moves(), budget);
        }
        Check.same("moves() to a single node", Stores.after("n1;t1;").moves(), 2);
        Check.same("the last move", Stores.after("n1;t50;t28;").moves(), 1);
        Check.same("moves() when all is done", Stores.settled().moves(), 0);
    }

    @Says(promise = 21, sentence = {"Returns a part of a move.", "`i`: the number of the move",
        "`what`: 0 the shard; 1 the source, -1 for none; 2 the destination; 3 the progress",
        "Returns the part."})
    static void moveTellsTheFirstAndTheLast() {
        ShardRebalancer x = Stores.after("n1;n1;n1;n1;");
        x.set(1, 8);
        x.tick(2);
        int[] first = {2, -1, 0, 1};
        int[] last = {3, -1, 3, 0};
        for (int what = 0; what <= 3; what++) {
            Check.same("move(0, " + what + ")", x.move(0, what), first[what]);
            Check.same("move(7, " + what + ")", x.move(7, what), last[what]);
        }
        int[] due = {10, 0, 1, 0};
        ShardRebalancer y = Stores.after("n1;t50;t50;n3;t1;");
        for (int what = 0; what <= 3; what++) {
            Check.same("move(1, " + what + ") of two", y.move(1, what), due[what]);
        }
    }

    @Says(promise = 21, sentence = "Throws `IndexOutOfBoundsException` if there is no such move")
    static void moveRefusesOtherNumbers() {
        for (int i : new int[] {-1, 2, 3, LEAST, GREATEST}) {
            for (int what : new int[] {-1, 0, 3, 4}) {
                Boundary.refused("n1;t50;t50;n3;t1;", "move(" + i + ", " + what + ") of two",
                        Boundary.INDEX, z -> z.move(i, what));
            }
        }
        for (int i : new int[] {-1, 0, 1}) {
            Boundary.refused("n1;", "move(" + i + ", 0) of none", Boundary.INDEX,
                    z -> z.move(i, 0));
            Boundary.refused("n1;", "move(" + i + ", 4) of none", Boundary.INDEX,
                    z -> z.move(i, 4));
        }
        ShardRebalancer x = Stores.after("n1;n1;n1;n1;");
        x.set(1, 8);
        x.tick(1);
        Check.same("move(7, 0) of eight", x.move(7, 0), 29);
        Check.refused("move(8, 0) of eight", Boundary.INDEX, () -> x.move(8, 0));
    }

    @Says(promise = 21, sentence = "Throws `IllegalArgumentException` if what is out of range")
    static void moveRefusesOtherParts() {
        for (int what : new int[] {-1, 4, LEAST, GREATEST}) {
            for (int i : new int[] {0, 1}) {
                Boundary.refused("n1;t1;", "move(" + i + ", " + what + ")", Boundary.ARGUMENT,
                        x -> x.move(i, what));
            }
        }
    }

    @Says(promise = 22, sentence = "Returns the number of ticks, 0 if it is so now.")
    static void forecastOfNow() {
        Check.same("forecast() when all is done", Stores.settled().forecast(), 0);
        Check.same("forecast() a tick before", Stores.after("n1;t50;t28;").forecast(), 1);
        Check.same("forecast() in the last tick", Stores.after("n1;t50;t29;").forecast(), 0);
        Check.same("forecast() a tick later", Stores.after("n1;t50;t30;").forecast(), 0);
    }

    @Says(promise = 22, sentence = "Returns after how many ticks pending would be 0 for the first "
            + "time, if nothing but ticks happened.")
    static void forecastUpToTheLongest() {
        ShardRebalancer x = Stores.after("n1;t50;t27;");
        Check.same("forecast() with two ticks left", x.forecast(), 2);
        x.tick(1);
        Check.same("forecast() with one tick left", x.forecast(), 1);
        Check.same("pending() then", x.pending(), 1);
        x.tick(1);
        Check.same("forecast() at the end", x.forecast(), 0);
        Check.same("forecast() of one node", Stores.after("n1;").forecast(), 79);
        ShardRebalancer slow = Stores.after("n1;");
        slow.set(1, 1);
        Check.same("forecast() of one move after the other", slow.forecast(), 152);
        ShardRebalancer longest = Stores.settled();
        longest.set(1, 1);
        longest.set(2, 20);
        Stores.run(longest, "t1;f0;n1;");
        Check.same("forecast() with the longest leases before", longest.forecast(), 171);
        longest.tick(50);
        longest.tick(50);
        longest.tick(50);
        longest.tick(20);
        Check.same("pending() before the last tick", longest.pending(), 1);
        longest.tick(1);
        Check.same("pending() after the last tick", longest.pending(), 0);
    }

    @Says(promise = 22, sentence = "Nothing changes.")
    static void forecastChangesNothing() {
        Boundary.unchanged(Stores::busy, "forecast()", x -> x.forecast());
        Boundary.unchanged(Stores::settled, "forecast()", x -> x.forecast());
        Boundary.unchanged(() -> Stores.after("n1;t50;t50;f0;n1;"), "forecast()",
                x -> x.forecast());
    }

    @Says(promise = 22, sentence =
            "Throws `NoSuchElementException` if it would not be so after 300 ticks or fewer")
    static void forecastRefusesWhatNeverEnds() {
        String[] scripts = {"", "n1;d0;", "n1;f0;", "n1;t50;t50;d0;", "n1;t50;t50;f0;",
            "n1;t50;f0;t9;"};
        for (String script : scripts) {
            Boundary.refused(script, "forecast() after " + script, NoSuchElementException.class,
                    x -> x.forecast());
        }
        Check.same("forecast() when the node recovers",
                Stores.after("n1;t50;t50;f0;r0;").forecast(), 0);
    }

    @Says(promise = 23, sentence = {"Returns a statistic.", "Returns the statistic.",
        "`what`: 0 the time; 1 the moves that began; 2 the moves that ended; 3 the moves that "
        + "were cancelled; 4 the sum of the sizes of the shards of all moves that ended; 5 the "
        + "unserved time; 6 the number of leases that ran out, that is, of events 3"})
    static void statisticTellsEachNumber() {
        same("a new store", new ShardRebalancer(), new int[] {0, 0, 0, 0, 0, 0, 0});
        same("a node without a tick", Stores.after("n1;"), new int[] {0, 0, 0, 0, 0, 0, 0});
        same("the first tick", Stores.after("n1;t1;"), new int[] {1, 2, 0, 0, 0, 32, 0});
        same("the second tick", Stores.after("n1;t2;"), new int[] {2, 4, 2, 0, 2, 62, 0});
        same("a cancelled move", Stores.after("n1;t1;f0;t1;"),
                new int[] {2, 2, 0, 2, 0, 64, 0});
        same("two leases that ran out", Stores.after("n1;t2;f0;t5;"),
                new int[] {7, 4, 2, 2, 2, 62 + 5 * 32, 2});
        same("all moves have ended", Stores.settled(),
                new int[] {100, 32, 32, 0, 151, 902, 0});
    }

    @Says(promise = 23, sentence = "Throws `IllegalArgumentException` if what is out of range")
    static void statisticRefusesOtherParts() {
        for (int what : new int[] {-1, 7, LEAST, GREATEST}) {
            Boundary.refused(Stores::busy, "statistic(" + what + ")", Boundary.ARGUMENT,
                    x -> x.statistic(what));
        }
    }

    private static void same(String what, ShardRebalancer x, int[] due) {
        for (int i = 0; i < due.length; i++) {
            Check.same(what + ": statistic(" + i + ")", x.statistic(i), due[i]);
        }
    }
}
