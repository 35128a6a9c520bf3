import java.util.ArrayList;
import java.util.List;
import java.util.NoSuchElementException;

/** Promises 19 to 23: ticks, moves, forecasts and statistics. */
final class TimeTest {
    /** The shards in the order of their sizes and numbers, as their places tell it. */
    private static final int[] BY_SIZE = {4, 10, 14, 15, 2, 25, 27, 1, 3, 8, 9, 16, 24, 31, 12, 18,
        23, 29, 21, 7, 19, 0, 26, 28, 30, 6, 11, 17, 20, 5, 13, 22};

    public static void main(String[] args) {
        promise19();
        leases();
        cancelledMoves();
        recoveredSource();
        movesBehindAnEndedOne();
        budgetAndOrder();
        orderOfCandidates();
        leavingNodes();
        downOwnersMoveNothing();
        promise20();
        promise21();
        promise22();
        promise23();
        Check.finish("TimeTest");
    }

    private static void promise19() {
        ShardRebalancer x = new ShardRebalancer();
        for (int wrong : new int[] {0, 51, -1, Integer.MIN_VALUE, Integer.MAX_VALUE}) {
            Check.refused("tick(" + wrong + ")", IllegalArgumentException.class,
                    () -> x.tick(wrong));
        }
        Check.same("tick(1)", x.tick(1), 1);
        Check.same("tick(50)", x.tick(50), 51);
        Check.same("no moves without nodes", x.moves(), 0);
        Check.same("unserved time without nodes", x.statistic(5), 51 * 32);
        ShardRebalancer once = Stores.after("n1;n1;n1;");
        once.tick(37);
        ShardRebalancer often = Stores.after("n1;n1;n1;");
        for (int i = 0; i < 37; i++) {
            often.tick(1);
        }
        Check.same("37 ticks", Stores.brief(once), Stores.brief(often));
    }

    private static void leases() {
        ShardRebalancer x = Stores.settled();
        Check.same("a served shard's lease", x.shard(0, 4), 105);
        x.set(2, 2);
        Check.same("the lease stays until the next tick", x.shard(0, 4), 105);
        x.tick(1);
        Check.same("the lease with the new length", x.shard(0, 4), 103);
        x.drain(0);
        x.tick(1);
        Check.same("a draining owner's lease", x.shard(0, 4), 104);
        x.fail(0);
        x.tick(1);
        Check.same("the lease of one that is down", x.shard(0, 4), 104);
        Check.same("the owner while the lease lasts", x.shard(31, 3), 0);
        Check.same("unserved time while the lease lasts", x.node(0, 3), 32);
        x.tick(1);
        for (int s = 0; s < 32; s++) {
            Check.same("no owner when the lease ran out", x.shard(s, 3), -1);
        }
        for (int i = 0; i < 30; i++) {
            Check.same("time of the event", x.event(i, 0), 104);
            Check.same("kind of the event", x.event(i, 1), 3);
            Check.same("shard of the event", x.event(i, 2), 2 + i);
            Check.same("previous owner", x.event(i, 3), 0);
        }
        Check.same("leases that ran out", x.statistic(6), 32);
    }

    private static void cancelledMoves() {
        ShardRebalancer x = Stores.settled();
        x.addNode(3);
        x.tick(1);
        int first = x.move(0, 0);
        int second = x.move(1, 0);
        Check.same("source of a move", x.move(0, 1), 0);
        x.fail(1);
        Check.same("a move lasts until the next tick", x.moves(), 2);
        x.tick(1);
        Check.same("both are cancelled", x.moves(), 0);
        int last = x.events() - 1;
        Check.same("cancelled: kind", x.event(last, 1), 2);
        Check.same("cancelled: shard", x.event(last, 2), second);
        Check.same("cancelled: destination", x.event(last, 3), 1);
        Check.same("cancelled: the earlier one", x.event(last - 1, 2), first);
        Check.same("cancelled: statistic", x.statistic(3), 2);
        Check.same("cancelled: owner", x.shard(first, 3), 0);
        ShardRebalancer y = Stores.settled();
        y.addNode(3);
        y.tick(1);
        y.fail(0);
        y.tick(1);
        Check.same("cancelled when the source is down", y.moves(), 0);
        Check.same("cancelled while the lease lasts", y.shard(first, 3), 0);
        Check.same("cancelled: statistic of these", y.statistic(3), 2);
    }

    private static void recoveredSource() {
        ShardRebalancer x = Stores.settled();
        x.addNode(3);
        x.tick(1);
        int first = x.move(0, 0);
        x.fail(0);
        x.recover(0);
        x.tick(x.shard(first, 1));
        Check.same("a source that was down between ticks", x.shard(first, 3), 1);
        Check.same("no move is cancelled for it", x.statistic(3), 0);
        ShardRebalancer y = Stores.settled();
        y.addNode(3);
        y.tick(1);
        y.drain(0);
        y.tick(y.shard(first, 1));
        Check.same("a source that drains goes on", y.shard(first, 3), 1);
    }

    /** Shards 4 and 10 have the size 1: both moves end in the tick after they began. */
    private static void movesBehindAnEndedOne() {
        ShardRebalancer x = Stores.after("n1;t1;");
        Check.same("the first shard", x.move(0, 0), 4);
        Check.same("the second shard", x.move(1, 0), 10);
        Check.same("the progress at first", x.move(0, 3), 0);
        x.tick(1);
        Check.same("both have ended", x.statistic(2), 2);
        int[][] events = {{1, 0, 4, 0}, {1, 0, 10, 0}, {2, 1, 4, 0}, {2, 1, 10, 0}, {2, 0, 14, 0},
            {2, 0, 15, 0}};
        Check.same("number of events", x.events(), events.length);
        for (int i = 0; i < events.length; i++) {
            for (int what = 0; what <= 3; what++) {
                Check.same("event " + i + ", " + what, x.event(i, what), events[i][what]);
            }
        }
        Check.same("lease when a move ends", x.shard(4, 4), 7);
        Check.same("unserved time", x.statistic(5), 32 + 30);
        x.tick(2);
        Check.same("the progress of shard 2", x.move(0, 3), 1);
        Check.same("the progress of shard 25", x.move(1, 3), 1);
    }

    private static void budgetAndOrder() {
        ShardRebalancer x = Stores.after("n1;");
        x.set(1, 1);
        int time = 1;
        for (int s : BY_SIZE) {
            x.tick(time - x.statistic(0));
            Check.same("one move with the budget 1", x.moves(), 1);
            Check.same("the next shard by size", x.move(0, 0), s);
            Check.same("it begins when the last one ends", x.move(0, 3), 0);
            time += x.shard(s, 1);
        }
        x.tick(1);
        Check.same("pending with the last move", x.pending(), 1);
        x.tick(time - x.statistic(0));
        Check.same("all shards are there", x.node(0, 3), 32);
        ShardRebalancer y = Stores.after("n1;n1;n1;n1;n1;n1;n1;n1;");
        for (int budget = 8; budget >= 1; budget--) {
            y.set(1, budget);
            y.tick(1);
            Check.same("moves up to the budget", y.moves() <= 8 ? 1 : 0, 1);
            for (int n = 0; n < 8; n++) {
                Check.same("two moves to a node at most", y.node(n, 6) <= 2 ? 1 : 0, 1);
            }
        }
        y.tick(10);
        Check.same("moves with the budget 1", y.moves(), 1);
    }

    /** Node 0's leases run out in the last tick; node 1 drains, and the new node 5 has targets. */
    private static void orderOfCandidates() {
        ShardRebalancer x = Stores.after("n1;n1;n1;n1;n1;t50;t50;f0;t4;d1;n2;");
        x.set(1, 8);
        x.tick(1);
        List<Integer> ranks = new ArrayList<>();
        boolean[] groups = new boolean[3];
        for (int i = 0; i < x.events(); i++) {
            if (x.event(i, 0) == x.statistic(0) && x.event(i, 1) == 0) {
                int shard = x.event(i, 2);
                int source = x.move(x.shard(shard, 6), 1);
                int group = source == -1 ? 0 : x.node(source, 0) == 2 ? 1 : 2;
                groups[group] = true;
                ranks.add(group * 10000 + x.shard(shard, 1) * 100 + shard);
            }
        }
        Check.same("as many as the budget says", ranks.size(), 8);
        for (int i = 1; i < ranks.size(); i++) {
            Check.same("candidates in their order",
                    ranks.get(i - 1) < ranks.get(i) ? 1 : 0, 1);
        }
        for (int group = 0; group < 3; group++) {
            Check.same("a candidate of the group " + group, groups[group] ? 1 : 0, 1);
        }
    }

    private static void leavingNodes() {
        ShardRebalancer x = Stores.after("n1;n2;n3;n4;d3;d1;t1;");
        Check.same("both leave in their first tick", x.nodes(0), 0b11111010);
        int last = x.events() - 1;
        int[][] due = {{1, 4, -1, 1}, {1, 4, -1, 3}};
        for (int what = 0; what <= 3; what++) {
            Check.same("leaving in order", x.event(last - 1, what), due[0][what]);
            Check.same("leaving in order", x.event(last, what), due[1][what]);
        }
        ShardRebalancer y = Stores.settled();
        y.addNode(1);
        y.drain(0);
        int ticks = y.forecast();
        y.tick(50);
        y.tick(ticks - 51);
        Check.same("draining with a shard", y.nodes(2), 1);
        Check.same("its last shard", y.node(0, 3) > 0 ? 1 : 0, 1);
        y.tick(1);
        Check.same("it leaves with its last shard", y.nodes(0), 0b11111101);
        Check.same("event of the last move", y.event(28, 1), 1);
        Check.same("event of leaving", y.event(29, 1), 4);
        Check.same("time of leaving", y.event(29, 0), 100 + ticks);
        ShardRebalancer alone = Stores.settled();
        alone.drain(0);
        alone.tick(50);
        Check.same("nowhere to go", alone.nodes(2), 1);
        Check.same("it serves still", alone.node(0, 3), 32);
    }

    private static void downOwnersMoveNothing() {
        ShardRebalancer x = Stores.settled();
        x.addNode(1);
        x.fail(0);
        x.tick(4);
        Check.same("no moves while the leases last", x.moves(), 0);
        Check.same("unserved time", x.statistic(5) - Stores.settled().statistic(5), 4 * 32);
        x.tick(1);
        Check.same("moves in the tick in which they run out", x.moves(), 2);
        Check.same("their source is none", x.move(0, 1), -1);
    }

    private static void promise20() {
        ShardRebalancer x = new ShardRebalancer();
        Check.same("moves at first", x.moves(), 0);
        x.addNode(1);
        Check.same("moves before a tick", x.moves(), 0);
        x.tick(1);
        Check.same("moves to one node", x.moves(), 2);
        x.addNode(1);
        x.addNode(1);
        x.tick(3);
        Check.same("moves with the budget 3", x.moves(), 3);
        Check.same("moves when all is done", Stores.settled().moves(), 0);
    }

    private static void promise21() {
        ShardRebalancer x = Stores.after("n1;t5;n1;t4;");
        int moves = x.moves();
        Check.refused("move(-1, 9)", IndexOutOfBoundsException.class, () -> x.move(-1, 9));
        Check.refused("move(n, 0)", IndexOutOfBoundsException.class, () -> x.move(moves, 0));
        Check.refused("move(0, -1)", IllegalArgumentException.class, () -> x.move(0, -1));
        Check.refused("move(0, 4)", IllegalArgumentException.class, () -> x.move(0, 4));
        Check.refused("move(0, 0) of none", IndexOutOfBoundsException.class,
                () -> new ShardRebalancer().move(0, 0));
        for (int i = 0; i < moves; i++) {
            int s = x.move(i, 0);
            Check.same("the move of the shard", x.shard(s, 6), i);
            Check.same("the source is the owner", x.move(i, 1), x.shard(s, 3));
            Check.same("the destination is the target", x.move(i, 2), x.shard(s, 2));
            Check.same("the progress is below the size",
                    x.move(i, 3) < x.shard(s, 1) ? 1 : 0, 1);
        }
        ShardRebalancer y = Stores.after("n1;t3;");
        Check.same("shard 2 is the first one", y.move(0, 0), 2);
        y.set(1, 2);
        y.tick(2);
        Check.same("an ended move gives its number away", y.move(0, 0), 27);
        Check.same("the later one has the next number", y.move(1, 0), 1);
        y.tick(2);
        Check.same("the number decreases by 1", y.move(0, 0), 1);
        Check.same("the progress stays with the move", y.move(0, 3), 2);
        Check.same("a new move comes last", y.move(1, 0), 3);
    }

    private static void promise22() {
        Check.refused("forecast without nodes", NoSuchElementException.class,
                () -> new ShardRebalancer().forecast());
        Check.same("forecast when all is done", Stores.settled().forecast(), 0);
        Check.same("forecast of one node", Stores.after("n1;").forecast(), 79);
        ShardRebalancer slow = Stores.after("n1;");
        slow.set(1, 1);
        Check.same("forecast of one move after the other", slow.forecast(), 1 + 151);
        for (String script : new String[] {"n1;n1;", "n2;n2;n3;t20;n4;d1;f0;", "n5;t40;f0;n1;"}) {
            ShardRebalancer x = Stores.after(script);
            String before = Stores.brief(x);
            int ticks = x.forecast();
            Check.same("forecast changes nothing", Stores.brief(x), before);
            for (int i = 1; i <= ticks; i++) {
                Check.same("pending until then", x.pending() > 0 ? 1 : 0, 1);
                x.tick(1);
            }
            Check.same("pending is 0 for the first time", x.pending(), 0);
            Check.same("forecast then", x.forecast(), 0);
        }
        ShardRebalancer gone = Stores.settled();
        gone.drain(0);
        Check.refused("forecast without active nodes", NoSuchElementException.class,
                () -> gone.forecast());
    }

    private static void promise23() {
        ShardRebalancer x = Stores.after("n1;t50;t50;n1;t3;f1;t1;f0;t10;");
        Check.refused("statistic(-1)", IllegalArgumentException.class, () -> x.statistic(-1));
        Check.refused("statistic(7)", IllegalArgumentException.class, () -> x.statistic(7));
        Check.same("the time", x.statistic(0), 114);
        Check.same("moves began = ended + cancelled + going on", x.statistic(1),
                x.statistic(2) + x.statistic(3) + x.moves());
        Check.same("leases that ran out", x.statistic(6), 32);
        ShardRebalancer y = Stores.settled();
        int[] due = {100, 32, 32, 0, 151};
        for (int what = 0; what < due.length; what++) {
            Check.same("statistic " + what, y.statistic(what), due[what]);
        }
        Check.same("no lease ran out", y.statistic(6), 0);
        ShardRebalancer z = Stores.after("n1;t1;t1;t1;");
        Check.same("unserved time", z.statistic(5), 32 + 30 + 28);
        Check.same("sizes of moves that ended", z.statistic(4), 4);
    }
}
