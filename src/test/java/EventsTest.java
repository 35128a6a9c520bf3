/** Promises 24 to 26: events. */
final class EventsTest {
    public static void main(String[] args) {
        promise24();
        promise25();
        promise26();
        Check.finish("EventsTest");
    }

    private static void promise24() {
        Check.same("events at first", new ShardRebalancer().events(), 0);
        ShardRebalancer x = Stores.after("n1;t1;");
        Check.same("events of the first tick", x.events(), 2);
        x.tick(1);
        Check.same("events of two ticks", x.events(), 6);
        x.tick(50);
        Check.same("no more than 30 are kept", x.events(), 30);
        x.fail(0);
        Check.same("no event outside ticks", x.events(), 30);
        ShardRebalancer y = Stores.after("n1;n1;n1;n1;n1;n1;n1;n1;d0;d1;d2;d3;t1;");
        Check.same("four begin or leave each", y.events(), 3 + 4);
    }

    private static void promise25() {
        ShardRebalancer x = Stores.after("n1;t1;");
        Check.refused("event(-1, 9)", IndexOutOfBoundsException.class, () -> x.event(-1, 9));
        Check.refused("event(2, 0)", IndexOutOfBoundsException.class, () -> x.event(2, 0));
        Check.refused("event(0, -1)", IllegalArgumentException.class, () -> x.event(0, -1));
        Check.refused("event(0, 4)", IllegalArgumentException.class, () -> x.event(0, 4));
        Check.refused("event(30, 0)", IndexOutOfBoundsException.class,
                () -> Stores.settled().event(30, 0));
        ShardRebalancer y = Stores.settled();
        Check.same("the latest event of all: time", y.event(29, 0), 79);
        Check.same("the latest event of all: kind", y.event(29, 1), 1);
        Check.same("the latest event of all: node", y.event(29, 3), 0);
        for (int i = 1; i < 30; i++) {
            Check.same("the oldest one first",
                    y.event(i - 1, 0) <= y.event(i, 0) ? 1 : 0, 1);
        }
        int oldest = y.event(2, 2);
        y.addNode(1);
        y.tick(1);
        Check.same("two more events push two out", y.event(0, 2), oldest);
        Check.same("a move began", y.event(29, 1), 0);
        Check.same("a move began: node", y.event(29, 3), 1);
    }

    private static void promise26() {
        ShardRebalancer x = Stores.after("n1;t4;");
        Check.refused("forget(-1)", IndexOutOfBoundsException.class, () -> x.forget(-1));
        Check.refused("forget(32)", IndexOutOfBoundsException.class, () -> x.forget(32));
        int before = x.events();
        int began = x.statistic(1);
        int ended = x.statistic(2);
        Check.same("forget shard 10", x.forget(10), 2);
        Check.same("forget it again", x.forget(10), 0);
        Check.same("forget one without events", x.forget(22), 0);
        Check.same("the others are kept", x.events(), before - 2);
        int[] shards = {4, 4, 14, 15, 14, 15, 2, 25};
        for (int i = 0; i < shards.length; i++) {
            Check.same("the order is kept", x.event(i, 2), shards[i]);
        }
        Check.same("the statistics stay", x.statistic(1), began);
        Check.same("the statistics stay", x.statistic(2), ended);
        Check.same("forget the oldest", x.forget(4), 2);
        Check.same("the next is the oldest", x.event(0, 2), 14);
        ShardRebalancer y = Stores.after("n1;d0;t1;n1;t50;t50;");
        int forgotten = 0;
        for (int s = 0; s < 32; s++) {
            forgotten += y.forget(s);
        }
        Check.same("all events of shards", forgotten, 30);
        Check.same("nothing is left", y.events(), 0);
        ShardRebalancer z = Stores.after("n1;d0;t1;");
        for (int s = 0; s < 32; s++) {
            z.forget(s);
        }
        Check.same("events of nodes cannot be forgotten", z.events(), 1);
    }
}
