/** The boundaries that the document names for events: promises 24 to 26. */
final class EventsBoundaryTest {
    private static final int LEAST = Integer.MIN_VALUE;
    private static final int GREATEST = Integer.MAX_VALUE;

    public static void main(String[] args) {
        Boundary.runAll(EventsBoundaryTest.class);
    }

    /** A store with so many events of the kind 4, one for each tick. */
    private static ShardRebalancer withLeaving(int events) {
        ShardRebalancer x = new ShardRebalancer();
        for (int i = 0; i < events; i++) {
            x.drain(x.addNode(1));
            x.tick(1);
        }
        return x;
    }

    /** A store with so many events of shard 4, whose move begins and is cancelled by turns. */
    private static ShardRebalancer withEventsOfShard4(int events) {
        ShardRebalancer x = Stores.after("n1;");
        x.set(1, 1);
        for (int i = 0; i < events; i++) {
            if (i > 0) {
                double changed = i % 2 == 1 ? x.fail(0) : x.recover(0);
                Check.holds("the node changes its state", changed >= 0);
            }
            x.tick(1);
        }
        return x;
    }

    @Says(promise = {24, 25}, sentence = "An event has a time, a kind, a shard, and a node: the "
            + "destination for the kinds 0, 1 and 2, the previous owner for kind 3, and the node "
            + "for kind 4, whose shard is -1.")
    static void eachKindHasItsNode() {
        ShardRebalancer x = Stores.after("n1;n1;n1;d0;d2;t1;");
        Check.same("kinds 0 and 4", Stores.events(x, 9),
                "1 0 4 1, 1 0 10 1, 1 4 -1 0, 1 4 -1 2");
        x.tick(1);
        Check.same("kind 1", Stores.events(x, 4), "2 1 4 1, 2 1 10 1, 2 0 14 1, 2 0 15 1");
        x.fail(1);
        x.tick(1);
        Check.same("kind 2", Stores.events(x, 2), "3 2 14 1, 3 2 15 1");
        x.tick(4);
        Check.same("kind 3", Stores.events(x, 2), "7 3 4 1, 7 3 10 1");
        ShardRebalancer ends = Stores.after("n1;n1;n1;n1;n1;n1;n1;n1;");
        Stores.run(ends, "d0;d1;d2;d3;d4;d5;d6;t50;t50;d7;n1;t50;t50;");
        Check.same("the last shard leaves node 7", Stores.events(ends, 2),
                "179 1 22 0, 179 4 -1 7");
    }

    @Says(promise = {24, 25}, sentence =
            "The last 30 events are kept, numbered from 0, the oldest one first.")
    static void theLast30AreKept() {
        for (int made = 27; made <= 33; made++) {
            ShardRebalancer x = withLeaving(made);
            int kept = Math.min(made, 30);
            Check.same("events kept of " + made, x.events(), kept);
            for (int i = 0; i < kept; i++) {
                Check.same("the time of the event " + i + " of " + made, x.event(i, 0),
                        made - kept + 1 + i);
                Check.same("its kind", x.event(i, 1), 4);
            }
            Check.refused("the event behind the last one", Boundary.INDEX,
                    () -> x.event(kept, 0));
        }
        ShardRebalancer many = Stores.after("n1;t50;t50;f0;t5;");
        Check.same("32 events in one tick: kept", many.events(), 30);
        Check.same("32 events in one tick: the oldest", many.event(0, 2), 2);
        Check.same("32 events in one tick: the latest", many.event(29, 2), 31);
    }

    @Says(promise = 24, sentence = {"Returns the number of events that are kept.",
        "Returns the number of events."})
    static void eventsFrom0To30() {
        Check.same("events() of a new store", new ShardRebalancer().events(), 0);
        Check.same("events() of ticks without any", Stores.after("n1;f0;t50;").events(), 0);
        for (int made : new int[] {1, 2, 29, 30, 31, 60}) {
            Check.same("events() of " + made, withLeaving(made).events(), Math.min(made, 30));
        }
    }

    @Says(promise = 25, sentence = {"Returns a part of an event.", "Returns the part.",
        "`i`: the number of the event", "`what`: 0 the time, 1 the kind, 2 the shard, 3 the node"})
    static void eventTellsTheFirstAndTheLast() {
        ShardRebalancer x = Stores.after("n1;t50;t50;f0;t5;");
        int[] first = {105, 3, 2, 0};
        int[] last = {105, 3, 31, 0};
        for (int what = 0; what <= 3; what++) {
            Check.same("event(0, " + what + ")", x.event(0, what), first[what]);
            Check.same("event(29, " + what + ")", x.event(29, what), last[what]);
        }
        ShardRebalancer y = Stores.after("n1;t1;");
        int[] only = {1, 0, 10, 0};
        for (int what = 0; what <= 3; what++) {
            Check.same("event(1, " + what + ") of two", y.event(1, what), only[what]);
        }
    }

    @Says(promise = 25, sentence = "Throws `IndexOutOfBoundsException` if there is no such event")
    static void eventRefusesOtherNumbers() {
        String[] scripts = {"", "n1;t1;", "n1;t50;t50;"};
        int[] events = {0, 2, 30};
        for (int j = 0; j < scripts.length; j++) {
            int n = events[j];
            for (int i : new int[] {-1, n, n + 1, LEAST, GREATEST}) {
                for (int what : new int[] {-1, 0, 3, 4}) {
                    Boundary.refused(scripts[j], "event(" + i + ", " + what + ") of " + n,
                            Boundary.INDEX, x -> x.event(i, what));
                }
            }
        }
        ShardRebalancer x = Stores.after("n1;t1;");
        x.forget(4);
        Check.same("event(0, 2) when one is forgotten", x.event(0, 2), 10);
        Check.refused("event(1, 2) when one is forgotten", Boundary.INDEX, () -> x.event(1, 2));
    }

    @Says(promise = 25, sentence = "Throws `IllegalArgumentException` if what is out of range")
    static void eventRefusesOtherParts() {
        for (int what : new int[] {-1, 4, LEAST, GREATEST}) {
            for (int i : new int[] {0, 29}) {
                Boundary.refused("n1;t50;t50;", "event(" + i + ", " + what + ")",
                        Boundary.ARGUMENT, x -> x.event(i, what));
            }
        }
    }

    @Says(promise = 26, sentence = {"Removes events of a shard from those that are kept.",
        "`shard`: the shard", "Returns the number of events that are removed."})
    static void forgetRemovesNoneSomeAndAll() {
        for (int made : new int[] {0, 1, 2, 29, 30, 31, 33}) {
            ShardRebalancer x = withEventsOfShard4(made);
            Check.same("forget(3) of " + made, x.forget(3), 0);
            Check.same("forget(5) of " + made, x.forget(5), 0);
            Check.same("forget(4) of " + made, x.forget(4), Math.min(made, 30));
            Check.same("events() then", x.events(), 0);
            Check.same("forget(4) again", x.forget(4), 0);
        }
        ShardRebalancer first = Stores.after("n1;t3;");
        Check.same("the events", Stores.events(first, 30), "1 0 4 0, 1 0 10 0, 2 1 4 0, 2 1 10 0, "
                + "2 0 14 0, 2 0 15 0, 3 1 14 0, 3 1 15 0, 3 0 2 0, 3 0 25 0");
        Check.same("forget(4), at the front and in the midst", first.forget(4), 2);
        Check.same("forget(25), at the end", first.forget(25), 1);
        Check.same("forget(14), in the midst", first.forget(14), 2);
        Check.same("the others in their order", Stores.events(first, 30),
                "1 0 10 0, 2 1 10 0, 2 0 15 0, 3 1 15 0, 3 0 2 0");
        ShardRebalancer ends = Stores.after("n1;t50;t50;f0;t5;");
        Check.same("forget(0), which is kept no more", ends.forget(0), 0);
        Check.same("forget(31)", ends.forget(31), 1);
        Check.same("the latest one then", Stores.events(ends, 1), "105 3 30 0");
    }

    @Says(promise = 26, sentence = "Removes events of a shard from those that are kept.")
    static void thereIsRoomBehindForgottenEvents() {
        ShardRebalancer x = withLeaving(29);
        Stores.run(x, "n1;t1;");
        Check.same("events kept of 31", x.events(), 30);
        Check.same("the oldest one", x.event(0, 0), 2);
        Check.same("forget(10)", x.forget(10), 1);
        Check.same("events kept then", x.events(), 29);
        x.fail(0);
        x.tick(1);
        Check.same("events kept with two more", x.events(), 30);
        Check.same("the oldest one", x.event(0, 0), 3);
        Check.same("the latest ones", Stores.events(x, 3), "30 0 4 0, 31 2 4 0, 31 2 10 0");
        ShardRebalancer nodes = withLeaving(30);
        for (int s = 0; s < 32; s++) {
            Check.same("forget(" + s + ") of events of nodes", nodes.forget(s), 0);
        }
        Check.same("events of nodes stay", nodes.events(), 30);
    }

    @Says(promise = 26, sentence = "Throws `IndexOutOfBoundsException` if there is no such shard")
    static void forgetRefusesOtherShards() {
        for (int s : new int[] {-1, 32, LEAST, GREATEST}) {
            Boundary.refused(Stores::busy, "forget(" + s + ")", Boundary.INDEX,
                    x -> x.forget(s));
            Boundary.refused(() -> withLeaving(3), "forget(" + s + ") of events of nodes",
                    Boundary.INDEX, x -> x.forget(s));
        }
        Check.same("forget(0)", Stores.after("n1;").forget(0), 0);
        Check.same("forget(31)", Stores.after("n1;").forget(31), 0);
    }
}
