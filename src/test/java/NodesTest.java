/** Promises 1 to 9: a new object, the nodes and the settings. */
final class NodesTest {
    public static void main(String[] args) {
        promise1();
        promise2();
        promise3();
        promise4();
        promise5();
        promise6();
        promise7();
        promise8();
        promise9();
        Check.finish("NodesTest");
    }

    private static void promise1() {
        ShardRebalancer x = new ShardRebalancer();
        Check.same("new: absent nodes", x.nodes(0), 255);
        Check.same("new: points", x.points(), 0);
        Check.same("new: moves", x.moves(), 0);
        Check.same("new: events", x.events(), 0);
        Check.same("new: pending", x.pending(), 32);
        for (int what = 0; what <= 6; what++) {
            Check.same("new: statistic " + what, x.statistic(what), 0);
            for (int n = 0; n < 8; n++) {
                Check.same("new: node " + n + ", " + what, x.node(n, what), 0);
            }
        }
        for (int s = 0; s < 32; s++) {
            Check.same("new: target", x.shard(s, 2), -1);
            Check.same("new: owner", x.shard(s, 3), -1);
            Check.same("new: lease", x.shard(s, 4), -1);
            Check.same("new: served", x.shard(s, 5), 0);
            Check.same("new: move", x.shard(s, 6), -1);
            Check.same("new: skipped", x.shard(s, 7), 0);
        }
        Check.same("new: slack", x.set(0, 1), 25);
        Check.same("new: budget", x.set(1, 1), 3);
        Check.same("new: lease length", x.set(2, 1), 5);
        Check.same("new: the first character fed", x.feed('n'), 1);
        ShardRebalancer other = new ShardRebalancer();
        Check.same("another new: slack", other.set(0, 2), 25);
        Check.same("another new: buffer", other.feed('n'), 1);
    }

    private static void promise2() {
        ShardRebalancer x = new ShardRebalancer();
        Check.refused("addNode(0)", IllegalArgumentException.class, () -> x.addNode(0));
        Check.refused("addNode(6)", IllegalArgumentException.class, () -> x.addNode(6));
        Check.refused("addNode(least)", IllegalArgumentException.class,
                () -> x.addNode(Integer.MIN_VALUE));
        for (int n = 0; n < 8; n++) {
            Check.same("addNode", x.addNode(1 + n % 5), n);
            Check.same("addNode: state", x.node(n, 0), 1);
            Check.same("addNode: weight", x.node(n, 1), 1 + n % 5);
        }
        Check.refused("addNode with none absent", IllegalStateException.class,
                () -> x.addNode(5));
        Check.refused("addNode(9) with none absent", IllegalArgumentException.class,
                () -> x.addNode(9));
        x.drain(6);
        x.drain(3);
        x.tick(1);
        Check.same("two nodes have left", x.nodes(0), 1 << 6 | 1 << 3);
        Check.same("addNode takes the lowest", x.addNode(5), 3);
        Check.same("addNode with its own weight", x.node(3, 1), 5);
        Check.same("addNode takes the next", x.addNode(2), 6);
    }

    private static void promise3() {
        ShardRebalancer x = Stores.settled();
        Check.refused("drain(-1)", IndexOutOfBoundsException.class, () -> x.drain(-1));
        Check.refused("drain(8)", IndexOutOfBoundsException.class, () -> x.drain(8));
        Check.refused("drain of an absent one", IndexOutOfBoundsException.class,
                () -> x.drain(1));
        Check.same("drain", x.drain(0), 32);
        Check.same("drain: state", x.node(0, 0), 2);
        Check.same("drain: weight", x.node(0, 1), 1);
        Check.same("drain: served still", x.shard(0, 5), 1);
        Check.same("drain: no points", x.points(), 0);
        Check.refused("drain of a draining one", IllegalStateException.class, () -> x.drain(0));
        x.fail(0);
        Check.refused("drain of one that is down", IllegalStateException.class,
                () -> x.drain(0));
        Check.same("drain without shards", Stores.after("n1;n1;").drain(1), 0);
    }

    private static void promise4() {
        ShardRebalancer x = Stores.settled();
        Check.refused("fail(-1)", IndexOutOfBoundsException.class, () -> x.fail(-1));
        Check.refused("fail(8)", IndexOutOfBoundsException.class, () -> x.fail(8));
        Check.refused("fail of an absent one", IndexOutOfBoundsException.class,
                () -> x.fail(7));
        Check.same("fail of an active one", x.fail(0), 32);
        Check.same("fail: state", x.node(0, 0), 3);
        Check.same("fail: owner still", x.shard(5, 3), 0);
        Check.same("fail: not served", x.shard(5, 5), 0);
        Check.refused("fail of one that is down", IllegalStateException.class,
                () -> x.fail(0));
        ShardRebalancer y = Stores.settled();
        y.drain(0);
        Check.same("fail of a draining one", y.fail(0), 32);
        Check.same("fail of a draining one: state", y.node(0, 0), 3);
    }

    private static void promise5() {
        ShardRebalancer x = Stores.settled();
        Check.refused("recover(-1)", IndexOutOfBoundsException.class, () -> x.recover(-1));
        Check.refused("recover(8)", IndexOutOfBoundsException.class, () -> x.recover(8));
        Check.refused("recover of an absent one", IndexOutOfBoundsException.class,
                () -> x.recover(2));
        Check.refused("recover of an active one", IllegalStateException.class,
                () -> x.recover(0));
        x.drain(0);
        Check.same("recover of a draining one", x.recover(0), 2);
        Check.same("recover: state", x.node(0, 0), 1);
        x.fail(0);
        Check.same("recover of one that is down", x.recover(0), 3);
        Check.same("recover: state", x.node(0, 0), 1);
        Check.same("recover: shards", x.node(0, 3), 32);
    }

    private static void promise6() {
        ShardRebalancer x = Stores.after("n2;n3;");
        Check.refused("setWeight(-1, 9)", IndexOutOfBoundsException.class,
                () -> x.setWeight(-1, 9));
        Check.refused("setWeight(8, 1)", IndexOutOfBoundsException.class,
                () -> x.setWeight(8, 1));
        Check.refused("setWeight(2, 0)", IndexOutOfBoundsException.class,
                () -> x.setWeight(2, 0));
        Check.refused("setWeight(0, 0)", IllegalArgumentException.class,
                () -> x.setWeight(0, 0));
        Check.refused("setWeight(0, 6)", IllegalArgumentException.class,
                () -> x.setWeight(0, 6));
        Check.same("setWeight", x.setWeight(0, 5), 2);
        Check.same("setWeight: weight", x.node(0, 1), 5);
        Check.same("setWeight: points", x.points(), 32);
        x.drain(1);
        Check.same("setWeight of a draining one", x.setWeight(1, 1), 3);
        Check.same("setWeight without effect yet", x.points(), 20);
        x.fail(1);
        Check.same("setWeight of one that is down", x.setWeight(1, 2), 1);
        x.recover(1);
        Check.same("setWeight with effect", x.points(), 28);
    }

    private static void promise7() {
        ShardRebalancer x = Stores.after("n2;n1;t10;d0;t1;");
        Check.refused("node(-1, 9)", IndexOutOfBoundsException.class, () -> x.node(-1, 9));
        Check.refused("node(8, 0)", IndexOutOfBoundsException.class, () -> x.node(8, 0));
        Check.refused("node(0, -1)", IllegalArgumentException.class, () -> x.node(0, -1));
        Check.refused("node(7, 7)", IllegalArgumentException.class, () -> x.node(7, 7));
        Check.same("node: state", x.node(0, 0), 2);
        Check.same("node: weight", x.node(0, 1), 2);
        Check.same("node: capacity of a draining one", x.node(0, 2), 0);
        Check.same("node: capacity of the only active one", x.node(1, 2), 41);
        Check.same("node: target of none", x.node(0, 4), 0);
        Check.same("node: target of all", x.node(1, 4), 32);
        int[] owned = new int[8];
        int[] sizes = new int[8];
        int[] arriving = new int[8];
        for (int s = 0; s < 32; s++) {
            int owner = x.shard(s, 3);
            if (owner >= 0) {
                owned[owner]++;
                sizes[owner] += x.shard(s, 1);
            }
        }
        for (int i = 0; i < x.moves(); i++) {
            arriving[x.move(i, 2)]++;
        }
        for (int n = 0; n < 8; n++) {
            Check.same("node: shards owned", x.node(n, 3), owned[n]);
            Check.same("node: sizes owned", x.node(n, 5), sizes[n]);
            Check.same("node: moves to it", x.node(n, 6), arriving[n]);
        }
        Check.same("node: some moves are there", x.node(1, 6), 2);
        ShardRebalancer all = Stores.settled();
        Check.same("node: all sizes", all.node(0, 5), 151);
        all.fail(0);
        Check.same("node: capacity of one that is down", all.node(0, 2), 0);
        Check.same("node: shards of one that is down", all.node(0, 3), 32);
        ShardRebalancer gone = Stores.after("n4;d0;t1;");
        Check.same("node: weight of an absent one", gone.node(0, 1), 0);
        ShardRebalancer halves = Stores.after("n1;n1;");
        for (int slack = 0; slack <= 100; slack++) {
            halves.set(0, slack);
            Check.same("node: capacity of a half", halves.node(1, 2),
                    1 + (1600 + 16 * slack) / 100);
        }
        ShardRebalancer shares = Stores.after("n1;n5;n2;");
        Check.same("node: 1 + 32 * 1 * 125 / 800", shares.node(0, 2), 6);
        Check.same("node: 1 + 32 * 5 * 125 / 800", shares.node(1, 2), 26);
        Check.same("node: 1 + 32 * 2 * 125 / 800", shares.node(2, 2), 11);
    }

    private static void promise8() {
        ShardRebalancer x = Stores.after("n1;n1;n1;n1;n1;n1;d1;d4;f0;f4;");
        Check.refused("nodes(-1)", IllegalArgumentException.class, () -> x.nodes(-1));
        Check.refused("nodes(4)", IllegalArgumentException.class, () -> x.nodes(4));
        Check.same("nodes: absent", x.nodes(0), 0b11000000);
        Check.same("nodes: active", x.nodes(1), 0b00101100);
        Check.same("nodes: draining", x.nodes(2), 0b00000010);
        Check.same("nodes: down", x.nodes(3), 0b00010001);
    }

    private static void promise9() {
        ShardRebalancer x = Stores.after("n1;n1;");
        int[][] ranges = {{0, 0, 100, 25}, {1, 1, 8, 3}, {2, 1, 20, 5}};
        for (int[] range : ranges) {
            int what = range[0];
            Check.refused("set below", IllegalArgumentException.class,
                    () -> x.set(what, range[1] - 1));
            Check.refused("set above", IllegalArgumentException.class,
                    () -> x.set(what, range[2] + 1));
            Check.same("set to the least", x.set(what, range[1]), range[3]);
            Check.same("set to the greatest", x.set(what, range[2]), range[1]);
            Check.same("set back", x.set(what, range[3]), range[2]);
        }
        Check.refused("set(-1, 5)", IllegalArgumentException.class, () -> x.set(-1, 5));
        Check.refused("set(3, 5)", IllegalArgumentException.class, () -> x.set(3, 5));
        Check.same("capacity with the slack 25", x.node(0, 2), 21);
        x.set(0, 0);
        Check.same("capacity with the slack 0", x.node(0, 2), 17);
        x.set(0, 100);
        Check.same("capacity with the slack 100", x.node(0, 2), 33);
        x.set(1, 1);
        x.tick(1);
        Check.same("moves with the budget 1", x.moves(), 1);
        x.set(1, 8);
        x.tick(1);
        Check.same("moves with the budget 8, two to each node", x.moves(), 4);
        x.set(1, 1);
        x.set(2, 20);
        Check.same("a lesser budget ends no move", x.moves(), 4);
        x.tick(50);
        Check.same("lease with the length 20", x.shard(4, 4), 72);
    }
}
