import java.util.ArrayList;
import java.util.List;
import java.util.NoSuchElementException;

/** Promises 10 to 14: points, successors, shards and keys. */
final class RingTest {
    public static void main(String[] args) {
        promise10();
        promise11();
        promise12();
        promise13();
        promise13targets();
        promise14();
        Check.finish("RingTest");
    }

    private static void promise10() {
        ShardRebalancer x = new ShardRebalancer();
        Check.same("points of no node", x.points(), 0);
        x.addNode(2);
        Check.same("points of the weight 2", x.points(), 8);
        x.addNode(5);
        Check.same("points of the weights 2 and 5", x.points(), 28);
        x.drain(0);
        Check.same("points without the draining one", x.points(), 20);
        x.fail(1);
        Check.same("points without the one that is down", x.points(), 0);
        x.recover(0);
        Check.same("points after recovering", x.points(), 8);
        ShardRebalancer full = Stores.after("n5;n5;n5;n5;n5;n5;n5;n5;");
        Check.same("points of all nodes", full.points(), 160);
    }

    private static void promise11() {
        ShardRebalancer x = Stores.after("n2;n5;n1;n3;n5;n5;n5;n5;d3;");
        int points = x.points();
        Check.same("number of points", points, 4 * (2 + 5 + 1 + 5 + 5 + 5 + 5));
        Check.refused("point(-1, 0)", IndexOutOfBoundsException.class, () -> x.point(-1, 0));
        Check.refused("point(n, 9)", IndexOutOfBoundsException.class,
                () -> x.point(points, 9));
        Check.refused("point(0, -1)", IllegalArgumentException.class, () -> x.point(0, -1));
        Check.refused("point(0, 3)", IllegalArgumentException.class, () -> x.point(0, 3));
        Check.refused("point(0, 0) of none", IndexOutOfBoundsException.class,
                () -> new ShardRebalancer().point(0, 0));
        int samePlaces = 0;
        int[] weights = {2, 5, 1, 0, 5, 5, 5, 5};
        int before = -1;
        int placeBefore = -1;
        for (int i = 0; i < points; i++) {
            int place = x.point(i, 0);
            int n = x.point(i, 1);
            int k = x.point(i, 2);
            Check.same("place of a point", place, Model.mix(64 * n + k));
            Check.holds("k below 4 * w of an active node", k < 4 * weights[n]);
            int order = (place * 8 + n) * 32 + k;
            Check.holds("points in their order", before < order);
            samePlaces += place == placeBefore ? 1 : 0;
            before = order;
            placeBefore = place;
        }
        Check.holds("there are points with the same place", samePlaces > 0);
    }

    private static void promise12() {
        ShardRebalancer x = new ShardRebalancer();
        Check.refused("successor(-1)", IllegalArgumentException.class, () -> x.successor(-1));
        Check.refused("successor(1024)", IllegalArgumentException.class,
                () -> x.successor(1024));
        Check.refused("successor without points", NoSuchElementException.class,
                () -> x.successor(0));
        for (int n = 0; n < 8; n++) {
            x.addNode(1 + n % 5);
        }
        int points = x.points();
        int[] places = new int[points];
        for (int i = 0; i < points; i++) {
            places[i] = x.point(i, 0);
        }
        for (int place = 0; place <= 1023; place += place % 7 == 0 ? 1 : 5) {
            int due = 0;
            while (due < points && places[due] < place) {
                due++;
            }
            Check.same("successor(" + place + ")", x.successor(place), due % points);
        }
        Check.same("successor of the last place", x.successor(1023), 0);
        Check.same("successor of a point's place", x.successor(x.point(3, 0)), 3);
    }

    private static void promise13() {
        ShardRebalancer x = Stores.after("n1;t1;");
        Check.refused("shard(-1, 9)", IndexOutOfBoundsException.class, () -> x.shard(-1, 9));
        Check.refused("shard(32, 0)", IndexOutOfBoundsException.class, () -> x.shard(32, 0));
        Check.refused("shard(0, -1)", IllegalArgumentException.class, () -> x.shard(0, -1));
        Check.refused("shard(0, 8)", IllegalArgumentException.class, () -> x.shard(0, 8));
        for (int s = 0; s < 32; s++) {
            Check.same("place of a shard", x.shard(s, 0), Model.mix(1000 + s));
            Check.same("size of a shard", x.shard(s, 1), 1 + Model.mix(2000 + s) % 9);
        }
        Check.same("place of shard 0", x.shard(0, 0), 606);
        Check.same("size of shard 13", x.shard(13, 1), 9);
        Check.same("number of the first move", x.shard(4, 6), 0);
        Check.same("number of the second move", x.shard(10, 6), 1);
        Check.same("no move", x.shard(0, 6), -1);
        x.tick(1);
        Check.same("owner", x.shard(4, 3), 0);
        Check.same("lease", x.shard(4, 4), 7);
        Check.same("served", x.shard(4, 5), 1);
        Check.same("the move has ended", x.shard(4, 6), -1);
        Check.same("lease without owner", x.shard(0, 4), -1);
        x.fail(0);
        Check.same("owner that is down", x.shard(4, 3), 0);
        Check.same("lease of one that is down", x.shard(4, 4), 7);
        Check.same("not served", x.shard(4, 5), 0);
        Check.same("no target without active nodes", x.shard(4, 2), -1);
    }

    /** Finds the targets by points and successors alone. */
    private static void promise13targets() {
        List<String> scripts = new ArrayList<>(List.of("n1;", "n1;n1;", "n1;n5;n2;",
                "n1;n1;n1;n1;", "n5;n1;n1;n1;n1;n1;n1;n1;", "n2;n2;n2;n2;n2;n2;n2;n2;d3;f5;"));
        for (int i = 1; i <= 5; i++) {
            for (int j = 1; j <= 5; j++) {
                scripts.add("n" + i + ";n" + j + ";");
                scripts.add("n1;n" + i + ";n" + j + ";f0;");
                scripts.add("n1;n" + i + ";n" + j + ";n2;n3;d0;");
                scripts.add("n" + i + ";n" + j + ";n5;n" + i + ";n1;n" + j + ";d2;");
            }
        }
        for (String script : scripts) {
            for (int slack = 0; slack <= 100; slack += 20) {
                ShardRebalancer x = Stores.after(script);
                x.set(0, slack);
                int[] load = new int[8];
                for (int s = 0; s < 32; s++) {
                    int at = x.successor(x.shard(s, 0));
                    int skipped = 0;
                    while (load[x.point(at, 1)] >= x.node(x.point(at, 1), 2)) {
                        skipped |= 1 << x.point(at, 1);
                        at = (at + 1) % x.points();
                    }
                    load[x.point(at, 1)]++;
                    Check.same(script + ": target", x.shard(s, 2), x.point(at, 1));
                    Check.same(script + ": skipped", x.shard(s, 7), skipped);
                }
            }
        }
        ShardRebalancer x = Stores.after("n1;n1;n1;n1;");
        Check.same("two nodes are skipped for shard 23", x.shard(23, 7), 1 << 3 | 1);
    }

    private static void promise14() {
        ShardRebalancer x = Stores.settled();
        x.addNode(3);
        x.tick(50);
        int[] owners = new int[32];
        for (int s = 0; s < 32; s++) {
            owners[s] = x.shard(s, 3);
        }
        for (int key = -2000000000; key < 2000000000 - 23456789; key += 23456789) {
            int k = key;
            Check.same("route(" + key + ")", x.route(k), owners[Model.mix(key) % 32]);
        }
        Check.same("route(0)", x.route(0), x.shard(0, 3));
        x.drain(0);
        int served = 0;
        for (int key = 0; key < 100; key++) {
            int k = key;
            int owner = owners[Model.mix(key) % 32];
            served += owner == 0 ? 1 : 0;
            Check.same("a draining node serves", x.route(k), owner);
        }
        Check.same("the draining node serves some", served > 0 ? 1 : 0, 1);
        x.fail(0);
        for (int key = 0; key < 100; key++) {
            int k = key;
            if (owners[Model.mix(key) % 32] == 0) {
                Check.refused("a node that is down serves nothing",
                        NoSuchElementException.class, () -> x.route(k));
            }
        }
        Check.refused("route in a new store", NoSuchElementException.class,
                () -> new ShardRebalancer().route(Integer.MIN_VALUE));
    }
}
