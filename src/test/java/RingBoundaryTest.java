import java.math.BigInteger;
import java.util.ArrayList;
import java.util.HashSet;
import java.util.List;
import java.util.NoSuchElementException;
import java.util.Set;

/** The boundaries that the document names for mixing, the ring, shards and keys: 10 to 14. */
final class RingBoundaryTest {
    private static final int LEAST = Integer.MIN_VALUE;
    private static final int GREATEST = Integer.MAX_VALUE;
    private static final BigInteger WRAP = BigInteger.ONE.shiftLeft(32);
    private static final String EIGHT = "n5;n5;n5;n5;n5;n5;n5;n5;";
    private static final String ONLY_NODE_7 =
            "n1;n1;n1;n1;n1;n1;n1;n1;f0;f1;f2;f3;f4;f5;f6;";

    /** A point as the document tells it. */
    private record Point(int place, int node, int k) implements Comparable<Point> {
        @Override
        public int compareTo(Point other) {
            int byPlace = Integer.compare(place, other.place);
            int byNode = byPlace != 0 ? byPlace : Integer.compare(node, other.node);
            return byNode != 0 ? byNode : Integer.compare(k, other.k);
        }
    }

    public static void main(String[] args) {
        Boundary.runAll(RingBoundaryTest.class);
    }

    /** The place of an int, found with whole numbers that do not overflow by themselves. */
    private static int place(int a) {
        BigInteger x = times(a & 0xFFFFFFFFL, -1640531527);
        x = x.xor(x.shiftRight(15));
        x = times(x.longValueExact(), -2048144789);
        x = x.xor(x.shiftRight(13));
        return x.mod(BigInteger.valueOf(1024)).intValueExact();
    }

    private static BigInteger times(long x, int factor) {
        return BigInteger.valueOf(x).multiply(BigInteger.valueOf(factor)).mod(WRAP);
    }

    private static List<Point> ringOf(int... weights) {
        List<Point> ring = new ArrayList<>();
        for (int n = 0; n < weights.length; n++) {
            for (int k = 0; k < 4 * weights[n]; k++) {
                ring.add(new Point(place(64 * n + k), n, k));
            }
        }
        ring.sort(null);
        return ring;
    }

    private static int successorIn(List<Point> ring, int place) {
        for (int i = 0; i < ring.size(); i++) {
            if (ring.get(i).place() >= place) {
                return i;
            }
        }
        return 0;
    }

    private static void sameRing(ShardRebalancer x, List<Point> due) {
        int points = x.points();
        Check.same("points()", points, due.size());
        for (int i = 0; i < due.size() && i < points; i++) {
            Check.same("point(" + i + ", 0)", x.point(i, 0), due.get(i).place());
            Check.same("point(" + i + ", 1)", x.point(i, 1), due.get(i).node());
            Check.same("point(" + i + ", 2)", x.point(i, 2), due.get(i).k());
        }
    }

    @Says(promise = {11, 13, 14}, sentence = "The place of an int a is found in this way, with "
            + "overflow: x is a * -1640531527; x becomes x XOR (x >>> 15), then x * -2048144789, "
            + "and then x XOR (x >>> 13); the place is x AND 1023, a number from 0 to 1023.")
    static void placesAreMixedWithOverflow() {
        Check.same("the place of 0", place(0), 0);
        Check.same("the place of 1", place(1), 995);
        ShardRebalancer x = Stores.after("n1;n1;n1;n1;n1;n1;n1;n1;t50;t50;");
        int[] owner = new int[32];
        for (int s = 0; s < 32; s++) {
            owner[s] = x.shard(s, 3);
            Check.same("the place of shard " + s, x.shard(s, 0), place(1000 + s));
            Check.same("the size of shard " + s, x.shard(s, 1), 1 + place(2000 + s) % 9);
        }
        List<Integer> keys = new ArrayList<>(List.of(0, 1, 2, -1, -2, 65535, 65536, 65537, LEAST,
                LEAST + 1, GREATEST, GREATEST - 1, -1640531527, 1640531527, -2048144789));
        for (int shift = 2; shift < 31; shift++) {
            keys.add(1 << shift);
            keys.add(-1 << shift);
            keys.add((1 << shift) - 1);
        }
        for (int key : keys) {
            Check.same("route(" + key + ")", x.route(key), owner[place(key) % 32]);
        }
    }

    @Says(promise = {11, 13, 14}, sentence = "the place is x AND 1023, a number from 0 to 1023.")
    static void placesEndAt0And1023() {
        ShardRebalancer x = Stores.withOneShard();
        int[] found = new int[1024];
        for (int key = 0, seen = 0; key < 100000 && seen < 1024; key++) {
            int place = place(key);
            seen += found[place] == 0 ? 1 : 0;
            found[place] = key + 1;
        }
        for (int place : new int[] {0, 3, 4, 5, 31, 32, 35, 36, 37, 995, 996, 997, 1022, 1023}) {
            int key = found[place] - 1;
            Check.same("route of a key with the place " + place,
                    Check.outcome(() -> x.route(key)),
                    place % 32 == 4 ? "0.0" : "NoSuchElementException");
        }
        Check.same("the least place of a point", Stores.after("n1;").point(0, 0), 0);
        Check.same("the greatest place of a point", Stores.after("n2;").point(7, 0), 1021);
    }

    @Says(promise = {10, 11}, sentence = "An active node with the weight w has 4 * w points on "
            + "the ring, numbered by k from 0: their places are those of 64 * n + k, where n is "
            + "the number of the node.")
    static void aNodeHasFourPointsForEachWeight() {
        ShardRebalancer first = Stores.after("n1;");
        ShardRebalancer last = Stores.after(ONLY_NODE_7);
        for (int weight = 1; weight <= 5; weight++) {
            first.setWeight(0, weight);
            last.setWeight(7, weight);
            Check.same("points of the weight " + weight, first.points(), 4 * weight);
            for (int node = 0; node <= 7; node += 7) {
                ShardRebalancer x = node == 0 ? first : last;
                Set<Integer> numbers = new HashSet<>();
                for (int i = 0; i < 4 * weight; i++) {
                    int k = x.point(i, 2);
                    numbers.add(k);
                    Check.holds("k is from 0 to 4 * w - 1", k >= 0 && k < 4 * weight);
                    Check.same("the node", x.point(i, 1), node);
                    Check.same("the place", x.point(i, 0), place(64 * node + k));
                }
                Check.same("each k is there", numbers.size(), 4 * weight);
            }
        }
    }

    @Says(promise = {11, 12, 13}, sentence = "The points of all active nodes are ordered by their "
            + "places, and for the same place by the numbers of the nodes and then by k.")
    static void pointsAreOrdered() {
        sameRing(Stores.after(EIGHT), ringOf(5, 5, 5, 5, 5, 5, 5, 5));
        sameRing(Stores.after("n1;n5;n2;n4;n3;d1;"), ringOf(1, 0, 2, 4, 3));
        int[][] samePlace = {{0, 0, 0, 6, 16}, {170, 4, 3, 4, 11}, {183, 0, 16, 6, 7},
            {284, 3, 7, 6, 5}, {679, 4, 5, 6, 10}, {755, 1, 12, 2, 0}, {872, 3, 8, 5, 18},
            {945, 2, 18, 4, 0}, {951, 0, 12, 6, 4}, {963, 2, 19, 5, 6}};
        ShardRebalancer x = Stores.after(EIGHT);
        for (int[] points : samePlace) {
            int i = x.successor(points[0]);
            Check.same("the place of the first", x.point(i, 0), points[0]);
            Check.same("the node of the first", x.point(i, 1), points[1]);
            Check.same("the k of the first", x.point(i, 2), points[2]);
            Check.same("the place of the second", x.point(i + 1, 0), points[0]);
            Check.same("the node of the second", x.point(i + 1, 1), points[3]);
            Check.same("the k of the second", x.point(i + 1, 2), points[4]);
        }
    }

    @Says(promise = {12, 13}, sentence = "The successor of a place is the first point whose place "
            + "is not less, or the first point of all if there is none; after the last point, the "
            + "first one follows again.")
    static void successorsAtBesideAndBehindThePoints() {
        int[][] due = {{0, 0}, {1, 1}, {173, 1}, {174, 1}, {175, 2}, {671, 2}, {672, 2}, {673, 3},
            {994, 3}, {995, 3}, {996, 0}, {1022, 0}, {1023, 0}};
        ShardRebalancer x = Stores.after("n1;");
        for (int[] row : due) {
            Check.same("successor(" + row[0] + ") of node 0", x.successor(row[0]), row[1]);
        }
        int[][] dueOfNode1 = {{0, 0}, {74, 0}, {75, 0}, {76, 1}, {257, 1}, {258, 2}, {280, 2},
            {281, 3}, {716, 3}, {717, 3}, {718, 0}, {1023, 0}};
        ShardRebalancer y = Stores.after("n1;n1;f0;");
        for (int[] row : dueOfNode1) {
            Check.same("successor(" + row[0] + ") of node 1", y.successor(row[0]), row[1]);
        }
        List<Point> ring = ringOf(5, 5, 5, 5, 5, 5, 5, 5);
        for (int beside = -1; beside <= 1; beside++) {
            ShardRebalancer full = Stores.after(EIGHT);
            for (Point point : ring) {
                int place = Math.max(point.place() + beside, 0);
                Check.same("successor(" + place + ") of 160 points", full.successor(place),
                        successorIn(ring, place));
            }
        }
    }

    @Says(promise = {12, 13}, sentence = "after the last point, the first one follows again.")
    static void targetsBehindTheLastPoint() {
        ShardRebalancer x = Stores.after("n1;n1;n1;n1;n1;f0;f2;f4;");
        x.set(0, 100);
        Check.same("the place of the first point", x.point(0, 0), 75);
        Check.same("the node of the first point", x.point(0, 1), 1);
        Check.same("the place of the last point", x.point(7, 0), 717);
        int behind = 0;
        for (int s = 0; s < 32; s++) {
            if (x.shard(s, 0) > 717) {
                behind++;
                Check.same("the successor of shard " + s, x.successor(x.shard(s, 0)), 0);
                Check.same("the target of shard " + s, x.shard(s, 2), 1);
                Check.same("skipped for shard " + s, x.shard(s, 7), 0);
            }
        }
        Check.same("shards behind the last point", behind, 8);
        ShardRebalancer two = Stores.after("n1;n1;");
        Check.same("the node of the last point is full", two.shard(24, 7), 1);
        Check.same("the search goes on at the first point", two.shard(24, 2), 1);
        Check.same("shard 24 lies before the last point", two.successor(two.shard(24, 0)), 7);
    }

    @Says(promise = {12, 13}, sentence = "after the last point, the first one follows again.")
    static void targetsAtTheLastAndAtTheFirstPoint() {
        ShardRebalancer x = Stores.after("n1;n2;n2;n1;n2;f0;f3;");
        x.set(0, 0);
        Check.same("the number of points", x.points(), 24);
        Check.same("the node of the last point", x.point(23, 1), 2);
        Check.same("the node of the first point", x.point(0, 1), 4);
        Check.same("shard 22 begins at the last but one", x.successor(x.shard(22, 0)), 22);
        Check.same("its target is at the last point", x.shard(22, 2), 2);
        Check.same("one node is skipped for it", x.shard(22, 7), 1 << 1);
        Check.same("shard 30 begins there too", x.successor(x.shard(30, 0)), 22);
        Check.same("its target is at the first point", x.shard(30, 2), 4);
        Check.same("two nodes are skipped for it", x.shard(30, 7), 1 << 1 | 1 << 2);
        ShardRebalancer y = Stores.after("n1;n1;n1;n1;n1;n1;n1;f0;f1;f3;f4;");
        y.set(0, 0);
        Check.same("shard 24 begins at the last point", y.successor(y.shard(24, 0)), 11);
        Check.same("its node is full", y.shard(24, 7), 1 << 6);
        Check.same("the second point's node", y.point(1, 1), 5);
        Check.same("the target is the first point's node", y.shard(24, 2), 2);
    }

    @Says(promise = {13, 26}, sentence = "There are 32 shards, numbered from 0.")
    static void shardsAreNumberedFrom0To31() {
        ShardRebalancer x = new ShardRebalancer();
        Check.same("shard(0, 0)", x.shard(0, 0), 606);
        Check.same("shard(1, 0)", x.shard(1, 0), 105);
        Check.same("shard(30, 0)", x.shard(30, 0), 961);
        Check.same("shard(31, 0)", x.shard(31, 0), 186);
        Check.same("forget(0)", x.forget(0), 0);
        Check.same("forget(31)", x.forget(31), 0);
        for (int s : new int[] {-1, 32, LEAST, GREATEST}) {
            Check.refused("shard(" + s + ", 0)", Boundary.INDEX, () -> x.shard(s, 0));
            Check.refused("forget(" + s + ")", Boundary.INDEX, () -> x.forget(s));
        }
    }

    @Says(promise = 13, sentence = "The place of a shard s is that of 1000 + s; "
            + "its size is 1 plus the remainder of the place of 2000 + s by 9.")
    static void sizesAreFrom1To9() {
        ShardRebalancer x = new ShardRebalancer();
        int[] found = new int[11];
        for (int s = 0; s < 32; s++) {
            Check.same("the place of shard " + s, x.shard(s, 0), place(1000 + s));
            Check.same("the size of shard " + s, x.shard(s, 1), place(2000 + s) % 9 + 1);
            found[x.shard(s, 1)]++;
        }
        Check.same("shards of the size 0", found[0], 0);
        Check.same("shards of the size 1", found[1], 4);
        Check.same("shards of the size 9", found[9], 3);
        Check.same("shards of the size 10", found[10], 0);
        Check.same("the size of shard 4, remainder 0", x.shard(4, 1), 1);
        Check.same("the size of shard 22, remainder 8", x.shard(22, 1), 9);
    }

    @Says(promise = 10, sentence = {"Returns the number of points on the ring.",
        "Returns the number of points."})
    static void pointsFromNoneToAll() {
        Check.same("points() without nodes", new ShardRebalancer().points(), 0);
        Check.same("points() of the least node", Stores.after("n1;").points(), 4);
        Check.same("points() of the greatest node", Stores.after("n5;").points(), 20);
        Check.same("points() of all", Stores.after(EIGHT).points(), 160);
        ShardRebalancer x = Stores.after(EIGHT + "d0;f1;");
        Check.same("points() of six active nodes", x.points(), 120);
        x.recover(0);
        Check.same("points() of seven", x.points(), 140);
        Check.same("points() without active nodes", Stores.after("n5;n5;d0;f1;").points(), 0);
    }

    @Says(promise = 11, sentence = {"Returns a part of a point.", "Returns the part.",
        "`i`: its number in the order of the ring, from 0",
        "`what`: 0 its place, 1 its node, 2 its k"})
    static void pointTellsTheFirstAndTheLast() {
        ShardRebalancer x = Stores.after("n2;");
        int[][] due = {{0, 0, 0}, {119, 0, 5}, {140, 0, 6}, {174, 0, 2}, {672, 0, 3}, {704, 0, 4},
            {995, 0, 1}, {1021, 0, 7}};
        for (int i = 0; i < due.length; i++) {
            for (int what = 0; what <= 2; what++) {
                Check.same("point(" + i + ", " + what + ")", x.point(i, what), due[i][what]);
            }
        }
        ShardRebalancer full = Stores.after(EIGHT);
        Check.same("point(159, 0) of all", full.point(159, 0), 1021);
        Check.same("point(159, 1) of all", full.point(159, 1), 0);
        Check.same("point(159, 2) of all", full.point(159, 2), 7);
        ShardRebalancer last = Stores.after(ONLY_NODE_7);
        Check.same("the node of a point of node 7", last.point(0, 1), 7);
    }

    @Says(promise = 11, sentence = "Throws `IndexOutOfBoundsException` if there is no such point")
    static void pointRefusesOtherNumbers() {
        String[] scripts = {"", "n1;", "n5;", EIGHT, "n5;d0;", "n5;n1;f0;"};
        int[] points = {0, 4, 20, 160, 0, 4};
        for (int i = 0; i < scripts.length; i++) {
            int n = points[i];
            for (int wrong : new int[] {-1, n, n + 1, LEAST, GREATEST}) {
                Boundary.refused(scripts[i], "point(" + wrong + ", 0) of " + n, Boundary.INDEX,
                        x -> x.point(wrong, 0));
                Boundary.refused(scripts[i], "point(" + wrong + ", 3) of " + n, Boundary.INDEX,
                        x -> x.point(wrong, 3));
            }
            if (n > 0) {
                Check.holds("point(" + (n - 1) + ", 0) of " + n,
                        Stores.after(scripts[i]).point(n - 1, 0) >= 0);
            }
        }
    }

    @Says(promise = 11, sentence = "Throws `IllegalArgumentException` if what is out of range")
    static void pointRefusesOtherParts() {
        for (int what : new int[] {-1, 3, LEAST, GREATEST}) {
            for (int i : new int[] {0, 3}) {
                Boundary.refused("n1;", "point(" + i + ", " + what + ")", Boundary.ARGUMENT,
                        x -> x.point(i, what));
            }
        }
    }

    @Says(promise = 12, sentence = {"Returns the successor of a place.",
        "`place`: the place, 0 to 1023", "Returns its number in the order of the ring."})
    static void successorTakesPlacesFrom0To1023() {
        ShardRebalancer x = Stores.after("n1;");
        Check.same("successor(0)", x.successor(0), 0);
        Check.same("successor(1)", x.successor(1), 1);
        Check.same("successor(995)", x.successor(995), 3);
        Check.same("successor(1023)", x.successor(1023), 0);
        Check.same("successor(1021) of 160 points", Stores.after(EIGHT).successor(1021), 159);
        Check.same("successor(1022) of 160 points", Stores.after(EIGHT).successor(1022), 0);
    }

    @Says(promise = 12, sentence = "Throws `IllegalArgumentException` if there is no such place")
    static void successorRefusesOtherPlaces() {
        for (int place : new int[] {-1, 1024, LEAST, GREATEST}) {
            Boundary.refused("n1;", "successor(" + place + ")", Boundary.ARGUMENT,
                    y -> y.successor(place));
            Boundary.refused("", "successor(" + place + ") without points", Boundary.ARGUMENT,
                    y -> y.successor(place));
        }
    }

    @Says(promise = 12, sentence = "Throws `NoSuchElementException` if there are no points")
    static void successorRefusesARingWithoutPoints() {
        for (String script : new String[] {"", "n5;d0;", "n5;f0;", "n5;d0;t1;"}) {
            for (int place : new int[] {0, 1, 1022, 1023}) {
                Boundary.refused(script, "successor(" + place + ") after " + script,
                        NoSuchElementException.class, x -> x.successor(place));
            }
        }
    }

    @Says(promise = 13, sentence = {"Returns a number about a shard.", "`shard`: the shard",
        "Returns the number.", "`what`: 0 its place; 1 its size; 2 its target, -1 for none; 3 its "
        + "owner, -1 for none; 4 its lease, -1 without an owner; 5: 1 if it is served, otherwise "
        + "0; 6 the number of its move, -1 if it has none; 7 the set of nodes that are skipped "
        + "for it"})
    static void shardTellsEachNumber() {
        same("a new store", new ShardRebalancer(), 0, new int[] {606, 7, -1, -1, -1, 0, -1, 0});
        same("a new store", new ShardRebalancer(), 31, new int[] {186, 3, -1, -1, -1, 0, -1, 0});
        ShardRebalancer x = Stores.after("n1;t1;");
        same("the first move", x, 4, new int[] {318, 1, 0, -1, -1, 0, 0, 0});
        same("the second move", x, 10, new int[] {952, 1, 0, -1, -1, 0, 1, 0});
        same("no move", x, 31, new int[] {186, 3, 0, -1, -1, 0, -1, 0});
        x.tick(1);
        same("an owner", x, 4, new int[] {318, 1, 0, 0, 7, 1, -1, 0});
        x.drain(0);
        same("a draining owner", x, 4, new int[] {318, 1, -1, 0, 7, 1, -1, 0});
        x.fail(0);
        same("an owner that is down", x, 4, new int[] {318, 1, -1, 0, 7, 0, -1, 0});
        x.tick(5);
        same("no owner any more", x, 4, new int[] {318, 1, -1, -1, -1, 0, -1, 0});
        ShardRebalancer seven = Stores.after(ONLY_NODE_7);
        Check.same("the target 7", seven.shard(31, 2), 7);
        seven.tick(50);
        seven.tick(50);
        Check.same("the owner 7", seven.shard(31, 3), 7);
        ShardRebalancer eight = Stores.after("n1;n1;n1;n1;");
        eight.set(1, 8);
        eight.tick(1);
        Check.same("the eighth move", eight.shard(eight.move(7, 0), 6), 7);
        ShardRebalancer skips = Stores.after(EIGHT);
        skips.set(0, 0);
        Check.same("none is skipped for shard 0", skips.shard(0, 7), 0);
        Check.same("one is skipped for shard 21", skips.shard(21, 7), 1 << 2);
        Check.same("two are skipped for shard 30", skips.shard(30, 7), 1 << 5 | 1 << 2);
    }

    @Says(promise = 13, sentence = "Throws `IndexOutOfBoundsException` if there is no such shard")
    static void shardRefusesOtherShards() {
        for (int s : new int[] {-1, 32, LEAST, GREATEST}) {
            for (int what : new int[] {-1, 0, 7, 8}) {
                Boundary.refused(Stores::busy, "shard(" + s + ", " + what + ")", Boundary.INDEX,
                        x -> x.shard(s, what));
            }
        }
    }

    @Says(promise = 13, sentence = "Throws `IllegalArgumentException` if what is out of range")
    static void shardRefusesOtherParts() {
        for (int what : new int[] {-1, 8, LEAST, GREATEST}) {
            for (int s : new int[] {0, 31}) {
                Boundary.refused(Stores::busy, "shard(" + s + ", " + what + ")",
                        Boundary.ARGUMENT, x -> x.shard(s, what));
            }
        }
    }

    @Says(promise = 14, sentence = "Returns the node that serves a key: the shard of the key is "
            + "the place of the key modulo 32.")
    static void routeToTheShardOfAKey() {
        ShardRebalancer x = Stores.withOneShard();
        int[] served = new int[32];
        for (int key = 0; key < 400; key++) {
            int k = key;
            served[place(key) % 32] += Check.outcome(() -> x.route(k)).equals("0.0") ? 1 : 0;
        }
        for (int shard = 0; shard < 32; shard++) {
            Check.holds("keys of the shard " + shard + " are served or not",
                    shard == 4 ? served[shard] > 0 : served[shard] == 0);
        }
    }

    @Says(promise = 14, sentence = {"`key`: the key, any int", "Returns the owner of the shard."})
    static void routeTakesAnyKey() {
        ShardRebalancer x = Stores.withOneShard();
        for (int key : new int[] {0, -1, 1, LEAST, GREATEST, 7, 1000}) {
            int shard = place(key) % 32;
            Check.same("route(" + key + "), of the shard " + shard,
                    Check.outcome(() -> x.route(key)),
                    shard == 4 ? "0.0" : "NoSuchElementException");
        }
        for (int last : new int[] {0, 7}) {
            ShardRebalancer all = last == 0 ? Stores.settled()
                    : Stores.after(ONLY_NODE_7, "t50;t50;");
            for (int key : new int[] {0, -1, 1, LEAST, GREATEST}) {
                Check.same("route(" + key + ")", all.route(key), last);
            }
        }
    }

    @Says(promise = 14, sentence = "Throws `NoSuchElementException` if the shard is not served")
    static void routeRefusesShardsThatAreNotServed() {
        int key = 0;
        while (place(key) % 32 != 4) {
            key++;
        }
        int of4 = key;
        Boundary.refused("", "route in a new store", NoSuchElementException.class,
                x -> x.route(of4));
        Boundary.refused("n1;t1;", "route while the shard moves", NoSuchElementException.class,
                x -> x.route(of4));
        Check.same("route when the move has ended", Stores.after("n1;t2;").route(of4), 0);
        Check.same("route with a draining owner", Stores.after("n1;t2;d0;").route(of4), 0);
        Boundary.refused("n1;t2;f0;", "route while the owner is down",
                NoSuchElementException.class, x -> x.route(of4));
        Boundary.refused("n1;t2;f0;t5;", "route when the lease has run out",
                NoSuchElementException.class, x -> x.route(of4));
        Check.same("route when the owner has recovered", Stores.after("n1;t2;f0;r0;").route(of4),
                0);
    }

    private static void same(String what, ShardRebalancer x, int shard, int[] due) {
        for (int i = 0; i < due.length; i++) {
            Check.same(what + ": shard(" + shard + ", " + i + ")", x.shard(shard, i), due[i]);
        }
    }
}
