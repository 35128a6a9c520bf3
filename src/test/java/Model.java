import java.util.ArrayDeque;
import java.util.ArrayList;
import java.util.Comparator;
import java.util.Deque;
import java.util.List;
import java.util.NoSuchElementException;
import java.util.TreeSet;
import java.util.regex.Matcher;
import java.util.regex.Pattern;

/**
 * The document once more, in the library's words and without regard to cost: nothing is kept that
 * can be found anew. ModelTest compares the class with it.
 */
final class Model {
    private record Node(int state, int weight) {
    }

    private record Point(int place, int node, int k) {
    }

    private record Move(int shard, int source, int destination, int progress) {
    }

    private record Event(int time, int kind, int shard, int node) {
    }

    private record Targets(int[] target, int[] skipped, int[] load, int[] capacity) {
    }

    private static final class State {
        final List<Node> nodes = new ArrayList<>();
        final List<Integer> settings = new ArrayList<>(List.of(25, 3, 5));
        final List<Integer> owners = new ArrayList<>();
        final List<Integer> leases = new ArrayList<>();
        final List<Move> moves = new ArrayList<>();
        final List<Event> events = new ArrayList<>();
        final List<Integer> statistics = new ArrayList<>(List.of(0, 0, 0, 0, 0, 0, 0));

        static State fresh() {
            State s = new State();
            for (int n = 0; n < 8; n++) {
                s.nodes.add(new Node(0, 0));
            }
            for (int i = 0; i < 32; i++) {
                s.owners.add(-1);
                s.leases.add(-1);
            }
            return s;
        }

        State copy() {
            State s = new State();
            s.nodes.addAll(nodes);
            s.settings.clear();
            s.settings.addAll(settings);
            s.owners.addAll(owners);
            s.leases.addAll(leases);
            s.moves.addAll(moves);
            s.events.addAll(events);
            s.statistics.clear();
            s.statistics.addAll(statistics);
            return s;
        }

        void count(int what, int more) {
            statistics.set(what, statistics.get(what) + more);
        }

        void tell(int kind, int shard, int node) {
            events.add(new Event(statistics.get(0), kind, shard, node));
            while (events.size() > 30) {
                events.remove(0);
            }
        }
    }

    private State now = State.fresh();
    private State saved = null;
    private final Deque<State> past = new ArrayDeque<>();
    private String buffer = "";

    static int mix(int a) {
        int x = a * -1640531527;
        x = x ^ (x >>> 15);
        x = x * -2048144789;
        x = x ^ (x >>> 13);
        return x & 1023;
    }

    static int size(int shard) {
        return 1 + mix(2000 + shard) % 9;
    }

    private static List<Point> ring(State s) {
        List<Point> ring = new ArrayList<>();
        for (int n = 0; n < 8; n++) {
            for (int k = 0; s.nodes.get(n).state() == 1 && k < 4 * s.nodes.get(n).weight(); k++) {
                ring.add(new Point(mix(64 * n + k), n, k));
            }
        }
        ring.sort(Comparator.comparingInt(Point::place).thenComparingInt(Point::node)
                .thenComparingInt(Point::k));
        return ring;
    }

    private static int successor(List<Point> ring, int place) {
        for (int i = 0; i < ring.size(); i++) {
            if (ring.get(i).place() >= place) {
                return i;
            }
        }
        return 0;
    }

    private static Targets targets(State s, int slack) {
        int total = 0;
        for (Node node : s.nodes) {
            total += node.state() == 1 ? node.weight() : 0;
        }
        int[] capacity = new int[8];
        for (int n = 0; n < 8; n++) {
            if (s.nodes.get(n).state() == 1) {
                capacity[n] = 1 + 32 * s.nodes.get(n).weight() * (100 + slack) / (100 * total);
            }
        }
        int[] target = new int[32];
        int[] skipped = new int[32];
        int[] load = new int[8];
        List<Point> ring = ring(s);
        for (int i = 0; i < 32; i++) {
            target[i] = -1;
            if (ring.isEmpty()) {
                continue;
            }
            int at = successor(ring, mix(1000 + i));
            while (load[ring.get(at).node()] >= capacity[ring.get(at).node()]) {
                skipped[i] |= 1 << ring.get(at).node();
                at = (at + 1) % ring.size();
            }
            target[i] = ring.get(at).node();
            load[target[i]]++;
        }
        return new Targets(target, skipped, load, capacity);
    }

    private static Targets targets(State s) {
        return targets(s, s.settings.get(0));
    }

    private static boolean served(State s, int shard) {
        int owner = s.owners.get(shard);
        return owner >= 0 && (s.nodes.get(owner).state() == 1 || s.nodes.get(owner).state() == 2);
    }

    private static int pending(State s) {
        int[] target = targets(s).target();
        int found = 0;
        for (int i = 0; i < 32; i++) {
            found += s.owners.get(i) < 0 || s.owners.get(i) != target[i] ? 1 : 0;
        }
        return found;
    }

    private static int owned(State s, int node) {
        return (int) s.owners.stream().filter(o -> o == node).count();
    }

    private static void tick(State s) {
        s.count(0, 1);
        int time = s.statistics.get(0);
        for (int i = 0; i < 32; i++) {
            int owner = s.owners.get(i);
            if (served(s, i)) {
                s.leases.set(i, time + s.settings.get(2));
            } else if (owner >= 0 && s.leases.get(i) <= time) {
                s.owners.set(i, -1);
                s.leases.set(i, -1);
                s.count(6, 1);
                s.tell(3, i, owner);
            }
        }
        advance(s, time);
        begin(s);
        for (int n = 0; n < 8; n++) {
            if (s.nodes.get(n).state() == 2 && owned(s, n) == 0) {
                s.nodes.set(n, new Node(0, 0));
                s.tell(4, -1, n);
            }
        }
        for (int i = 0; i < 32; i++) {
            s.count(5, served(s, i) ? 0 : 1);
        }
    }

    private static void advance(State s, int time) {
        List<Move> old = new ArrayList<>(s.moves);
        s.moves.clear();
        for (Move m : old) {
            boolean lost = m.source() >= 0 && (s.owners.get(m.shard()) != m.source()
                    || s.nodes.get(m.source()).state() == 3);
            if (lost || targets(s).target()[m.shard()] != m.destination()) {
                s.count(3, 1);
                s.tell(2, m.shard(), m.destination());
            } else if (m.progress() + 1 == size(m.shard())) {
                s.owners.set(m.shard(), m.destination());
                s.leases.set(m.shard(), time + s.settings.get(2));
                s.count(2, 1);
                s.count(4, size(m.shard()));
                s.tell(1, m.shard(), m.destination());
            } else {
                s.moves.add(new Move(m.shard(), m.source(), m.destination(), m.progress() + 1));
            }
        }
    }

    private static void begin(State s) {
        while (s.moves.size() < s.settings.get(1)) {
            int[] target = targets(s).target();
            TreeSet<Integer> candidates = new TreeSet<>();
            for (int i = 0; i < 32; i++) {
                int shard = i;
                int owner = s.owners.get(i);
                boolean moving = s.moves.stream().anyMatch(m -> m.shard() == shard);
                long arriving = s.moves.stream()
                        .filter(m -> m.destination() == target[shard]).count();
                int ownerState = owner < 0 ? 0 : s.nodes.get(owner).state();
                if (!moving && target[i] >= 0 && target[i] != owner && arriving < 2
                        && ownerState != 3) {
                    int group = ownerState == 0 ? 0 : ownerState == 2 ? 1 : 2;
                    candidates.add(group * 10000 + size(i) * 100 + i);
                }
            }
            if (candidates.isEmpty()) {
                return;
            }
            int chosen = candidates.first() % 100;
            s.moves.add(new Move(chosen, s.owners.get(chosen), target[chosen], 0));
            s.count(1, 1);
            s.tell(0, chosen, target[chosen]);
        }
    }

    private static void check(boolean holds, RuntimeException otherwise) {
        if (!holds) {
            throw otherwise;
        }
    }

    private static boolean within(int a, int least, int greatest) {
        return least <= a && a <= greatest;
    }

    private static void present(State s, int node) {
        check(within(node, 0, 7) && s.nodes.get(node).state() != 0,
                new IndexOutOfBoundsException());
    }

    private static int add(State s, int weight) {
        check(within(weight, 1, 5), new IllegalArgumentException());
        for (int n = 0; n < 8; n++) {
            if (s.nodes.get(n).state() == 0) {
                s.nodes.set(n, new Node(1, weight));
                return n;
            }
        }
        throw new IllegalStateException();
    }

    private static int drain(State s, int node) {
        present(s, node);
        check(s.nodes.get(node).state() == 1, new IllegalStateException());
        s.nodes.set(node, new Node(2, s.nodes.get(node).weight()));
        return owned(s, node);
    }

    private static int fail(State s, int node) {
        present(s, node);
        check(s.nodes.get(node).state() != 3, new IllegalStateException());
        s.nodes.set(node, new Node(3, s.nodes.get(node).weight()));
        return owned(s, node);
    }

    private static int recover(State s, int node) {
        present(s, node);
        Node before = s.nodes.get(node);
        check(before.state() != 1, new IllegalStateException());
        s.nodes.set(node, new Node(1, before.weight()));
        return before.state();
    }

    private static int setWeight(State s, int node, int weight) {
        present(s, node);
        check(within(weight, 1, 5), new IllegalArgumentException());
        Node before = s.nodes.get(node);
        s.nodes.set(node, new Node(before.state(), weight));
        return before.weight();
    }

    private static int ticks(State s, int ticks) {
        check(within(ticks, 1, 50), new IllegalArgumentException());
        for (int i = 0; i < ticks; i++) {
            tick(s);
        }
        return s.statistics.get(0);
    }

    private void become(State next) {
        past.addLast(now);
        while (past.size() > 6) {
            past.removeFirst();
        }
        now = next;
    }

    int addNode(int weight) {
        State s = now.copy();
        int answer = add(s, weight);
        become(s);
        return answer;
    }

    int drain(int node) {
        State s = now.copy();
        int answer = drain(s, node);
        become(s);
        return answer;
    }

    int fail(int node) {
        State s = now.copy();
        int answer = fail(s, node);
        become(s);
        return answer;
    }

    int recover(int node) {
        State s = now.copy();
        int answer = recover(s, node);
        become(s);
        return answer;
    }

    int setWeight(int node, int weight) {
        State s = now.copy();
        int answer = setWeight(s, node, weight);
        become(s);
        return answer;
    }

    int node(int node, int what) {
        check(within(node, 0, 7), new IndexOutOfBoundsException());
        check(within(what, 0, 6), new IllegalArgumentException());
        int sizes = 0;
        for (int i = 0; i < 32; i++) {
            sizes += now.owners.get(i) == node ? size(i) : 0;
        }
        Node it = now.nodes.get(node);
        return new int[] {it.state(), it.state() == 0 ? 0 : it.weight(),
            targets(now).capacity()[node], owned(now, node), targets(now).load()[node], sizes,
            (int) now.moves.stream().filter(m -> m.destination() == node).count()}[what];
    }

    int nodes(int state) {
        check(within(state, 0, 3), new IllegalArgumentException());
        int set = 0;
        for (int n = 0; n < 8; n++) {
            set += now.nodes.get(n).state() == state ? 1 << n : 0;
        }
        return set;
    }

    int set(int what, int value) {
        check(within(what, 0, 2), new IllegalArgumentException());
        check(within(value, new int[] {0, 1, 1}[what], new int[] {100, 8, 20}[what]),
                new IllegalArgumentException());
        State s = now.copy();
        int answer = s.settings.set(what, value);
        become(s);
        return answer;
    }

    int points() {
        return ring(now).size();
    }

    int point(int i, int what) {
        List<Point> ring = ring(now);
        check(within(i, 0, ring.size() - 1), new IndexOutOfBoundsException());
        check(within(what, 0, 2), new IllegalArgumentException());
        Point p = ring.get(i);
        return new int[] {p.place(), p.node(), p.k()}[what];
    }

    int successor(int place) {
        check(within(place, 0, 1023), new IllegalArgumentException());
        check(!ring(now).isEmpty(), new NoSuchElementException());
        return successor(ring(now), place);
    }

    int shard(int shard, int what) {
        check(within(shard, 0, 31), new IndexOutOfBoundsException());
        check(within(what, 0, 7), new IllegalArgumentException());
        int move = -1;
        for (int i = 0; i < now.moves.size(); i++) {
            move = now.moves.get(i).shard() == shard ? i : move;
        }
        return new int[] {mix(1000 + shard), size(shard), targets(now).target()[shard],
            now.owners.get(shard), now.owners.get(shard) < 0 ? -1 : now.leases.get(shard),
            served(now, shard) ? 1 : 0, move, targets(now).skipped()[shard]}[what];
    }

    int route(int key) {
        int shard = mix(key) % 32;
        check(served(now, shard), new NoSuchElementException());
        return now.owners.get(shard);
    }

    int pending() {
        return pending(now);
    }

    int changedIf(int node, int weight) {
        check(within(node, 0, 7), new IndexOutOfBoundsException());
        check(within(weight, 0, 5), new IllegalArgumentException());
        check(now.nodes.get(node).state() == 1, new IllegalStateException());
        State s = now.copy();
        s.nodes.set(node, new Node(weight == 0 ? 0 : 1, weight));
        int changed = 0;
        for (int i = 0; i < 32; i++) {
            changed += targets(s).target()[i] != targets(now).target()[i] ? 1 : 0;
        }
        return changed;
    }

    int leastSlack() {
        check(nodes(1) != 0, new IllegalStateException());
        for (int slack = 0; slack <= 100; slack++) {
            int all = 0;
            for (int skipped : targets(now, slack).skipped()) {
                all |= skipped;
            }
            if (all == 0) {
                return slack;
            }
        }
        throw new NoSuchElementException();
    }

    double greatestFill() {
        check(nodes(1) != 0, new ArithmeticException());
        double greatest = 0;
        for (int n = 0; n < 8; n++) {
            if (now.nodes.get(n).state() == 1) {
                greatest = Math.max(greatest, (double) owned(now, n) / targets(now).capacity()[n]);
            }
        }
        return greatest;
    }

    int tick(int ticks) {
        State s = now.copy();
        int answer = ticks(s, ticks);
        become(s);
        return answer;
    }

    int moves() {
        return now.moves.size();
    }

    int move(int i, int what) {
        check(within(i, 0, now.moves.size() - 1), new IndexOutOfBoundsException());
        check(within(what, 0, 3), new IllegalArgumentException());
        Move m = now.moves.get(i);
        return new int[] {m.shard(), m.source(), m.destination(), m.progress()}[what];
    }

    int forecast() {
        State s = now.copy();
        for (int ticks = 0; ticks <= 300; ticks++) {
            if (pending(s) == 0) {
                return ticks;
            }
            tick(s);
        }
        throw new NoSuchElementException();
    }

    int statistic(int what) {
        check(within(what, 0, 6), new IllegalArgumentException());
        return now.statistics.get(what);
    }

    int events() {
        return now.events.size();
    }

    int event(int i, int what) {
        check(within(i, 0, now.events.size() - 1), new IndexOutOfBoundsException());
        check(within(what, 0, 3), new IllegalArgumentException());
        Event e = now.events.get(i);
        return new int[] {e.time(), e.kind(), e.shard(), e.node()}[what];
    }

    int forget(int shard) {
        check(within(shard, 0, 31), new IndexOutOfBoundsException());
        State s = now.copy();
        s.events.removeIf(e -> e.shard() == shard);
        int answer = now.events.size() - s.events.size();
        become(s);
        return answer;
    }

    int feed(char letter) {
        check(buffer.length() < 60, new IllegalStateException());
        buffer += letter;
        return buffer.length();
    }

    private static final Pattern COMMAND =
            Pattern.compile("([ndfrt])([0-9]{1,2});|(w)([0-9]{1,2})=([0-9]{1,2});");

    private static boolean isScript(String text) {
        return text.matches("(([ndfrt][0-9]{1,2}|w[0-9]{1,2}=[0-9]{1,2});)+");
    }

    /** Tells whether a text can be continued to a script: some short ending makes it one. */
    private static boolean canContinue(String text) {
        for (String ending : new String[] {"", ";", "1;", "=1;", "1=1;", "n1;"}) {
            if (isScript(text + ending)) {
                return true;
            }
        }
        return false;
    }

    int perform() {
        String text = buffer;
        buffer = "";
        if (!isScript(text)) {
            int good = 0;
            while (good < text.length() && canContinue(text.substring(0, good + 1))) {
                good++;
            }
            return -100 - good;
        }
        State s = now.copy();
        int commands = 0;
        Matcher matcher = COMMAND.matcher(text);
        try {
            while (matcher.find()) {
                obey(s, matcher);
                commands++;
            }
        } catch (RuntimeException e) {
            throw new UnsupportedOperationException();
        }
        become(s);
        return commands;
    }

    private static void obey(State s, Matcher command) {
        if (command.group(3) != null) {
            setWeight(s, Integer.parseInt(command.group(4)), Integer.parseInt(command.group(5)));
            return;
        }
        int number = Integer.parseInt(command.group(2));
        switch (command.group(1)) {
            case "n" -> add(s, number);
            case "d" -> drain(s, number);
            case "f" -> fail(s, number);
            case "r" -> recover(s, number);
            default -> ticks(s, number);
        }
    }

    int undo() {
        check(!past.isEmpty(), new IllegalStateException());
        now = past.removeLast();
        return past.size();
    }

    int save() {
        saved = now;
        return 8 - Integer.bitCount(nodes(0));
    }

    int restore() {
        check(saved != null, new IllegalStateException());
        now = saved;
        past.clear();
        return 8 - Integer.bitCount(nodes(0));
    }
}
