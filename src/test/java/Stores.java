import java.util.ArrayList;
import java.util.List;
import java.util.function.Supplier;
import java.util.function.ToDoubleFunction;

/** Makes the stores that tests begin with, and tells all that can be asked of one. */
final class Stores {
    /** So many calls of a store are made at the most, of the 512 after which answers are free. */
    private static final int ASKED_OF_ONE = 300;
    private static final List<String> NAMES = new ArrayList<>();
    private static final List<ToDoubleFunction<ShardRebalancer>> QUESTIONS = new ArrayList<>();

    static {
        askNodes();
        askRing();
        askShards();
        askMovesAndEvents();
    }

    private Stores() {
    }

    /** Feeds a text to a store and performs it. */
    static int run(ShardRebalancer x, String text) {
        for (char letter : text.toCharArray()) {
            x.feed(letter);
        }
        return x.perform();
    }

    /** Makes a store by scripts that must succeed; the empty text does nothing. */
    static ShardRebalancer after(String... scripts) {
        ShardRebalancer x = new ShardRebalancer();
        for (String text : scripts) {
            if (!text.isEmpty() && run(x, text) < 1) {
                throw new IllegalStateException("no script: " + text);
            }
        }
        return x;
    }

    /** A store whose only node owns all shards; the time is 100. */
    static ShardRebalancer settled() {
        return after("n1;t50;t50;");
    }

    /** A store with the budget 1 whose only node owns just the first of its shards, shard 4. */
    static ShardRebalancer withOneShard() {
        ShardRebalancer x = after("n1;");
        x.set(1, 1);
        x.tick(2);
        return x;
    }

    /** A store with nodes in each state, moves, leases, events, a history and a snapshot. */
    static ShardRebalancer busy() {
        ShardRebalancer x = after("n2;n3;n1;t20;n4;");
        x.save();
        x.set(0, 40);
        x.set(1, 4);
        x.set(2, 7);
        x.drain(2);
        x.tick(2);
        x.fail(1);
        x.addNode(5);
        x.tick(1);
        x.feed('n');
        x.feed('4');
        x.feed(';');
        return x;
    }

    /** Tells all of a state, a line for each answer; the recipe makes the state anew each time. */
    static List<String> whole(Supplier<ShardRebalancer> recipe) {
        List<String> lines = new ArrayList<>(picture(recipe));
        for (int changes = 0; changes <= 7; changes++) {
            ShardRebalancer x = recipe.get();
            for (int i = 1; i <= changes; i++) {
                lines.add("undo() " + i + ": " + Check.outcome(x::undo));
            }
            sketch(lines, x);
        }
        ShardRebalancer fed = recipe.get();
        lines.add("feed(';'): " + Check.outcome(() -> fed.feed(';')));
        ShardRebalancer performed = recipe.get();
        lines.add("perform(): " + Check.outcome(performed::perform));
        sketch(lines, performed);
        ShardRebalancer restored = recipe.get();
        lines.add("restore(): " + Check.outcome(restored::restore));
        sketch(lines, restored);
        ShardRebalancer later = recipe.get();
        lines.add("tick(9): " + Check.outcome(() -> later.tick(9)));
        sketch(lines, later);
        return lines;
    }

    /** Tells all that can be asked without a change, a line for each answer. */
    static List<String> picture(Supplier<ShardRebalancer> recipe) {
        List<String> lines = new ArrayList<>();
        ShardRebalancer[] x = new ShardRebalancer[1];
        for (int i = 0; i < QUESTIONS.size(); i++) {
            if (i % ASKED_OF_ONE == 0) {
                x[0] = recipe.get();
            }
            ToDoubleFunction<ShardRebalancer> question = QUESTIONS.get(i);
            lines.add(NAMES.get(i) + ": " + Check.outcome(() -> question.applyAsDouble(x[0])));
        }
        return lines;
    }

    /** Tells which nodes are skipped for any shard with a slack. */
    static int skipped(String script, int slack) {
        ShardRebalancer x = after(script);
        x.set(0, slack);
        int all = 0;
        for (int s = 0; s < 32; s++) {
            all |= x.shard(s, 7);
        }
        return all;
    }

    /** Tells the most of a state with some 60 calls, as one text. */
    static String brief(ShardRebalancer x) {
        StringBuilder text = new StringBuilder();
        for (int n = 0; n < 8; n++) {
            text.append(x.node(n, 0)).append(' ').append(x.node(n, 1)).append(' ');
        }
        for (int s = 0; s < 32; s++) {
            text.append(x.shard(s, 3)).append(' ');
        }
        for (int what = 0; what <= 6; what++) {
            text.append(x.statistic(what)).append(' ');
        }
        return text.append(x.moves()).append(' ').append(x.events()).append(' ')
                .append(x.points()).append(' ').append(x.pending()).toString();
    }

    /** Tells each move as its shard, its source, its destination and its progress. */
    static String moves(ShardRebalancer x) {
        StringBuilder text = new StringBuilder();
        for (int i = 0; i < x.moves(); i++) {
            text.append(i == 0 ? "" : ", ").append(x.move(i, 0)).append(' ').append(x.move(i, 1))
                    .append(' ').append(x.move(i, 2)).append(' ').append(x.move(i, 3));
        }
        return text.toString();
    }

    /** Tells the latest events, each as its time, its kind, its shard and its node. */
    static String events(ShardRebalancer x, int latest) {
        StringBuilder text = new StringBuilder();
        int all = x.events();
        for (int i = Math.max(all - latest, 0); i < all; i++) {
            text.append(text.length() == 0 ? "" : ", ").append(x.event(i, 0)).append(' ')
                    .append(x.event(i, 1)).append(' ').append(x.event(i, 2)).append(' ')
                    .append(x.event(i, 3));
        }
        return text.toString();
    }

    /** Compares two states by their lines and prints the first difference alone. */
    static void same(String what, List<String> got, List<String> due) {
        for (int i = 0; i < got.size() && i < due.size(); i++) {
            if (!got.get(i).equals(due.get(i))) {
                Check.same(what, got.get(i), due.get(i));
                return;
            }
        }
        Check.same(what + ": lines", got.size(), due.size());
    }

    /** Tells the most of a state with some 150 calls, the settings included, which it changes. */
    private static void sketch(List<String> lines, ShardRebalancer x) {
        for (int n = 0; n < 8; n++) {
            lines.add("node " + n + ": " + x.node(n, 0) + " " + x.node(n, 1) + " " + x.node(n, 2));
        }
        for (int s = 0; s < 32; s++) {
            lines.add("shard " + s + ": " + x.shard(s, 3) + " " + x.shard(s, 4) + " "
                    + x.shard(s, 6));
        }
        for (int what = 0; what <= 6; what++) {
            lines.add("statistic " + what + ": " + x.statistic(what));
        }
        lines.add("events: " + x.events() + ", moves: " + x.moves());
        lines.add("settings: " + x.set(0, 9) + " " + x.set(1, 5) + " " + x.set(2, 8));
    }

    private static void ask(String name, ToDoubleFunction<ShardRebalancer> question) {
        NAMES.add(name);
        QUESTIONS.add(question);
    }

    private static void askNodes() {
        for (int i = 0; i < 8 * 7; i++) {
            int n = i / 7;
            int what = i % 7;
            ask("node(" + n + ", " + what + ")", x -> x.node(n, what));
        }
        for (int i = 0; i < 8 * 6; i++) {
            int n = i / 6;
            int weight = i % 6;
            ask("changedIf(" + n + ", " + weight + ")", x -> x.changedIf(n, weight));
        }
        for (int i = 0; i <= 3; i++) {
            int state = i;
            ask("nodes(" + state + ")", x -> x.nodes(state));
        }
        ask("leastSlack()", ShardRebalancer::leastSlack);
        ask("greatestFill()", ShardRebalancer::greatestFill);
    }

    private static void askRing() {
        ask("points()", ShardRebalancer::points);
        for (int j = 0; j < 160 * 3; j++) {
            int i = j / 3;
            int what = j % 3;
            ask("point(" + i + ", " + what + ")", x -> x.point(i, what));
        }
        for (int i = 0; i <= 1023; i += 31) {
            int place = i;
            ask("successor(" + place + ")", x -> x.successor(place));
        }
    }

    private static void askShards() {
        for (int i = 0; i < 32 * 8; i++) {
            int s = i / 8;
            int what = i % 8;
            ask("shard(" + s + ", " + what + ")", x -> x.shard(s, what));
        }
        for (int i = 0; i < 64; i++) {
            int key = i;
            ask("route(" + key + ")", x -> x.route(key));
        }
        ask("pending()", ShardRebalancer::pending);
        ask("forecast()", ShardRebalancer::forecast);
    }

    private static void askMovesAndEvents() {
        ask("moves()", ShardRebalancer::moves);
        for (int j = 0; j < 8 * 4; j++) {
            int i = j / 4;
            int what = j % 4;
            ask("move(" + i + ", " + what + ")", x -> x.move(i, what));
        }
        for (int i = 0; i <= 6; i++) {
            int what = i;
            ask("statistic(" + what + ")", x -> x.statistic(what));
        }
        ask("events()", ShardRebalancer::events);
        for (int j = 0; j < 30 * 4; j++) {
            int i = j / 4;
            int what = j % 4;
            ask("event(" + i + ", " + what + ")", x -> x.event(i, what));
        }
    }
}
