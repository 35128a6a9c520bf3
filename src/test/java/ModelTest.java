/** Runs of mixed calls, each answer compared with that of the model; the same runs every time. */
final class ModelTest {
    private static final int RUNS = 1200;
    private static final int CALLS = 512;
    private static final String SIGNS = "ndfrwt0123456789=;;;x";

    private final ShardRebalancer real = new ShardRebalancer();
    private final Model model = new Model();
    private final String run;
    private long seed;
    private int calls = 0;

    private ModelTest(int number) {
        run = "run " + number;
        seed = 0x9E3779B97F4A7C15L * (number + 1);
    }

    public static void main(String[] args) {
        for (int i = 0; i < RUNS; i++) {
            new ModelTest(i).go(i % 4);
        }
        Check.finish("ModelTest");
    }

    private int any(int least, int greatest) {
        seed = seed * 6364136223846793005L + 1442695040888963407L;
        return least + (int) ((seed >>> 33) % (greatest - least + 1));
    }

    private void compare(String call, Check.Call got, Check.Call due) {
        if (calls < CALLS) {
            calls++;
            Check.same(run + ", call " + calls + ": " + call, Check.outcome(got),
                    Check.outcome(due));
        }
    }

    private void go(int nodesAtFirst) {
        for (int n = 0; n < 2 * nodesAtFirst; n++) {
            int weight = any(1, 5);
            compare("addNode(" + weight + ")", () -> real.addNode(weight),
                    () -> model.addNode(weight));
        }
        while (calls < CALLS) {
            int kind = any(0, 99);
            if (kind < 22) {
                changeNodes();
            } else if (kind < 36) {
                passTime();
            } else if (kind < 44) {
                useHistory();
            } else if (kind < 50) {
                script();
            } else if (kind < 70) {
                askPlacement();
            } else if (kind < 98) {
                askState();
            } else {
                askWithFarNumbers();
            }
        }
    }

    private int far() {
        int[] numbers = {Integer.MIN_VALUE, Integer.MIN_VALUE + 1, -1024, -32, 0, 3, 1 << 8,
            1 << 29, Integer.MAX_VALUE - 1, Integer.MAX_VALUE};
        return numbers[any(0, numbers.length - 1)];
    }

    private void askWithFarNumbers() {
        int a = far();
        int b = far();
        String both = "(" + a + ", " + b + ")";
        compare("node" + both, () -> real.node(a, b), () -> model.node(a, b));
        compare("shard" + both, () -> real.shard(a, b), () -> model.shard(a, b));
        compare("point" + both, () -> real.point(a, b), () -> model.point(a, b));
        compare("move" + both, () -> real.move(a, b), () -> model.move(a, b));
        compare("event" + both, () -> real.event(a, b), () -> model.event(a, b));
        compare("set" + both, () -> real.set(a, b), () -> model.set(a, b));
        compare("setWeight" + both, () -> real.setWeight(a, b), () -> model.setWeight(a, b));
        compare("changedIf" + both, () -> real.changedIf(a, b), () -> model.changedIf(a, b));
        compare("addNode " + a, () -> real.addNode(a), () -> model.addNode(a));
        compare("drain " + a, () -> real.drain(a), () -> model.drain(a));
        compare("fail " + b, () -> real.fail(b), () -> model.fail(b));
        compare("recover " + a, () -> real.recover(a), () -> model.recover(a));
        compare("nodes " + a, () -> real.nodes(a), () -> model.nodes(a));
        compare("successor " + a, () -> real.successor(a), () -> model.successor(a));
        compare("route " + a, () -> real.route(a), () -> model.route(a));
        compare("tick " + b, () -> real.tick(b), () -> model.tick(b));
        compare("statistic " + a, () -> real.statistic(a), () -> model.statistic(a));
        compare("forget " + b, () -> real.forget(b), () -> model.forget(b));
    }

    private void changeNodes() {
        int n = any(-1, 8);
        int w = any(0, 6);
        int what = any(-1, 3);
        int value = any(-1, any(0, 1) == 0 ? 10 : 105);
        switch (any(0, 6)) {
            case 0, 1 -> compare("addNode(" + w + ")", () -> real.addNode(w),
                    () -> model.addNode(w));
            case 2 -> compare("drain(" + n + ")", () -> real.drain(n), () -> model.drain(n));
            case 3 -> compare("fail(" + n + ")", () -> real.fail(n), () -> model.fail(n));
            case 4 -> compare("recover(" + n + ")", () -> real.recover(n),
                    () -> model.recover(n));
            case 5 -> compare("setWeight(" + n + ", " + w + ")", () -> real.setWeight(n, w),
                    () -> model.setWeight(n, w));
            default -> compare("set(" + what + ", " + value + ")", () -> real.set(what, value),
                    () -> model.set(what, value));
        }
    }

    private void passTime() {
        int ticks = any(0, 5) == 0 ? any(-1, 52) : any(1, 6);
        compare("tick(" + ticks + ")", () -> real.tick(ticks), () -> model.tick(ticks));
    }

    private void useHistory() {
        int s = any(-1, 32);
        switch (any(0, 9)) {
            case 0 -> compare("save()", real::save, model::save);
            case 1 -> compare("restore()", real::restore, model::restore);
            case 2, 3, 4 -> compare("forget(" + s + ")", () -> real.forget(s),
                    () -> model.forget(s));
            default -> compare("undo()", real::undo, model::undo);
        }
    }

    private void script() {
        StringBuilder text = new StringBuilder();
        int commands = any(0, 4);
        for (int i = 0; i < commands; i++) {
            text.append("ndfrtt".charAt(any(0, 5))).append(any(0, 7)).append(';');
            if (any(0, 3) == 0) {
                text.append('w').append(any(0, 12)).append('=').append(any(1, 5)).append(';');
            }
        }
        if (any(0, 3) == 0 && text.length() > 0) {
            text.setCharAt(any(0, text.length() - 1), SIGNS.charAt(any(0, SIGNS.length() - 1)));
        }
        if (any(0, 5) == 0) {
            text.append(SIGNS.charAt(any(0, SIGNS.length() - 1)));
        }
        for (char letter : text.toString().toCharArray()) {
            compare("feed(" + letter + ")", () -> real.feed(letter), () -> model.feed(letter));
        }
        compare("perform() of " + text, real::perform, model::perform);
    }

    private void askPlacement() {
        int i = any(-1, any(0, 1) == 0 ? 20 : 161);
        int what = any(-1, 3);
        int n = any(-1, 8);
        int w = any(-1, 6);
        int place = any(0, 9) == 0 ? any(-2, 1025) : any(0, 1023);
        switch (any(0, 7)) {
            case 0 -> compare("points()", real::points, model::points);
            case 1 -> compare("point(" + i + ", " + what + ")", () -> real.point(i, what),
                    () -> model.point(i, what));
            case 2 -> compare("successor(" + place + ")", () -> real.successor(place),
                    () -> model.successor(place));
            case 3, 4 -> compare("changedIf(" + n + ", " + w + ")", () -> real.changedIf(n, w),
                    () -> model.changedIf(n, w));
            case 5 -> compare("leastSlack()", real::leastSlack, model::leastSlack);
            case 6 -> compare("greatestFill()", real::greatestFill, model::greatestFill);
            default -> compare("forecast()", real::forecast, model::forecast);
        }
    }

    private void askState() {
        int n = any(-1, 8);
        int s = any(-1, 32);
        int i = any(-1, any(0, 1) == 0 ? 8 : 30);
        int what = any(-1, 8);
        int part = any(-1, 4);
        int key = any(-1000000, 1000000) * 2003;
        switch (any(0, 9)) {
            case 0, 1 -> compare("node(" + n + ", " + what + ")", () -> real.node(n, what),
                    () -> model.node(n, what));
            case 2 -> compare("nodes(" + part + ")", () -> real.nodes(part),
                    () -> model.nodes(part));
            case 3, 4 -> compare("shard(" + s + ", " + what + ")", () -> real.shard(s, what),
                    () -> model.shard(s, what));
            case 5 -> compare("route(" + key + ")", () -> real.route(key),
                    () -> model.route(key));
            case 6 -> compare("pending()", real::pending, model::pending);
            case 7 -> {
                compare("moves()", real::moves, model::moves);
                compare("move(" + i + ", " + part + ")", () -> real.move(i, part),
                        () -> model.move(i, part));
            }
            case 8 -> compare("statistic(" + what + ")", () -> real.statistic(what),
                    () -> model.statistic(what));
            default -> {
                compare("events()", real::events, model::events);
                compare("event(" + i + ", " + part + ")", () -> real.event(i, part),
                        () -> model.event(i, part));
            }
        }
    }
}
