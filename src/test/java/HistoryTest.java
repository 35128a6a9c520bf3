/** Promises 29 to 31: undo, save and restore. */
final class HistoryTest {
    public static void main(String[] args) {
        promise29();
        everyChange();
        whatIsNoChange();
        promise30();
        promise31();
        Check.finish("HistoryTest");
    }

    private static void promise29() {
        ShardRebalancer x = new ShardRebalancer();
        Check.refused("undo at first", IllegalStateException.class, () -> x.undo());
        for (int i = 0; i < 8; i++) {
            x.addNode(1 + i % 5);
        }
        for (int left = 5; left >= 0; left--) {
            Check.same("undo", x.undo(), left);
            ShardRebalancer before = new ShardRebalancer();
            for (int i = 0; i < left + 2; i++) {
                before.addNode(1 + i % 5);
            }
            Check.same("the state before", Stores.brief(x), Stores.brief(before));
        }
        Check.refused("undo a seventh", IllegalStateException.class, () -> x.undo());
        Check.same("two nodes stay", x.nodes(1), 3);
        x.tick(1);
        x.tick(1);
        Check.same("undo of later changes", x.undo(), 1);
        x.addNode(1);
        Check.same("undo after a change after an undo", x.undo(), 1);
        Check.same("undo", x.undo(), 0);
        Check.same("the time", x.statistic(0), 0);
    }

    /** Each kind of change is taken back by one undo, also one that makes no difference. */
    private static void everyChange() {
        String[] names = {"addNode", "drain", "fail", "recover", "setWeight", "set", "tick",
            "forget", "forget nothing", "perform", "the same weight", "the same slack"};
        for (int kind = 0; kind < names.length; kind++) {
            ShardRebalancer x = Stores.after("n2;n3;t30;n1;f1;t1;");
            Check.same("one change by a script", x.undo(), 0);
            Stores.run(x, "n2;n3;t30;n1;f1;t1;");
            String before = Stores.brief(x);
            change(x, kind);
            Check.same("undo of " + names[kind], x.undo(), 1);
            Check.same("the state before " + names[kind], Stores.brief(x), before);
            Check.same("the slack before " + names[kind], x.set(0, 3), 25);
            Check.same("the budget before " + names[kind], x.set(1, 3), 3);
            Check.same("the lease length before " + names[kind], x.set(2, 3), 5);
        }
    }

    private static void change(ShardRebalancer x, int kind) {
        switch (kind) {
            case 0 -> x.addNode(4);
            case 1 -> x.drain(0);
            case 2 -> x.fail(2);
            case 3 -> x.recover(1);
            case 4 -> x.setWeight(0, 5);
            case 5 -> x.set(2, 7);
            case 6 -> x.tick(50);
            case 7 -> x.forget(x.event(0, 2));
            case 8 -> x.forget(22);
            case 9 -> Stores.run(x, "n1;t9;d0;t3;");
            case 10 -> x.setWeight(0, 2);
            default -> x.set(0, 25);
        }
    }

    private static void whatIsNoChange() {
        ShardRebalancer x = Stores.after("n1;n1;");
        String before = Stores.brief(x);
        x.feed('n');
        Check.outcome(() -> x.addNode(0));
        Check.outcome(() -> x.drain(5));
        Check.outcome(() -> x.recover(0));
        Check.outcome(() -> x.set(0, 101));
        Check.outcome(() -> x.tick(0));
        Check.outcome(() -> x.forget(32));
        x.changedIf(0, 5);
        x.forecast();
        x.leastSlack();
        x.save();
        Check.same("exceptions change nothing", Stores.brief(x), before);
        Check.same("undo takes back the script", x.undo(), 0);
        Check.same("the node is gone", x.nodes(0), 255);
        Check.same("undo leaves the input buffer", x.feed('1'), 2);
    }

    private static void promise30() {
        ShardRebalancer x = new ShardRebalancer();
        Check.same("save without nodes", x.save(), 0);
        Stores.run(x, "n1;n2;n3;n4;d1;f2;");
        Check.same("save counts all that are not absent", x.save(), 4);
        x.tick(1);
        Check.same("the draining one has left", x.save(), 3);
        Check.same("save leaves what can be taken back", x.undo(), 1);
        Check.same("undo leaves what was saved", x.restore(), 3);
        Check.same("the latest save counts", x.statistic(0), 1);
    }

    private static void promise31() {
        ShardRebalancer x = new ShardRebalancer();
        Check.refused("restore at first", IllegalStateException.class, () -> x.restore());
        Stores.run(x, "n1;n2;t20;n3;f0;t2;");
        x.set(0, 7);
        x.set(1, 5);
        x.set(2, 9);
        String picture = Stores.brief(x);
        x.save();
        x.feed('t');
        x.feed('1');
        for (int i = 0; i < 2; i++) {
            x.set(0, 50);
            x.set(1, 8);
            x.set(2, 1);
            x.forget(x.event(3, 2));
            x.addNode(5);
            x.recover(0);
            x.tick(50);
            Check.same("a picture of another state",
                    Stores.brief(x).equals(picture) ? 1 : 0, 0);
            Check.same("restore", x.restore(), 3);
            Check.same("what was saved is restored", Stores.brief(x), picture);
            Check.refused("no change can be taken back", IllegalStateException.class,
                    () -> x.undo());
        }
        Check.same("the input buffer stays", x.feed(';'), 3);
        Check.same("the input buffer is performed", x.perform(), 1);
        Check.same("a change after restoring", x.undo(), 0);
        Check.same("the slack is restored", x.set(0, 1), 7);
        Check.same("the budget is restored", x.set(1, 1), 5);
        Check.same("the lease length is restored", x.set(2, 1), 9);
        ShardRebalancer y = Stores.after("n1;n1;d0;t1;");
        y.save();
        Stores.run(y, "n1;n1;n1;n1;n1;n1;n1;");
        Check.same("restore counts the nodes of then", y.restore(), 1);
    }
}
