/** Makes the stores that several tests begin with. */
final class Stores {
    private Stores() {
    }

    /** Feeds a text to a store and performs it. */
    static int run(ShardRebalancer x, String text) {
        for (char letter : text.toCharArray()) {
            x.feed(letter);
        }
        return x.perform();
    }

    /** Makes a store by a script that must succeed. */
    static ShardRebalancer after(String text) {
        ShardRebalancer x = new ShardRebalancer();
        if (run(x, text) < 1) {
            throw new IllegalStateException("no script: " + text);
        }
        return x;
    }

    /** A store whose only node owns all shards; the time is 100. */
    static ShardRebalancer settled() {
        return after("n1;t50;t50;");
    }

    /** Everything that can be asked for without changing it, as one text. */
    static String picture(ShardRebalancer x) {
        StringBuilder text = new StringBuilder();
        for (int n = 0; n < 8; n++) {
            for (int what = 0; what <= 6; what++) {
                text.append(x.node(n, what)).append(' ');
            }
        }
        for (int s = 0; s < 32; s++) {
            for (int what = 0; what <= 7; what++) {
                text.append(x.shard(s, what)).append(' ');
            }
        }
        for (int i = 0; i < x.moves(); i++) {
            for (int what = 0; what <= 3; what++) {
                text.append(x.move(i, what)).append(' ');
            }
        }
        for (int i = 0; i < x.events(); i++) {
            for (int what = 0; what <= 3; what++) {
                text.append(x.event(i, what)).append(' ');
            }
        }
        for (int what = 0; what <= 6; what++) {
            text.append(x.statistic(what)).append(' ');
        }
        return text.append(x.points()).append(' ').append(x.pending()).toString();
    }
}
