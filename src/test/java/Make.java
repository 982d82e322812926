/** What several tests begin with. */
final class Make {
    private Make() {
    }

    /** A wheel without tap, leak and rub, HEAVY 1: PACE grows by torque by 100 alone. */
    static LeakCups plain() {
        LeakCups x = new LeakCups();
        x.set(0, 0);
        x.set(1, 0);
        x.set(2, 0);
        x.set(3, 1);
        return x;
    }

    static void type(LeakCups x, String text) {
        for (int i = 0; i < text.length(); i++) {
            x.feed(text.charAt(i), 1);
        }
    }

    /** A TEXT comes on THE TAPE and is read: what program() answers. */
    static int read(LeakCups x, String text) {
        type(x, text);
        return x.program();
    }
}
