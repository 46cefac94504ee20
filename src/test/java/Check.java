/** Counts answers that are not due, and feeds texts; each test ends by finish(). */
final class Check {
    private final String name;
    private int calls = 0;
    private int wrong = 0;

    Check(String name) {
        this.name = name;
    }

    void due(String what, long got, long want) {
        calls++;
        if (got != want) {
            wrong++;
            if (wrong <= 50) {
                System.out.println(name + ": " + what + " answered " + got + ", due is " + want);
            }
        }
    }

    int wrong() {
        return wrong;
    }

    void finish() {
        System.out.println(name + ": " + calls + " answers, " + wrong + " wrong");
        if (wrong != 0) {
            System.exit(1);
        }
    }

    /** The five ints of one feed(), from place i of a text on; blanks stand behind its end. */
    static int[] ints(byte[] text, int i) {
        int[] five = new int[5];
        for (int k = 0; k < 20; k++) {
            int b = i + k < text.length ? text[i + k] & 255 : 32;
            five[k / 4] = five[k / 4] << 8 | b;
        }
        return five;
    }

    static byte[] bytes(String text) {
        byte[] all = new byte[text.length()];
        for (int i = 0; i < all.length; i++) {
            all[i] = (byte) text.charAt(i);
        }
        return all;
    }

    static void feed(RopeMoon x, String text) {
        byte[] all = bytes(text);
        for (int i = 0; i < all.length; i += 20) {
            int[] five = ints(all, i);
            x.feed(five[0], five[1], five[2], five[3], five[4]);
        }
    }

    static int tell(RopeMoon x, String text) {
        feed(x, text);
        return x.plain(text.length());
    }

    static RopeMoon told(String text) {
        RopeMoon x = new RopeMoon();
        tell(x, text);
        return x;
    }

    static void row(RopeMoon x, int row, int sort, long... numbers) {
        x.numbers(row, sort, numbers.length);
        for (int i = 0; i < numbers.length; i++) {
            x.write(row, i, numbers[i]);
        }
    }
}
