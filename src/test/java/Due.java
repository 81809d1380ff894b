/** What the tests share: counting the answers that are not as due, and feeding a text sign by sign. */
final class Due {
    private static int looked = 0;
    private static int wrong = 0;

    private Due() {
    }

    static void due(String call, long got, long want) {
        looked++;
        if (got == want) return;
        wrong++;
        if (wrong <= 40) System.out.println(call + " answered " + got + ", due is " + want);
    }

    static void end() {
        System.out.println(looked + " answers, " + wrong + " not as due");
        if (wrong != 0 || looked == 0) System.exit(1);
    }

    static void feed(LargeBubble x, String text) {
        for (int i = 0; i < text.length(); i++) x.feed(text.charAt(i));
    }

    static int square(LargeBubble x, String text) {
        feed(x, text);
        return x.square();
    }

    /** An object with one blower, the number 0. */
    static LargeBubble with(int kind, int v, int cord, int aim) {
        LargeBubble x = new LargeBubble();
        x.blower(kind, v, cord, aim);
        return x;
    }
}
