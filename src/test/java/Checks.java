/** What the tests of the project share: answers that are due, texts fed to the tape, and how it all ended. */
final class Checks {
    private static int asked = 0;
    private static int wrong = 0;
    private static String about = "";
    private static boolean quiet = false;

    private Checks() {
    }

    /** What the answers from now on are about, told ahead of each that is wrong. */
    static void about(String what) {
        about = what;
    }

    /** From now on wrong answers are counted, not told. */
    static void quiet() {
        quiet = true;
    }

    static void due(String call, long got, long want) {
        asked++;
        if (got == want) return;
        wrong++;
        if (wrong <= 50 && !quiet) System.out.println(about + call + " answered " + got + ", due is " + want);
    }

    static int asked() {
        return asked;
    }

    static int wrong() {
        return wrong;
    }

    static void feed(MistHeaps x, String text) {
        for (int i = 0; i < text.length(); i++) x.feed(text.charAt(i));
    }

    static int hill(MistHeaps x, String text) {
        feed(x, text);
        return x.hill();
    }

    static int hill(String text) {
        return hill(new MistHeaps(), text);
    }

    static MistHeaps withHill(String text) {
        MistHeaps x = new MistHeaps();
        due("hill() of " + text, hill(x, text), 0);
        return x;
    }

    static void end(String name) {
        System.out.println(name + ": " + asked + " answers, " + wrong + " not as due");
        if (wrong != 0 || asked == 0) System.exit(1);
    }
}
