/** Compares answers with those that are due, and ends the program with 1 if one was wrong. */
final class Due {
    private int asked = 0;
    private int wrong = 0;

    void is(String call, long got, long want) {
        asked++;
        if (got != want) {
            wrong++;
            System.out.println(call + " answered " + got + ", due is " + want);
        }
    }

    void end() {
        System.out.println(asked + " answers, " + wrong + " wrong");
        if (wrong != 0 || asked == 0) {
            System.exit(1);
        }
    }

    /** Packs up to 8 characters into a number, as put() wants them. */
    static long packed(String text) {
        long number = 0;
        for (char letter : text.toCharArray()) {
            number = number << 8 | letter;
        }
        return number;
    }

    /** Appends a text of any length to the pad, 8 characters a call. */
    static void write(PuppetPitches x, String text) {
        for (int i = 0; i < text.length(); i += 8) {
            x.put(packed(text.substring(i, Math.min(i + 8, text.length()))));
        }
    }

    /** A promenade whose booths are told by a plan. */
    static PuppetPitches planned(String plan) {
        PuppetPitches x = new PuppetPitches();
        write(x, plan);
        x.read();
        return x;
    }
}
