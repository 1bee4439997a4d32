/** Promises 20 to 22: the pad. */
public final class TextsTest {
    private static final int BAD_VALUE = -2, TOO_MANY = -4, NONE = -6;
    private static final Due DUE = new Due();

    public static void main(String[] args) {
        putting();
        order();
        wiping();
        faults();
        DUE.end();
    }

    private static void putting() {
        PuppetPitches x = new PuppetPitches();
        DUE.is("20: no character", x.put(0), BAD_VALUE);
        DUE.is("20: below 33", x.put(32), BAD_VALUE);
        DUE.is("20: 33", x.put(33), 1);
        DUE.is("20: 126", x.put(126), 2);
        DUE.is("20: above 126", x.put(127), BAD_VALUE);
        DUE.is("20: below 33 ahead", x.put(32L << 8 | 65), BAD_VALUE);
        DUE.is("20: bits above 8 that are 0", x.put(65L << 16 | 65), BAD_VALUE);
        DUE.is("20: bits above 8 that are 0", x.put(1L << 63 | 65), BAD_VALUE);
        DUE.is("20: the last character is none", x.put(65L << 8), BAD_VALUE);
        DUE.is("20: all bits", x.put(-1), BAD_VALUE);
        DUE.is("20: a negative number", x.put(Long.MIN_VALUE), BAD_VALUE);
        DUE.is("20: 8 characters, the first above 126", x.put(Due.packed("ABCDEFGH") | 1L << 63), BAD_VALUE);
        DUE.is("20: 8 characters", x.put(Due.packed("ABCDEFGH")), 10);
        DUE.is("20: 7 characters", x.put(Due.packed("~BCDEF~")), 17);
        for (int i = 0; i < 5; i++) {
            x.put(Due.packed("ABCDEFGH"));
        }
        DUE.is("20: 57 now", x.count(15), 57);
        DUE.is("20: 61 would be", x.put(Due.packed("ABCD")), TOO_MANY);
        DUE.is("20: a bad one first", x.put(32), BAD_VALUE);
        DUE.is("20: 60", x.put(Due.packed("ABC")), 60);
        DUE.is("20: full", x.put(65), TOO_MANY);
        DUE.is("20: not a change", x.count(16), 0);
    }

    private static void order() {
        PuppetPitches x = new PuppetPitches();
        x.put(Due.packed("7@"));
        x.put(Due.packed("10,3@2"));
        DUE.is("20: told in order", x.read(), 2);
        DUE.is("20: the first part", x.booth(0, 0) * 100 + x.booth(0, 1), 710);
        DUE.is("20: the second part", x.booth(1, 0) * 100 + x.booth(1, 1), 302);
    }

    private static void wiping() {
        PuppetPitches x = new PuppetPitches();
        DUE.is("21: empty", x.wipe(), 0);
        x.put(Due.packed("5@"));
        DUE.is("21: wiped", x.wipe(), 2);
        DUE.is("21: empty", x.count(15), 0);
        DUE.is("21: not a change", x.count(16), 0);
        x.put(Due.packed("5"));
        DUE.is("21: nothing is left", x.fault(), NONE);
    }

    private static void faults() {
        fault("", 0);
        fault("5", NONE);
        fault("1,9", NONE);
        fault("0", 0);
        fault(":", 0);
        fault(",", 0);
        fault("@", 0);
        fault("55", 1);
        fault("5,", 2);
        fault("5,,", 2);
        fault("5@", 2);
        fault("5@,", 2);
        fault("5@:", 2);
        fault("5@/", 2);
        fault("5@@", 2);
        fault("5@0", NONE);
        fault("5@9", NONE);
        fault("5@1", NONE);
        fault("5@1,2", NONE);
        fault("5@10", NONE);
        fault("5@11", NONE);
        fault("5@12", 3);
        fault("5@1@", 3);
        fault("5@00", 3);
        fault("5@01", 3);
        fault("5@20", 3);
        fault("5@0@", 3);
        fault("5@110", 4);
        fault("5@10@", 4);
        fault("5@11,x", 5);
        fault("a", 0);
        fault("5,6,7,8,9,1,2,3", NONE);
        fault("5,6,7,8,9,1,2,", 14);
        fault("5,6,7,8,9,1,2,3,", 15);
        fault("5,6,7,8,9,1,2,3,4", 15);
        fault("1@10,1@10,1@10,1@10,1@10,1@10,1@10,1@10", NONE);
        fault("1@10,1@10,1@10,1@10,1@10,1@10,1@10,1@10,", 39);
        fault("1@10,1@10,1@10,1@10,1@10,1@10,1@10,1@1,1", 38);
        fault("1@10,1@10,1@10,1@10,1@10,1@10,1@10,1@", 37);
    }

    private static void fault(String text, int want) {
        PuppetPitches x = new PuppetPitches();
        Due.write(x, text);
        DUE.is("22: fault of " + text, x.fault(), want);
        DUE.is("22: the pad stays, " + text, x.count(15), text.length());
    }
}
