/** The boundary cases of the texts: promises 20 to 22, and what a plan is. */
public final class PadEdgesTest {
    private static final int BAD_VALUE = -2, TOO_MANY = -4, NONE = -6;
    private static final Due DUE = new Due();

    public static void main(String[] args) {
        codes();
        gaps();
        numberOfCharacters();
        sixty();
        orderOfCharacters();
        wiping();
        endsTooEarly();
        characterByCharacter();
        numbersOfPitches();
        eightParts();
        sixtyWithoutAndWithFault();
        everyShortText();
        DUE.end();
    }

    /** 20: "BAD_VALUE if a code is not 33 to 126", at each of the 8 places. */
    private static void codes() {
        for (int place = 0; place < 8; place++) {
            for (int length = place + 1; length <= 8; length++) {
                String name = "20: " + length + " characters, place " + place + " from behind, code ";
                for (int code : new int[] {1, 32, 127, 128, 255}) {
                    DUE.is(name + code, new PuppetPitches().put(with(length, place, code)), BAD_VALUE);
                }
                for (int code : new int[] {33, 64, 126}) {
                    DUE.is(name + code, new PuppetPitches().put(with(length, place, code)), length);
                }
            }
        }
    }

    /** 20: "8 bits that are 0 mean that there are no more characters, and everything above them has to be 0, too." */
    private static void gaps() {
        for (int place = 0; place < 7; place++) {
            for (int length = place + 2; length <= 8; length++) {
                DUE.is("20: " + length + " characters, none at " + place + " from behind",
                    new PuppetPitches().put(with(length, place, 0)), BAD_VALUE);
            }
        }
        for (int length = 1; length <= 7; length++) {
            for (int bit = 8 * length + 8; bit < 64; bit++) {
                long number = with(length, 0, 'A') | 1L << bit;
                DUE.is("20: " + length + " characters, bit " + bit, new PuppetPitches().put(number), BAD_VALUE);
            }
        }
    }

    /** So many letters A, of which the one at a place counted from behind has a code of its own. */
    private static long with(int length, int place, int code) {
        long number = 0;
        for (int i = length - 1; i >= 0; i--) {
            number = number << 8 | (i == place ? code : 'A');
        }
        return number;
    }

    /** 20: "1 to 8 characters"; "BAD_VALUE if there is no character". */
    private static void numberOfCharacters() {
        PuppetPitches x = new PuppetPitches();
        DUE.is("20: no character", x.put(0), BAD_VALUE);
        int due = 0;
        for (int length = 1; length <= 8; length++) {
            due += length;
            DUE.is("20: " + length + " characters", x.put(with(length, 0, 'B')), due);
            DUE.is("20: the length", x.count(15), due);
        }
    }

    /** 20: "TOO_MANY if the pad would be longer than 60": from each length near 60 on, each number of characters. */
    private static void sixty() {
        for (int before = 50; before <= 60; before++) {
            for (int more = 1; more <= 8; more++) {
                PuppetPitches x = new PuppetPitches();
                Due.write(x, "5".repeat(before));
                int due = before + more > 60 ? TOO_MANY : before + more;
                DUE.is("20: " + before + " and " + more, x.put(with(more, 0, '5')), due);
                DUE.is("20: the length then", x.count(15), due == TOO_MANY ? before : due);
                DUE.is("20: wiped", x.wipe(), due == TOO_MANY ? before : due);
                DUE.is("20: room again", x.put(with(more, 0, '5')), more);
            }
        }
        PuppetPitches x = new PuppetPitches();
        Due.write(x, "5".repeat(60));
        DUE.is("20: a full pad, a wrong code: the first error", x.put(32), BAD_VALUE);
        DUE.is("20: a full pad, no character: the first error", x.put(0), BAD_VALUE);
        DUE.is("20: a full pad", x.put('5'), TOO_MANY);
    }

    /** 20: "Its lowest 8 bits are the last character, the next 8 bits the one before, and so on." */
    private static void orderOfCharacters() {
        String plan = "1@2,3@4,5@6,7@8,9@10";
        for (int cut = 1; cut <= 8; cut++) {
            PuppetPitches x = new PuppetPitches();
            for (int i = 0; i < plan.length(); i += cut) {
                x.put(Due.packed(plan.substring(i, Math.min(plan.length(), i + cut))));
            }
            DUE.is("20: by " + cut + " characters", x.read(), 5);
            for (int booth = 0; booth < 5; booth++) {
                DUE.is("20: the height of " + booth, x.booth(booth, 0), 2 * booth + 1);
                DUE.is("20: the pitch of " + booth, x.booth(booth, 1), 2 * booth + 2);
            }
        }
    }

    /** 21: "Empties the pad, and returns the length that it had." */
    private static void wiping() {
        PuppetPitches x = new PuppetPitches();
        DUE.is("21: empty", x.wipe(), 0);
        Due.write(x, "5".repeat(60));
        DUE.is("21: full", x.wipe(), 60);
        DUE.is("21: empty again", x.wipe(), 0);
        DUE.is("21: the fault of an empty pad", x.fault(), 0);
        x.put('7');
        DUE.is("21: one", x.wipe(), 1);
        x.put(Due.packed("6@3"));
        DUE.is("21: nothing of before", x.read(), 1);
        DUE.is("21: nothing of before", x.booth(0, 0) * 100 + x.booth(0, 1), 603);
        DUE.is("21: read empties it, too", x.wipe(), 0);
    }

    /** 22: "If there is none and the text ends too early (also if it is empty), it is the length of the text." */
    private static void endsTooEarly() {
        fault("", 0);
        fault("5@", 2);
        fault("5,", 2);
        fault("5@1,", 4);
        fault("5@11,", 5);
        fault("5@11,6@", 7);
        fault("1,2,3,4,5,6,7,", 14);
        fault("1,2,3,4,5,6,7,8@", 16);
        fault("1@11,1@11,1@11,1@11,1@11,1@11,1@11,", 35);
        fault("5", NONE);
        fault("5@1", NONE);
    }

    /** 22: "The index of the first character that cannot stand at its place", at each place of a part. */
    private static void characterByCharacter() {
        for (char letter = 33; letter <= 126; letter++) {
            boolean isDigit = letter >= '0' && letter <= '9';
            fault("" + letter, isDigit && letter != '0' ? NONE : 0);
            fault("5" + letter, letter == '@' || letter == ',' ? 2 : 1);
            fault("5@" + letter, isDigit ? NONE : 2);
            fault("5@1" + letter, letter == '0' || letter == '1' ? NONE : letter == ',' ? 4 : 3);
            fault("5@0" + letter, letter == ',' ? 4 : 3);
            fault("5@2" + letter, letter == ',' ? 4 : 3);
            fault("5@9" + letter, letter == ',' ? 4 : 3);
            fault("5@10" + letter, letter == ',' ? 5 : 4);
            fault("5@11" + letter, letter == ',' ? 5 : 4);
            fault("5," + letter, isDigit && letter != '0' ? NONE : 2);
            fault("5@4," + letter, isDigit && letter != '0' ? NONE : 4);
            fault("1,2,3,4,5,6,7,8" + letter, letter == '@' ? 16 : 15);
            fault("1,2,3,4,5,6,7,8@1" + letter, letter == '0' || letter == '1' ? NONE : 17);
            fault("1,2,3,4,5,6,7,8@11" + letter, 18);
        }
    }

    /** "A pitch a number from 0 to 11 without leading zeros." */
    private static void numbersOfPitches() {
        for (int pitch = 0; pitch <= 130; pitch++) {
            String plan = "5@" + pitch;
            int due = pitch <= 11 ? NONE : pitch >= 100 && pitch < 120 ? 4 : 3;
            fault(plan, due);
            PuppetPitches x = new PuppetPitches();
            Due.write(x, plan);
            DUE.is("10: read " + plan, x.read(), due == NONE ? 1 : -3);
            DUE.is("10: its pitch", due == NONE ? x.booth(0, 1) : pitch, pitch);
        }
        for (int pitch = 0; pitch <= 11; pitch++) {
            fault("5@0" + pitch, 3);
        }
    }

    /** "There are 8 parts at most"; "also of the ',' ahead of a 9th part". */
    private static void eightParts() {
        String[] parts = {"5", "5@7", "5@1", "5@10"};
        for (String part : parts) {
            StringBuilder plan = new StringBuilder(part);
            for (int count = 2; count <= 8; count++) {
                plan.append(',').append(part);
                fault(plan.toString(), NONE);
            }
            int length = plan.length();
            fault(plan + ",", length);
            fault(plan + "," + part, length);
            fault(plan + ",,", length);
            fault(plan + "x", length);
        }
        PuppetPitches x = new PuppetPitches();
        Due.write(x, "1,2,3,4,5,6,7,8");
        DUE.is("10: 8 parts", x.read(), 8);
        Due.write(x, "1,2,3,4,5,6,7,8,9");
        DUE.is("10: 9 parts", x.read(), -3);
        DUE.is("10: they stay", x.count(15), 17);
    }

    /** A pad of 60 characters has a fault, as no plan is so long, and its fault is found from the left. */
    private static void sixtyWithoutAndWithFault() {
        fault("5@11,".repeat(12), 39);
        fault("5@11,".repeat(7) + "5@11" + "x".repeat(21), 39);
        fault("5@11,".repeat(7) + "5@1x" + "1".repeat(21), 38);
        fault("x" + "5".repeat(59), 0);
        fault("5".repeat(60), 1);
        fault("5,".repeat(30), 15);
        fault("5@11,".repeat(7) + "5@11", NONE);
    }

    /** Every text of 1 to 6 of the characters that matter, compared with the model's grammar. */
    private static void everyShortText() {
        String letters = "0129@,";
        int texts = 1;
        for (int length = 1; length <= 6; length++) {
            texts *= letters.length();
            PuppetPitches x = new PuppetPitches();
            for (int number = 0; number < texts; number++) {
                if (number % 170 == 0) {
                    x = new PuppetPitches();
                }
                String text = text(letters, length, number);
                x.put(Due.packed(text));
                DUE.is("22: fault of " + text, x.fault(), Model.faultOf(text));
                x.wipe();
            }
        }
    }

    /** The text that has a number among all of its length. */
    private static String text(String letters, int length, int number) {
        StringBuilder text = new StringBuilder();
        int rest = number;
        for (int i = 0; i < length; i++) {
            text.append(letters.charAt(rest % letters.length()));
            rest /= letters.length();
        }
        return text.toString();
    }

    private static void fault(String text, int want) {
        PuppetPitches x = new PuppetPitches();
        Due.write(x, text);
        DUE.is("22: fault of " + text, x.fault(), want);
        DUE.is("22: and again", x.fault(), want);
        DUE.is("22: the pad stays, " + text, x.count(15), text.length());
    }
}
