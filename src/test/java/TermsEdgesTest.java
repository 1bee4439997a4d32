import java.math.BigInteger;
import java.util.Arrays;
import java.util.Collections;
import java.util.List;

/** The boundary cases that the document names under 'Terms', a method for each sentence or two. */
public final class TermsEdgesTest {
    private static final int NO_SUCH = -1, BAD_VALUE = -2, TOO_MANY = -4, NOT_POSSIBLE = -5, NONE = -6;
    private static final int LEFT = 0, RIGHT = 1, STOP = 2, GIVE = 3, GAP = 4, RAIN = 5;
    private static final Due DUE = new Due();

    /** Numbers for x, after which the next number below 100 is the one that is named. */
    private static final int BEFORE_0 = 0, BEFORE_1 = 70, BEFORE_99 = 194;

    public static void main(String[] args) {
        divisions();
        settings();
        stopAtItsEnds();
        giveAtItsEnds();
        gapAtItsEnds();
        rainAtItsEnds();
        peopleAtTheirEnds();
        pitches();
        booths();
        noTwoAtAPitch();
        drawing();
        seenFromBothSides();
        crowds();
        takenDown();
        lots();
        eightLots();
        choices();
        noPitchLeft();
        rainUnderRoofs();
        afterTheDay();
        DUE.end();
    }

    /** "Divisions are rounded down." */
    private static void divisions() {
        PuppetPitches x = Due.planned("5@0,6@2");
        x.set(STOP, 50);
        x.set(LEFT, 3);
        x.set(RIGHT, 1);
        DUE.is("rounded down: 3 * 50 / 100 from the left", x.booth(0, 3), 1);
        DUE.is("rounded down: 2 * 50 / 100 from the left, behind it", x.booth(1, 3), 1);
        DUE.is("rounded down: 1 * 50 / 100 from the right", x.booth(1, 4), 0);
        DUE.is("rounded down: each side on its own", x.count(10), 2);
        DUE.is("rounded down: the others go on", x.count(11), 2);
        x.set(STOP, 99);
        x.set(LEFT, 1);
        DUE.is("rounded down: 1 * 99 / 100", x.booth(0, 3), 0);
        x.set(LEFT, 100);
        DUE.is("not rounded: 100 * 99 / 100", x.booth(0, 3), 99);
        x.set(LEFT, 101);
        DUE.is("rounded down: 101 * 99 / 100", x.booth(0, 3), 99);

        PuppetPitches y = Due.planned("5");
        y.set(RAIN, 0);
        y.set(STOP, 100);
        y.set(LEFT, 1);
        y.set(RIGHT, 0);
        y.set(GIVE, 99);
        DUE.is("a hat is rounded down: 1 * 99 / 100", y.play(), 0);
        y.set(RIGHT, 1);
        y.set(GIVE, 50);
        DUE.is("a hat is of both sides together: 2 * 50 / 100", y.play(), 1);
        y.set(GIVE, 49);
        DUE.is("a hat is rounded down: 2 * 49 / 100", y.play(), 0);
    }

    /** "LEFT (0 to 999; 200), RIGHT (0 to 999; 100), STOP (0 to 100; 40), GIVE (0 to 100; 25), GAP (0 to 5; 1), RAIN (0 to 100; 20)." */
    private static void settings() {
        setting(LEFT, 200, 999);
        setting(RIGHT, 100, 999);
        setting(STOP, 40, 100);
        setting(GIVE, 25, 100);
        setting(GAP, 1, 5);
        setting(RAIN, 20, 100);
    }

    private static void setting(int setting, int first, int greatest) {
        PuppetPitches x = new PuppetPitches();
        String name = "setting " + setting + ": ";
        DUE.is(name + "first", x.count(setting), first);
        for (int wrong : new int[] {-1, greatest + 1, Integer.MIN_VALUE, Integer.MAX_VALUE, NONE}) {
            DUE.is(name + wrong, x.set(setting, wrong), BAD_VALUE);
            DUE.is(name + "still the first", x.count(setting), first);
        }
        DUE.is(name + "greatest, the first was there before", x.set(setting, greatest), first);
        DUE.is(name + "is the greatest", x.count(setting), greatest);
        DUE.is(name + "least", x.set(setting, 0), greatest);
        DUE.is(name + "is the least", x.count(setting), 0);
        DUE.is(name + "1 above the least", x.set(setting, 1), 0);
        DUE.is(name + "1 below the greatest", x.set(setting, greatest - 1), 1);
        int[] others = {200, 100, 40, 25, 1, 20};
        for (int other = 0; other < 6; other++) {
            DUE.is(name + "the other " + other, x.count(other), other == setting ? greatest - 1 : others[other]);
        }
    }

    /** STOP 0: no one stops; 1: of 99 none, of 100 one; 100: all stop at the first booth that they see. */
    private static void stopAtItsEnds() {
        PuppetPitches x = Due.planned("5@3,6@7");
        x.set(STOP, 0);
        DUE.is("STOP 0: no crowd", x.count(10), 0);
        DUE.is("STOP 0: all go on", x.count(11), 300);
        x.set(STOP, 100);
        DUE.is("STOP 100: all from the left", x.booth(0, 3), 200);
        DUE.is("STOP 100: none are left for the one behind", x.booth(1, 3), 0);
        DUE.is("STOP 100: though it is seen", x.seen(1, 0, 0), 1);
        DUE.is("STOP 100: all from the right", x.booth(1, 4), 100);
        DUE.is("STOP 100: none go on", x.count(11), 0);
        x.set(STOP, 1);
        x.set(LEFT, 99);
        DUE.is("STOP 1 of 99", x.booth(0, 3), 0);
        x.set(LEFT, 100);
        DUE.is("STOP 1 of 100", x.booth(0, 3), 1);
    }

    /** GIVE 0: no coins; 100: as many as the crowd. */
    private static void giveAtItsEnds() {
        PuppetPitches x = Due.planned("5");
        x.set(RAIN, 0);
        x.set(GIVE, 0);
        DUE.is("GIVE 0", x.play(), 0);
        x.set(GIVE, 100);
        DUE.is("GIVE 100", x.play(), 120);
        x.set(GIVE, 1);
        DUE.is("GIVE 1 of 120", x.play(), 1);
    }

    /** GAP 0 to 5: the second of two that are alike is as near as it may be, which is GAP and 1. */
    private static void gapAtItsEnds() {
        for (int gap = 0; gap <= 5; gap++) {
            PuppetPitches x = Due.planned("5,5");
            x.set(GAP, gap);
            x.play();
            DUE.is("GAP " + gap + ": the first", x.booth(x.lot(0), 1), 0);
            DUE.is("GAP " + gap + ": the second", x.booth(x.lot(1), 1), gap + 1);
            PuppetPitches y = Due.planned("5@6");
            y.set(GAP, gap);
            DUE.is("GAP " + gap + ": below, too near", y.pitch(6 - gap, 2), 0);
            DUE.is("GAP " + gap + ": below, near", y.pitch(6 - gap - 1, 2), 1);
            DUE.is("GAP " + gap + ": above, too near", y.pitch(Math.min(11, 6 + gap), 2), 0);
            DUE.is("GAP " + gap + ": above, near", gap == 5 ? 1 : y.pitch(6 + gap + 1, 2), 1);
        }
    }

    /** "It rains, if it is below RAIN", a number below 100: RAIN 0 never, RAIN 100 always. */
    private static void rainAtItsEnds() {
        rain("RAIN 0, drawn 0", 0, BEFORE_0, 0);
        rain("RAIN 1, drawn 0", 1, BEFORE_0, 1);
        rain("RAIN 1, drawn 1", 1, BEFORE_1, 0);
        rain("RAIN 2, drawn 1", 2, BEFORE_1, 1);
        rain("RAIN 99, drawn 99", 99, BEFORE_99, 0);
        rain("RAIN 100, drawn 99", 100, BEFORE_99, 1);
    }

    private static void rain(String name, int rain, int number, int rainyDays) {
        PuppetPitches x = Due.planned("5");
        x.set(RAIN, rain);
        x.shuffle(number);
        DUE.is(name + ", told before", x.ifPlayed(1, 1), rainyDays);
        DUE.is(name + ", coins", x.play(), rainyDays == 1 ? 0 : 30);
        DUE.is(name + ", days", x.count(13), rainyDays);
    }

    /** LEFT and RIGHT at 0 and at 999. */
    private static void peopleAtTheirEnds() {
        PuppetPitches x = Due.planned("5@3,6@7");
        x.set(LEFT, 0);
        DUE.is("no one from the left", x.booth(0, 2), 0);
        DUE.is("no one from the left", x.booth(1, 2), 40);
        DUE.is("no one from the left", x.count(11), 60);
        x.set(RIGHT, 0);
        DUE.is("no one at all", x.count(10) + x.count(11), 0);
        x.set(LEFT, 999);
        x.set(RIGHT, 999);
        DUE.is("999 * 40 / 100", x.booth(0, 3), 399);
        DUE.is("600 * 40 / 100", x.booth(1, 3), 240);
        DUE.is("999 * 40 / 100 from the right", x.booth(1, 4), 399);
        DUE.is("hidden from the right", x.booth(0, 4), 0);
        DUE.is("360 and 600 go on", x.count(11), 960);
    }

    /** "There are 12 pitches, 0 (the left end) to 11, each under a roof or not (the pitches 4 and 5 are at first)." */
    private static void pitches() {
        PuppetPitches x = new PuppetPitches();
        for (int pitch = 0; pitch < 12; pitch++) {
            DUE.is("roof at first, " + pitch, x.pitch(pitch, 0), pitch == 4 || pitch == 5 ? 1 : 0);
            DUE.is("no booth at first, " + pitch, x.pitch(pitch, 1), NONE);
            DUE.is("open at first, " + pitch, x.pitch(pitch, 2), 1);
        }
        DUE.is("no pitch -1", x.pitch(-1, 0), NO_SUCH);
        DUE.is("no pitch 12", x.pitch(12, 0), NO_SUCH);
        DUE.is("the set of roofs", x.count(9), 48);
        int roofs = 2;
        for (int pitch : new int[] {0, 1, 2, 3, 6, 7, 8, 9, 10, 11}) {
            roofs++;
            DUE.is("a roof more, " + pitch, x.roof(pitch, true), roofs);
        }
        DUE.is("all under roofs", x.count(9), 4095);
        DUE.is("none more", x.roof(11, true), NOT_POSSIBLE);
        for (int left = 11; left >= 0; left--) {
            DUE.is("a roof less, " + left, x.roof(left, false), left);
            DUE.is("the set", x.count(9), (1 << left) - 1);
        }
        DUE.is("none less", x.roof(0, false), NOT_POSSIBLE);
    }

    /** "There are up to 8 booths, numbered in the order in which they came, each with a height, 1 to 9; ... or nowhere (as it does when it comes)." */
    private static void booths() {
        PuppetPitches x = new PuppetPitches();
        int[] heights = {9, 1, 5, 5, 2, 8, 1, 9};
        for (int booth = 0; booth < 8; booth++) {
            DUE.is("its number", x.come(heights[booth]), booth);
            DUE.is("it stands nowhere", x.booth(booth, 1), NONE);
            DUE.is("none stands", x.count(8), 0);
            DUE.is("so many", x.count(7), booth + 1);
        }
        DUE.is("a ninth", x.come(5), TOO_MANY);
        for (int booth = 0; booth < 8; booth++) {
            DUE.is("its height", x.booth(booth, 0), heights[booth]);
        }
        x.go(7);
        DUE.is("the last one has gone", x.booth(7, 0), NO_SUCH);
        DUE.is("one may come again", x.come(3), 7);
        x.go(0);
        DUE.is("and again", x.come(4), 7);
        DUE.is("but no ninth", x.come(4), TOO_MANY);
        DUE.is("the numbers are 1 less", x.booth(0, 0) * 10 + x.booth(6, 0), 13);
    }

    /** "A booth stands at a pitch, or nowhere. No two stand at the same pitch." */
    private static void noTwoAtAPitch() {
        PuppetPitches x = Due.planned("5@0,6@11,7,8");
        DUE.is("taken, 0", x.stand(1, 0), NOT_POSSIBLE);
        DUE.is("taken, 11", x.stand(0, 11), NOT_POSSIBLE);
        DUE.is("taken, from nowhere", x.stand(2, 0), NOT_POSSIBLE);
        DUE.is("two may stand nowhere", x.stand(0, NONE), 0);
        DUE.is("so 0 is free", x.stand(3, 0), NONE);
        x.go(1);
        DUE.is("the pitch of one that went is free", x.stand(0, 11), NONE);
        x.stand(1, 5);
        x.undo();
        DUE.is("free again after an undo", x.stand(0, 5), 11);
    }

    /** "To draw a number below m: x becomes (x * 1103515245, and 12345, together) left over by 2147483648 (reckoned without overflow). x is 1 at first." */
    private static void drawing() {
        PuppetPitches x = new PuppetPitches();
        DUE.is("x at first", x.count(6), 1);
        for (int first : new int[] {1, 0, 2, 1946087, 1946088, 8358, 8359, 1073741824, 2147483646, 2147483647}) {
            x.shuffle(first);
            int number = first;
            for (int draw = 0; draw < 4; draw++) {
                number = drawn(number);
                x.play();
                DUE.is("x, drawn from " + first, x.count(6), number);
            }
        }
    }

    private static int drawn(int x) {
        return BigInteger.valueOf(x).multiply(BigInteger.valueOf(1103515245)).add(BigInteger.valueOf(12345))
            .mod(BigInteger.valueOf(2147483648L)).intValueExact();
    }

    /** "Seen from the left, if all booths at lower pitches are less high than it, and from the right, if all those at greater pitches are." */
    private static void seenFromBothSides() {
        sight("none beside it, at the left end", "1@0", 1, 1);
        sight("none beside it, at the right end", "1@11", 1, 1);
        sight("a booth of the same height ahead", "5@10,5@9", 0, 1);
        sight("a booth of the same height behind", "5@0,5@1", 1, 0);
        sight("one that is 1 higher, ahead", "5@11,6@0", 0, 1);
        sight("one that is 1 less high, ahead", "5@11,4@0", 1, 1);
        sight("one that is 1 higher, behind", "5@0,6@11", 1, 0);
        sight("one that is 1 less high, behind", "5@0,4@11", 1, 1);
        sight("all but one less high", "5@6,1@0,2@1,5@2,3@3,4@4,4@11", 0, 1);
        sight("all but one less high, behind", "5@6,1@0,9@11,2@7,3@10", 1, 0);
        sight("all less high", "9@6,8@5,8@7,8@0,8@11", 1, 1);
        sight("the least between two", "1@6,1@5,1@7", 0, 0);
        sight("one that stands nowhere hides none", "5@6,9", 1, 1);
        sight("it stands nowhere", "9,1@0", 0, 0);
        sight("it stands nowhere, as all do", "9,1", 0, 0);
    }

    /** The booth that the plan tells first is asked about, as the first one and, read from the back, as the last one. */
    private static void sight(String name, String plan, int fromLeft, int fromRight) {
        List<String> parts = Arrays.asList(plan.split(","));
        sightOf(0, name, String.join(",", parts), fromLeft, fromRight);
        Collections.reverse(parts);
        sightOf(parts.size() - 1, name, String.join(",", parts), fromLeft, fromRight);
    }

    private static void sightOf(int booth, String name, String plan, int fromLeft, int fromRight) {
        PuppetPitches x = Due.planned(plan);
        for (int way = 0; way < 2; way++) {
            DUE.is("from the left, way " + way + ": " + name, x.seen(booth, 0, way), fromLeft);
            DUE.is("from the right, way " + way + ": " + name, x.seen(booth, 1, way), fromRight);
        }
        DUE.is("who stops from the left: " + name, x.booth(booth, 3) > 0 ? 1 : 0, fromLeft);
        DUE.is("who stops from the right: " + name, x.booth(booth, 4) > 0 ? 1 : 0, fromRight);
    }

    /** "At each booth that is seen from the left STOP hundredths of those who have not stopped stop there." */
    private static void crowds() {
        PuppetPitches x = Due.planned("1@0,2@1,3@2,4@3,5@4,6@5,7@6,8@7");
        int[] stopping = {80, 48, 28, 17, 10, 6, 4, 2};
        int all = 0;
        for (int booth = 0; booth < 8; booth++) {
            DUE.is("from the left, eight in a row, " + booth, x.booth(booth, 3), stopping[booth]);
            DUE.is("from the right the last alone, " + booth, x.booth(booth, 4), booth == 7 ? 40 : 0);
            DUE.is("from both sides, " + booth, x.booth(booth, 2), stopping[booth] + (booth == 7 ? 40 : 0));
            all += stopping[booth];
        }
        DUE.is("all crowds", x.count(10), all + 40);
        DUE.is("the others", x.count(11), 300 - all - 40);
        PuppetPitches y = Due.planned("5@0,5@1,4@2,6@3");
        DUE.is("no one stops at those who are hidden, and no one less at those behind", y.booth(3, 3), 48);
        DUE.is("without booths all go on", new PuppetPitches().count(11), 300);
        DUE.is("if all stand nowhere, too", Due.planned("5,6").count(11), 300);
    }

    /** "When a day is played, all booths are taken down." */
    private static void takenDown() {
        PuppetPitches x = Due.planned("1@5,9@0");
        x.set(GAP, 5);
        x.shuffle(377401575);
        // 10113 by 2 is 1, so the row is 0, 1: neither the 9 at 0 nor its own pitch is in its way
        x.play();
        DUE.is("the 9 of yesterday is not in the way", x.booth(0, 1), 0);
        DUE.is("nor is the 1 of yesterday at 5", x.booth(1, 1), 6);

        PuppetPitches y = Due.planned("5,9@11");
        y.shuffle(377401575);
        DUE.is("hidden by the 9 from the right, but not beside it", y.ifStood(0, 0), 80);
        DUE.is("the crowd of the 9", y.booth(1, 2), 120);
        y.play();
        DUE.is("what was asked about yesterday does not matter", y.booth(0, 1), 0);
        DUE.is("the 9 behind it", y.booth(1, 1), 2);
    }

    /** "For k from the last place of it down to 1 a number below k and 1, together, is drawn." */
    private static void lots() {
        PuppetPitches x = new PuppetPitches();
        x.play();
        DUE.is("no booth: the rain alone is drawn", x.count(6), drawn(1));
        DUE.is("no booth: no lot", x.lot(0), NONE);
        x.come(5);
        x.shuffle(1);
        x.play();
        DUE.is("one booth: the rain alone is drawn", x.count(6), drawn(1));
        DUE.is("one booth: its lot", x.lot(0), 0);
        DUE.is("one booth: no other", x.lot(1), NONE);
        x.come(5);
        x.shuffle(1);
        x.play();
        DUE.is("two booths: a lot and the rain are drawn", x.count(6), drawn(drawn(1)));
        DUE.is("16838 by 2 is 0: they change", x.lot(0) * 10 + x.lot(1), 10);
        x.shuffle(377401575);
        x.play();
        DUE.is("10113 by 2 is 1: they stay", x.lot(0) * 10 + x.lot(1), 1);
        DUE.is("first once, when it was alone, and once again", x.booth(0, 6), 2);
        DUE.is("first once", x.booth(1, 6), 1);
    }

    /** The same with eight booths: seven lots, then the rain. */
    private static void eightLots() {
        PuppetPitches x = Due.planned("1,2,3,4,5,6,7,8");
        int number = 1;
        int[] firsts = new int[8];
        for (int day = 0; day < 20; day++) {
            int[] row = {0, 1, 2, 3, 4, 5, 6, 7};
            for (int k = 7; k >= 1; k--) {
                number = drawn(number);
                int other = number / 65536 % (k + 1);
                int booth = row[k];
                row[k] = row[other];
                row[other] = booth;
            }
            number = drawn(number);
            firsts[row[0]]++;
            x.play();
            for (int place = 0; place < 8; place++) {
                DUE.is("eight lots, day " + day + ", place " + place, x.lot(place), row[place]);
            }
            DUE.is("eight lots, x", x.count(6), number);
        }
        for (int booth = 0; booth < 8; booth++) {
            DUE.is("firsts of eight, " + booth, x.booth(booth, 6), firsts[booth]);
        }
    }

    /** "One that is free, and from which each booth that stands is more than GAP pitches away, and of these the one at which its crowd would be the greatest, with those that stand then, of several the lowest." */
    private static void choices() {
        // 16838 by 2 is 0, so booth 1 chooses first
        choice("all are alike: the lowest", "5", 1, 200, 100, 0);
        choice("no one comes: the lowest", "5", 1, 0, 0, 0);
        choice("lower than the first: the lowest behind it", "4,5", 1, 200, 100, 2);
        choice("as high as the first", "5,5", 1, 200, 100, 2);
        choice("higher than the first: seen everywhere", "6,5", 1, 200, 100, 2);
        choice("no one comes: the lowest that keeps the gap", "6,5", 0, 0, 0, 1);
        choice("no one from the right: none would stop", "5,5", 5, 200, 0, 6);
        // 16838 by 3 is 2 and 5758 by 2 is 0, so the row is 1, 0, 2: the first is at 0, the second at 2;
        // 9 above 5 and 7 is seen from both sides behind them
        choice("the third", "5,7,9", 1, 200, 100, 2);
        PuppetPitches x = Due.planned("5,7,9");
        x.play();
        DUE.is("the third, behind both", x.booth(2, 1), 4);
        DUE.is("its crowd: 120 by 40 hundredths, and 100 by 40", x.booth(2, 2), 48 + 40);
    }

    private static void choice(String name, String plan, int gap, int left, int right, int pitch) {
        PuppetPitches x = Due.planned(plan);
        x.set(GAP, gap);
        x.set(LEFT, left);
        x.set(RIGHT, right);
        x.play();
        DUE.is("chosen by booth 0, " + name, x.booth(0, 1), pitch);
    }

    /** "If there is none, it stands nowhere on this day." */
    private static void noPitchLeft() {
        PuppetPitches x = Due.planned("5,5@11,5@10");
        x.set(GAP, 5);
        x.set(RAIN, 0);
        x.play();
        int last = x.lot(2);
        DUE.is("0 and 6 are taken: the third stands nowhere", x.booth(last, 1), NONE);
        DUE.is("it has no crowd", x.booth(last, 2), 0);
        DUE.is("it has no hat", x.booth(last, 5), 0);
        DUE.is("on one day", x.booth(last, 7), 1);
        DUE.is("two stand", x.count(8), 2);
        x.set(GAP, 4);
        x.play();
        DUE.is("0, 5 and 10: on the next day all stand", x.count(8), 3);
        DUE.is("still one day", x.booth(0, 7) + x.booth(1, 7) + x.booth(2, 7), 1);
        PuppetPitches y = Due.planned("5,5,5,5,5,5,5,5");
        y.play();
        DUE.is("GAP 1: 0, 2, 4, 6, 8 and 10 are taken", y.count(8), 6);
        DUE.is("GAP 1: the last one stands nowhere", y.booth(y.lot(7), 1), NONE);
        DUE.is("GAP 1: the sixth stands at 10", y.booth(y.lot(5), 1), 10);
        y.set(GAP, 0);
        y.play();
        DUE.is("GAP 0: there is a pitch for each", y.count(8), 8);
        DUE.is("GAP 0: the last one at 7", y.booth(y.lot(7), 1), 7);
    }

    /** "If it rains, booths that do not stand under a roof have no crowd on this day, those under a roof the crowd that they have." */
    private static void rainUnderRoofs() {
        PuppetPitches x = Due.planned("9,5");
        x.set(RAIN, 100);
        x.set(GAP, 0);
        x.roof(1, true);
        x.shuffle(1);
        // Booth 1 chooses first: 0. Booth 0 is at 1 then: of 120 from the left 48, of 100 from the right 40.
        DUE.is("88 / 4: those who stop at the wet one are not there", x.play(), 22);
        DUE.is("the wet one has no hat", x.booth(1, 5), 0);
        DUE.is("but it stands", x.booth(1, 1), 0);
        DUE.is("and has a crowd when it does not rain", x.booth(1, 2), 80);
        DUE.is("no day nowhere", x.booth(1, 7), 0);
        x.set(GIVE, 100);
        x.shuffle(1);
        DUE.is("all of the 88, and no one at the wet one", x.play(), 88);
        x.set(GIVE, 25);
        x.set(RAIN, 0);
        x.shuffle(1);
        DUE.is("88 / 4 and 80 / 4", x.play(), 22 + 20);
        PuppetPitches y = Due.planned("5,5,5");
        y.set(RAIN, 100);
        y.set(GAP, 5);
        y.roof(0, true);
        y.roof(6, true);
        y.play();
        DUE.is("one that stands nowhere has no roof", y.booth(y.lot(2), 5), 0);
        DUE.is("both others have one, and one side each: 80 / 4 and 40 / 4", y.count(14), 20 + 10);
    }

    /** "Each booth takes its hat. The count of days becomes 1 more; the booths stay where they are." */
    private static void afterTheDay() {
        PuppetPitches x = Due.planned("5");
        x.set(RAIN, 0);
        for (int day = 1; day <= 3; day++) {
            x.play();
            DUE.is("days", x.count(12), day);
            DUE.is("hats so far", x.booth(0, 5), 30 * day);
            DUE.is("all hats so far", x.count(14), 30 * day);
            DUE.is("it stays", x.booth(0, 1), 0);
        }
        x.set(RAIN, 100);
        x.play();
        DUE.is("a rainy day is a day", x.count(12), 4);
        DUE.is("it stays when it rains", x.booth(0, 1), 0);
    }
}
