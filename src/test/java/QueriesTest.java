/** Promises 11 to 15: what there is; and 16 to 19: what if. */
public final class QueriesTest {
    private static final int NO_SUCH = -1, BAD_VALUE = -2, NOT_POSSIBLE = -5, NONE = -6;
    private static final Due DUE = new Due();

    public static void main(String[] args) {
        booths();
        pitches();
        sights();
        counts();
        lots();
        stands();
        bestPitches();
        foretold();
        bestHeights();
        queriesChangeNothing();
        DUE.end();
    }

    /**
     * 3@1, 5@4, 5@6, 4@9, and one nowhere. From the left, 200: 80 stop at the
     * first, 48 of 120 at the second, the others are hidden. From the right,
     * 100: 40 at the 4, 24 of 60 at the 5 behind it, the others are hidden.
     */
    private static PuppetPitches example() {
        return Due.planned("5@4,3@1,5@6,4@9,9");
    }

    private static void booths() {
        PuppetPitches x = example();
        int[][] due = {
            {5, 4, 48, 48, 0, 0, 0, 0},
            {3, 1, 80, 80, 0, 0, 0, 0},
            {5, 6, 24, 0, 24, 0, 0, 0},
            {4, 9, 40, 0, 40, 0, 0, 0},
            {9, NONE, 0, 0, 0, 0, 0, 0}};
        for (int booth = 0; booth < due.length; booth++) {
            for (int what = 0; what < 8; what++) {
                DUE.is("11: booth(" + booth + ", " + what + ")", x.booth(booth, what), due[booth][what]);
            }
        }
        DUE.is("11: no booth", x.booth(-1, 0), NO_SUCH);
        DUE.is("11: no booth", x.booth(5, 8), NO_SUCH);
        DUE.is("11: nothing asked", x.booth(0, -1), BAD_VALUE);
        DUE.is("11: nothing asked", x.booth(4, 8), BAD_VALUE);
        x.set(PuppetPitches.RAIN, 100);
        DUE.is("11: rain does not matter", x.booth(1, 2), 80);
        x.set(PuppetPitches.GAP, 5);
        x.play();
        int nowhere = 0;
        int first = 0;
        for (int booth = 0; booth < 5; booth++) {
            nowhere += x.booth(booth, 7);
            first += x.booth(booth, 6);
        }
        DUE.is("11: days nowhere", nowhere, 3);
        DUE.is("11: firsts", first, 1);
        DUE.is("11: firsts", x.booth(x.lot(0), 6), 1);
        PuppetPitches y = example();
        y.set(PuppetPitches.LEFT, 100);
        DUE.is("11: as people come now, from the left", y.booth(1, 3), 40);
        y.set(PuppetPitches.RIGHT, 200);
        DUE.is("11: as people come now, from the right", y.booth(3, 4), 80);
        y.set(PuppetPitches.STOP, 50);
        DUE.is("11: as people stop now", y.booth(1, 2), 50);
        y.height(1, 9);
        DUE.is("11: as heights are now", y.booth(0, 3), 0);
    }

    private static void pitches() {
        PuppetPitches x = example();
        int[] there = {NONE, 1, NONE, NONE, 0, NONE, 2, NONE, NONE, 3, NONE, NONE};
        int[] open = {0, 0, 0, 0, 0, 0, 0, 0, 0, 0, 0, 1};
        for (int pitch = 0; pitch < 12; pitch++) {
            DUE.is("12: roof " + pitch, x.pitch(pitch, 0), pitch == 4 || pitch == 5 ? 1 : 0);
            DUE.is("12: booth " + pitch, x.pitch(pitch, 1), there[pitch]);
            DUE.is("12: gap " + pitch, x.pitch(pitch, 2), open[pitch]);
        }
        x.set(PuppetPitches.GAP, 0);
        for (int pitch = 0; pitch < 12; pitch++) {
            DUE.is("12: no gap " + pitch, x.pitch(pitch, 2), there[pitch] == NONE ? 1 : 0);
        }
        PuppetPitches y = Due.planned("5@5");
        y.set(PuppetPitches.GAP, 5);
        for (int pitch = 0; pitch < 12; pitch++) {
            DUE.is("12: gap 5, " + pitch, y.pitch(pitch, 2), pitch == 11 ? 1 : 0);
        }
        DUE.is("12: no pitch", x.pitch(-1, 0), NO_SUCH);
        DUE.is("12: no pitch", x.pitch(12, 9), NO_SUCH);
        DUE.is("12: nothing asked", x.pitch(0, -1), BAD_VALUE);
        DUE.is("12: nothing asked", x.pitch(0, 3), BAD_VALUE);
    }

    private static void sights() {
        PuppetPitches x = example();
        int[][] due = {{1, 0}, {1, 0}, {0, 1}, {0, 1}, {0, 0}};
        for (int booth = 0; booth < due.length; booth++) {
            for (int way = 0; way < 2; way++) {
                DUE.is("13: " + booth + " from the left", x.seen(booth, 0, way), due[booth][0]);
                DUE.is("13: " + booth + " from the right", x.seen(booth, 1, way), due[booth][1]);
            }
        }
        DUE.is("13: no booth", x.seen(5, 2, 2), NO_SUCH);
        DUE.is("13: no booth", x.seen(-1, 0, 0), NO_SUCH);
        DUE.is("13: no side", x.seen(0, -1, 0), BAD_VALUE);
        DUE.is("13: no side", x.seen(0, 2, 0), BAD_VALUE);
        DUE.is("13: no way", x.seen(0, 0, -1), BAD_VALUE);
        DUE.is("13: no way, though it stands nowhere", x.seen(4, 0, 2), BAD_VALUE);
    }

    private static void counts() {
        PuppetPitches x = example();
        x.set(PuppetPitches.RAIN, 100);
        int[] due = {200, 100, 40, 25, 1, 100, 1, 5, 4, 48, 192, 108, 0, 0, 0, 0, 2};
        for (int what = 0; what < due.length; what++) {
            DUE.is("14: count(" + what + ")", x.count(what), due[what]);
        }
        DUE.is("14: count(-1)", x.count(-1), BAD_VALUE);
        DUE.is("14: count(17)", x.count(17), BAD_VALUE);
        DUE.is("14: count(min)", x.count(Integer.MIN_VALUE), BAD_VALUE);
        x.set(PuppetPitches.RAIN, 0);
        int coins = x.play();
        DUE.is("14: days", x.count(12), 1);
        DUE.is("14: rainy days", x.count(13), 0);
        DUE.is("14: takings", x.count(14), coins);
        x.go(x.lot(0));
        DUE.is("14: takings of one that went", x.count(14), coins);
        x.put(Due.packed("hello"));
        DUE.is("14: the pad", x.count(15), 5);
    }

    private static void lots() {
        PuppetPitches x = example();
        DUE.is("15: lot(-1)", x.lot(-1), NO_SUCH);
        DUE.is("15: lot(8)", x.lot(8), NO_SUCH);
        DUE.is("15: no day", x.lot(0), NONE);
        x.play();
        int set = 0;
        for (int place = 0; place < 5; place++) {
            set |= 1 << x.lot(place);
        }
        DUE.is("15: all five", set, 31);
        DUE.is("15: not so many", x.lot(5), NONE);
        DUE.is("15: not so many", x.lot(7), NONE);
        int second = x.lot(1);
        x.go(x.lot(0));
        DUE.is("15: gone", x.lot(0), NONE);
        x.come(9);
        DUE.is("15: still gone", x.lot(0), NONE);
        set = 0;
        for (int place = 1; place < 5; place++) {
            set |= 1 << x.lot(place);
        }
        DUE.is("15: the others, as they are numbered now", set, 15);
        DUE.is("15: at most one less", second - x.lot(1) == 0 || second - x.lot(1) == 1 ? 1 : 0, 1);
        x.undo();
        x.undo();
        DUE.is("15: back", x.lot(1), second);
    }

    private static void stands() {
        PuppetPitches x = example();
        DUE.is("16: no booth", x.ifStood(5, 0), NO_SUCH);
        DUE.is("16: no pitch", x.ifStood(0, 12), NO_SUCH);
        DUE.is("16: nowhere is no pitch", x.ifStood(0, NONE), NO_SUCH);
        DUE.is("16: taken", x.ifStood(0, 6), NOT_POSSIBLE);
        DUE.is("16: its own pitch", x.ifStood(0, 4), 48);
        DUE.is("16: 80 from the left, 36 by 40 hundredths: 14 from the right", x.ifStood(4, 0), 80 + 14);
        DUE.is("16: the gap does not matter", x.ifStood(4, 5), 72 * 40 / 100 + 14);
        DUE.is("16: at the right end", x.ifStood(4, 11), 72 * 40 / 100 + 40);
        DUE.is("16: it is not in its own way", x.ifStood(0, 8), 24);
        x.set(PuppetPitches.RAIN, 100);
        DUE.is("16: it does not rain", x.ifStood(4, 0), 94);
    }

    private static void bestPitches() {
        PuppetPitches x = example();
        DUE.is("17: no booth", x.bestPitch(-1), NO_SUCH);
        DUE.is("17: no booth", x.bestPitch(5), NO_SUCH);
        DUE.is("17: at the left end", x.bestPitch(4), 0);
        DUE.is("17: alone", Due.planned("5@7").bestPitch(0), 0);
        PuppetPitches y = Due.planned("5@0,5@2");
        y.set(PuppetPitches.LEFT, 0);
        DUE.is("17: the gap does not matter; the lowest of several", y.bestPitch(0), 3);
        DUE.is("17: next to the other one", y.bestPitch(1), 1);
        y.set(PuppetPitches.STOP, 0);
        DUE.is("17: no one stops", y.bestPitch(1), 1);
        DUE.is("17: its own pitch is free", y.bestPitch(0), 0);
    }

    private static void foretold() {
        PuppetPitches x = example();
        DUE.is("18: no day", x.ifPlayed(0, 0), BAD_VALUE);
        DUE.is("18: too many days", x.ifPlayed(101, 0), BAD_VALUE);
        DUE.is("18: nothing asked", x.ifPlayed(1, -1), BAD_VALUE);
        DUE.is("18: nothing asked", x.ifPlayed(1, 2), BAD_VALUE);
        x.set(PuppetPitches.RAIN, 100);
        x.play();
        x.set(PuppetPitches.RAIN, 40);
        x.play();
        int[] coins = new int[81];
        int[] rain = new int[81];
        for (int days = 1; days <= 80; days++) {
            coins[days] = x.ifPlayed(days, 0);
            rain[days] = x.ifPlayed(days, 1);
        }
        DUE.is("18: nothing is changed", x.count(12), 2);
        int takings = x.count(14);
        int rainy = x.count(13);
        for (int days = 1; days <= 80; days++) {
            x.play();
            DUE.is("18: coins in " + days, coins[days], x.count(14) - takings);
            DUE.is("18: rain in " + days, rain[days], x.count(13) - rainy);
        }
    }

    private static void bestHeights() {
        PuppetPitches x = example();
        DUE.is("19: no booth", x.bestHeight(5), NO_SUCH);
        DUE.is("19: nowhere", x.bestHeight(4), NOT_POSSIBLE);
        DUE.is("19: seen from both sides above 5", x.bestHeight(0), 6);
        DUE.is("19: seen from both sides above 5", x.bestHeight(1), 6);
        DUE.is("19: nothing is changed", x.booth(0, 0), 5);
        DUE.is("19: 2 is enough", Due.planned("1@0,1@1").bestHeight(1), 2);
        DUE.is("19: alone", Due.planned("7@3").bestHeight(0), 1);
        DUE.is("19: it can't be higher than 9", Due.planned("9@0,4@1,9@2").bestHeight(1), 1);
        DUE.is("19: 9 is needed", Due.planned("8@0,4@1").bestHeight(1), 9);
        DUE.is("19: from the right all see it", Due.planned("9@0,4@1").bestHeight(1), 1);
    }

    private static void queriesChangeNothing() {
        PuppetPitches x = example();
        x.play();
        int[] before = new int[17];
        for (int what = 0; what < 17; what++) {
            before[what] = x.count(what);
        }
        x.booth(0, 2);
        x.pitch(0, 2);
        x.seen(0, 0, 0);
        x.lot(0);
        x.ifStood(4, 0);
        x.bestPitch(4);
        x.ifPlayed(50, 0);
        x.bestHeight(0);
        x.fault();
        for (int what = 0; what < 17; what++) {
            DUE.is("11 to 19: count(" + what + ")", x.count(what), before[what]);
        }
    }
}
