/** Promises 1 to 10: a new object and the changes. */
public final class ChangesTest {
    private static final int NO_SUCH = -1, BAD_VALUE = -2, BAD_TEXT = -3, TOO_MANY = -4, NOT_POSSIBLE = -5, NONE = -6;
    private static final Due DUE = new Due();

    public static void main(String[] args) {
        newObject();
        settings();
        roofs();
        coming();
        going();
        goingOfEach();
        heights();
        standing();
        shuffling();
        lots();
        choices();
        rain();
        hats();
        reading();
        DUE.end();
    }

    private static void newObject() {
        PuppetPitches x = new PuppetPitches();
        int[] first = {200, 100, 40, 25, 1, 20, 1, 0, 0, 48, 0, 300, 0, 0, 0, 0, 0};
        for (int what = 0; what < first.length; what++) {
            DUE.is("1: count(" + what + ")", x.count(what), first[what]);
        }
        for (int place = 0; place < 8; place++) {
            DUE.is("1: lot(" + place + ")", x.lot(place), NONE);
        }
    }

    private static void settings() {
        PuppetPitches x = new PuppetPitches();
        int[] first = {200, 100, 40, 25, 1, 20};
        int[] greatest = {999, 999, 100, 100, 5, 100};
        for (int setting = 0; setting < 6; setting++) {
            DUE.is("2: below", x.set(setting, -1), BAD_VALUE);
            DUE.is("2: above", x.set(setting, greatest[setting] + 1), BAD_VALUE);
            DUE.is("2: refused changes nothing", x.count(16), Math.min(6, 2 * setting));
            DUE.is("2: least", x.set(setting, 0), first[setting]);
            DUE.is("2: kept", x.count(setting), 0);
            DUE.is("2: greatest", x.set(setting, greatest[setting]), 0);
            DUE.is("2: kept", x.count(setting), greatest[setting]);
        }
        DUE.is("2: set(-1, 0)", x.set(-1, 0), BAD_VALUE);
        DUE.is("2: set(6, 0)", x.set(6, 0), BAD_VALUE);
        DUE.is("2: set(max, 0)", x.set(Integer.MAX_VALUE, 0), BAD_VALUE);
        DUE.is("2: set(min, min)", x.set(Integer.MIN_VALUE, Integer.MIN_VALUE), BAD_VALUE);
    }

    private static void roofs() {
        PuppetPitches x = new PuppetPitches();
        DUE.is("3: roof(-1)", x.roof(-1, true), NO_SUCH);
        DUE.is("3: roof(12)", x.roof(12, false), NO_SUCH);
        DUE.is("3: on again", x.roof(4, true), NOT_POSSIBLE);
        DUE.is("3: off where none is", x.roof(3, false), NOT_POSSIBLE);
        DUE.is("3: no change so far", x.count(16), 0);
        DUE.is("3: on", x.roof(0, true), 3);
        DUE.is("3: on", x.roof(11, true), 4);
        DUE.is("3: set", x.count(9), 1 | 16 | 32 | 2048);
        DUE.is("3: off", x.roof(4, false), 3);
        DUE.is("3: off", x.roof(5, false), 2);
        DUE.is("3: off", x.roof(0, false), 1);
        DUE.is("3: off", x.roof(11, false), 0);
        DUE.is("3: set", x.count(9), 0);
        DUE.is("3: changes", x.count(16), 6);
    }

    private static void coming() {
        PuppetPitches x = new PuppetPitches();
        DUE.is("4: come(0)", x.come(0), BAD_VALUE);
        DUE.is("4: come(10)", x.come(10), BAD_VALUE);
        for (int booth = 0; booth < 8; booth++) {
            DUE.is("4: come", x.come(booth + 2), booth);
            DUE.is("4: height", x.booth(booth, 0), booth + 2);
            DUE.is("4: pitch", x.booth(booth, 1), NONE);
        }
        DUE.is("4: a ninth", x.come(1), TOO_MANY);
        DUE.is("4: a ninth, out of range", x.come(0), BAD_VALUE);
        DUE.is("4: booths", x.count(7), 8);
    }

    private static void going() {
        PuppetPitches x = Due.planned("5@0,6@3,7@6,8");
        x.set(PuppetPitches.RAIN, 0);
        int coins = x.play();
        int[] hats = {x.booth(0, 5), x.booth(1, 5), x.booth(2, 5), x.booth(3, 5)};
        int[] places = {x.booth(0, 1), x.booth(1, 1), x.booth(2, 1), x.booth(3, 1)};
        int[] row = {x.lot(0), x.lot(1), x.lot(2), x.lot(3)};
        DUE.is("5: go(-1)", x.go(-1), NO_SUCH);
        DUE.is("5: go(4)", x.go(4), NO_SUCH);
        DUE.is("5: go(1)", x.go(1), hats[1]);
        DUE.is("5: booths", x.count(7), 3);
        for (int booth = 1; booth < 3; booth++) {
            DUE.is("5: height", x.booth(booth, 0), booth + 6);
            DUE.is("5: pitch", x.booth(booth, 1), places[booth + 1]);
            DUE.is("5: hats", x.booth(booth, 5), hats[booth + 1]);
        }
        DUE.is("5: before it", x.booth(0, 5), hats[0]);
        DUE.is("5: no last one", x.booth(3, 0), NO_SUCH);
        DUE.is("5: takings stay", x.count(14), coins);
        for (int place = 0; place < 4; place++) {
            DUE.is("5: lot", x.lot(place), row[place] == 1 ? NONE : row[place] > 1 ? row[place] - 1 : row[place]);
        }
        DUE.is("5: one comes", x.come(3), 3);
        DUE.is("5: it has no hats", x.booth(3, 5), 0);
        DUE.is("5: it was not first", x.booth(3, 6), 0);
        DUE.is("5: it is not in the row", x.lot(4), NONE);
    }

    /** Eight booths with choices behind them: each one goes in turn, and is brought back. */
    private static void goingOfEach() {
        PuppetPitches x = Due.planned("1,2,3,4,5,6,7,8");
        x.set(PuppetPitches.GAP, 4);
        for (int day = 0; day < 20; day++) {
            x.play();
        }
        int[][] before = new int[8][8];
        for (int booth = 0; booth < 8; booth++) {
            for (int what = 0; what < 8; what++) {
                before[booth][what] = x.booth(booth, what);
            }
        }
        for (int gone = 0; gone < 8; gone++) {
            x.go(gone);
            for (int booth = 0; booth < 7; booth++) {
                int former = booth < gone ? booth : booth + 1;
                for (int what : new int[] {0, 1, 5, 6, 7}) {
                    DUE.is("5: of the former " + former + ", " + what, x.booth(booth, what), before[former][what]);
                }
            }
            x.come(9);
            for (int what : new int[] {5, 6, 7}) {
                DUE.is("4: nothing so far, " + what, x.booth(7, what), 0);
            }
            x.undo();
            x.undo();
        }
    }

    private static void heights() {
        PuppetPitches x = new PuppetPitches();
        DUE.is("6: no booth", x.height(0, 0), NO_SUCH);
        x.come(4);
        DUE.is("6: height(-1, 5)", x.height(-1, 5), NO_SUCH);
        DUE.is("6: height(1, 5)", x.height(1, 5), NO_SUCH);
        DUE.is("6: height(0, 0)", x.height(0, 0), BAD_VALUE);
        DUE.is("6: height(0, 10)", x.height(0, 10), BAD_VALUE);
        DUE.is("6: height(0, 9)", x.height(0, 9), 4);
        DUE.is("6: height(0, 1)", x.height(0, 1), 9);
        DUE.is("6: kept", x.booth(0, 0), 1);
        DUE.is("6: changes", x.count(16), 3);
    }

    private static void standing() {
        PuppetPitches x = new PuppetPitches();
        DUE.is("7: no booth", x.stand(0, 0), NO_SUCH);
        x.come(4);
        x.come(5);
        DUE.is("7: no such pitch", x.stand(0, 12), NO_SUCH);
        DUE.is("7: no such pitch", x.stand(0, -1), NO_SUCH);
        DUE.is("7: no such pitch", x.stand(0, -5), NO_SUCH);
        DUE.is("7: no such pitch", x.stand(0, -7), NO_SUCH);
        DUE.is("7: no such booth", x.stand(2, NONE), NO_SUCH);
        DUE.is("7: from nowhere", x.stand(0, 11), NONE);
        DUE.is("7: taken", x.stand(1, 11), NOT_POSSIBLE);
        DUE.is("7: GAP does not matter", x.stand(1, 10), NONE);
        DUE.is("7: where it stands", x.stand(1, 10), 10);
        DUE.is("7: taken down", x.stand(0, NONE), 11);
        DUE.is("7: nowhere", x.booth(0, 1), NONE);
        DUE.is("7: still nowhere", x.stand(0, NONE), NONE);
        DUE.is("7: changes, those that answer NONE too", x.count(16), 6);
        DUE.is("7: free again", x.stand(1, 11), 10);
        DUE.is("7: free again", x.stand(0, 0), NONE);
    }

    private static void shuffling() {
        PuppetPitches x = new PuppetPitches();
        DUE.is("8: shuffle(-1)", x.shuffle(-1), BAD_VALUE);
        DUE.is("8: shuffle(min)", x.shuffle(Integer.MIN_VALUE), BAD_VALUE);
        DUE.is("8: shuffle(0)", x.shuffle(0), 1);
        DUE.is("8: shuffle(max)", x.shuffle(Integer.MAX_VALUE), 0);
        DUE.is("8: x", x.count(6), Integer.MAX_VALUE);
        DUE.is("8: changes", x.count(16), 2);
    }

    /** From x = 1 on, x becomes 1103527590, then 377401575. */
    private static void lots() {
        PuppetPitches x = new PuppetPitches();
        DUE.is("9: without booths", x.play(), 0);
        DUE.is("9: x is drawn once for the rain", x.count(6), 1103527590);
        DUE.is("9: no lots", x.lot(0), NONE);
        x.shuffle(1);
        x.come(5);
        x.play();
        DUE.is("9: one booth draws no lot", x.count(6), 1103527590);
        DUE.is("9: it is first", x.lot(0), 0);
        x.shuffle(1);
        x.come(5);
        x.come(5);
        x.play();
        // 1103527590 / 65536 = 16838, by 3: 2; then 377401575 / 65536 = 5758, by 2: 0
        DUE.is("9: place 2 with 2, place 1 with 0", x.lot(0), 1);
        DUE.is("9: place 2 with 2, place 1 with 0", x.lot(1), 0);
        DUE.is("9: place 2 with 2, place 1 with 0", x.lot(2), 2);
        DUE.is("9: first so far", x.booth(0, 6), 1);
        DUE.is("9: first so far", x.booth(1, 6), 1);
        DUE.is("9: first so far", x.booth(2, 6), 0);
        x.shuffle(377401575);
        x.play();
        // 662824084 / 65536 = 10113, by 3: 0; then 1147902781 / 65536 = 17515, by 2: 1
        DUE.is("9: place 2 with 0, place 1 with 1", x.lot(0), 2);
        DUE.is("9: place 2 with 0, place 1 with 1", x.lot(1), 1);
        DUE.is("9: place 2 with 0, place 1 with 1", x.lot(2), 0);
        x.go(2);
        x.go(1);
        x.shuffle(2147483647);
        x.set(PuppetPitches.RAIN, 30);
        int rainy = x.count(13);
        x.play();
        // 1043980748 / 65536 = 15929, by 100: 29
        DUE.is("9: the greatest x", x.count(6), 1043980748);
        DUE.is("9: rain", x.count(13), rainy + 1);
        x.set(PuppetPitches.RAIN, 1);
        x.shuffle(1214752387);
        x.play();
        // 30000 * 65536, so 30000, by 100: 0
        DUE.is("9: a number that just reaches 30000", x.count(6), 1966080000);
        DUE.is("9: rain", x.count(13), rainy + 2);
    }

    private static void choices() {
        PuppetPitches x = Due.planned("5@7");
        x.set(PuppetPitches.RAIN, 0);
        x.play();
        DUE.is("9: all are alike, so the lowest", x.booth(0, 1), 0);
        x.come(5);
        x.play();
        int second = x.lot(1);
        DUE.is("9: the one that is first is at the left end", x.booth(x.lot(0), 1), 0);
        DUE.is("9: hidden from the left, so the lowest that keeps the gap", x.booth(second, 1), 2);
        x.set(PuppetPitches.GAP, 5);
        x.play();
        DUE.is("9: the gap", x.booth(x.lot(1), 1), 6);
        x.set(PuppetPitches.GAP, 0);
        x.play();
        DUE.is("9: no gap", x.booth(x.lot(1), 1), 1);

        x.height(0, 1);
        x.height(1, 1);
        x.set(PuppetPitches.GAP, 5);
        x.play();
        DUE.is("9: the gap to the least high", x.booth(x.lot(1), 1), 6);
        x.set(PuppetPitches.LEFT, 0);
        x.play();
        DUE.is("9: people as they come now, the first", x.booth(x.lot(0), 1), 0);
        x.go(1);
        x.stand(0, 3);
        x.height(0, 5);
        x.come(1);
        x.shuffle(1);
        x.play();
        DUE.is("9: booth 1 chooses first, not hidden by those of yesterday", x.booth(1, 1), 0);

        PuppetPitches y = Due.planned("9,9,9");
        y.set(PuppetPitches.GAP, 5);
        y.play();
        DUE.is("9: two find a pitch", y.count(8), 2);
        DUE.is("9: the last one stands nowhere", y.booth(y.lot(2), 1), NONE);
        DUE.is("9: on so many days", y.booth(y.lot(2), 7), 1);
        DUE.is("9: the first one never", y.booth(y.lot(0), 7), 0);
    }

    private static void rain() {
        PuppetPitches x = Due.planned("5");
        x.set(PuppetPitches.RAIN, 100);
        DUE.is("9: rain without a roof", x.play(), 0);
        DUE.is("9: it stands", x.booth(0, 1), 0);
        DUE.is("9: rainy days", x.count(13), 1);
        x.set(PuppetPitches.GIVE, 100);
        DUE.is("9: no crowd at all", x.play(), 0);
        x.undo();
        x.undo();
        x.roof(0, true);
        DUE.is("9: rain, but a roof: (80 + 40) / 4", x.play(), 30);
        DUE.is("9: rainy days", x.count(13), 2);
        x.set(PuppetPitches.RAIN, 38);
        x.shuffle(1);
        x.play();
        DUE.is("9: 16838 by 100 is 38, not below 38", x.count(13), 2);
        x.set(PuppetPitches.RAIN, 39);
        x.shuffle(1);
        x.play();
        DUE.is("9: 38 is below 39", x.count(13), 3);
        DUE.is("9: days", x.count(12), 4);
    }

    private static void hats() {
        PuppetPitches x = Due.planned("5,6");
        x.set(PuppetPitches.RAIN, 0);
        x.set(PuppetPitches.LEFT, 9);
        x.set(PuppetPitches.RIGHT, 5);
        x.set(PuppetPitches.GIVE, 50);
        x.shuffle(1);
        // 16838 by 2 is 0, so booth 1 chooses first: 9 * 40 / 100 + 5 * 40 / 100 = 3 + 2.
        // Booth 0 is seen from the right alone: 2, and booth 1 has 3 + 3 * 40 / 100 = 3 + 1.
        DUE.is("9: each hat is rounded down", x.play(), 1 + 2);
        DUE.is("9: booth 0", x.booth(0, 5), 1);
        DUE.is("9: booth 1", x.booth(1, 5), 2);
        DUE.is("9: all", x.count(14), 3);
        x.shuffle(1);
        x.play();
        DUE.is("9: hats add up", x.booth(1, 5), 4);
        DUE.is("9: all", x.count(14), 6);
    }

    private static void reading() {
        PuppetPitches x = new PuppetPitches();
        DUE.is("10: an empty pad", x.read(), BAD_TEXT);
        Due.write(x, "5@3,");
        DUE.is("10: too early an end", x.read(), BAD_TEXT);
        Due.write(x, "6@3");
        DUE.is("10: the same pitch", x.read(), NOT_POSSIBLE);
        DUE.is("10: the pad stays", x.count(15), 7);
        DUE.is("10: no change", x.count(16), 0);
        x.wipe();

        x.set(PuppetPitches.RAIN, 100);
        x.roof(0, true);
        x.come(9);
        x.play();
        DUE.is("10: it was first", x.lot(0), 0);
        int drawn = x.count(6);
        Due.write(x, "1,2@0,3@1,4@10,5@11,6@9,7,8@2");
        DUE.is("10: booths", x.read(), 8);
        DUE.is("10: the pad is empty", x.count(15), 0);
        int[] places = {NONE, 0, 1, 10, 11, 9, NONE, 2};
        for (int booth = 0; booth < 8; booth++) {
            DUE.is("10: height", x.booth(booth, 0), booth + 1);
            DUE.is("10: pitch", x.booth(booth, 1), places[booth]);
            DUE.is("10: hats", x.booth(booth, 5), 0);
            DUE.is("10: first", x.booth(booth, 6), 0);
            DUE.is("10: idle", x.booth(booth, 7), 0);
            DUE.is("10: lot", x.lot(booth), NONE);
        }
        DUE.is("10: days stay", x.count(12), 1);
        DUE.is("10: rainy days stay", x.count(13), 1);
        DUE.is("10: takings stay", x.count(14), 30);
        DUE.is("10: x stays", x.count(6), drawn);
        DUE.is("10: roofs stay", x.count(9), 49);
        x.undo();
        DUE.is("10: undone", x.booth(0, 5), 30);
        DUE.is("10: undone", x.lot(0), 0);
        DUE.is("10: but not the pad", x.count(15), 0);
    }
}
