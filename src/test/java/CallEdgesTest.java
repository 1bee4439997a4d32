/** The boundary cases that the promises 1 to 19 name, a method for each promise. */
public final class CallEdgesTest {
    private static final int NO_SUCH = -1, BAD_VALUE = -2, TOO_MANY = -4, NOT_POSSIBLE = -5, NONE = -6;
    private static final int LEFT = 0, RIGHT = 1, STOP = 2, GIVE = 3, GAP = 4, RAIN = 5;
    private static final Due DUE = new Due();

    public static void main(String[] args) {
        newObject();
        roofs();
        going();
        goingAheadOfOthers();
        goingOutOfTheRow();
        heights();
        standing();
        shuffling();
        playing();
        reading();
        readingOverMany();
        whatOfABooth();
        whatOfAPitch();
        counting();
        lots();
        ifStood();
        bestPitch();
        bestPitchAmongMany();
        ifPlayed();
        ifPlayedLong();
        bestHeight();
        lastCall();
        objectsApart();
        DUE.end();
    }

    /** 1: "Creates a promenade without booths, on the day 0." */
    private static void newObject() {
        DUE.is("1: no booths", new PuppetPitches().count(7), 0);
        DUE.is("1: none stands", new PuppetPitches().count(8), 0);
        DUE.is("1: the day 0", new PuppetPitches().count(12), 0);
        DUE.is("1: no rain so far", new PuppetPitches().count(13), 0);
        DUE.is("1: no hats so far", new PuppetPitches().count(14), 0);
        DUE.is("1: an empty pad", new PuppetPitches().wipe(), 0);
        DUE.is("1: no history", new PuppetPitches().undo(), NOT_POSSIBLE);
        DUE.is("1: an empty slot 0", new PuppetPitches().restore(0), NOT_POSSIBLE);
        DUE.is("1: an empty slot 1", new PuppetPitches().restore(1), NOT_POSSIBLE);
        DUE.is("1: a first booth has the number 0", new PuppetPitches().come(1), 0);
        for (int place = 0; place < 8; place++) {
            DUE.is("1: no lots", new PuppetPitches().lot(place), NONE);
        }
    }

    /** 3: "NOT_POSSIBLE if it is so already." */
    private static void roofs() {
        for (int pitch = 0; pitch < 12; pitch++) {
            PuppetPitches x = new PuppetPitches();
            boolean isRoofed = pitch == 4 || pitch == 5;
            DUE.is("3: so already, " + pitch, x.roof(pitch, isRoofed), NOT_POSSIBLE);
            DUE.is("3: not so yet, " + pitch, x.roof(pitch, !isRoofed), isRoofed ? 1 : 3);
            DUE.is("3: so now, " + pitch, x.roof(pitch, !isRoofed), NOT_POSSIBLE);
            DUE.is("3: the set, " + pitch, x.count(9), 48 ^ 1 << pitch);
            DUE.is("3: back, " + pitch, x.roof(pitch, isRoofed), 2);
            DUE.is("3: the set, " + pitch, x.count(9), 48);
        }
    }

    /** 5: "A booth goes; those behind it get numbers that are 1 less. Returns what its hats brought so far." */
    private static void going() {
        PuppetPitches x = Due.planned("5@3");
        DUE.is("5: it has no hats so far", x.go(0), 0);
        DUE.is("5: none is left", x.count(7), 0);
        DUE.is("5: none stands", x.count(8), 0);
        DUE.is("5: its pitch is free", x.pitch(3, 1), NONE);
        DUE.is("5: none stops", x.count(10), 0);
        DUE.is("5: none can go", x.go(0), NO_SUCH);
        DUE.is("5: the next has the number 0", x.come(7), 0);

        PuppetPitches y = Due.planned("1@0,2@1,3@2,4@3,5@4,6@5,7@6,8@7");
        DUE.is("5: the last of 8", y.go(7), 0);
        DUE.is("5: there is no 7", y.booth(7, 0), NO_SUCH);
        DUE.is("5: the one before stays", y.booth(6, 0), 7);
        DUE.is("5: the first", y.go(0), 0);
        for (int booth = 0; booth < 6; booth++) {
            DUE.is("5: 1 less", y.booth(booth, 0), booth + 2);
            DUE.is("5: at its pitch", y.pitch(booth + 1, 1), booth);
        }
        DUE.is("5: there is no 6", y.booth(6, 0), NO_SUCH);

        PuppetPitches z = Due.planned("5");
        z.set(RAIN, 0);
        z.play();
        z.set(RAIN, 100);
        z.play();
        z.set(RAIN, 0);
        z.play();
        DUE.is("5: the hats of two dry days", z.go(0), 60);
        DUE.is("5: they stay with all hats", z.count(14), 60);
    }

    /** 5: what those behind it brought, and how often they were first or stood nowhere, goes with them. */
    private static void goingAheadOfOthers() {
        PuppetPitches x = Due.planned("3,4,5,6,7,8,9,9");
        x.set(GAP, 5);
        for (int day = 0; day < 30; day++) {
            x.play();
        }
        int[][] before = new int[8][8];
        for (int booth = 0; booth < 8; booth++) {
            for (int what = 5; what < 8; what++) {
                before[booth][what] = x.booth(booth, what);
            }
        }
        DUE.is("5: what its hats brought", x.go(2), before[2][5]);
        for (int booth = 0; booth < 7; booth++) {
            for (int what = 5; what < 8; what++) {
                DUE.is("5: " + what + " of " + booth, x.booth(booth, what), before[booth < 2 ? booth : booth + 1][what]);
            }
        }
        DUE.is("5: the last one", x.go(6), before[7][5]);
        x.come(1);
        for (int what = 5; what < 8; what++) {
            DUE.is("4: nothing so far, " + what, x.booth(6, what), 0);
        }
    }

    /** 15: "The booth, as it is numbered now; NONE if it has gone": the row 1, 0, 2, one of which goes. */
    private static void goingOutOfTheRow() {
        int[][] due = {{0, NONE, 1}, {NONE, 0, 1}, {1, 0, NONE}};
        for (int gone = 0; gone < 3; gone++) {
            PuppetPitches x = Due.planned("5,6,7");
            x.play();
            DUE.is("15: the row before", x.lot(0) * 100 + x.lot(1) * 10 + x.lot(2), 102);
            x.go(gone);
            for (int place = 0; place < 3; place++) {
                DUE.is("15: " + gone + " has gone, place " + place, x.lot(place), due[gone][place]);
            }
            x.go(1);
            x.go(0);
            for (int place = 0; place < 3; place++) {
                DUE.is("15: all have gone, place " + place, x.lot(place), NONE);
            }
            x.come(5);
            x.come(5);
            for (int place = 0; place < 3; place++) {
                DUE.is("15: those who came after the day are not in its row", x.lot(place), NONE);
            }
        }
    }

    /** 6: "height: 1 to 9." */
    private static void heights() {
        PuppetPitches x = new PuppetPitches();
        DUE.is("6: no booth at all", x.height(0, 5), NO_SUCH);
        for (int height = 1; height <= 9; height++) {
            DUE.is("4: comes with " + height, new PuppetPitches().come(height), 0);
        }
        x.come(1);
        for (int height = 1; height <= 9; height++) {
            DUE.is("6: before " + height, x.height(0, height), Math.max(1, height - 1));
            DUE.is("6: now", x.booth(0, 0), height);
        }
        DUE.is("6: below", x.height(0, 0), BAD_VALUE);
        DUE.is("6: above", x.height(0, 10), BAD_VALUE);
        DUE.is("6: the same again is a change", x.height(0, 9), 9);
        DUE.is("6: still", x.booth(0, 0), 9);
        x.come(2);
        x.height(1, 3);
        DUE.is("6: the other stays", x.booth(0, 0), 9);
    }

    /** 7: "0 to 11, or NONE: nowhere. GAP does not matter." */
    private static void standing() {
        PuppetPitches x = Due.planned("5,6@6");
        x.set(GAP, 5);
        DUE.is("7: below the first pitch", x.stand(0, -1), NO_SUCH);
        DUE.is("7: the first pitch", x.stand(0, 0), NONE);
        DUE.is("7: the last pitch", x.stand(0, 11), 0);
        DUE.is("7: above the last pitch", x.stand(0, 12), NO_SUCH);
        DUE.is("7: still there", x.booth(0, 1), 11);
        DUE.is("7: beside another", x.stand(0, 7), 11);
        DUE.is("7: beside another", x.stand(0, 5), 7);
        DUE.is("7: where another stands", x.stand(0, 6), NOT_POSSIBLE);
        DUE.is("7: where it stands itself", x.stand(0, 5), 5);
        DUE.is("7: nowhere", x.stand(0, NONE), 5);
        DUE.is("7: nowhere again", x.stand(0, NONE), NONE);
        DUE.is("7: beside NONE, -7", x.stand(0, -7), NO_SUCH);
        DUE.is("7: beside NONE, -5", x.stand(0, -5), NO_SUCH);
        DUE.is("7: the pitch is free", x.pitch(5, 1), NONE);
    }

    /** 8: "number: 0 or more. BAD_VALUE if number is below 0." */
    private static void shuffling() {
        PuppetPitches x = new PuppetPitches();
        DUE.is("8: -1", x.shuffle(-1), BAD_VALUE);
        DUE.is("8: the first x stays", x.count(6), 1);
        DUE.is("8: 0", x.shuffle(0), 1);
        DUE.is("8: it is 0", x.count(6), 0);
        DUE.is("8: the greatest", x.shuffle(Integer.MAX_VALUE), 0);
        DUE.is("8: the greatest was there", x.shuffle(5), Integer.MAX_VALUE);
        DUE.is("8: the same again is a change", x.shuffle(5), 5);
        DUE.is("8: so many", x.count(16), 4);
    }

    /** 9: "TOO_MANY if the days would be above 9999": no object has so many days in 512 calls, but it holds. */
    private static void playing() {
        PuppetPitches x = Due.planned("5");
        for (int day = 1; day <= 9998; day++) {
            x.play();
        }
        int taken = x.count(14);
        int coins = x.play();
        DUE.is("9: the day 9999", coins >= 0 ? 1 : 0, 1);
        DUE.is("9: so many days", x.count(12), 9999);
        DUE.is("9: so many coins", x.count(14), taken + coins);
        String before = Probe.state(x);
        DUE.is("9: the day 10000", x.play(), TOO_MANY);
        DUE.is("9: nothing is changed", Probe.state(x).equals(before) ? 1 : 0, 1);
        x.undo();
        DUE.is("9: a day before", x.count(12), 9998);
        DUE.is("9: the same day again", x.play(), coins);
    }

    /** 10: "Makes the booths those of the pad, each at its pitch, or nowhere if none is told, and empties the pad." */
    private static void reading() {
        read("1", 1, 1, NONE);
        read("9", 1, 9, NONE);
        read("1@0", 1, 1, 0);
        read("9@11", 1, 9, 11);
        read("5@1", 1, 5, 1);
        read("5@10", 1, 5, 10);
        read("5@1,6@10,7@11,8@0", 4, 5, 1);
        read("5,5", 2, 5, NONE);
        read("5,6@3,7", 3, 5, NONE);
        read("5@9,5,5,5,5,5,5,5", 8, 5, 9);
        read("9@11,8@10,7@9,6@8,5@7,4@6,3@5,2@4", 8, 9, 11);
    }

    private static void read(String plan, int booths, int height, int pitch) {
        PuppetPitches x = new PuppetPitches();
        Due.write(x, plan);
        DUE.is("10: read " + plan, x.read(), booths);
        DUE.is("10: so many, " + plan, x.count(7), booths);
        DUE.is("10: height of 0, " + plan, x.booth(0, 0), height);
        DUE.is("10: pitch of 0, " + plan, x.booth(0, 1), pitch);
        DUE.is("10: no more, " + plan, x.booth(booths, 0), NO_SUCH);
        DUE.is("10: the pad is empty, " + plan, x.count(15), 0);
        DUE.is("10: so it can't be read again, " + plan, x.read(), -3);
        DUE.is("10: one change, " + plan, x.count(16), 1);
    }

    /** 10: "Hats and choices of the former booths are forgotten with them (count() 12 to 14 stay as they are)." */
    private static void readingOverMany() {
        PuppetPitches x = Due.planned("1,2,3,4,5,6,7,8");
        x.set(RAIN, 50);
        x.set(GAP, 5);
        for (int day = 0; day < 10; day++) {
            x.play();
        }
        int[] stay = {12, 13, 14, 6, 9, 4, 5};
        int[] before = new int[stay.length];
        for (int i = 0; i < stay.length; i++) {
            before[i] = x.count(stay[i]);
        }
        DUE.is("10: there were coins", before[2] > 0 ? 1 : 0, 1);
        DUE.is("10: there was rain", before[1] > 0 ? 1 : 0, 1);
        Due.write(x, "4@7");
        DUE.is("10: one in place of eight", x.read(), 1);
        for (int i = 0; i < stay.length; i++) {
            DUE.is("10: count(" + stay[i] + ") stays", x.count(stay[i]), before[i]);
        }
        for (int place = 0; place < 8; place++) {
            DUE.is("10: the former row has gone, " + place, x.lot(place), NONE);
        }
        for (int pitch = 0; pitch < 12; pitch++) {
            DUE.is("10: the former ones do not stand, " + pitch, x.pitch(pitch, 1), pitch == 7 ? 0 : NONE);
        }
        DUE.is("10: a second one", x.come(9), 1);
        for (int booth = 0; booth < 2; booth++) {
            for (int what = 5; what < 8; what++) {
                DUE.is("10: nothing so far of " + booth + ", " + what, x.booth(booth, what), 0);
            }
        }
        DUE.is("10: there is room for more", x.come(9), 2);
    }

    /** 11: "what: 0 to 7"; "0 if it stands nowhere"; "so far". */
    private static void whatOfABooth() {
        PuppetPitches x = Due.planned("5@0,9");
        DUE.is("11: -1", x.booth(0, -1), BAD_VALUE);
        DUE.is("11: 8", x.booth(0, 8), BAD_VALUE);
        DUE.is("11: least", x.booth(0, Integer.MIN_VALUE), BAD_VALUE);
        DUE.is("11: greatest", x.booth(0, Integer.MAX_VALUE), BAD_VALUE);
        DUE.is("11: the last booth", x.booth(1, 0), 9);
        DUE.is("11: behind the last booth", x.booth(2, 0), NO_SUCH);
        DUE.is("11: nowhere", x.booth(1, 1), NONE);
        DUE.is("11: nowhere: no crowd", x.booth(1, 2), 0);
        DUE.is("11: nowhere: none from the left", x.booth(1, 3), 0);
        DUE.is("11: nowhere: none from the right", x.booth(1, 4), 0);
        x.set(RAIN, 100);
        DUE.is("11: its crowd when it does not rain", x.booth(0, 2), 120);
        x.play();
        DUE.is("11: a wet day brings no hat", x.booth(0, 5) + x.booth(1, 5), 0);
        DUE.is("11: a wet day has a first", x.booth(0, 6) + x.booth(1, 6), 1);
        DUE.is("11: a booth in the rain stands", x.booth(0, 7) + x.booth(1, 7), 0);
        x.stand(0, NONE);
        DUE.is("11: taken down by a call: no day", x.booth(0, 7), 0);
        x.stand(0, 11);
        DUE.is("11: put by a call: from the right", x.booth(0, 4), 40);
    }

    /** 12: "what: 0 to 2"; "0 if one stands there". */
    private static void whatOfAPitch() {
        PuppetPitches x = Due.planned("5@0,6@11,7");
        DUE.is("12: -1", x.pitch(0, -1), BAD_VALUE);
        DUE.is("12: 3", x.pitch(0, 3), BAD_VALUE);
        DUE.is("12: the left end", x.pitch(0, 1), 0);
        DUE.is("12: the right end", x.pitch(11, 1), 1);
        DUE.is("12: none", x.pitch(6, 1), NONE);
        x.set(GAP, 0);
        int[] open = {0, 1, 1, 1, 1, 1, 1, 1, 1, 1, 1, 0};
        for (int pitch = 0; pitch < 12; pitch++) {
            DUE.is("12: GAP 0, " + pitch, x.pitch(pitch, 2), open[pitch]);
        }
        x.set(GAP, 5);
        for (int pitch = 0; pitch < 12; pitch++) {
            DUE.is("12: GAP 5, none is open, " + pitch, x.pitch(pitch, 2), 0);
        }
        x.set(GAP, 4);
        for (int pitch = 0; pitch < 12; pitch++) {
            DUE.is("12: GAP 4, " + pitch, x.pitch(pitch, 2), pitch == 5 || pitch == 6 ? 1 : 0);
        }
        x.stand(0, NONE);
        DUE.is("12: one that stands nowhere keeps no gap", x.pitch(0, 2), 1);
    }

    /** 14: "what: 0 to 16." */
    private static void counting() {
        PuppetPitches x = Due.planned("5@0,6@11,7");
        DUE.is("14: -1", x.count(-1), BAD_VALUE);
        DUE.is("14: 17", x.count(17), BAD_VALUE);
        DUE.is("14: least", x.count(Integer.MIN_VALUE), BAD_VALUE);
        DUE.is("14: greatest", x.count(Integer.MAX_VALUE), BAD_VALUE);
        DUE.is("14: 0, LEFT", x.count(0), 200);
        DUE.is("14: 16, changes", x.count(16), 1);
        DUE.is("14: 7, booths", x.count(7), 3);
        DUE.is("14: 8, those that stand", x.count(8), 2);
        DUE.is("14: 10, crowds", x.count(10), 80 + 48 + 40);
        DUE.is("14: 11, the others", x.count(11), 72 + 60);
        x.set(RAIN, 100);
        DUE.is("14: 10, when it does not rain", x.count(10), 168);
        x.go(1);
        DUE.is("14: 10, without the one that went", x.count(10), 120);
        for (int more = 4; more <= 8; more++) {
            x.shuffle(more);
            DUE.is("14: 16, six at most", x.count(16), Math.min(6, more));
        }
        x.roof(11, true);
        DUE.is("14: 9, the highest bit", x.count(9), 2048 + 48);
        x.shuffle(Integer.MAX_VALUE);
        DUE.is("14: 6, the greatest x", x.count(6), Integer.MAX_VALUE);
    }

    /** 15: "NO_SUCH if place is below 0, or not below 8; NONE if no day was played, there were not so many." */
    private static void lots() {
        PuppetPitches x = Due.planned("5,5");
        for (int place : new int[] {Integer.MIN_VALUE, -1, 8, Integer.MAX_VALUE}) {
            DUE.is("15: before a day, " + place, x.lot(place), NO_SUCH);
        }
        for (int place = 0; place < 8; place++) {
            DUE.is("15: no day was played, " + place, x.lot(place), NONE);
        }
        x.play();
        DUE.is("15: the last of the row", x.lot(1) != NONE ? 1 : 0, 1);
        for (int place = 2; place < 8; place++) {
            DUE.is("15: not so many, " + place, x.lot(place), NONE);
        }
        for (int place : new int[] {Integer.MIN_VALUE, -1, 8, Integer.MAX_VALUE}) {
            DUE.is("15: after a day, " + place, x.lot(place), NO_SUCH);
        }
        x.come(5);
        DUE.is("15: one that came after the day", x.lot(2), NONE);
        x.undo();
        x.undo();
        DUE.is("15: the day is undone", x.lot(0), NONE);

        PuppetPitches y = Due.planned("1,2,3,4,5,6,7,8");
        y.play();
        int set = 0;
        for (int place = 0; place < 8; place++) {
            set |= y.lot(place) < 0 ? 0 : 1 << y.lot(place);
        }
        DUE.is("15: all eight are in the row", set, 255);
        for (int gone = 0; gone < 6; gone++) {
            y.go(0);
        }
        y.play();
        for (int place = 2; place < 8; place++) {
            DUE.is("15: the latest day has two, " + place, y.lot(place), NONE);
        }
        y.go(0);
        y.go(0);
        y.play();
        DUE.is("15: the latest day has none", y.lot(0), NONE);
    }

    /** 16: "NO_SUCH if there is no such booth or pitch; NOT_POSSIBLE if another booth stands there." */
    private static void ifStood() {
        PuppetPitches x = Due.planned("5@3,6@6,9");
        DUE.is("16: below", x.ifStood(0, -1), NO_SUCH);
        DUE.is("16: above", x.ifStood(0, 12), NO_SUCH);
        DUE.is("16: NONE is no pitch", x.ifStood(2, NONE), NO_SUCH);
        DUE.is("16: another stands there", x.ifStood(0, 6), NOT_POSSIBLE);
        DUE.is("16: another stands there", x.ifStood(2, 3), NOT_POSSIBLE);
        DUE.is("16: it stands there itself", x.ifStood(0, 3), 80);
        DUE.is("16: the left end", x.ifStood(0, 0), 80);
        DUE.is("16: the right end", x.ifStood(0, 11), 40);
        DUE.is("16: one that stands nowhere, at the left end", x.ifStood(2, 0), 80 + 24);
        DUE.is("16: one that stands nowhere, at the right end", x.ifStood(2, 11), 28 + 40);
        x.set(GAP, 5);
        DUE.is("16: GAP does not matter", x.ifStood(2, 4), 48 + 24);
        x.set(RAIN, 100);
        DUE.is("16: when it does not rain", x.ifStood(2, 4), 72);
        DUE.is("16: it stays nowhere", x.booth(2, 1), NONE);
    }

    /** 17: "Of those where no other one stands (GAP does not matter); of several the lowest." */
    private static void bestPitch() {
        best("it stands nowhere, alone", "5", 0);
        best("it stands, alone: its crowd is the same everywhere", "5@11", 0);
        best("its own pitch is free", "5@0", 0);
        best("the left end is taken", "9,5@0", 1);
        best("the first three are taken", "9,5@0,6@1,7@2", 3);
        best("ahead of one that hides it", "5@11,9@1", 0);
        best("between the two ends, seen from both", "9,1@11,2@10,3@9", 0);
        PuppetPitches x = Due.planned("5@0,5@2,5@4,5@6,5@8,5@10");
        x.set(LEFT, 0);
        DUE.is("17: seen from the right at the last pitch alone", x.bestPitch(0), 11);
        x.set(GAP, 5);
        DUE.is("17: GAP does not matter", x.bestPitch(0), 11);
        x.set(LEFT, 200);
        x.stand(1, 11);
        DUE.is("17: from the left, where it stands", x.bestPitch(0), 0);
        x.set(LEFT, 0);
        DUE.is("17: all are hidden from the right: the lowest", x.bestPitch(0), 0);
        x.set(RAIN, 100);
        x.set(LEFT, 200);
        DUE.is("17: the rain does not matter", x.bestPitch(0), 0);
        DUE.is("17: it stays where it is", x.booth(0, 1), 0);
    }

    private static void best(String name, String plan, int pitch) {
        DUE.is("17: " + name, Due.planned(plan).bestPitch(0), pitch);
    }

    /** 17 with eight booths: five pitches are left for one of them, its own among these. */
    private static void bestPitchAmongMany() {
        PuppetPitches x = Due.planned("5@11,9@0,9@1,9@2,9@3,9@4,9@5,9@6");
        DUE.is("17: from the right, the lowest that is free", x.bestPitch(0), 7);
        x.height(0, 9);
        DUE.is("17: as high as the others", x.bestPitch(0), 7);
        x.stand(7, 10);
        DUE.is("17: its own pitch, ahead of one that hides it", x.bestPitch(0), 11);
        x.stand(0, NONE);
        DUE.is("17: from nowhere", x.bestPitch(0), 11);
        x.stand(6, 11);
        DUE.is("17: hidden everywhere: the lowest that is free", x.bestPitch(0), 5);
    }

    /** 18: "days: 1 to 100; what: 0 the coins, 1 days on which it rains." */
    private static void ifPlayed() {
        PuppetPitches x = Due.planned("5");
        DUE.is("18: 0 days", x.ifPlayed(0, 0), BAD_VALUE);
        DUE.is("18: 101 days", x.ifPlayed(101, 0), BAD_VALUE);
        DUE.is("18: -1 days", x.ifPlayed(-1, 0), BAD_VALUE);
        DUE.is("18: greatest", x.ifPlayed(Integer.MAX_VALUE, 0), BAD_VALUE);
        DUE.is("18: what -1", x.ifPlayed(1, -1), BAD_VALUE);
        DUE.is("18: what 2", x.ifPlayed(1, 2), BAD_VALUE);
        x.set(RAIN, 0);
        DUE.is("18: 1 day", x.ifPlayed(1, 0), 30);
        DUE.is("18: 100 days", x.ifPlayed(100, 0), 3000);
        DUE.is("18: no rain", x.ifPlayed(100, 1), 0);
        x.set(RAIN, 100);
        DUE.is("18: no coins", x.ifPlayed(100, 0), 0);
        DUE.is("18: rain on 1 day", x.ifPlayed(1, 1), 1);
        DUE.is("18: rain on 100 days", x.ifPlayed(100, 1), 100);
        x.play();
        DUE.is("18: the next days alone", x.ifPlayed(1, 1), 1);
        DUE.is("18: nothing changes", x.count(12), 1);
        PuppetPitches y = new PuppetPitches();
        y.set(RAIN, 100);
        DUE.is("18: no booths, no coins", y.ifPlayed(100, 0), 0);
        DUE.is("18: no booths, but rain", y.ifPlayed(100, 1), 100);
        DUE.is("18: x stays", y.count(6), 1);
    }

    /** 18: what 100 days bring is what they bring when they are played. */
    private static void ifPlayedLong() {
        PuppetPitches x = Due.planned("3@4,9@5,1,7@11,5@0,2,8,6");
        x.set(RAIN, 50);
        x.set(STOP, 33);
        x.set(GIVE, 77);
        x.set(RIGHT, 501);
        int coins = x.ifPlayed(100, 0);
        int rain = x.ifPlayed(100, 1);
        int first = x.ifPlayed(1, 0);
        int played = x.play();
        DUE.is("18: the first day", played, first);
        for (int day = 2; day <= 100; day++) {
            played += x.play();
        }
        DUE.is("18: 100 days, coins", coins, played);
        DUE.is("18: 100 days, all hats", x.count(14), played);
        DUE.is("18: 100 days, rain", rain, x.count(13));
    }

    /** 19: "As all stand now; of several the least. Returns the height, 1 to 9." */
    private static void bestHeight() {
        for (int other = 1; other <= 8; other++) {
            DUE.is("19: 1 more than " + other, Due.planned("1@5," + other + "@4").bestHeight(0), other + 1);
            DUE.is("19: it does not matter how high it is", Due.planned("9@5," + other + "@4").bestHeight(0), other + 1);
        }
        DUE.is("19: hidden by 9 from the left: the least", Due.planned("5@5,9@4").bestHeight(0), 1);
        DUE.is("19: hidden by 9 from both sides: the least", Due.planned("5@5,9@4,9@6").bestHeight(0), 1);
        DUE.is("19: hidden by 9 from the right: from the left", Due.planned("5@5,3@4,9@6").bestHeight(0), 4);
        DUE.is("19: alone: the least", Due.planned("9@5").bestHeight(0), 1);
        DUE.is("19: at the left end", Due.planned("5@0,8@11").bestHeight(0), 9);
        DUE.is("19: others stand nowhere", Due.planned("5@0,8").bestHeight(0), 1);
        PuppetPitches x = Due.planned("5@5,3@4,7@6,9");
        DUE.is("19: it stands nowhere", x.bestHeight(3), NOT_POSSIBLE);
        DUE.is("19: behind the last", x.bestHeight(4), NO_SUCH);
        DUE.is("19: seen from both sides", x.bestHeight(0), 8);
        x.set(RIGHT, 0);
        DUE.is("19: no one from the right: from the left", x.bestHeight(0), 4);
        x.set(STOP, 0);
        DUE.is("19: no one stops: the least", x.bestHeight(0), 1);
        DUE.is("19: it stays as it is", x.booth(0, 0), 5);
    }

    /** "An object is used for at most 512 calls": the 512th is answered like the first. */
    private static void lastCall() {
        PuppetPitches x = new PuppetPitches();
        x.set(RAIN, 100);
        for (int call = 2; call <= 511; call++) {
            x.play();
        }
        DUE.is("the 512th call", x.count(13), 510);
        PuppetPitches y = new PuppetPitches();
        y.come(5);
        for (int call = 2; call <= 511; call++) {
            y.height(0, call % 9 + 1);
        }
        DUE.is("the 512th call", y.undo(), 5);
        PuppetPitches z = new PuppetPitches();
        for (int call = 1; call <= 508; call += 2) {
            z.put(Due.packed("12345678"));
            z.wipe();
        }
        z.put(Due.packed("7@11"));
        z.fault();
        z.read();
        DUE.is("the 512th call", z.booth(0, 1), 11);
    }

    /** Two objects have nothing in common. */
    private static void objectsApart() {
        PuppetPitches x = new PuppetPitches();
        String before = Probe.state(x);
        PuppetPitches y = Due.planned("5@1,6@2");
        y.set(LEFT, 7);
        y.roof(0, true);
        y.play();
        y.save(0);
        DUE.is("another object does not matter", Probe.state(x).equals(before) ? 1 : 0, 1);
        DUE.is("nor its slots", x.restore(0), NOT_POSSIBLE);
        DUE.is("nor its history", x.undo(), NOT_POSSIBLE);
        DUE.is("a new one is as it was", Probe.state(new PuppetPitches()).equals(before) ? 1 : 0, 1);
    }
}
