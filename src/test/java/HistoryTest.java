/** Promises 23 to 25: undo, save and restore. */
public final class HistoryTest {
    private static final int BAD_VALUE = -2, NOT_POSSIBLE = -5, NONE = -6;
    private static final Due DUE = new Due();

    public static void main(String[] args) {
        undoing();
        everyChangeIsUndone();
        whatIsNoChange();
        saving();
        restoring();
        slotsApart();
        DUE.end();
    }

    private static void undoing() {
        PuppetPitches x = new PuppetPitches();
        DUE.is("23: nothing", x.undo(), NOT_POSSIBLE);
        for (int height = 1; height <= 8; height++) {
            x.come(height);
        }
        DUE.is("23: six are kept", x.count(16), 6);
        for (int left = 5; left >= 0; left--) {
            DUE.is("23: undo", x.undo(), left);
            DUE.is("23: booths", x.count(7), left + 2);
        }
        DUE.is("23: no more", x.undo(), NOT_POSSIBLE);
        DUE.is("23: booths", x.count(7), 2);
        x.set(PuppetPitches.LEFT, 200);
        DUE.is("23: recorded, though nothing is different", x.count(16), 1);
        x.set(PuppetPitches.LEFT, 7);
        x.undo();
        x.set(PuppetPitches.LEFT, 9);
        DUE.is("23: after an undo", x.count(16), 2);
        x.undo();
        DUE.is("23: the state before", x.count(0), 200);
    }

    private static void everyChangeIsUndone() {
        for (int change = 0; change < 10; change++) {
            PuppetPitches x = Due.planned("5@2,7@5,3");
            x.set(PuppetPitches.RAIN, 50);
            x.set(PuppetPitches.GAP, 5);
            for (int day = 0; day < 9; day++) {
                x.play();
            }
            x.save(1);
            x.set(PuppetPitches.RIGHT, 333);
            x.roof(7, true);
            Due.write(x, "8@8,9");
            long[] before = everything(x);
            int kept = x.count(16);
            make(x, change);
            DUE.is("23: recorded, change " + change, x.count(16), Math.min(6, kept + 1));
            x.undo();
            long[] after = everything(x);
            for (int i = 0; i < before.length; i++) {
                DUE.is("23: change " + change + " undone, " + i, after[i], before[i]);
            }
            DUE.is("23: the pad is not undone", x.count(15), change == 8 ? 0 : 5);
        }
    }

    private static void make(PuppetPitches x, int change) {
        int[] answers = {
            change == 0 ? x.set(PuppetPitches.GIVE, 99) : 0,
            change == 1 ? x.roof(4, false) : 0,
            change == 2 ? x.come(9) : 0,
            change == 3 ? x.go(0) : 0,
            change == 4 ? x.height(1, 1) : 0,
            change == 5 ? x.stand(0, 11) : 0,
            change == 6 ? x.shuffle(99) : 0,
            change == 7 ? x.play() : 0,
            change == 8 ? x.read() : 0,
            change == 9 ? x.restore(1) : 0};
        DUE.is("23: no error of change " + change, answers[change] < 0 && answers[change] != NONE ? 1 : 0, 0);
    }

    private static void whatIsNoChange() {
        PuppetPitches x = new PuppetPitches();
        x.come(5);
        x.put(Due.packed("5@"));
        x.wipe();
        x.fault();
        x.save(0);
        x.come(0);
        x.stand(0, 12);
        x.read();
        x.restore(1);
        DUE.is("23: one change", x.count(16), 1);
        x.put(Due.packed("5@1"));
        x.undo();
        DUE.is("23: the pad stays", x.count(15), 3);
        DUE.is("23: the slot stays", x.restore(0), 1);
    }

    private static void saving() {
        PuppetPitches x = new PuppetPitches();
        DUE.is("24: no slot", x.save(-1), BAD_VALUE);
        DUE.is("24: no slot", x.save(2), BAD_VALUE);
        DUE.is("24: no booth", x.save(0), 0);
        x.come(5);
        x.come(6);
        DUE.is("24: two booths", x.save(0), 2);
        DUE.is("24: overwritten", x.restore(0), 2);
    }

    private static void restoring() {
        PuppetPitches x = Due.planned("5@2,7@5,3");
        DUE.is("25: no slot", x.restore(-1), BAD_VALUE);
        DUE.is("25: no slot", x.restore(2), BAD_VALUE);
        DUE.is("25: nothing saved", x.restore(0), NOT_POSSIBLE);
        DUE.is("25: nothing saved", x.restore(1), NOT_POSSIBLE);
        x.set(PuppetPitches.RAIN, 0);
        x.play();
        long[] before = everything(x);
        x.save(1);
        for (int again = 0; again < 2; again++) {
            x.go(0);
            x.height(0, 9);
            x.roof(9, again == 0);
            x.play();
            x.put(Due.packed("7"));
            DUE.is("25: booths", x.restore(1), 3);
            DUE.is("25: a change", x.count(16), 6);
            DUE.is("25: the pad stays", x.count(15), again + 1);
            long[] after = everything(x);
            for (int i = 0; i < before.length; i++) {
                DUE.is("25: restored, " + i, after[i], before[i]);
            }
            DUE.is("25: undone", x.undo(), 5);
            DUE.is("25: undone", x.count(7), 2);
            x.restore(1);
            x.roof(9, again == 0);
        }
    }

    private static void slotsApart() {
        PuppetPitches x = new PuppetPitches();
        x.come(1);
        x.save(0);
        x.come(2);
        x.save(1);
        x.come(3);
        DUE.is("25: slot 0", x.restore(0), 1);
        DUE.is("25: slot 1", x.restore(1), 2);
        x.height(1, 9);
        DUE.is("25: slot 1 keeps what was saved", x.restore(1), 2);
        DUE.is("25: slot 1 keeps what was saved", x.booth(1, 0), 2);
    }

    /** All that can be asked about the state, except the pad and the history. */
    private static long[] everything(PuppetPitches x) {
        long[] answers = new long[15 + 8 + 12 * 3 + 8 * 8];
        int next = 0;
        for (int what = 0; what < 15; what++) {
            answers[next++] = x.count(what);
        }
        for (int place = 0; place < 8; place++) {
            answers[next++] = x.lot(place);
        }
        for (int pitch = 0; pitch < 12; pitch++) {
            for (int what = 0; what < 3; what++) {
                answers[next++] = x.pitch(pitch, what);
            }
        }
        for (int booth = 0; booth < 8; booth++) {
            for (int what = 0; what < 8; what++) {
                answers[next++] = x.booth(booth, what);
            }
        }
        return answers;
    }
}
