import java.util.ArrayList;
import java.util.List;

/** The boundary cases of undo, save and restore: promises 23 to 25, and the calls that are a change. */
public final class HistoryEdgesTest {
    private static final int BAD_VALUE = -2, NOT_POSSIBLE = -5, NONE = -6;
    private static final int LEFT = 0, GAP = 4, RAIN = 5;
    private static final Due DUE = new Due();

    public static void main(String[] args) {
        nothingToUndo();
        sixStates();
        roundTheHistory();
        changesThatChangeNothing();
        callsThatAreNoChanges();
        eachChangeIsRecordedOnce();
        whatUndoLeaves();
        nextDayAfterUndo();
        noSuchSlot();
        nothingSaved();
        overwriting();
        slotsKeepWhatWasSaved();
        restoringIsAChange();
        whatSaveLeaves();
        emptyStates();
        DUE.end();
    }

    /** 23: "NOT_POSSIBLE if there is none." */
    private static void nothingToUndo() {
        PuppetPitches x = new PuppetPitches();
        DUE.is("23: a new object", x.undo(), NOT_POSSIBLE);
        x.come(5);
        DUE.is("23: the only one", x.undo(), 0);
        DUE.is("23: none is left", x.undo(), NOT_POSSIBLE);
        DUE.is("23: and again", x.undo(), NOT_POSSIBLE);
        DUE.is("23: the booth has not come", x.count(7), 0);
    }

    /** 23: "A history of at most 6 states is kept; when one more is recorded, the oldest one is dropped." */
    private static void sixStates() {
        for (int changes = 1; changes <= 20; changes++) {
            PuppetPitches x = new PuppetPitches();
            for (int change = 1; change <= changes; change++) {
                x.set(LEFT, change);
                DUE.is("23: kept after " + change, x.count(16), Math.min(6, change));
            }
            int kept = Math.min(6, changes);
            for (int left = kept - 1; left >= 0; left--) {
                int value = changes - kept + left;
                DUE.is("23: undo, " + changes + " changes", x.undo(), left);
                DUE.is("23: the value before, " + changes + " changes", x.count(0), value == 0 ? 200 : value);
            }
            DUE.is("23: dropped, " + changes + " changes", x.undo(), NOT_POSSIBLE);
            DUE.is("23: nothing is changed by that", x.count(0), changes <= 6 ? 200 : changes - 6);
        }
    }

    /** 23: changes and undos in turn, so that the history goes round; compared with a list. */
    private static void roundTheHistory() {
        int[][] walks = {{6, 6, 6, 6}, {7, 3, 5, 6}, {5, 5, 7, 7}, {1, 1, 6, 2, 6, 6}, {13, 4, 2, 3, 9, 6}, {6, 1, 1, 6, 6, 7}};
        for (int[] walk : walks) {
            PuppetPitches x = new PuppetPitches();
            List<Integer> before = new ArrayList<>();
            int now = 200;
            int next = 300;
            for (int step = 0; step < walk.length; step++) {
                for (int i = 0; i < walk[step]; i++) {
                    if (step % 2 == 0) {
                        before.add(now);
                        now = next++;
                        x.set(LEFT, now);
                        if (before.size() > 6) {
                            before.remove(0);
                        }
                    } else {
                        boolean isPossible = !before.isEmpty();
                        now = isPossible ? before.remove(before.size() - 1) : now;
                        DUE.is("23: round, undo", x.undo(), isPossible ? before.size() : NOT_POSSIBLE);
                    }
                    DUE.is("23: round, value", x.count(0), now);
                    DUE.is("23: round, kept", x.count(16), before.size());
                }
            }
        }
    }

    /** 23: "Also if nothing is different then." */
    private static void changesThatChangeNothing() {
        PuppetPitches x = Due.planned("5@3,6");
        Probe.Call[] calls = {
            o -> o.set(LEFT, 200), o -> o.height(0, 5), o -> o.stand(0, 3), o -> o.stand(1, NONE), o -> o.shuffle(1)};
        for (int i = 0; i < calls.length; i++) {
            DUE.is("23: no error, call " + i, isError(calls[i].on(x)) ? 1 : 0, 0);
            DUE.is("23: recorded, call " + i, x.count(16), Math.min(6, i + 2));
        }
        x.undo();
        x.save(0);
        x.undo();
        DUE.is("23: four are left", x.count(16), 4);
        DUE.is("23: restore of what is there", x.restore(0), 2);
        DUE.is("23: recorded", x.count(16), 5);
    }

    private static boolean isError(int answer) {
        return answer < 0 && answer != NONE;
    }

    /** 23: "Each method that is a change, and returns no error": the others record nothing. */
    private static void callsThatAreNoChanges() {
        PuppetPitches x = Due.planned("5@3,6");
        x.play();
        x.save(0);
        Probe.Call[] calls = {
            o -> o.put('5'), o -> o.fault(), o -> o.wipe(), o -> o.save(0), o -> o.save(1), o -> o.count(16),
            o -> o.booth(0, 2), o -> o.pitch(0, 2), o -> o.seen(0, 0, 0), o -> o.lot(0), o -> o.ifStood(0, 0),
            o -> o.bestPitch(0), o -> o.bestHeight(0), o -> o.ifPlayed(3, 0),
            o -> o.set(6, 0), o -> o.set(LEFT, 1000), o -> o.roof(12, true), o -> o.roof(4, true), o -> o.come(0),
            o -> o.go(2), o -> o.height(2, 5), o -> o.height(0, 10), o -> o.stand(2, 0), o -> o.stand(0, 12),
            o -> o.stand(0, o.booth(1, 1)), o -> o.shuffle(-1), o -> o.read(), o -> o.restore(2)};
        for (int i = 0; i < calls.length; i++) {
            calls[i].on(x);
            DUE.is("23: not recorded, call " + i, x.count(16), 2);
        }
    }

    /** 23: the nine changes and restore are recorded, each once, and undone wholly. */
    private static void eachChangeIsRecordedOnce() {
        Probe.Call[] changes = {
            o -> o.set(RAIN, 100), o -> o.roof(4, false), o -> o.roof(0, true), o -> o.come(9), o -> o.go(0),
            o -> o.go(2), o -> o.height(1, 1), o -> o.stand(0, 11), o -> o.stand(0, NONE), o -> o.shuffle(0),
            o -> o.play(), o -> o.read(), o -> o.restore(0), o -> o.restore(1)};
        for (int i = 0; i < changes.length; i++) {
            PuppetPitches x = Due.planned("5@2,7@5,3");
            x.save(1);
            x.set(GAP, 5);
            x.play();
            x.save(0);
            x.stand(0, 9);
            Due.write(x, "8@8,9");
            String before = Probe.state(x);
            DUE.is("23: no error, change " + i, isError(changes[i].on(x)) ? 1 : 0, 0);
            DUE.is("23: recorded once, change " + i, x.count(16), 5);
            DUE.is("23: undone, change " + i, x.undo(), 4);
            DUE.is("23: as before, change " + i, Probe.state(x).equals(before) ? 1 : 0, 1);
        }
    }

    /** 23: "Everything except the pad, the slots and the history is as it was before it." */
    private static void whatUndoLeaves() {
        PuppetPitches x = new PuppetPitches();
        x.come(5);
        x.put(Due.packed("7@1"));
        x.come(6);
        x.save(0);
        x.put(Due.packed("0"));
        DUE.is("23: undo", x.undo(), 1);
        DUE.is("23: what was put before and after stays", x.count(15), 4);
        DUE.is("23: undo again", x.undo(), 0);
        DUE.is("23: it stays", x.count(15), 4);
        DUE.is("23: and can be read", x.read(), 1);
        DUE.is("23: at 10", x.booth(0, 1), 10);
        x.undo();
        DUE.is("23: the pad that was read stays empty", x.count(15), 0);
        DUE.is("23: the slot stays", x.restore(0), 2);
        DUE.is("23: an undo is no change", x.count(16), 1);
    }

    /** 23: x, the row of lots, hats and choices come back with it: the same day is played again. */
    private static void nextDayAfterUndo() {
        PuppetPitches x = Due.planned("5,6,7,8");
        x.set(GAP, 5);
        x.play();
        String before = Probe.state(x);
        int coins = x.play();
        String after = Probe.state(x);
        x.undo();
        DUE.is("23: as before the day", Probe.state(x).equals(before) ? 1 : 0, 1);
        DUE.is("23: the same coins", x.play(), coins);
        DUE.is("23: the same day", Probe.state(x).equals(after) ? 1 : 0, 1);
    }

    /** 24 and 25: "slot: 0 or 1. BAD_VALUE if there is no such slot." */
    private static void noSuchSlot() {
        for (int slot : new int[] {Integer.MIN_VALUE, NONE, -1, 2, 3, Integer.MAX_VALUE}) {
            PuppetPitches x = new PuppetPitches();
            DUE.is("24: save " + slot, x.save(slot), BAD_VALUE);
            DUE.is("25: restore " + slot, x.restore(slot), BAD_VALUE);
            x.save(0);
            x.save(1);
            DUE.is("24: save " + slot + ", both taken", x.save(slot), BAD_VALUE);
            DUE.is("25: restore " + slot + ", both taken", x.restore(slot), BAD_VALUE);
        }
    }

    /** 25: "NOT_POSSIBLE if nothing was saved in it." */
    private static void nothingSaved() {
        PuppetPitches x = Due.planned("5@2");
        DUE.is("25: slot 0", x.restore(0), NOT_POSSIBLE);
        DUE.is("25: slot 1", x.restore(1), NOT_POSSIBLE);
        x.save(1);
        DUE.is("25: the other slot", x.restore(0), NOT_POSSIBLE);
        DUE.is("25: this one", x.restore(1), 1);
        x.save(2);
        DUE.is("25: a save that was refused", x.restore(0), NOT_POSSIBLE);
    }

    /** 24: "Saves everything, and overwrites what was saved there. Returns how many booths there are." */
    private static void overwriting() {
        PuppetPitches x = new PuppetPitches();
        for (int booths = 0; booths <= 8; booths++) {
            DUE.is("24: booths", x.save(0), booths);
            DUE.is("25: booths", x.restore(0), booths);
            x.come(5);
        }
        PuppetPitches y = Due.planned("5@0,6@1,7@2");
        y.save(1);
        y.go(0);
        y.go(0);
        DUE.is("24: overwritten by less", y.save(1), 1);
        y.come(1);
        DUE.is("25: the latest", y.restore(1), 1);
        DUE.is("25: the latest", y.booth(0, 0), 7);
    }

    /** 25: "Restores what was saved last in a slot, which keeps it." */
    private static void slotsKeepWhatWasSaved() {
        PuppetPitches x = Due.planned("5,6,7");
        x.set(GAP, 5);
        x.play();
        x.save(0);
        String saved = Probe.state(x);
        for (int again = 0; again < 3; again++) {
            x.play();
            x.set(LEFT, 7);
            x.roof(11, true);
            x.go(1);
            x.height(0, 9);
            x.stand(0, 10);
            DUE.is("25: restored", x.restore(0), 3);
            if (again == 2) {
                DUE.is("25: as it was saved", Probe.state(x).equals(saved) ? 1 : 0, 1);
            }
        }
        x.go(0);
        x.save(1);
        DUE.is("25: the other slot does not matter", x.restore(0), 3);
        DUE.is("25: nor this one to it", x.restore(1), 2);
    }

    /** 25: "This is a change": it is recorded, and can be undone. */
    private static void restoringIsAChange() {
        PuppetPitches x = new PuppetPitches();
        x.save(0);
        x.come(5);
        x.come(6);
        x.put(Due.packed("1@1"));
        DUE.is("25: as it was saved", x.restore(0), 0);
        DUE.is("25: recorded, and the history is not restored", x.count(16), 3);
        DUE.is("25: the pad is not restored", x.count(15), 3);
        DUE.is("25: undone", x.undo(), 2);
        DUE.is("25: two booths again", x.count(7), 2);
        DUE.is("25: before the second one", x.undo(), 1);
        DUE.is("25: one booth", x.count(7), 1);
    }

    /** 24: "Everything except the pad, the history and the slots." */
    private static void whatSaveLeaves() {
        PuppetPitches x = new PuppetPitches();
        x.come(5);
        x.put(Due.packed("4@4"));
        String before = Probe.state(x);
        DUE.is("24: saved", x.save(1), 1);
        DUE.is("24: nothing is different", Probe.state(x).equals(before) ? 1 : 0, 1);
        DUE.is("24: nothing is recorded", x.count(16), 1);
        DUE.is("24: the pad stays", x.count(15), 3);
        x.wipe();
        x.undo();
        DUE.is("25: restored", x.restore(1), 1);
        DUE.is("25: the pad is not saved", x.count(15), 0);
        DUE.is("25: the history is not saved", x.count(16), 1);
    }

    /** 24 and 25 with a state that is as it was at first. */
    private static void emptyStates() {
        PuppetPitches x = new PuppetPitches();
        String first = Probe.state(x);
        DUE.is("24: no booths", x.save(0), 0);
        Due.write(x, "1,2,3,4,5,6,7,8");
        x.read();
        x.set(RAIN, 100);
        x.play();
        x.shuffle(7);
        x.roof(4, false);
        DUE.is("25: no booths", x.restore(0), 0);
        DUE.is("25: as at first", Probe.state(x).equals(first) ? 1 : 0, 1);
        DUE.is("25: six changes", x.count(16), 6);
        x.undo();
        DUE.is("25: undone", x.count(7), 8);
    }
}
