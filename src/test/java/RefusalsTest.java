/**
 * "A method that fails returns one of the error codes; it names its errors in
 * the order in which they are checked, and the first one that applies is
 * returned. A call that returns an error changes nothing." And the calls that
 * only ask change nothing either.
 */
public final class RefusalsTest {
    private static final int NO_SUCH = -1, BAD_VALUE = -2, BAD_TEXT = -3, TOO_MANY = -4, NOT_POSSIBLE = -5, NONE = -6;
    private static final int LEAST = Integer.MIN_VALUE, MOST = Integer.MAX_VALUE;
    private static final int[] GREATEST = {999, 999, 100, 100, 5, 100};
    private static final Due DUE = new Due();

    /** The calls that lead to the state in which a call is refused, and what is told of it. */
    private final String name;
    private final Probe.Calls calls;
    private final String before;

    private RefusalsTest(String name, Probe.Calls calls) {
        this.name = name;
        this.calls = calls;
        before = Probe.tell(calls);
    }

    public static void main(String[] args) {
        RefusalsTest[] states = {
            new RefusalsTest("empty", x -> { }),
            new RefusalsTest("busy", RefusalsTest::makeBusy),
            new RefusalsTest("full", RefusalsTest::makeFull)};
        for (RefusalsTest state : states) {
            state.neverPossible();
            state.neverPossibleTexts();
            state.asking();
        }
        states[0].emptyRefuses();
        states[1].busyRefuses();
        states[2].fullRefuses();
        plansAreRefused();
        DUE.end();
    }

    /** Five booths: 0 at 4, 1 at 1, 2 at 6, 3 at 9, 4 nowhere; slot 0 is taken; six changes; a pad without fault. */
    private static void makeBusy(PuppetPitches x) {
        Due.write(x, "5@4,3@1,5@6,4@9,9");
        x.read();
        x.play();
        x.save(0);
        x.roof(9, true);
        x.set(PuppetPitches.GAP, 5);
        x.shuffle(77);
        x.play();
        int[] places = {4, 1, 6, 9, NONE};
        for (int booth = 0; booth < 5; booth++) {
            x.stand(booth, NONE);
        }
        for (int booth = 0; booth < 5; booth++) {
            x.stand(booth, places[booth]);
        }
        Due.write(x, "6@10,7,8@0");
    }

    /** Eight booths, both slots taken, and a pad of 60 characters that has a fault. */
    private static void makeFull(PuppetPitches x) {
        x.save(1);
        for (int height = 1; height <= 8; height++) {
            x.come(height);
        }
        x.play();
        x.save(0);
        x.play();
        for (int i = 0; i < 60; i += 4) {
            Due.write(x, "5@7,");
        }
    }

    private void refused(String call, int due, Probe.Call refused) {
        PuppetPitches x = new PuppetPitches();
        calls.on(x);
        DUE.is(name + ": " + call, refused.on(x), due);
        changesNothing(call, refused);
    }

    private void changesNothing(String call, Probe.Call refused) {
        String after = Probe.tell(x -> {
            calls.on(x);
            refused.on(x);
        });
        DUE.is(name + ": " + call + " changes nothing", after.equals(before) ? 1 : 0, 1);
    }

    /** Wrong in every state. Where two errors apply, the one that is named first is due. */
    private void neverPossible() {
        refused("set(-1, 0)", BAD_VALUE, x -> x.set(-1, 0));
        refused("set(6, 0)", BAD_VALUE, x -> x.set(6, 0));
        refused("set(7, 0)", BAD_VALUE, x -> x.set(7, 0));
        refused("set(least, most)", BAD_VALUE, x -> x.set(LEAST, MOST));
        refused("set(most, 0)", BAD_VALUE, x -> x.set(MOST, 0));
        for (int i = 0; i < 6; i++) {
            int setting = i;
            refused("set(" + i + ", -1)", BAD_VALUE, x -> x.set(setting, -1));
            refused("set(" + i + ", greatest + 1)", BAD_VALUE, x -> x.set(setting, GREATEST[setting] + 1));
        }
        for (int none : new int[] {-1, 12, 32, 36, LEAST, MOST, NONE}) {
            refused("roof(" + none + ", true)", NO_SUCH, x -> x.roof(none, true));
            refused("roof(" + none + ", false)", NO_SUCH, x -> x.roof(none, false));
            refused("pitch(" + none + ", 0)", NO_SUCH, x -> x.pitch(none, 0));
            refused("pitch(" + none + ", 3)", NO_SUCH, x -> x.pitch(none, 3));
        }
        refused("pitch(0, -1)", BAD_VALUE, x -> x.pitch(0, -1));
        refused("pitch(11, 3)", BAD_VALUE, x -> x.pitch(11, 3));
        refused("come(0)", BAD_VALUE, x -> x.come(0));
        refused("come(10)", BAD_VALUE, x -> x.come(10));
        refused("shuffle(-1)", BAD_VALUE, x -> x.shuffle(-1));
        refused("shuffle(least)", BAD_VALUE, x -> x.shuffle(LEAST));
        refused("count(-1)", BAD_VALUE, x -> x.count(-1));
        refused("count(17)", BAD_VALUE, x -> x.count(17));
        refused("lot(-1)", NO_SUCH, x -> x.lot(-1));
        refused("lot(8)", NO_SUCH, x -> x.lot(8));
        refused("ifPlayed(0, 0)", BAD_VALUE, x -> x.ifPlayed(0, 0));
        refused("ifPlayed(101, 1)", BAD_VALUE, x -> x.ifPlayed(101, 1));
        refused("ifPlayed(1, -1)", BAD_VALUE, x -> x.ifPlayed(1, -1));
        refused("ifPlayed(100, 2)", BAD_VALUE, x -> x.ifPlayed(100, 2));
        refused("ifPlayed(least, 0)", BAD_VALUE, x -> x.ifPlayed(LEAST, 0));
        refused("save(-1)", BAD_VALUE, x -> x.save(-1));
        refused("save(2)", BAD_VALUE, x -> x.save(2));
        refused("restore(-1)", BAD_VALUE, x -> x.restore(-1));
        refused("restore(2)", BAD_VALUE, x -> x.restore(2));
        for (int none : new int[] {-1, 8, LEAST, MOST, NONE}) {
            noSuchBooth(none);
        }
    }

    /** Each call that names a booth, with another error behind it wherever there can be one. */
    private void noSuchBooth(int booth) {
        refused("go(" + booth + ")", NO_SUCH, x -> x.go(booth));
        refused("height(" + booth + ", 5)", NO_SUCH, x -> x.height(booth, 5));
        refused("height(" + booth + ", 0)", NO_SUCH, x -> x.height(booth, 0));
        refused("stand(" + booth + ", 0)", NO_SUCH, x -> x.stand(booth, 0));
        refused("stand(" + booth + ", NONE)", NO_SUCH, x -> x.stand(booth, NONE));
        refused("stand(" + booth + ", 4)", NO_SUCH, x -> x.stand(booth, 4));
        refused("booth(" + booth + ", 1)", NO_SUCH, x -> x.booth(booth, 1));
        refused("booth(" + booth + ", 8)", NO_SUCH, x -> x.booth(booth, 8));
        refused("seen(" + booth + ", 0, 0)", NO_SUCH, x -> x.seen(booth, 0, 0));
        refused("seen(" + booth + ", 2, 2)", NO_SUCH, x -> x.seen(booth, 2, 2));
        refused("ifStood(" + booth + ", 0)", NO_SUCH, x -> x.ifStood(booth, 0));
        refused("ifStood(" + booth + ", 4)", NO_SUCH, x -> x.ifStood(booth, 4));
        refused("bestPitch(" + booth + ")", NO_SUCH, x -> x.bestPitch(booth));
        refused("bestHeight(" + booth + ")", NO_SUCH, x -> x.bestHeight(booth));
    }

    /** On a full pad, too: BAD_VALUE is named ahead of TOO_MANY. */
    private void neverPossibleTexts() {
        refused("put(nothing)", BAD_VALUE, x -> x.put(0));
        refused("put(32)", BAD_VALUE, x -> x.put(32));
        refused("put(127)", BAD_VALUE, x -> x.put(127));
        refused("put(255)", BAD_VALUE, x -> x.put(255));
        refused("put(5, then 32)", BAD_VALUE, x -> x.put('5' << 8 | 32));
        refused("put(32, then 5)", BAD_VALUE, x -> x.put(32 << 8 | '5'));
        refused("put(127, then 5)", BAD_VALUE, x -> x.put(127 << 8 | '5'));
        refused("put(5, then none)", BAD_VALUE, x -> x.put('5' << 8));
        refused("put(5, none, 5)", BAD_VALUE, x -> x.put('5' << 16 | '5'));
        refused("put(a bit far above)", BAD_VALUE, x -> x.put(1L << 56 | '5'));
        refused("put(the highest bit)", BAD_VALUE, x -> x.put(Long.MIN_VALUE | '5'));
        refused("put(all bits)", BAD_VALUE, x -> x.put(-1L));
        refused("put(7 that are right behind a 31)", BAD_VALUE, x -> x.put(Due.packed("\u001f,5@1,5@")));
    }

    private void emptyRefuses() {
        refused("roof(4, true)", NOT_POSSIBLE, x -> x.roof(4, true));
        refused("roof(5, true)", NOT_POSSIBLE, x -> x.roof(5, true));
        for (int pitch : new int[] {0, 3, 6, 11}) {
            refused("roof(" + pitch + ", false)", NOT_POSSIBLE, x -> x.roof(pitch, false));
        }
        noSuchBooth(0);
        refused("read()", BAD_TEXT, x -> x.read());
        refused("undo()", NOT_POSSIBLE, x -> x.undo());
        refused("restore(0)", NOT_POSSIBLE, x -> x.restore(0));
        refused("restore(1)", NOT_POSSIBLE, x -> x.restore(1));
    }

    private void busyRefuses() {
        refused("roof(9, true)", NOT_POSSIBLE, x -> x.roof(9, true));
        refused("roof(11, false)", NOT_POSSIBLE, x -> x.roof(11, false));
        noSuchBooth(5);
        for (int height : new int[] {LEAST, -1, 0, 10, MOST}) {
            refused("height(0, " + height + ")", BAD_VALUE, x -> x.height(0, height));
            refused("height(4, " + height + ")", BAD_VALUE, x -> x.height(4, height));
            refused("come(" + height + ")", BAD_VALUE, x -> x.come(height));
        }
        for (int pitch : new int[] {LEAST, -7, -5, -4, -3, -2, -1, 12, MOST}) {
            refused("stand(0, " + pitch + ")", NO_SUCH, x -> x.stand(0, pitch));
            refused("ifStood(4, " + pitch + ")", NO_SUCH, x -> x.ifStood(4, pitch));
        }
        refused("ifStood(4, NONE)", NO_SUCH, x -> x.ifStood(4, NONE));
        refused("ifStood(0, NONE)", NO_SUCH, x -> x.ifStood(0, NONE));
        for (int pitch : new int[] {1, 6, 9}) {
            refused("stand(0, " + pitch + ")", NOT_POSSIBLE, x -> x.stand(0, pitch));
            refused("stand(4, " + pitch + ")", NOT_POSSIBLE, x -> x.stand(4, pitch));
            refused("ifStood(0, " + pitch + ")", NOT_POSSIBLE, x -> x.ifStood(0, pitch));
            refused("ifStood(4, " + pitch + ")", NOT_POSSIBLE, x -> x.ifStood(4, pitch));
        }
        for (int booth = 0; booth < 5; booth += 4) {
            int asked = booth;
            refused("booth(" + booth + ", -1)", BAD_VALUE, x -> x.booth(asked, -1));
            refused("booth(" + booth + ", 8)", BAD_VALUE, x -> x.booth(asked, 8));
            refused("seen(" + booth + ", -1, 0)", BAD_VALUE, x -> x.seen(asked, -1, 0));
            refused("seen(" + booth + ", 2, 0)", BAD_VALUE, x -> x.seen(asked, 2, 0));
            refused("seen(" + booth + ", 2, 1)", BAD_VALUE, x -> x.seen(asked, 2, 1));
            refused("seen(" + booth + ", 0, -1)", BAD_VALUE, x -> x.seen(asked, 0, -1));
            refused("seen(" + booth + ", 1, 2)", BAD_VALUE, x -> x.seen(asked, 1, 2));
        }
        refused("bestHeight(4)", NOT_POSSIBLE, x -> x.bestHeight(4));
        refused("restore(1)", NOT_POSSIBLE, x -> x.restore(1));
        refused("restore(2)", BAD_VALUE, x -> x.restore(2));
    }

    private void fullRefuses() {
        refused("come(1)", TOO_MANY, x -> x.come(1));
        refused("come(9)", TOO_MANY, x -> x.come(9));
        refused("come(0)", BAD_VALUE, x -> x.come(0));
        refused("come(10)", BAD_VALUE, x -> x.come(10));
        refused("put(one character)", TOO_MANY, x -> x.put('5'));
        refused("put(8 characters)", TOO_MANY, x -> x.put(Due.packed("12345678")));
        refused("read()", BAD_TEXT, x -> x.read());
    }

    /** Two parts with the same pitch, with and without a fault: BAD_TEXT is named first. */
    private static void plansAreRefused() {
        String[] shared = {"5@3,6@3", "1@0,2@0", "5@11,6,7@11", "5@10,6@1,7@10", "1,2@5,3,4@4,5,6@5", "9@1,9@1",
            "1@0,2@1,3@2,4@3,5@4,6@5,7@6,8@0", "1@0,2@1,3@2,4@3,5@4,6@5,7@6,8@6"};
        for (String plan : shared) {
            RefusalsTest alike = new RefusalsTest("pad " + plan, x -> writeAfterWipe(x, plan));
            alike.refused("read()", NOT_POSSIBLE, x -> x.read());
            RefusalsTest both = new RefusalsTest("pad " + plan + ",", x -> writeAfterWipe(x, plan + ","));
            both.refused("read()", BAD_TEXT, x -> x.read());
        }
    }

    private static void writeAfterWipe(PuppetPitches x, String plan) {
        makeBusy(x);
        x.wipe();
        Due.write(x, plan);
    }

    /** The calls of which the interface says "nothing changes", and fault. */
    private void asking() {
        for (int what = 0; what < 17; what++) {
            int number = what;
            changesNothing("count(" + what + ")", x -> x.count(number));
        }
        for (int what = 0; what < 8; what++) {
            int number = what;
            changesNothing("booth(1, " + what + ")", x -> x.booth(1, number));
            changesNothing("lot(" + what + ")", x -> x.lot(number));
            changesNothing("bestPitch(" + what + ")", x -> x.bestPitch(number));
            changesNothing("bestHeight(" + what + ")", x -> x.bestHeight(number));
        }
        for (int what = 0; what < 3; what++) {
            int number = what;
            changesNothing("pitch(3, " + what + ")", x -> x.pitch(3, number));
        }
        for (int pitch = 0; pitch < 12; pitch++) {
            int asked = pitch;
            changesNothing("ifStood(0, " + pitch + ")", x -> x.ifStood(0, asked));
        }
        changesNothing("seen(0, 0, 0)", x -> x.seen(0, 0, 0));
        changesNothing("seen(0, 1, 1)", x -> x.seen(0, 1, 1));
        changesNothing("ifPlayed(1, 0)", x -> x.ifPlayed(1, 0));
        changesNothing("ifPlayed(100, 1)", x -> x.ifPlayed(100, 1));
        changesNothing("fault()", x -> x.fault());
    }
}
