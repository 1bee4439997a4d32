/**
 * All that can be asked about an object, as a text, so that two runs of calls
 * can be told apart. Each question is put to an object of its own kind, made
 * anew, so that no object is used for more than its 512 calls.
 */
final class Probe {
    /** Calls on an object. */
    interface Calls {
        void on(PuppetPitches x);
    }

    /** A call and its answer. */
    interface Call {
        int on(PuppetPitches x);
    }

    /** What there is after the calls, after each undo, in the slots and on the pad. */
    static String tell(Calls calls) {
        StringBuilder told = new StringBuilder();
        for (int undone = 0; undone <= 6; undone++) {
            PuppetPitches x = made(calls);
            for (int i = 0; i < undone; i++) {
                told.append(" undo ").append(x.undo());
            }
            told.append(state(x));
            told.append(" fault ").append(x.fault()).append(" changes ").append(x.count(16));
        }
        for (int slot = 0; slot < 2; slot++) {
            PuppetPitches x = made(calls);
            told.append("\nrestore ").append(x.restore(slot)).append(state(x));
        }
        PuppetPitches x = made(calls);
        told.append("\nread ").append(x.read()).append(state(x)).append(" pad ").append(x.wipe());
        return told.toString();
    }

    /** What undo, save and restore keep: 123 calls. */
    static String state(PuppetPitches x) {
        StringBuilder told = new StringBuilder("\nstate");
        for (int what = 0; what < 15; what++) {
            told.append(' ').append(x.count(what));
        }
        for (int place = 0; place < 8; place++) {
            told.append(' ').append(x.lot(place));
        }
        for (int pitch = 0; pitch < 12; pitch++) {
            for (int what = 0; what < 3; what++) {
                told.append(' ').append(x.pitch(pitch, what));
            }
        }
        for (int booth = 0; booth < 8; booth++) {
            for (int what = 0; what < 8; what++) {
                told.append(' ').append(x.booth(booth, what));
            }
        }
        return told.toString();
    }

    private static PuppetPitches made(Calls calls) {
        PuppetPitches x = new PuppetPitches();
        calls.on(x);
        return x;
    }
}
