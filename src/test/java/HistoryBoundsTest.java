import java.util.ArrayList;
import java.util.List;

/** The sentences of "Terms" on history, and the promises 2 and 11 to 13: each boundary that they name. */
public final class HistoryBoundsTest {
    public static void main(String[] args) {
        changesAreRecorded();
        changesWithTheLeastEffect();
        otherCallsRecordNothing();
        fourStates();
        oldestIsDropped();
        roomAfterUndo();
        undoOfEmptyHistory();
        undoIsNoChange();
        changesAfterUndo();
        snapshotIsEmptyAtFirst();
        snapshotIsTheLatest();
        snapshotStays();
        snapshotIsACopy();
        keepReturnsTheTime();
        restoreReturnsTheTime();
        textIsNoState();
        historyIsNoState();
        snapshotIsNoState();
        buildClears();
        buildCountsWords();
        buildOfTheSame();
        Checks.end("HistoryBoundsTest");
    }

    /** All wires are up somewhere, a request waits, words wait, some are noted, and nothing is as at first. */
    private static FourPhases busy() {
        FourPhases x = new FourPhases();
        x.build(2);
        x.set(1, 9);
        x.set(2, 1);
        x.setDelay(1, 2, 3);
        x.setDelay(0, 1, 1);
        for (int i = 1; i <= 9; i++) {
            x.add(i % 2, i);
        }
        x.run(33);
        x.keep();
        x.add(1, 10);
        x.run(5);
        Checks.typeAll(x, "a1,.5,k0=7");
        return x;
    }

    /** A busy one with less states in its history. */
    private static Checks.Maker busyWith(int states) {
        return () -> {
            FourPhases x = busy();
            while (x.total(13) > states) {
                x.undo();
            }
            return x;
        };
    }

    /** The states of the history, the latest one first; they are taken from it. */
    private static List<String> historyOf(FourPhases x) {
        List<String> states = new ArrayList<>();
        while (x.undo() >= 0) {
            states.add(Checks.state(x));
        }
        return states;
    }

    /** The call records the state before it, as the latest one of at most 4. */
    private static void records(String name, Checks.Maker maker, Checks.Call change) {
        FourPhases x = maker.make();
        List<String> due = historyOf(maker.make());
        due.add(0, Checks.state(x));
        if (due.size() > 4) {
            due.remove(4);
        }
        Checks.due(name + " is no error", change.on(x) >= 0 ? 1 : 0, 1);
        Checks.due("states after " + name, x.total(13), due.size());
        Checks.same("the history after " + name, historyOf(x).toString(), due.toString());
    }

    private static void changesAreRecorded() {
        Checks.says("Each call of a method that is described as a change, and that returns neither an error nor NONE, records the state before it");
        Checks.due("a busy one has all states", busy().total(13), 4);
        for (int states = 0; states <= 4; states++) {
            Checks.Maker maker = busyWith(states);
            Checks.due("states", maker.make().total(13), states);
            records("build(1)", maker, x -> x.build(1));
            records("add(0, 15)", maker, x -> x.add(0, 15));
            records("run(1)", maker, x -> x.run(1));
            records("run(1000)", maker, x -> x.run(1000));
            records("finish()", maker, x -> x.finish());
            records("setDelay(2, 1, 20)", maker, x -> x.setDelay(2, 1, 20));
            records("set(0, 20)", maker, x -> x.set(0, 20));
            records("perform()", maker, x -> x.perform());
            records("restore()", maker, x -> x.restore());
        }
    }

    private static void changesWithTheLeastEffect() {
        Checks.says("records the state before it");
        Checks.Maker fresh = () -> new FourPhases();
        records("build(3) of a new one", fresh, x -> x.build(3));
        records("run(1) of a quiet one", fresh, x -> x.run(1));
        records("set(1, 1)", fresh, x -> x.set(1, 1));
        records("setDelay(0, 0, 1)", fresh, x -> x.setDelay(0, 0, 1));
        records("add(0, 0)", fresh, x -> x.add(0, 0));
        records("perform() of an order that returns NONE", () -> {
            FourPhases x = new FourPhases();
            Checks.typeAll(x, "k3=2");
            return x;
        }, x -> x.perform());
        records("restore() of the same state", () -> {
            FourPhases x = new FourPhases();
            x.keep();
            return x;
        }, x -> x.restore());
    }

    private static void otherCallsRecordNothing() {
        Checks.says("Each call of a method that is described as a change");
        for (int states = 0; states <= 4; states += 2) {
            FourPhases x = busyWith(states).make();
            String before = Checks.state(x);
            x.type('z');
            x.clearText();
            x.clearText();
            x.keep();
            x.quietIn();
            x.ifLead(0, 0);
            x.leastLead();
            x.dearest();
            Checks.same("the state", Checks.state(x), before);
            Checks.due("states", x.total(13), states);
            Checks.same("the history", historyOf(x).toString(), historyOf(busyWith(states).make()).toString());
        }
    }

    private static void fourStates() {
        Checks.says("A history of at most 4 states is kept");
        for (int changes = 0; changes <= 6; changes++) {
            FourPhases x = new FourPhases();
            for (int i = 1; i <= changes; i++) {
                Checks.due("run", x.run(i), 0);
                Checks.due("states", x.total(13), Math.min(i, 4));
            }
            int time = changes * (changes + 1) / 2;
            for (int i = 0; i < Math.min(changes, 4); i++) {
                Checks.due("undo", x.undo(), Math.min(changes, 4) - 1 - i);
                time -= changes - i;
                Checks.due("time", x.total(1), time);
            }
            Checks.due("undo of the empty one", x.undo(), Checks.NONE);
            Checks.due("time", x.total(1), time);
        }
    }

    private static void oldestIsDropped() {
        Checks.says("if there are 4 already, the oldest one is dropped");
        FourPhases x = new FourPhases();
        for (int i = 1; i <= 30; i++) {
            x.run(1);
        }
        for (int i = 1; i <= 4; i++) {
            x.undo();
            Checks.due("time", x.total(1), 30 - i);
        }
        Checks.due("no more", x.undo(), Checks.NONE);
        Checks.due("time", x.total(1), 26);
    }

    private static void roomAfterUndo() {
        Checks.says("and removes it from there");
        FourPhases x = new FourPhases();
        for (int i = 1; i <= 5; i++) {
            x.run(10);
        }
        Checks.due("undo", x.undo(), 3);
        Checks.due("undo", x.undo(), 2);
        x.run(1);
        Checks.due("states", x.total(13), 3);
        x.run(1);
        Checks.due("states", x.total(13), 4);
        int[] times = {31, 30, 20, 10};
        for (int i = 0; i < 4; i++) {
            Checks.due("undo", x.undo(), 3 - i);
            Checks.due("time", x.total(1), times[i]);
        }
        Checks.due("undo", x.undo(), Checks.NONE);
    }

    private static void undoOfEmptyHistory() {
        Checks.says("NONE if the history is empty");
        Checks.changesNothing("undo() of a new one", () -> new FourPhases(), x -> x.undo(), Checks.NONE);
        Checks.changesNothing("undo() of a busy one", busyWith(0), x -> x.undo(), Checks.NONE);
        FourPhases x = new FourPhases();
        x.add(0, 5);
        Checks.due("undo", x.undo(), 0);
        Checks.due("undo", x.undo(), Checks.NONE);
        Checks.same("as at first", Checks.usedUp(x), Checks.usedUp(new FourPhases()));
    }

    private static void undoIsNoChange() {
        Checks.says("Restores the latest state of the history, and removes it from there");
        for (int states = 1; states <= 4; states++) {
            FourPhases x = busyWith(states).make();
            Checks.due("undo", x.undo(), states - 1);
            Checks.due("states", x.total(13), states - 1);
        }
        // What is undone goes on as it would have gone.
        FourPhases x = busy();
        FourPhases twin = busy();
        x.finish();
        x.undo();
        for (int i = 0; i < 60; i++) {
            Checks.due("run(3)", x.run(3), twin.run(3));
            Checks.same("the state", Checks.state(x), Checks.state(twin));
        }
    }

    /** What was undone leaves nothing behind that a later change would take over. */
    private static void changesAfterUndo() {
        Checks.says("Restores the latest state of the history");
        Checks.Call[] changes = {x -> x.build(1), x -> x.add(0, 15), x -> x.run(1), x -> x.finish(),
            x -> x.setDelay(2, 1, 20), x -> x.set(0, 20), x -> x.set(1, 20), x -> x.perform(), x -> x.restore()};
        for (Checks.Call change : changes) {
            for (Checks.Call undone : changes) {
                FourPhases x = busyWith(0).make();
                FourPhases twin = busyWith(0).make();
                undone.on(x);
                x.undo();
                Checks.due("a change", change.on(x), change.on(twin));
                Checks.same("a change after one that was undone", Checks.usedUp(x), Checks.usedUp(twin));
            }
        }
    }

    private static void snapshotIsEmptyAtFirst() {
        Checks.says("There is one snapshot, empty at first");
        Checks.changesNothing("restore() of a new one", () -> new FourPhases(), x -> x.restore(), Checks.NONE);
        FourPhases x = new FourPhases();
        x.build(5);
        x.add(1, 1);
        x.run(7);
        x.undo();
        Checks.due("restore", x.restore(), Checks.NONE);
        Checks.due("states", x.total(13), 2);
        Checks.due("keep", x.keep(), 0);
        Checks.due("restore", x.restore(), 0);
        Checks.due("states", x.total(13), 3);
    }

    private static void snapshotIsTheLatest() {
        Checks.says("Takes a snapshot of the state, in place of an earlier one");
        FourPhases x = new FourPhases();
        for (int i = 1; i <= 5; i++) {
            x.run(i);
            Checks.due("keep", x.keep(), i * (i + 1) / 2);
        }
        x.run(100);
        Checks.due("restore", x.restore(), 15);
        Checks.due("time", x.total(1), 15);
    }

    private static void snapshotStays() {
        Checks.says("Restores the state of the snapshot, which stays");
        FourPhases x = busy();
        x.restore();
        String state = Checks.state(x);
        for (int i = 1; i <= 6; i++) {
            x.build(i);
            x.add(1, i);
            x.run(i);
            x.finish();
            Checks.due("restore", x.restore(), 33);
            Checks.same("the state", Checks.state(x), state);
        }
    }

    private static void snapshotIsACopy() {
        Checks.says("Takes a snapshot of the state");
        FourPhases x = busy();
        FourPhases twin = busy();
        x.keep();
        x.finish();
        x.build(6);
        x.set(0, 0);
        x.setDelay(6, 2, 20);
        for (int i = 0; i < 22; i++) {
            x.add(0, 3);
            x.add(1, 3);
        }
        x.run(200);
        Checks.due("restore", x.restore(), 38);
        Checks.same("the state", Checks.state(x), Checks.state(twin));
        for (int i = 0; i < 60; i++) {
            Checks.due("run(3)", x.run(3), twin.run(3));
            Checks.same("the state", Checks.state(x), Checks.state(twin));
        }
    }

    private static void keepReturnsTheTime() {
        Checks.says("Returns the time");
        FourPhases x = new FourPhases();
        Checks.due("keep", x.keep(), 0);
        x.run(1);
        Checks.due("keep", x.keep(), 1);
        x.add(0, 1);
        x.finish();
        Checks.due("keep", x.keep(), 19);
        Checks.due("states", x.total(13), 3);
        Checks.until(x, 1000000);
        Checks.due("keep at the greatest time", x.keep(), 1000000);
        x.build(1);
        Checks.due("keep", x.keep(), 0);
    }

    private static void restoreReturnsTheTime() {
        Checks.says("Returns the time then; NONE if there is no snapshot");
        FourPhases x = new FourPhases();
        Checks.due("none", x.restore(), Checks.NONE);
        x.keep();
        Checks.due("at 0", x.restore(), 0);
        x.run(7);
        Checks.due("back to 0", x.restore(), 0);
        Checks.until(x, 1000000);
        x.keep();
        x.undo();
        Checks.due("time", x.total(1), 999000);
        Checks.due("on to the greatest time", x.restore(), 1000000);
        Checks.due("which is the greatest still", x.run(1), Checks.FULL);
    }

    private static void textIsNoState() {
        Checks.says("The state is everything except the text, the history and the snapshot");
        FourPhases x = new FourPhases();
        Checks.typeAll(x, "a1");
        x.keep();
        x.run(1);
        x.type(',');
        x.type('b');
        x.type('2');
        x.undo();
        Checks.due("length after undo", x.total(14), 5);
        x.restore();
        Checks.due("length after restore", x.total(14), 5);
        x.build(2);
        Checks.due("length after build", x.total(14), 5);
        Checks.due("perform", x.perform(), 2);
        x.clearText();
        x.undo();
        Checks.due("length after undo", x.total(14), 0);
    }

    private static void historyIsNoState() {
        Checks.says("The state is everything except the text, the history and the snapshot");
        FourPhases x = new FourPhases();
        x.run(1);
        x.keep();
        x.run(1);
        x.run(1);
        Checks.due("restore", x.restore(), 1);
        Checks.due("states", x.total(13), 4);
        Checks.due("undo", x.undo(), 3);
        Checks.due("time", x.total(1), 3);
        Checks.due("undo", x.undo(), 2);
        Checks.due("time", x.total(1), 2);
        x.build(4);
        Checks.due("build keeps the history", x.total(13), 3);
    }

    private static void snapshotIsNoState() {
        Checks.says("The state is everything except the text, the history and the snapshot");
        FourPhases x = new FourPhases();
        x.run(3);
        x.keep();
        x.undo();
        Checks.due("undo leaves it", x.restore(), 3);
        x.run(4);
        x.keep();
        x.undo();
        x.undo();
        Checks.due("time", x.total(1), 0);
        Checks.due("the later one stays", x.restore(), 7);
        x.build(1);
        Checks.due("build leaves it", x.restore(), 7);
        Checks.due("stages", x.total(0), 3);
    }

    private static void buildClears() {
        Checks.says("all delays are 2; no word waits, none was noted, no sender was let go yet, and the time and all counts are 0. The settings stay");
        for (int n = 1; n <= 6; n++) {
            FourPhases x = busy();
            x.set(0, 20);
            x.build(n);
            FourPhases fresh = new FourPhases();
            fresh.set(0, 20);
            fresh.set(1, 9);
            fresh.set(2, 1);
            fresh.build(n);
            Checks.same("the state", Checks.state(x), Checks.state(fresh));
            for (int i = 0; i < 9; i++) {
                x.add(1, i);
                x.add(0, i);
                fresh.add(1, i);
                fresh.add(0, i);
            }
            Checks.due("finish", x.finish(), fresh.finish());
            Checks.same("the state", Checks.state(x), Checks.state(fresh));
            Checks.due("right", x.total(7), 18);
        }
        FourPhases x = new FourPhases();
        x.set(0, 0);
        x.set(1, 20);
        x.set(2, 1);
        x.build(6);
        Checks.due("LEAD", x.total(10), 0);
        Checks.due("THINK", x.total(11), 20);
        Checks.due("RULE", x.total(12), 1);
    }

    private static void buildCountsWords() {
        Checks.says("Returns how many words were in stages and waiting");
        Checks.due("none", new FourPhases().build(3), 0);
        for (int n = 1; n <= 6; n++) {
            FourPhases x = slowReceiverWithAllFull(n);
            Checks.due("full stages", x.total(3), n);
            Checks.due("waiting", x.total(2), 40);
            Checks.due("build", x.build(7 - n), 40 + n);
            Checks.due("waiting", x.total(2), 0);
            Checks.due("full stages", x.total(3), 0);
            Checks.due("build", x.build(n), 0);
        }
        FourPhases one = new FourPhases();
        one.add(0, 1);
        Checks.due("a word on a link alone", one.build(1), 0);
        one.add(0, 1);
        one.add(0, 1);
        Checks.due("and one that waits", one.build(1), 1);
        one.add(0, 1);
        one.run(3);
        Checks.due("in a stage", one.build(1), 1);
        one.add(0, 1);
        one.run(8);
        Checks.due("out of the stage", one.build(1), 0);
        FourPhases two = new FourPhases();
        two.add(0, 1);
        two.run(6);
        Checks.due("taken, and not answered yet: in two stages", two.build(1), 2);
    }

    private static FourPhases slowReceiverWithAllFull(int stages) {
        FourPhases x = new FourPhases();
        x.build(stages);
        x.setDelay(stages, 0, 20);
        x.set(1, 20);
        for (int tick = 0; tick < 500 && x.total(3) < stages; tick++) {
            x.add(0, 1);
            x.add(1, 2);
            x.run(1);
        }
        for (int i = 0; i < 45; i++) {
            x.add(0, 1);
            x.add(1, 2);
        }
        return x;
    }

    private static void buildOfTheSame() {
        Checks.says("Builds another line, in place of the one that there is");
        FourPhases x = new FourPhases();
        x.add(0, 5);
        x.run(1);
        Checks.due("build", x.build(3), 0);
        Checks.due("states", x.total(13), 3);
        Checks.due("under way", x.total(4), 0);
        Checks.due("next", x.next(), Checks.NONE);
        x.run(10);
        Checks.due("nothing comes from the one before", x.total(8), 0);
        for (int n = 1; n <= 6; n++) {
            x.build(n);
            Checks.due("stages", x.total(0), n);
            x.undo();
            Checks.due("stages", x.total(0), 3);
        }
    }
}
