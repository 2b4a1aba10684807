/** The sentences of "Terms" on errors, and each argument at and beside the ends of its range. */
public final class ErrorBoundsTest {
    private static final int LEAST = Integer.MIN_VALUE;
    private static final int MOST = Integer.MAX_VALUE;
    private static final Checks.Maker[] STATES = {ErrorBoundsTest::fresh, ErrorBoundsTest::busy, ErrorBoundsTest::full,
        ErrorBoundsTest::quietAtTheEnd, ErrorBoundsTest::busyAtTheEnd};
    private static final String[] STATE_NAMES = {"a new one", "a busy one", "a full one", "a quiet one at the greatest time",
        "a busy one at the greatest time"};

    public static void main(String[] args) {
        constants();
        buildRange();
        addRange();
        addWhenFull();
        runRange();
        runBeyondTheGreatestTime();
        finishBeyondTheGreatestTime();
        finishOfAQuietOne();
        setDelayRange();
        setDelayOfTheSame();
        setRange();
        setOfTheSame();
        linkRange();
        stageRange();
        waitingRange();
        notedRange();
        totalRange();
        ifLeadRange();
        typeWhenFull();
        noAskChanges();
        changesAfterAsks();
        Checks.end("ErrorBoundsTest");
    }

    private static FourPhases fresh() {
        return new FourPhases();
    }

    private static FourPhases busy() {
        FourPhases x = new FourPhases();
        x.build(3);
        x.set(1, 9);
        x.setDelay(1, 2, 4);
        for (int i = 1; i <= 9; i++) {
            x.add(i % 2, i);
        }
        x.run(33);
        x.keep();
        x.add(1, 10);
        x.run(5);
        Checks.typeAll(x, "a1,.5,k0=7");
        return x;
    }

    /** Both rows, the text and the history are full. */
    private static FourPhases full() {
        FourPhases x = busy();
        for (int i = 0; i < 20; i++) {
            x.add(0, 15);
            x.add(1, 0);
        }
        for (int i = 0; i < 60; i++) {
            x.type('x');
        }
        return x;
    }

    private static FourPhases quietAtTheEnd() {
        return Checks.until(new FourPhases(), 1000000);
    }

    private static FourPhases busyAtTheEnd() {
        FourPhases x = quietAtTheEnd();
        x.add(0, 1);
        x.add(1, 2);
        return x;
    }

    /** In each state the call is refused with the same error, and changes nothing. */
    private static void refused(String name, Checks.Call call, int error) {
        for (int i = 0; i < STATES.length; i++) {
            Checks.changesNothing(name + " of " + STATE_NAMES[i], STATES[i], call, error);
        }
    }

    private static void refusedBy(Checks.Maker maker, String name, Checks.Call call, int error) {
        Checks.changesNothing(name, maker, call, error);
    }

    private static void constants() {
        Checks.says("The constants");
        Checks.due("UNKNOWN", FourPhases.UNKNOWN, -1);
        Checks.due("OUT_OF_RANGE", FourPhases.OUT_OF_RANGE, -2);
        Checks.due("FULL", FourPhases.FULL, -3);
        Checks.due("NONE", FourPhases.NONE, -5);
    }

    private static void buildRange() {
        Checks.says("stages: 1 to 6. OUT_OF_RANGE");
        for (int stages : new int[] {LEAST, -1, 0, 7, 8, MOST}) {
            refused("build(" + stages + ")", x -> x.build(stages), Checks.OUT_OF_RANGE);
        }
        for (int stages = 1; stages <= 6; stages++) {
            FourPhases x = fresh();
            Checks.due("build", x.build(stages), 0);
            Checks.due("stages", x.total(0), stages);
        }
    }

    private static void addRange() {
        Checks.says("sender: 0 or 1; word: 0 to 15. UNKNOWN; OUT_OF_RANGE; FULL if 20 wait");
        for (int sender : new int[] {LEAST, -1, 2, 3, MOST}) {
            for (int word : new int[] {LEAST, -1, 0, 15, 16, MOST}) {
                refused("add(" + sender + ", " + word + ")", x -> x.add(sender, word), Checks.UNKNOWN);
            }
        }
        for (int sender = 0; sender <= 1; sender++) {
            int good = sender;
            for (int word : new int[] {LEAST, -1, 16, 17, MOST}) {
                refused("add(" + sender + ", " + word + ")", x -> x.add(good, word), Checks.OUT_OF_RANGE);
            }
            for (int word : new int[] {0, 1, 14, 15}) {
                FourPhases x = fresh();
                Checks.due("add", x.add(sender, word), 0);
                Checks.due("add", x.add(sender, word), 1);
                Checks.due("waiting", x.waiting(sender, 0), word);
            }
        }
    }

    private static void addWhenFull() {
        Checks.says("FULL if 20 wait");
        for (int sender = 0; sender <= 1; sender++) {
            int good = sender;
            refusedBy(ErrorBoundsTest::full, "add(" + sender + ", 0)", x -> x.add(good, 0), Checks.FULL);
            refusedBy(ErrorBoundsTest::full, "add(" + sender + ", 15)", x -> x.add(good, 15), Checks.FULL);
            FourPhases x = busyAtTheEnd();
            Checks.due("add to an empty row", x.add(0, 0), 1);
            for (int i = 2; i <= 20; i++) {
                Checks.due("add at the greatest time", x.add(0, i % 16), i);
            }
            Checks.due("one more", x.add(0, 0), Checks.FULL);
            Checks.due("the other row", x.add(1, 0), 2);
        }
    }

    private static void runRange() {
        Checks.says("ticks: 1 to 1000. OUT_OF_RANGE; FULL if the time would be greater than 1000000");
        for (int ticks : new int[] {LEAST, -1, 0, 1001, 1002, MOST}) {
            refused("run(" + ticks + ")", x -> x.run(ticks), Checks.OUT_OF_RANGE);
        }
        for (int ticks : new int[] {1, 2, 999, 1000}) {
            FourPhases x = fresh();
            Checks.due("run", x.run(ticks), 0);
            Checks.due("time", x.total(1), ticks);
        }
    }

    private static void runBeyondTheGreatestTime() {
        Checks.says("FULL if the time would be greater than 1000000");
        for (int ticks : new int[] {1, 2, 999, 1000}) {
            refusedBy(ErrorBoundsTest::quietAtTheEnd, "run(" + ticks + ")", x -> x.run(ticks), Checks.FULL);
            refusedBy(ErrorBoundsTest::busyAtTheEnd, "run(" + ticks + ")", x -> x.run(ticks), Checks.FULL);
            Checks.Maker ahead = () -> Checks.until(new FourPhases(), 1000000 - ticks);
            if (ticks < 1000) {
                refusedBy(ahead, "run of one tick more", x -> x.run(ticks + 1), Checks.FULL);
            }
            FourPhases x = ahead.make();
            x.add(0, 1);
            Checks.due("run to the greatest time", x.run(ticks), ticks >= 12 ? 1 : 0);
            Checks.due("time", x.total(1), 1000000);
        }
    }

    private static void finishBeyondTheGreatestTime() {
        Checks.says("FULL if the time would be greater than 1000000");
        refusedBy(ErrorBoundsTest::busyAtTheEnd, "finish()", x -> x.finish(), Checks.FULL);
        for (int late = 0; late <= 2; late++) {
            int start = 1000000 - 18 + late;
            Checks.Maker maker = () -> {
                FourPhases x = Checks.until(new FourPhases(), start);
                x.add(0, 1);
                return x;
            };
            if (late > 0) {
                refusedBy(maker, "finish() from " + start, x -> x.finish(), Checks.FULL);
            } else {
                FourPhases x = maker.make();
                Checks.due("finish() from " + start, x.finish(), 18);
                Checks.due("time", x.total(1), 1000000);
            }
        }
    }

    private static void finishOfAQuietOne() {
        Checks.says("NONE if all is quiet");
        refusedBy(ErrorBoundsTest::fresh, "finish()", x -> x.finish(), Checks.NONE);
        refusedBy(ErrorBoundsTest::quietAtTheEnd, "finish()", x -> x.finish(), Checks.NONE);
        refusedBy(() -> {
            FourPhases x = busy();
            x.finish();
            return x;
        }, "finish()", x -> x.finish(), Checks.NONE);
    }

    private static void setDelayRange() {
        Checks.says("UNKNOWN (link or wire); OUT_OF_RANGE; NONE if it is this already");
        for (int delay : new int[] {LEAST, 0, 1, 2, 20, 21, MOST}) {
            for (int link : new int[] {LEAST, -1, 4, 7, MOST}) {
                refused("setDelay(" + link + ", 0, " + delay + ")", x -> x.setDelay(link, 0, delay), Checks.UNKNOWN);
            }
            for (int wire : new int[] {LEAST, -1, 3, MOST}) {
                refused("setDelay(0, " + wire + ", " + delay + ")", x -> x.setDelay(0, wire, delay), Checks.UNKNOWN);
            }
            refused("setDelay(-1, -1, " + delay + ")", x -> x.setDelay(-1, -1, delay), Checks.UNKNOWN);
        }
        for (int delay : new int[] {LEAST, -1, 0, 21, 22, MOST}) {
            for (int link = 0; link <= 3; link += 3) {
                int good = link;
                for (int wire = 0; wire < 3; wire++) {
                    int way = wire;
                    refused("setDelay(" + link + ", " + wire + ", " + delay + ")", x -> x.setDelay(good, way, delay),
                        Checks.OUT_OF_RANGE);
                }
            }
        }
        for (int n = 1; n <= 6; n++) {
            FourPhases x = fresh();
            x.build(n);
            Checks.due("the last link of " + n, x.setDelay(n, 2, 1), 2);
            Checks.due("the next one", x.setDelay(n + 1, 2, 1), Checks.UNKNOWN);
        }
    }

    private static void setDelayOfTheSame() {
        Checks.says("NONE if it is this already");
        for (int delay = 1; delay <= 20; delay++) {
            int same = delay;
            Checks.Maker maker = () -> {
                FourPhases x = busy();
                x.setDelay(3, 1, same);
                return x;
            };
            refusedBy(maker, "setDelay(3, 1, " + delay + ")", x -> x.setDelay(3, 1, same), Checks.NONE);
            FourPhases x = maker.make();
            Checks.due("another one", x.setDelay(3, 1, delay % 20 + 1), delay);
        }
    }

    private static void setRange() {
        Checks.says("setting: 0 to 2; value: in its range. UNKNOWN; OUT_OF_RANGE; NONE");
        for (int value : new int[] {LEAST, -1, 0, 1, 20, 21, MOST}) {
            for (int setting : new int[] {LEAST, -1, 3, 4, MOST}) {
                refused("set(" + setting + ", " + value + ")", x -> x.set(setting, value), Checks.UNKNOWN);
            }
        }
        for (int value : new int[] {LEAST, -1, 21, 22, MOST}) {
            for (int setting = 0; setting < 3; setting++) {
                int good = setting;
                refused("set(" + setting + ", " + value + ")", x -> x.set(good, value), Checks.OUT_OF_RANGE);
            }
        }
        refused("set(2, 2)", x -> x.set(2, 2), Checks.OUT_OF_RANGE);
        refused("set(2, 20)", x -> x.set(2, 20), Checks.OUT_OF_RANGE);
    }

    private static void setOfTheSame() {
        Checks.says("NONE if it has this value already");
        for (int setting = 0; setting < 3; setting++) {
            for (int value = 0; value <= (setting == 2 ? 1 : 20); value++) {
                int which = setting;
                int same = value;
                Checks.Maker maker = () -> {
                    FourPhases x = busy();
                    x.set(which, same);
                    return x;
                };
                refusedBy(maker, "set(" + setting + ", " + value + ")", x -> x.set(which, same), Checks.NONE);
                FourPhases x = maker.make();
                Checks.due("another one", x.set(which, value == 0 ? 1 : 0), value);
            }
        }
    }

    private static void linkRange() {
        Checks.says("link: a link; what: 0 to 12. UNKNOWN; OUT_OF_RANGE");
        for (int link : new int[] {LEAST, -1, 4, 7, MOST}) {
            for (int what : new int[] {LEAST, -1, 0, 12, 13, MOST}) {
                refused("link(" + link + ", " + what + ")", x -> x.link(link, what), Checks.UNKNOWN);
            }
        }
        for (int what : new int[] {LEAST, -1, 13, 14, MOST}) {
            refused("link(0, " + what + ")", x -> x.link(0, what), Checks.OUT_OF_RANGE);
            refused("link(3, " + what + ")", x -> x.link(3, what), Checks.OUT_OF_RANGE);
        }
    }

    private static void stageRange() {
        Checks.says("stage: 0 to the number of stages less 1. UNKNOWN; NONE if the stage is empty");
        for (int stage : new int[] {LEAST, -1, 3, 4, 6, MOST}) {
            refused("stage(" + stage + ")", x -> x.stage(stage), Checks.UNKNOWN);
        }
        for (int n = 1; n <= 6; n++) {
            FourPhases x = fresh();
            x.build(n);
            Checks.due("stage(-1)", x.stage(-1), Checks.UNKNOWN);
            Checks.due("stage(0)", x.stage(0), Checks.NONE);
            Checks.due("the last one", x.stage(n - 1), Checks.NONE);
            Checks.due("the next one", x.stage(n), Checks.UNKNOWN);
        }
    }

    private static void waitingRange() {
        Checks.says("UNKNOWN; OUT_OF_RANGE if place is negative; NONE if not so many wait");
        for (int sender : new int[] {LEAST, -1, 2, MOST}) {
            for (int place : new int[] {LEAST, -1, 0, 20, MOST}) {
                refused("waiting(" + sender + ", " + place + ")", x -> x.waiting(sender, place), Checks.UNKNOWN);
            }
        }
        for (int sender = 0; sender <= 1; sender++) {
            int good = sender;
            for (int place : new int[] {LEAST, -2, -1}) {
                refused("waiting(" + sender + ", " + place + ")", x -> x.waiting(good, place), Checks.OUT_OF_RANGE);
            }
            for (int place : new int[] {20, 21, MOST}) {
                refused("waiting(" + sender + ", " + place + ")", x -> x.waiting(good, place), Checks.NONE);
            }
        }
    }

    private static void notedRange() {
        Checks.says("OUT_OF_RANGE (rank is negative, or what); NONE if there are not so many");
        for (int rank : new int[] {LEAST, -1}) {
            for (int what : new int[] {LEAST, -1, 0, 2, 3, MOST}) {
                refused("noted(" + rank + ", " + what + ")", x -> x.noted(rank, what), Checks.OUT_OF_RANGE);
            }
        }
        for (int rank : new int[] {0, 49, 50, MOST}) {
            for (int what : new int[] {LEAST, -1, 3, 4, MOST}) {
                refused("noted(" + rank + ", " + what + ")", x -> x.noted(rank, what), Checks.OUT_OF_RANGE);
            }
        }
        for (int rank : new int[] {50, 51, MOST}) {
            for (int what = 0; what <= 2; what++) {
                int good = what;
                refused("noted(" + rank + ", " + what + ")", x -> x.noted(rank, good), Checks.NONE);
            }
        }
    }

    private static void totalRange() {
        Checks.says("what: 0 to 14. OUT_OF_RANGE");
        for (int what : new int[] {LEAST, -1, 15, 16, MOST}) {
            refused("total(" + what + ")", x -> x.total(what), Checks.OUT_OF_RANGE);
        }
        refusedBy(ErrorBoundsTest::fresh, "total(9)", x -> x.total(9), Checks.NONE);
        refusedBy(ErrorBoundsTest::fresh, "next()", x -> x.next(), Checks.NONE);
    }

    private static void ifLeadRange() {
        Checks.says("lead: 0 to 20; what: 0 to 2. OUT_OF_RANGE");
        for (int lead : new int[] {LEAST, -1, 21, 22, MOST}) {
            for (int what : new int[] {LEAST, -1, 0, 2, 3, MOST}) {
                refused("ifLead(" + lead + ", " + what + ")", x -> x.ifLead(lead, what), Checks.OUT_OF_RANGE);
            }
        }
        for (int what : new int[] {LEAST, -1, 3, 4, MOST}) {
            refused("ifLead(0, " + what + ")", x -> x.ifLead(0, what), Checks.OUT_OF_RANGE);
            refused("ifLead(20, " + what + ")", x -> x.ifLead(20, what), Checks.OUT_OF_RANGE);
        }
    }

    private static void typeWhenFull() {
        Checks.says("FULL if it has 60 characters");
        for (char c : new char[] {0, 'a', ',', 255, 65535}) {
            refusedBy(ErrorBoundsTest::full, "type(" + (int) c + ")", x -> x.type(c), Checks.FULL);
        }
    }

    /** Asks in each state, also at the greatest time, where what would be goes beyond it. */
    private static void noAskChanges() {
        Checks.says("what would be; nothing changes, and the greatest time does not matter");
        for (int i = 0; i < STATES.length; i++) {
            FourPhases x = STATES[i].make();
            for (int lead = 0; lead <= 20; lead++) {
                for (int what = 0; what <= 2; what++) {
                    Checks.due("ifLead", x.ifLead(lead, what) >= 0 ? 1 : 0, 1);
                }
            }
            x.quietIn();
            x.leastLead();
            x.dearest();
            Checks.seen(x);
            Checks.same(STATE_NAMES[i], Checks.usedUp(x), Checks.usedUp(STATES[i].make()));
        }
    }

    /** What was tried leaves nothing behind that a later change would take over. */
    private static void changesAfterAsks() {
        Checks.says("nothing changes. A method that returns an error or NONE changes nothing");
        Checks.Call[] asks = {x -> x.quietIn(), x -> x.ifLead(0, 0), x -> x.ifLead(20, 2), x -> x.leastLead(),
            x -> x.dearest(), x -> x.add(0, 16), x -> x.run(1001), x -> Checks.performed(x, "a7,.9,r0=9,k3=9,r6=1")};
        Checks.Call[] changes = {x -> x.build(2), x -> x.add(0, 1), x -> x.run(3), x -> x.finish(),
            x -> x.setDelay(0, 0, 9), x -> x.set(0, 5), x -> x.set(1, 6), x -> Checks.performed(x, "b3,.4,d1=6"),
            x -> x.restore(), x -> x.undo()};
        for (int state = 0; state < STATES.length; state++) {
            for (int change = 0; change < changes.length; change++) {
                FourPhases plain = STATES[state].make();
                int want = changes[change].on(plain);
                plain.clearText();
                String left = Checks.usedUp(plain);
                for (int ask = 0; ask < asks.length; ask++) {
                    FourPhases x = STATES[state].make();
                    asks[ask].on(x);
                    String name = "the change " + change + " after the ask " + ask + " of " + STATE_NAMES[state];
                    Checks.due(name, changes[change].on(x), want);
                    x.clearText();
                    Checks.same(name, Checks.usedUp(x), left);
                }
            }
        }
    }
}
