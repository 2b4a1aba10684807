/** Each promise of the document by small runs whose answers were worked out by hand: a method for each promise. */
public final class PromisesTest {
    private static final int UNKNOWN = -1;
    private static final int OUT_OF_RANGE = -2;
    private static final int FULL = -3;
    private static final int NONE = -5;
    private static int wrong = 0;
    private static int promise = 0;

    private static void due(String call, int got, int want) {
        if (got != want) {
            wrong++;
            System.out.println("promise " + promise + ": " + call + " answered " + got + ", due is " + want);
        }
    }

    public static void main(String[] args) {
        promise = 1;
        newObject();
        promise = 2;
        build();
        buildClearsAll();
        promise = 3;
        add();
        waiterChooses();
        promise = 4;
        run();
        fourSteps();
        fullStageLetsWait();
        sameTimeInOrderOfMaking();
        promise = 5;
        finish();
        promise = 6;
        setDelay();
        lateDataOverrides();
        promise = 7;
        set();
        promise = 8;
        type();
        promise = 9;
        clearText();
        promise = 10;
        performFaults();
        perform();
        performAllOrNone();
        promise = 11;
        undo();
        promise = 12;
        keep();
        promise = 13;
        restore();
        promise = 14;
        link();
        promise = 15;
        stage();
        promise = 16;
        waiting();
        promise = 17;
        noted();
        promise = 18;
        total();
        promise = 19;
        next();
        promise = 20;
        quietIn();
        promise = 21;
        ifLead();
        promise = 22;
        leastLead();
        promise = 23;
        dearest();
        if (wrong != 0) {
            System.out.println("PromisesTest: " + wrong + " answers are wrong");
            System.exit(1);
        }
        System.out.println("PromisesTest: all answers are as due");
    }

    private static void typeAll(FourPhases x, String text) {
        x.clearText();
        for (int i = 0; i < text.length(); i++) {
            due("type of " + text, x.type(text.charAt(i)), i + 1);
        }
    }

    private static void newObject() {
        FourPhases x = new FourPhases();
        int[] totals = {3, 0, 0, 0, 0, 0, 0, 0, 0, NONE, 1, 0, 0, 0, 0};
        for (int what = 0; what < totals.length; what++) {
            due("total(" + what + ")", x.total(what), totals[what]);
        }
        int[] link = {2, 2, 2, 0, 0, 0, 0, 0, 0, 1, 0, 0, 1};
        for (int k = 0; k <= 3; k++) {
            for (int what = 0; what < link.length; what++) {
                due("link(" + k + ", " + what + ")", x.link(k, what), link[what]);
            }
        }
        for (int s = 0; s < 3; s++) {
            due("stage", x.stage(s), NONE);
        }
        due("undo", x.undo(), NONE);
        due("restore", x.restore(), NONE);
        due("next", x.next(), NONE);
        due("perform of the empty text", x.perform(), -100);
        due("constants", FourPhases.UNKNOWN * 1000 + FourPhases.OUT_OF_RANGE * 100 + FourPhases.FULL * 10
            + FourPhases.NONE, -1235);
    }

    private static void build() {
        FourPhases x = new FourPhases();
        due("build(0)", x.build(0), OUT_OF_RANGE);
        due("build(7)", x.build(7), OUT_OF_RANGE);
        due("build(-1)", x.build(Integer.MIN_VALUE), OUT_OF_RANGE);
        due("history", x.total(13), 0);
        x.set(0, 3);
        x.set(1, 4);
        x.set(2, 1);
        x.setDelay(1, 1, 9);
        x.add(0, 1);
        x.add(0, 2);
        x.add(1, 3);
        due("a word on the link 0 is in no stage", x.build(2), 2);
        due("stages", x.total(0), 2);
        due("time", x.total(1), 0);
        due("waiting", x.total(2), 0);
        due("under way", x.total(4), 0);
        due("offered", x.total(5), 0);
        due("latest", x.total(9), NONE);
        due("lead stays", x.total(10), 3);
        due("think stays", x.total(11), 4);
        due("rule stays", x.total(12), 1);
        due("delay", x.link(1, 1), 2);
        due("data at the beginning", x.link(0, 7), 0);
        due("at rest", x.link(0, 9), 1);
        due("link 3", x.link(3, 0), UNKNOWN);
        due("undo", x.undo(), 3);
        due("stages", x.total(0), 3);
        due("under way", x.total(4), 2);
        due("finish", x.finish() > 0 ? 1 : 0, 1);
        due("noted", x.total(6), 3);
        due("build(6)", x.build(6), 0);
        due("noted", x.total(6), 0);
        due("noted", x.noted(0, 0), NONE);
        due("arrived", x.total(8), 0);
        due("same again is a change too", x.build(6), 0);
        due("history", x.total(13), 4);
        x.set(2, 0);
        x.add(0, 5);
        x.run(5);
        due("full stages count", x.total(3), 1);
        due("build(1)", x.build(1), 1);
        due("stage(0)", x.stage(0), NONE);
        due("stage(1)", x.stage(1), UNKNOWN);
    }

    /** At each time of a busy line, with all wires up somewhere and a request that waits: nothing of it stays. */
    private static void buildClearsAll() {
        int[] link = {2, 2, 2, 0, 0, 0, 0, 0, 0, 1, 0, 0, 1};
        for (int ticks = 1; ticks <= 60; ticks++) {
            FourPhases x = new FourPhases();
            x.set(1, 20);
            for (int word = 1; word < 9; word++) {
                x.add(1, word);
            }
            x.setDelay(2, 2, 3);
            x.run(ticks);
            x.build(3);
            for (int k = 0; k <= 3; k++) {
                for (int what = 0; what < link.length; what++) {
                    due("link(" + k + ", " + what + ")", x.link(k, what), link[what]);
                }
            }
            for (int what = 1; what <= 8; what++) {
                due("total(" + what + ")", x.total(what), 0);
            }
            x.add(0, 9);
            due("finish", x.finish(), 18 + 20);
            due("the first word is right", x.noted(0, 2), 1);
            due("noted", x.total(6), 1);
            due("right", x.total(7), 1);
        }
    }

    private static void add() {
        FourPhases x = new FourPhases();
        due("add(-1, 0)", x.add(-1, 0), UNKNOWN);
        due("add(2, 16)", x.add(2, 16), UNKNOWN);
        due("add(0, -1)", x.add(0, -1), OUT_OF_RANGE);
        due("add(1, 16)", x.add(1, 16), OUT_OF_RANGE);
        due("history", x.total(13), 0);
        due("add", x.add(1, 15), 0);
        due("data", x.link(0, 7), 31);
        for (int i = 1; i <= 20; i++) {
            due("add " + i, x.add(1, i % 16), i);
        }
        due("add when 20 wait", x.add(1, 0), FULL);
        due("wrong word when 20 wait", x.add(1, 16), OUT_OF_RANGE);
        due("the other sender", x.add(0, 0), 1);
        due("history", x.total(13), 4);
        due("waiting", x.total(2), 21);
        due("finish", x.finish() > 0 ? 1 : 0, 1);
        due("noted", x.total(6), 22);
        due("right", x.total(7), 22);
    }

    private static void waiterChooses() {
        FourPhases x = new FourPhases();
        x.add(1, 1);
        x.add(1, 2);
        x.add(0, 3);
        x.add(0, 4);
        x.finish();
        int[] turns = {17, 3, 18, 4};
        for (int i = 0; i < 4; i++) {
            due("in turns " + i, x.noted(3 - i, 0), turns[i]);
        }
        x.set(2, 1);
        x.add(1, 1);
        x.add(1, 2);
        x.add(0, 3);
        x.add(0, 4);
        x.finish();
        int[] first = {17, 3, 4, 18};
        for (int i = 0; i < 4; i++) {
            due("sender 0 first " + i, x.noted(3 - i, 0), first[i]);
        }
    }

    private static void run() {
        FourPhases x = new FourPhases();
        due("run(0)", x.run(0), OUT_OF_RANGE);
        due("run(-1)", x.run(-1), OUT_OF_RANGE);
        due("run(1001)", x.run(1001), OUT_OF_RANGE);
        due("history", x.total(13), 0);
        due("run(1000)", x.run(1000), 0);
        due("time", x.total(1), 1000);
        due("a quiet run is a change", x.total(13), 1);
        x.add(0, 1);
        x.add(0, 2);
        due("run to just ahead", x.run(11), 0);
        due("run to the note", x.run(1), 1);
        for (int i = 0; i < 998; i++) {
            x.run(1000);
        }
        due("time", x.total(1), 999012);
        due("run to the greatest time, less 1", x.run(987), 0);
        due("run beyond", x.run(2), FULL);
        due("time", x.total(1), 999999);
        due("run to the greatest time", x.run(1), 0);
        due("run beyond", x.run(1), FULL);
        due("wrong ticks there", x.run(0), OUT_OF_RANGE);
        due("time", x.total(1), 1000000);
        x.add(0, 1);
        due("the greatest time does not matter", x.quietIn(), 18);
        due("next", x.next(), 1000002);
        due("finish beyond", x.finish(), FULL);
        due("nothing changed", x.total(4), 2);
        due("nothing noted", x.total(6), 2);
        typeAll(x, "a1,.1");
        due("perform beyond", x.perform(), FULL);
        due("nothing waits", x.total(2), 0);
    }

    /** One word through one stage, with a delay of its own on each wire. */
    private static void fourSteps() {
        FourPhases x = new FourPhases();
        x.build(1);
        x.set(0, 4);
        x.set(1, 6);
        x.setDelay(0, 0, 1);
        x.setDelay(0, 1, 3);
        x.setDelay(0, 2, 5);
        x.setDelay(1, 0, 7);
        x.setDelay(1, 1, 11);
        x.setDelay(1, 2, 9);
        x.add(1, 4);
        due("request at its beginning", x.link(0, 3), 1);
        due("not at rest", x.link(0, 9), 0);
        // Data and request of the link 0 both arrive at 5; the data were made first.
        due("next", x.next(), 5);
        x.run(5);
        due("taken", x.stage(0), 20);
        due("answer made", x.link(0, 5), 1);
        due("answer not there", x.link(0, 6), 0);
        due("offered at once", x.link(1, 3), 1);
        due("data", x.link(1, 7), 20);
        due("next is the answer", x.next(), 8);
        x.run(3);
        due("answer there", x.link(0, 6), 1);
        due("request down", x.link(0, 3), 0);
        due("request 0 needs no lead", x.next(), 9);
        x.run(1);
        due("answer down at the end", x.link(0, 5), 0);
        due("answer still up at the beginning", x.link(0, 6), 1);
        due("not at rest", x.link(0, 9), 0);
        x.run(3);
        due("at rest", x.link(0, 9), 1);
        due("data of the link 1", x.next(), 14);
        x.run(2);
        due("data there", x.link(1, 8), 20);
        due("request of the link 1", x.next(), 16);
        due("noted at 16", x.run(2), 1);
        due("time of the note", x.noted(0, 1), 16);
        due("the receiver thinks", x.next(), 16 + 11 + 6);
        x.run(17);
        due("the stage is empty", x.stage(0), NONE);
        due("request 0", x.next(), 33 + 7);
        x.run(7);
        due("answer 0 without thinking", x.next(), 40 + 11);
        due("finish", x.finish(), 11);
        due("arrived", x.total(8), 10);
        due("data stay", x.link(0, 8), 20);
    }

    private static void fullStageLetsWait() {
        FourPhases x = new FourPhases();
        x.build(1);
        x.setDelay(1, 1, 20);
        x.set(1, 20);
        x.add(0, 1);
        x.add(0, 2);
        // Word 1 is taken at 3, the link 0 is at rest at 9, the request of word 2 arrives at 12; the answer at 46.
        x.run(12);
        due("the request waits", x.link(0, 10), 1);
        due("the request is there", x.link(0, 4), 1);
        due("no answer", x.link(0, 5), 0);
        due("word 1 still", x.stage(0), 1);
        x.run(33);
        due("the request waits", x.link(0, 10), 1);
        x.run(1);
        due("time", x.total(1), 46);
        due("taken as soon as it is empty", x.stage(0), 2);
        due("no request waits", x.link(0, 10), 0);
        due("answer", x.link(0, 5), 1);
        due("not offered yet", x.link(1, 11), 1);
        // Request 0 arrives at 48, answer 0 at 68: the link 1 is at rest then, and offers word 2.
        x.run(21);
        due("not offered yet", x.link(1, 11), 1);
        x.run(1);
        due("offered", x.link(1, 11), 2);
        due("data", x.link(1, 7), 2);
    }

    /** With LEAD 0 the data and the request of an offer arrive together, and the data were made first. */
    private static void sameTimeInOrderOfMaking() {
        FourPhases x = new FourPhases();
        x.set(0, 0);
        x.add(0, 9);
        x.run(2);
        due("taken right", x.stage(0), 9);
        due("two changes in one tick", x.total(8), 2);
        x.finish();
        due("right", x.noted(0, 2), 1);
        // Data that take one tick longer come too late.
        x.setDelay(0, 2, 3);
        x.add(0, 5);
        x.run(2);
        due("taken too early: the old data", x.stage(0), 9);
        x.finish();
        due("wrong", x.noted(0, 2), 0);
        due("noted as it was taken", x.noted(0, 0), 9);
        // A word that is the same by chance is right.
        x.add(0, 5);
        x.finish();
        due("right by chance", x.noted(0, 2), 1);
    }

    private static void finish() {
        FourPhases x = new FourPhases();
        due("finish of a quiet line", x.finish(), NONE);
        x.add(0, 1);
        due("finish", x.finish(), 18);
        due("time", x.total(1), 18);
        due("history", x.total(13), 2);
        due("finish", x.finish(), NONE);
        due("history", x.total(13), 2);
        // The last change may arrive at the greatest time, and not later.
        for (int i = 0; i < 999; i++) {
            x.run(1000);
        }
        x.run(964);
        due("time", x.total(1), 999982);
        x.add(0, 1);
        x.keep();
        due("finish at the greatest time", x.finish(), 18);
        x.restore();
        x.setDelay(3, 1, 3);
        due("finish later", x.finish(), FULL);
        due("time", x.total(1), 999982);
        // Data that arrive after the four steps are under way too.
        x.build(1);
        x.setDelay(1, 2, 20);
        x.add(0, 1);
        due("data last", x.finish(), 23);
        due("data", x.link(1, 8), 1);
    }

    private static void setDelay() {
        FourPhases x = new FourPhases();
        due("link -1", x.setDelay(-1, 0, 0), UNKNOWN);
        due("link 4", x.setDelay(4, 0, 5), UNKNOWN);
        due("wire -1", x.setDelay(0, -1, 5), UNKNOWN);
        due("wire 3", x.setDelay(0, 3, 21), UNKNOWN);
        due("delay 0", x.setDelay(0, 0, 0), OUT_OF_RANGE);
        due("delay 21", x.setDelay(3, 2, 21), OUT_OF_RANGE);
        due("same", x.setDelay(3, 2, 2), NONE);
        due("history", x.total(13), 0);
        due("request", x.setDelay(3, 0, 20), 2);
        due("answer", x.setDelay(3, 1, 1), 2);
        due("data", x.setDelay(3, 2, 7), 2);
        due("again", x.setDelay(3, 2, 8), 7);
        due("request", x.link(3, 0), 20);
        due("answer", x.link(3, 1), 1);
        due("data", x.link(3, 2), 8);
        due("history", x.total(13), 4);
        x.add(0, 1);
        x.setDelay(0, 0, 20);
        due("what is under way keeps its time", x.next(), 2);
        x.run(3);
        due("taken at 3", x.stage(0), 1);
        x.run(2);
        due("request 0 counts by the new delay", x.link(0, 4), 1);
        x.run(19);
        due("request 0 not there", x.link(0, 4), 1);
        x.run(1);
        due("request 0 there", x.link(0, 4), 0);
    }

    /** Data under way with a long delay arrive after younger ones with a short one, and are then what shows. */
    private static void lateDataOverrides() {
        FourPhases x = new FourPhases();
        x.build(1);
        x.setDelay(0, 2, 20);
        x.add(0, 7);
        x.setDelay(0, 2, 1);
        x.add(0, 8);
        x.run(10);
        due("the younger ones first", x.link(0, 8), 8);
        x.run(10);
        due("then the older ones", x.link(0, 8), 7);
    }

    private static void set() {
        FourPhases x = new FourPhases();
        due("setting -1", x.set(-1, 0), UNKNOWN);
        due("setting 3", x.set(3, 99), UNKNOWN);
        for (int setting = 0; setting < 3; setting++) {
            int most = setting == 2 ? 1 : 20;
            int first = setting == 0 ? 1 : 0;
            due("less", x.set(setting, -1), OUT_OF_RANGE);
            due("more", x.set(setting, most + 1), OUT_OF_RANGE);
            due("same", x.set(setting, first), NONE);
            due("history", x.total(13), setting);
            due("most", x.set(setting, most), first);
            due("now", x.total(10 + setting), most);
        }
        due("the delays stay", x.link(0, 0), 2);
        x.add(0, 1);
        x.set(0, 0);
        due("what is under way keeps its time", x.next(), 2);
        x.run(21);
        due("not taken", x.stage(0), NONE);
        x.run(1);
        due("taken at 22", x.stage(0), 1);
    }

    private static void type() {
        FourPhases x = new FourPhases();
        for (int i = 1; i <= 60; i++) {
            due("type", x.type((char) (i * 1000)), i);
        }
        due("type of the 61st", x.type('a'), FULL);
        due("length", x.total(14), 60);
        due("no change of the state", x.total(13), 0);
    }

    private static void clearText() {
        FourPhases x = new FourPhases();
        due("empty", x.clearText(), 0);
        typeAll(x, "a1,b2");
        due("length", x.clearText(), 5);
        due("length then", x.total(14), 0);
        due("again", x.clearText(), 0);
        due("the orders are gone", x.perform(), -100);
        due("history", x.total(13), 0);
    }

    private static void performFaults() {
        FourPhases x = new FourPhases();
        String[] texts = {"a", "b", ",", "ag", "aA", "a1b", "a1,", "a1,,", "A1", ".", ".0", ".a", ".100", ".05", ".9a",
            "r", "r7", "r0", "r0:", "r0=", "r0=0", "r0=21", "r0=30", "r0=100", "k6=200", "d0=1x", "d-", "da=1",
            "a1 ", " a1", "a1,.5,d0=5;", "e", "r6=20,", "a\u0000", "\u0100", "a1,\u0000"};
        int[] faults = {1, 1, 0, 1, 1, 2, 3, 3, 0, 1, 1, 1, 3, 1, 2,
            1, 1, 2, 2, 3, 3, 4, 4, 5, 5, 4, 1, 1,
            2, 0, 10, 0, 6, 1, 0, 3};
        for (int i = 0; i < texts.length; i++) {
            typeAll(x, texts[i]);
            due("perform of " + texts[i], x.perform(), -100 - faults[i]);
        }
        due("history", x.total(13), 0);
        StringBuilder longest = new StringBuilder();
        for (int i = 0; i < 20; i++) {
            longest.append("a").append(Integer.toHexString(i % 16)).append(",");
        }
        typeAll(x, longest.toString());
        due("a comma at the end of 60", x.perform(), -160);
        due("nothing was added", x.total(5), 0);
    }

    private static void perform() {
        FourPhases x = new FourPhases();
        typeAll(x, "r0=1,k1=20,d3=10,.99,a9,bf,b0,.1");
        due("perform", x.perform(), 8);
        due("one change", x.total(13), 1);
        due("the text stays", x.total(14), 32);
        due("request", x.link(0, 0), 1);
        due("answer", x.link(1, 1), 20);
        due("data", x.link(3, 2), 10);
        due("time", x.total(1), 100);
        due("offered", x.link(0, 7), 9);
        due("waiting", x.waiting(1, 0), 15);
        due("waiting", x.waiting(1, 1), 0);
        due("undo", x.undo(), 0);
        due("time", x.total(1), 0);
        due("delay", x.link(0, 0), 2);
        due("nothing waits", x.total(2), 0);
        due("the text stays", x.total(14), 32);
        typeAll(x, "k2=2,d0=2");
        due("orders that do nothing", x.perform(), 2);
        due("are one change", x.total(13), 1);
        typeAll(x, "k2=2");
        due("an order that does nothing", x.perform(), 1);
        due("is one change", x.total(13), 2);
    }

    private static void performAllOrNone() {
        FourPhases x = new FourPhases();
        typeAll(x, "a1,.5,r3=9,k4=9,d9=1");
        due("a fault stands first", x.perform(), -117);
        typeAll(x, "a1,.5,r3=9,k4=9,d6=1");
        due("no such link", x.perform(), UNKNOWN);
        due("time", x.total(1), 0);
        due("offered", x.total(5), 0);
        due("delay", x.link(3, 0), 2);
        due("history", x.total(13), 0);
        typeAll(x, "a1,a2,a3,a4,a5,a6,a7,a8,a9,aa,ab,ac,ad,ae,af,a0,a1,a2,a3,a4");
        due("20 orders", x.perform(), 20);
        due("waiting", x.total(2), 19);
        due("no room", x.perform(), FULL);
        due("waiting", x.total(2), 19);
        due("one more", x.add(0, 1), 20);
        typeAll(x, "b1,a1,k4=9");
        due("the first error", x.perform(), FULL);
        typeAll(x, "b1,k4=9,a1");
        due("the first error", x.perform(), UNKNOWN);
        due("nothing of sender 1", x.waiting(1, 0), NONE);
    }

    private static void undo() {
        FourPhases x = new FourPhases();
        due("empty", x.undo(), NONE);
        for (int i = 1; i <= 6; i++) {
            x.run(i);
            due("states", x.total(13), Math.min(i, 4));
        }
        x.type('z');
        due("time", x.total(1), 21);
        int[] times = {15, 10, 6, 3};
        for (int i = 0; i < 4; i++) {
            due("undo", x.undo(), 3 - i);
            due("time", x.total(1), times[i]);
        }
        due("empty", x.undo(), NONE);
        due("the text stays", x.total(14), 1);
        x.add(0, 6);
        x.run(1);
        x.set(1, 5);
        x.finish();
        x.undo();
        x.undo();
        due("the setting too", x.total(11), 0);
        due("finish again", x.finish(), 17);
        due("right", x.noted(0, 2), 1);
        x.run(1001);
        x.set(1, 0);
        due("an error records nothing", x.total(13), 3);
    }

    private static void keep() {
        FourPhases x = new FourPhases();
        due("keep", x.keep(), 0);
        x.run(5);
        due("keep", x.keep(), 5);
        due("no change", x.total(13), 1);
        x.run(6);
        due("the later one stands", x.restore(), 5);
        x.undo();
        x.undo();
        x.undo();
        due("undo leaves the snapshot", x.restore(), 5);
    }

    private static void restore() {
        FourPhases x = new FourPhases();
        due("none", x.restore(), NONE);
        due("history", x.total(13), 0);
        x.add(0, 3);
        x.add(1, 4);
        x.run(4);
        x.keep();
        int quiet = x.quietIn();
        x.build(5);
        x.set(2, 1);
        x.type('q');
        due("restore", x.restore(), 4);
        due("stages", x.total(0), 3);
        due("rule", x.total(12), 0);
        due("waiting", x.waiting(1, 0), 4);
        due("the text stays", x.total(14), 1);
        due("the history stays, and has one more", x.total(13), 4);
        due("finish", x.finish(), quiet);
        due("it stays", x.restore(), 4);
        due("finish", x.finish(), quiet);
        due("undo", x.undo(), 3);
        due("undo", x.undo(), 2);
        due("before the restore", x.total(1), 4 + quiet);
    }

    private static void link() {
        FourPhases x = new FourPhases();
        due("link -1", x.link(-1, 99), UNKNOWN);
        due("link 4", x.link(4, 0), UNKNOWN);
        due("what -1", x.link(0, -1), OUT_OF_RANGE);
        due("what 13", x.link(3, 13), OUT_OF_RANGE);
        x.setDelay(2, 2, 3);
        due("in time", x.link(2, 12), 1);
        x.setDelay(2, 2, 4);
        due("not in time", x.link(2, 12), 0);
        x.setDelay(2, 0, 3);
        due("in time", x.link(2, 12), 1);
        x.set(0, 0);
        due("not in time", x.link(2, 12), 0);
        x.build(6);
        due("link 6", x.link(6, 0), 2);
        due("link 7", x.link(7, 0), UNKNOWN);
        x.add(1, 2);
        x.add(1, 2);
        x.finish();
        for (int k = 0; k <= 6; k++) {
            due("offered", x.link(k, 11), 2);
            due("data at the beginning", x.link(k, 7), 18);
            due("data at the end", x.link(k, 8), 18);
            due("at rest", x.link(k, 9), 1);
        }
    }

    private static void stage() {
        FourPhases x = new FourPhases();
        due("stage -1", x.stage(-1), UNKNOWN);
        due("stage 3", x.stage(3), UNKNOWN);
        due("stage 2", x.stage(2), NONE);
        x.add(0, 0);
        x.run(3);
        due("the word 0", x.stage(0), 0);
        due("full", x.total(3), 1);
        x.finish();
        due("empty", x.stage(0), NONE);
        x.add(1, 0);
        x.run(3);
        due("the word 0 of sender 1", x.stage(0), 16);
    }

    private static void waiting() {
        FourPhases x = new FourPhases();
        due("sender -1", x.waiting(-1, -1), UNKNOWN);
        due("sender 2", x.waiting(2, 0), UNKNOWN);
        due("place -1", x.waiting(1, -1), OUT_OF_RANGE);
        due("none", x.waiting(1, 0), NONE);
        for (int i = 0; i < 21; i++) {
            x.add(1, i % 16);
        }
        for (int i = 0; i < 20; i++) {
            due("place " + i, x.waiting(1, i), (i + 1) % 16);
        }
        due("place 20", x.waiting(1, 20), NONE);
        due("far place", x.waiting(1, Integer.MAX_VALUE), NONE);
        due("the other", x.waiting(0, 0), NONE);
        x.run(9);
        due("the first one went", x.waiting(1, 0), 2);
        due("place 19", x.waiting(1, 19), NONE);
    }

    private static void noted() {
        FourPhases x = new FourPhases();
        due("rank -1", x.noted(-1, 0), OUT_OF_RANGE);
        due("what -1", x.noted(0, -1), OUT_OF_RANGE);
        due("what 3", x.noted(99, 3), OUT_OF_RANGE);
        due("none", x.noted(0, 0), NONE);
        x.build(1);
        for (int i = 0; i < 53; i++) {
            x.add(i % 2, i % 16);
            x.finish();
        }
        due("noted", x.total(6), 53);
        for (int rank = 0; rank < 50; rank++) {
            int i = 52 - rank;
            due("word of rank " + rank, x.noted(rank, 0), i % 2 * 16 + i % 16);
            due("time of rank " + rank, x.noted(rank, 1), i * 12 + 6);
            due("right of rank " + rank, x.noted(rank, 2), 1);
        }
        due("rank 50", x.noted(50, 0), NONE);
        due("far rank", x.noted(Integer.MAX_VALUE, 2), NONE);
    }

    private static void total() {
        FourPhases x = new FourPhases();
        due("what -1", x.total(-1), OUT_OF_RANGE);
        due("what 15", x.total(15), OUT_OF_RANGE);
        x.set(1, 7);
        x.setDelay(0, 2, 4);
        x.add(1, 1);
        x.add(0, 2);
        x.run(3);
        typeAll(x, "abc");
        // Word 17 was taken at 3, as 0: the data come at 4; under way are these, an answer and an offer.
        int[] totals = {3, 3, 1, 1, 4, 1, 0, 0, 1, 1, 1, 7, 0, 4, 3};
        for (int what = 0; what < totals.length; what++) {
            due("total(" + what + ")", x.total(what), totals[what]);
        }
        x.finish();
        due("noted", x.total(6), 2);
        due("right", x.total(7), 0);
        due("let go latest", x.total(9), 0);
    }

    private static void next() {
        FourPhases x = new FourPhases();
        due("quiet", x.next(), NONE);
        x.run(10);
        x.setDelay(0, 2, 20);
        x.add(0, 1);
        due("the request", x.next(), 13);
        x.run(2);
        due("still", x.next(), 13);
        x.run(1);
        due("the answer", x.next(), 15);
        x.finish();
        due("quiet", x.next(), NONE);
    }

    private static void quietIn() {
        FourPhases x = new FourPhases();
        due("quiet", x.quietIn(), 0);
        x.add(0, 1);
        due("18 ticks", x.quietIn(), 18);
        x.run(5);
        due("13 ticks", x.quietIn(), 13);
        due("nothing changes", x.total(1), 5);
        due("nothing is recorded", x.total(13), 2);
        due("nothing is noted", x.total(6), 0);
        x.run(13);
        due("quiet", x.quietIn(), 0);
    }

    private static void ifLead() {
        FourPhases x = new FourPhases();
        due("lead -1", x.ifLead(-1, 0), OUT_OF_RANGE);
        due("lead 21", x.ifLead(21, 0), OUT_OF_RANGE);
        due("what -1", x.ifLead(0, -1), OUT_OF_RANGE);
        due("what 3", x.ifLead(20, 3), OUT_OF_RANGE);
        due("quiet", x.ifLead(20, 0), 0);
        x.add(0, 1);
        x.add(0, 2);
        x.add(0, 3);
        // The first request of the link 0 is under way already, with the lead of 1.
        due("ticks", x.ifLead(1, 0), x.quietIn());
        due("words", x.ifLead(20, 1), 3);
        due("wrong ones", x.ifLead(0, 2), 0);
        x.setDelay(3, 2, 4);
        due("wrong ones with 1", x.ifLead(1, 2), 3);
        due("wrong ones with 2", x.ifLead(2, 2), 0);
        x.run(12);
        due("the words noted before don't count", x.ifLead(2, 1), 2);
        due("nor do the wrong ones", x.ifLead(2, 2), 0);
        due("one is noted", x.total(6), 1);
        due("it is wrong", x.noted(0, 2), 0);
        due("the setting stays", x.total(10), 1);
        due("nothing is recorded", x.total(13), 4);
        x.build(1);
        x.add(0, 1);
        due("one word with 1", x.ifLead(1, 0), 12);
        due("the link 1 alone with 20", x.ifLead(20, 0), 31);
    }

    private static void leastLead() {
        FourPhases x = new FourPhases();
        due("quiet", x.leastLead(), 0);
        x.setDelay(2, 2, 20);
        due("quiet", x.leastLead(), 0);
        x.add(0, 1);
        due("18", x.leastLead(), 18);
        x.setDelay(2, 0, 1);
        due("19", x.leastLead(), 19);
        due("the setting stays", x.total(10), 1);
        x.build(1);
        x.setDelay(0, 2, 20);
        x.add(0, 1);
        due("the first word is too early in any case", x.leastLead(), NONE);
        x.run(3);
        due("in any case", x.leastLead(), NONE);
        x.finish();
        due("quiet again", x.leastLead(), 0);
    }

    private static void dearest() {
        FourPhases x = new FourPhases();
        due("quiet: the first wire", x.dearest(), 0);
        x.setDelay(0, 0, 1);
        due("quiet: the first above 1", x.dearest(), 1);
        x.build(1);
        for (int k = 0; k < 2; k++) {
            for (int wire = 0; wire < 3; wire++) {
                x.setDelay(k, wire, 1);
            }
        }
        due("all are 1", x.dearest(), NONE);
        x.setDelay(1, 2, 9);
        due("data", x.dearest(), 12);
        x.setDelay(0, 1, 2);
        due("quiet: the least link", x.dearest(), 1);
        x.add(0, 1);
        // At 2 the stage takes; the data of the link 1 come last, at 11: a tick less of the others doesn't help.
        due("data last", x.dearest(), 12);
        due("the delay stays", x.link(1, 2), 9);
        x.build(3);
        x.add(0, 1);
        // A request of the link 0 is under way already, its delay counts for the request 0 alone.
        due("the request of the link 3 counts twice", x.quietIn(), 18);
        due("dearest", x.dearest(), 30);
        due("nothing is recorded", x.total(13), 4);
    }
}
