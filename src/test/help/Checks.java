/** What the tests of the boundaries share. A check is told with the document's sentence that it stands for. */
final class Checks {
    static final int UNKNOWN = -1;
    static final int OUT_OF_RANGE = -2;
    static final int FULL = -3;
    static final int NONE = -5;
    private static int wrong = 0;
    private static int made = 0;
    private static String sentence = "";

    private Checks() {
    }

    /** One call, or a few, with the answer of the last one. */
    interface Call {
        int on(FourPhases x);
    }

    /** Makes the same object again and again. */
    interface Maker {
        FourPhases make();
    }

    static void says(String words) {
        sentence = words;
    }

    static void due(String call, int got, int want) {
        made++;
        if (got != want) {
            wrong++;
            System.out.println("\"" + sentence + "\": " + call + " answered " + got + ", due is " + want);
        }
    }

    static void same(String what, String got, String want) {
        made++;
        if (!got.equals(want)) {
            wrong++;
            System.out.println("\"" + sentence + "\": " + what + " shows\n  " + got + "\ndue is\n  " + want);
        }
    }

    static void end(String test) {
        if (wrong != 0) {
            System.out.println(test + ": " + wrong + " of " + made + " checks are wrong");
            System.exit(1);
        }
        System.out.println(test + ": all " + made + " checks hold");
    }

    static void typeAll(FourPhases x, String text) {
        x.clearText();
        for (int i = 0; i < text.length(); i++) {
            due("type of " + text, x.type(text.charAt(i)), i + 1);
        }
    }

    static int performed(FourPhases x, String text) {
        typeAll(x, text);
        return x.perform();
    }

    /** Lets the ticks go by up to a time. */
    static FourPhases until(FourPhases x, int time) {
        int now = x.total(1);
        while (now < time) {
            int ticks = Math.min(1000, time - now);
            x.run(ticks);
            now += ticks;
        }
        return x;
    }

    /** The answer is one number up to the tick ahead of a time, and another one at this time. */
    static void turnsAt(String name, int time, Maker maker, Call ask, int before, int then) {
        FourPhases x = until(maker.make(), time - 1);
        due(name + " ahead of " + time, ask.on(x), before);
        x.run(1);
        due(name + " at " + time, ask.on(x), then);
    }

    /** All that can be asked without trying what would be. */
    static String seen(FourPhases x) {
        return state(x) + " history " + x.total(13) + " text " + x.total(14);
    }

    /** All of it but for the history and the text. */
    static String state(FourPhases x) {
        StringBuilder s = new StringBuilder("totals");
        for (int what = 0; what <= 12; what++) {
            s.append(' ').append(x.total(what));
        }
        s.append(" next ").append(x.next());
        for (int link = 0; link <= 6; link++) {
            s.append(" link").append(link);
            for (int what = 0; what <= 12; what++) {
                s.append(' ').append(x.link(link, what));
            }
            s.append(" stage ").append(x.stage(link));
        }
        for (int sender = 0; sender <= 1; sender++) {
            s.append(" row").append(sender);
            for (int place = 0; place < 20; place++) {
                s.append(' ').append(x.waiting(sender, place));
            }
        }
        s.append(" notes");
        for (int rank = 0; rank < 50; rank++) {
            s.append(' ').append(x.noted(rank, 0)).append('@').append(x.noted(rank, 1)).append('/')
                .append(x.noted(rank, 2));
        }
        return s.toString();
    }

    /** All that an object shows when it is used up: what is under way, the text, the history and the snapshot. */
    static String usedUp(FourPhases x) {
        StringBuilder s = new StringBuilder(seen(x));
        s.append("\n  quiet ").append(x.quietIn()).append(" leads ").append(x.ifLead(0, 2)).append(' ')
            .append(x.ifLead(20, 0)).append(' ').append(x.leastLead()).append(" dearest ").append(x.dearest());
        s.append("\n  finish ").append(x.finish()).append(' ').append(seen(x));
        s.append("\n  perform ").append(x.perform()).append(' ').append(seen(x));
        for (int i = 0; i < 5; i++) {
            s.append("\n  undo ").append(x.undo()).append(' ').append(seen(x));
        }
        s.append("\n  restore ").append(x.restore()).append(' ').append(seen(x));
        return s.toString();
    }

    /** The call answers as is due, and the object is then as one on which it was not made. */
    static void changesNothing(String name, Maker maker, Call call, int want) {
        FourPhases x = maker.make();
        due(name, call.on(x), want);
        same("the object after " + name, usedUp(x), usedUp(maker.make()));
    }
}
