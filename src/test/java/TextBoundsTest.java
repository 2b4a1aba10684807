/** The sentences of "Terms" on texts, and the promises 8 to 10: each boundary that they name. */
public final class TextBoundsTest {
    private static final String ORDER_STARTS = ".abdkr";
    private static final String HEX = "0123456789abcdef";
    private static final String DIGITS = "0123456789";
    private static final String DIGITS_ABOVE_ZERO = "123456789";
    private static final String LINKS = "0123456";
    private static final int MANY_CHARACTERS = 65536;

    public static void main(String[] args) {
        allowedCharacters();
        endsTooEarly();
        numbersAtTheirEnds();
        faultIsTheFirstOne();
        textOfSixty();
        typeAnyCharacter();
        clearOfEachLength();
        clearedTextIsNew();
        twentyOrders();
        sixtyCharacters();
        wordsOfTheText();
        ticksOfTheText();
        delaysOfTheText();
        linksOfTheText();
        oneAfterTheOther();
        faultAheadOfErrors();
        firstErrorOfTheOrders();
        allOrNone();
        nothingToDoIsNoError();
        oneChange();
        textStays();
        performAtTheGreatestTime();
        Checks.end("TextBoundsTest");
    }

    private static void typeAgain(FourPhases x, String text) {
        x.clearText();
        for (int i = 0; i < text.length(); i++) {
            x.type(text.charAt(i));
        }
    }

    /** After a beginning without a fault just these characters are allowed; each other one is the fault. */
    private static void allowed(String beginning, String characters) {
        FourPhases x = new FourPhases();
        x.build(6);
        for (int c = 0; c < MANY_CHARACTERS; c++) {
            typeAgain(x, beginning + (char) c);
            int answer = x.perform();
            boolean fault = answer == -100 - beginning.length();
            boolean due = characters.indexOf((char) c) < 0;
            if (fault != due) {
                Checks.due("perform of " + beginning + " and the character " + c, answer, -100 - beginning.length());
            }
            if (answer >= 0) {
                x.undo();
            }
        }
        Checks.due("length", x.total(14), beginning.length() + 1);
    }

    private static void allowedCharacters() {
        Checks.says("the first character that is not allowed at its place");
        allowed("", ORDER_STARTS);
        allowed("a", HEX);
        allowed("b", HEX);
        allowed("a0", ",");
        allowed("bf", ",");
        allowed("a0,", ORDER_STARTS);
        allowed(".", DIGITS_ABOVE_ZERO);
        allowed(".1", DIGITS + ",");
        allowed(".9", DIGITS + ",");
        allowed(".10", ",");
        allowed(".99", ",");
        allowed("r", LINKS);
        allowed("k", LINKS);
        allowed("d", LINKS);
        allowed("r0", "=");
        allowed("k6", "=");
        allowed("d3=", DIGITS_ABOVE_ZERO);
        allowed("r0=1", DIGITS + ",");
        allowed("r0=2", "0,");
        allowed("k0=3", ",");
        allowed("d6=9", ",");
        allowed("r0=10", ",");
        allowed("r0=19", ",");
        allowed("r0=20", ",");
        allowed("d6=20,", ORDER_STARTS);
    }

    private static void endsTooEarly() {
        Checks.says("or the length of the text if it ends too early (the empty text does)");
        String[] texts = {"", "a", "b", ".", "r", "k", "d", "r0", "k6", "d3=", "a0,", ".99,", "r0=20,", "a0,b", "a0,d0="};
        for (String text : texts) {
            FourPhases x = new FourPhases();
            Checks.due("perform of " + text, Checks.performed(x, text), -100 - text.length());
            Checks.due("history", x.total(13), 0);
        }
        FourPhases untyped = new FourPhases();
        Checks.due("perform when nothing was typed", untyped.perform(), -100);
    }

    private static void numbersAtTheirEnds() {
        Checks.says("Numbers have no zeros ahead; a digit by which a number would be too great is not allowed");
        String[] texts = {".1", ".9", ".10", ".99", ".100", ".990", ".0", ".01", ".00", "r0=1", "r0=9", "r0=10", "r0=19",
            "r0=20", "r0=21", "r0=29", "r0=30", "r0=99", "r0=100", "r0=200", "r0=0", "r0=01", "r0=020", "r00=1", "r01=1"};
        int[] answers = {1, 1, 1, 1, -103, -103, -101, -101, -101, 1, 1, 1, 1,
            1, -104, -104, -104, -104, -105, -105, -103, -103, -103, -102, -102};
        for (int i = 0; i < texts.length; i++) {
            Checks.due("perform of " + texts[i], Checks.performed(new FourPhases(), texts[i]), answers[i]);
        }
    }

    private static void faultIsTheFirstOne() {
        Checks.says("The fault of the text is the index, from 0, of the first character that is not allowed at its place");
        String[] texts = {"x", "a0;x", "a0,x,x", "a0 ,b0", "a0, b0", "A0", "aF", "b0,,b0", ",a0", "r7=1", "r-1=1", "k0:1",
            "k0=x", "d0=1.", "d0==1", "ra=1", ".1.1", ".-1", ".+1", "a0b0", "a00", "s0=1", "r0=2147483648"};
        int[] faults = {0, 2, 3, 2, 3, 0, 1, 3, 0, 1, 1, 2,
            3, 4, 3, 1, 2, 1, 1, 2, 2, 0, 4};
        for (int i = 0; i < texts.length; i++) {
            Checks.due("perform of " + texts[i], Checks.performed(new FourPhases(), texts[i]), -100 - faults[i]);
        }
        String good = "a0,b1,.5,k0=3,d1=9,r0=12,a0,b1,.5,k0=3,d1=9,r0=12,a0,b1,r0=9";
        Checks.due("perform of 60 characters", Checks.performed(new FourPhases(), good), 15);
        for (int at = 0; at < 60; at++) {
            String text = good.substring(0, at) + "?" + good.substring(at + 1);
            Checks.due("perform of " + text, Checks.performed(new FourPhases(), text), -100 - at);
        }
    }

    private static void textOfSixty() {
        Checks.says("There is a text of at most 60 characters, empty at first");
        FourPhases x = new FourPhases();
        Checks.due("length at first", x.total(14), 0);
        for (int i = 1; i <= 60; i++) {
            Checks.due("type", x.type('a'), i);
            Checks.due("length", x.total(14), i);
        }
        for (int i = 0; i < 3; i++) {
            Checks.due("type of one more", x.type('1'), Checks.FULL);
            Checks.due("length", x.total(14), 60);
        }
        Checks.due("the text is as it was", x.perform(), -102);
        Checks.due("length that it had", x.clearText(), 60);
        Checks.due("there is room again", x.type('a'), 1);
    }

    private static void typeAnyCharacter() {
        Checks.says("character: any character");
        char[] some = {0, 1, ' ', 127, 128, 255, 256, 0x130, 0x1ff, 0xd800, 0xdfff, 0xfffe, 0xffff};
        FourPhases x = new FourPhases();
        for (int i = 0; i < some.length; i++) {
            Checks.due("type", x.type(some[i]), i + 1);
        }
        // Signs whose lower byte is that of an allowed one are other signs.
        char[] alike = {(char) ('a' + 256), (char) ('.' + 256), (char) ('r' + 512)};
        for (char sign : alike) {
            Checks.due("perform", Checks.performed(new FourPhases(), sign + "1"), -100);
        }
        Checks.due("perform", Checks.performed(new FourPhases(), "a" + (char) ('1' + 256)), -101);
        Checks.due("perform", Checks.performed(new FourPhases(), "a1" + (char) (',' + 256) + "a1"), -102);
    }

    private static void clearOfEachLength() {
        Checks.says("Returns the length that it had");
        FourPhases x = new FourPhases();
        for (int length = 0; length <= 60; length++) {
            for (int i = 0; i < length; i++) {
                x.type(',');
            }
            Checks.due("clearText()", x.clearText(), length);
            Checks.due("clearText() of the empty one", x.clearText(), 0);
        }
        Checks.due("no change", x.total(13), 0);
    }

    private static void clearedTextIsNew() {
        Checks.says("Empties the text");
        FourPhases x = new FourPhases();
        Checks.due("two orders", Checks.performed(x, "a1,b2"), 2);
        Checks.due("a shorter one", Checks.performed(x, ".1"), 1);
        Checks.due("nothing of the old one", Checks.performed(x, "a"), -101);
        Checks.due("empty", Checks.performed(x, ""), -100);
    }

    private static String orders(String order, int count) {
        StringBuilder text = new StringBuilder();
        for (int i = 0; i < count; i++) {
            text.append(i == 0 ? "" : ",").append(order);
        }
        return text.toString();
    }

    private static void twentyOrders() {
        Checks.says("It is a list of one or more orders with \",\" between two");
        for (int count = 1; count <= 20; count++) {
            FourPhases x = new FourPhases();
            Checks.due(count + " orders", Checks.performed(x, orders("b7", count)), count);
            Checks.due("waiting", x.total(2), count - 1);
            Checks.due("a comma behind them", Checks.performed(x, orders("b7", count) + ","), -100 - 3 * count);
            Checks.due("waiting", x.total(2), count - 1);
        }
    }

    private static void sixtyCharacters() {
        Checks.says("There is a text of at most 60 characters");
        FourPhases x = new FourPhases();
        Checks.due("19 orders in 60 characters", Checks.performed(x, orders("a1", 17) + ",r0=20,.99"), 19);
        Checks.due("length", x.total(14), 60);
        Checks.due("time", x.total(1), 99);
        Checks.due("the last character counts", Checks.performed(x, orders("a1", 17) + ",r0=20,.9x"), -159);
        Checks.due("it ends too early", Checks.performed(x, orders("a1", 18) + ",r0=10,"), -160);
        Checks.due("time", x.total(1), 99);
    }

    private static void wordsOfTheText() {
        Checks.says("\"a\" or \"b\" and a digit in base 16 (\"0\" to \"9\", \"a\" to \"f\"): a word of the sender 0 or 1");
        for (int sender = 0; sender <= 1; sender++) {
            for (int word = 0; word <= 15; word++) {
                FourPhases x = new FourPhases();
                String text = (sender == 0 ? "a" : "b") + HEX.charAt(word);
                Checks.due("perform of " + text, Checks.performed(x, text + "," + text), 2);
                Checks.due("data", x.link(0, 7), 16 * sender + word);
                Checks.due("waiting", x.waiting(sender, 0), word);
                Checks.due("the other", x.waiting(1 - sender, 0), Checks.NONE);
            }
        }
    }

    private static void ticksOfTheText() {
        Checks.says("\".\" and a number from 1 to 99: so many ticks go by");
        for (int ticks = 1; ticks <= 99; ticks++) {
            FourPhases x = new FourPhases();
            Checks.due("perform", Checks.performed(x, "." + ticks), 1);
            Checks.due("time", x.total(1), ticks);
        }
    }

    private static void delaysOfTheText() {
        Checks.says("\"r\", \"k\" or \"d\", a digit for a link (0 to 6), \"=\" and a number from 1 to 20: the delay");
        for (int link = 0; link <= 6; link++) {
            for (int wire = 0; wire < 3; wire++) {
                FourPhases x = new FourPhases();
                x.build(6);
                for (int delay = 1; delay <= 20; delay++) {
                    String text = "rkd".substring(wire, wire + 1) + link + "=" + delay;
                    Checks.due("perform of " + text, Checks.performed(x, text), 1);
                    Checks.due("delay", x.link(link, wire), delay);
                    Checks.due("another wire", x.link(link, (wire + 1) % 3), 2);
                    Checks.due("another link", x.link((link + 1) % 7, wire), 2);
                }
            }
        }
    }

    private static void linksOfTheText() {
        Checks.says("all of them, or none if one of them returns an error");
        for (int n = 1; n <= 6; n++) {
            for (int link = 0; link <= 6; link++) {
                FourPhases x = new FourPhases();
                x.build(n);
                int due = link <= n ? 1 : Checks.UNKNOWN;
                Checks.due("perform with " + n + " stages, link " + link, Checks.performed(x, "k" + link + "=20"), due);
                Checks.due("the same delay", Checks.performed(x, "k" + link + "=2"), due);
                Checks.due("history", x.total(13), link <= n ? 3 : 1);
            }
        }
    }

    private static void oneAfterTheOther() {
        Checks.says("Carries out the orders of the text, one after the other, as add(), run() and setDelay()");
        FourPhases x = new FourPhases();
        Checks.due("perform", Checks.performed(x, "a1,.3,r1=20,.2,k0=20,a2,.4,d0=1,b3"), 9);
        Checks.due("time", x.total(1), 9);
        Checks.due("the request of the link 1 had its delay of 2, and was taken", x.stage(1), 1);
        Checks.due("so the stage 0 is empty", x.stage(0), Checks.NONE);
        Checks.due("the request 0 of the link 0 is there", x.link(0, 4), 0);
        Checks.due("the answer 0 takes 20 from 7 on", x.link(0, 9), 0);
        Checks.due("both wait", x.waiting(0, 0) * 16 + x.waiting(1, 0), 2 * 16 + 3);
        Checks.turnsAt("at rest, and offered", 27, () -> {
            FourPhases y = new FourPhases();
            Checks.performed(y, "a1,.3,r1=20,.2,k0=20,a2,.4,d0=1,b3");
            return y;
        }, y -> y.link(0, 7), 1, 19);
    }

    private static void faultAheadOfErrors() {
        Checks.says("-100 minus the fault of the text if it has one; otherwise the error of the first order that returns one");
        FourPhases x = new FourPhases();
        Checks.due("an error and a fault", Checks.performed(x, "r4=5,x"), -105);
        Checks.due("an error and an early end", Checks.performed(x, "r4=5,"), -105);
        Checks.due("the error alone", Checks.performed(x, "r4=5"), Checks.UNKNOWN);
        Checks.due("history", x.total(13), 0);
    }

    /** Both rows have 20 words, and the link 0 is not at rest. */
    private static FourPhases fullRows() {
        FourPhases x = new FourPhases();
        for (int i = 0; i <= 20; i++) {
            x.add(0, i % 16);
        }
        for (int i = 1; i <= 20; i++) {
            x.add(1, i % 16);
        }
        return x;
    }

    private static void firstErrorOfTheOrders() {
        Checks.says("otherwise the error of the first order that returns one");
        Checks.due("FULL is first", Checks.performed(fullRows(), "a1,r4=5"), Checks.FULL);
        Checks.due("UNKNOWN is first", Checks.performed(fullRows(), "r4=5,a1"), Checks.UNKNOWN);
        Checks.due("NONE is passed by", Checks.performed(fullRows(), "r3=2,b1,r4=5"), Checks.FULL);
        Checks.due("a good one is passed by", Checks.performed(fullRows(), "r3=3,.1,d4=5,a1"), Checks.UNKNOWN);
        Checks.due("room by the ticks of the text", Checks.performed(fullRows(), ".9,b1"), 2);
        Checks.due("not a tick too early", Checks.performed(fullRows(), ".8,b1"), Checks.FULL);
        Checks.due("not for the other sender", Checks.performed(fullRows(), ".9,a1"), Checks.FULL);
        Checks.due("and for one word alone", Checks.performed(fullRows(), ".9,b1,b2"), Checks.FULL);
    }

    private static void allOrNone() {
        Checks.says("all of them, or none if one of them returns an error");
        String[] texts = {"a1,b2,.9,k0=3,r4=5", ".99,.99,.99,d4=1", "r0=1,k1=5,d2=7,r3=9,k4=2", "k4=1"};
        for (String text : texts) {
            Checks.Maker maker = () -> {
                FourPhases x = new FourPhases();
                x.set(1, 5);
                x.add(0, 3);
                x.add(1, 4);
                x.run(4);
                x.keep();
                x.add(1, 5);
                Checks.typeAll(x, text);
                return x;
            };
            Checks.changesNothing("perform of " + text, maker, x -> x.perform(), Checks.UNKNOWN);
        }
        Checks.Maker full = () -> {
            FourPhases x = fullRows();
            Checks.typeAll(x, "k0=3,.9,b1,a2");
            return x;
        };
        Checks.changesNothing("perform with full rows", full, x -> x.perform(), Checks.FULL);
        Checks.Maker fault = () -> {
            FourPhases x = fullRows();
            Checks.typeAll(x, "k0=3,.9,b1;");
            return x;
        };
        Checks.changesNothing("perform with a fault", fault, x -> x.perform(), -110);
    }

    private static void nothingToDoIsNoError() {
        Checks.says("(An order that returns NONE does nothing, and is no error.)");
        FourPhases x = new FourPhases();
        Checks.due("perform", Checks.performed(x, "r0=2,a1,k0=2,.3,d0=2"), 5);
        Checks.due("the others are done", x.stage(0), 1);
        Checks.due("perform", Checks.performed(x, "r0=2,r0=3,r0=3,r0=2"), 4);
        Checks.due("delay", x.link(0, 0), 2);
    }

    private static void oneChange() {
        Checks.says("This is one change, also if each order returns NONE");
        String[] texts = {"r0=2", "r0=2,k1=2,d3=2", "a1", ".1", "r0=3", "a1,b2,.3,r0=4,k0=5,d0=6,.9,a7"};
        for (String text : texts) {
            FourPhases x = new FourPhases();
            x.add(0, 9);
            x.run(1);
            String before = Checks.seen(x);
            Checks.typeAll(x, text);
            Checks.due("perform of " + text, x.perform() > 0 ? 1 : 0, 1);
            Checks.due("history", x.total(13), 3);
            Checks.due("undo", x.undo(), 2);
            Checks.due("the text stays", x.clearText(), text.length());
            Checks.same("the state", Checks.seen(x), before);
        }
    }

    private static void textStays() {
        Checks.says("Carries out the orders of the text, which stays");
        FourPhases x = new FourPhases();
        Checks.typeAll(x, "a1,.9");
        for (int i = 1; i <= 6; i++) {
            Checks.due("perform", x.perform(), 2);
            Checks.due("length", x.total(14), 5);
            Checks.due("time", x.total(1), 9 * i);
            Checks.due("offered", x.total(5), i);
            Checks.due("history", x.total(13), Math.min(i, 4));
        }
        Checks.due("a character behind it", x.type('9'), 6);
        Checks.due("perform", x.perform(), 2);
        Checks.due("time", x.total(1), 54 + 99);
    }

    private static void performAtTheGreatestTime() {
        Checks.says("FULL if the time would be greater than 1000000");
        FourPhases x = Checks.until(new FourPhases(), 999999);
        x.keep();
        Checks.due("beyond", Checks.performed(x, ".2"), Checks.FULL);
        Checks.due("beyond by two orders", Checks.performed(x, "a1,.1,.1"), Checks.FULL);
        Checks.due("time", x.total(1), 999999);
        Checks.due("nothing was offered", x.total(5), 0);
        Checks.due("to the greatest time", Checks.performed(x, "a1,.1"), 2);
        Checks.due("time", x.total(1), 1000000);
        Checks.due("beyond", Checks.performed(x, ".1"), Checks.FULL);
        Checks.due("words and delays are taken there", Checks.performed(x, "a2,r0=1"), 2);
        Checks.due("waiting", x.waiting(0, 0), 2);
    }
}
