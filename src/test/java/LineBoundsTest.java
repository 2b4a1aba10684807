/** The sentences of "Terms" on the line, on talking and on settings: each boundary that they name. */
public final class LineBoundsTest {
    private static final int[] DELAYS = {1, 2, 19, 20};
    private static final int[] EXTRAS = {0, 1, 19, 20};

    public static void main(String[] args) {
        stagesAndLinks();
        linksLeadToStages();
        leastAndGreatestData();
        allZeroAtFirst();
        delaysAtFirst();
        delaysOfALink();
        leadOfARequest();
        thinkOfTheReceiver();
        sameTimeDataAndRequest();
        sameTimeOlderAndYoungerData();
        sameTimeAnswerAndData();
        sameTimeRequestZeroAheadOfAnswer();
        sameTimeAnswerAheadOfOffer();
        allThatIsCausedIsDoneAhead();
        twentyWait();
        wordsOnDataWires();
        dataThatShowTheWordAlready();
        notAtRestOnceOffered();
        tooEarlyByOneTick();
        requestWaitsForData();
        takenAndOfferedAtOnce();
        takenAndNotOffered();
        emptyWhenTheAnswerIsThere();
        offeredWhenAtRest();
        waiterAtOnce();
        waiterInTurns();
        waiterSenderZeroFirst();
        rightInItsPlace();
        mostChangesUnderWay();
        quietOnlyWithoutChanges();
        nothingIsLeftWhenQuiet();
        settingsAtFirst();
        settingsCountFromThenOn();
        delaysCountFromThenOn();
        runCountsItsNotes();
        runUpToTheTime();
        finishToTheLastChange();
        Checks.end("LineBoundsTest");
    }

    /** One stage, so that the link 0 goes to the stage and the link 1 to the receiver. */
    private static FourPhases oneStage(int lead, int think) {
        FourPhases x = new FourPhases();
        x.build(1);
        x.set(0, lead);
        x.set(1, think);
        return x;
    }

    private static FourPhases built(int stages) {
        FourPhases x = new FourPhases();
        x.build(stages);
        return x;
    }

    private static void stagesAndLinks() {
        Checks.says("n stages (1 to 6; 3 at first), numbered from 0, and n + 1 links, numbered from 0");
        FourPhases first = new FourPhases();
        Checks.due("stages at first", first.total(0), 3);
        Checks.due("stage(2)", first.stage(2), Checks.NONE);
        Checks.due("stage(3)", first.stage(3), Checks.UNKNOWN);
        Checks.due("link(3, 0)", first.link(3, 0), 2);
        Checks.due("link(4, 0)", first.link(4, 0), Checks.UNKNOWN);
        for (int n = 1; n <= 6; n++) {
            FourPhases x = built(n);
            Checks.due("stages", x.total(0), n);
            Checks.due("the first stage", x.stage(0), Checks.NONE);
            Checks.due("the last stage", x.stage(n - 1), Checks.NONE);
            Checks.due("the next one", x.stage(n), Checks.UNKNOWN);
            Checks.due("the first link", x.link(0, 9), 1);
            Checks.due("the last link", x.link(n, 9), 1);
            Checks.due("the next one", x.link(n + 1, 9), Checks.UNKNOWN);
        }
    }

    private static void linksLeadToStages() {
        Checks.says("the link k goes to the stage k, the link n to the receiver");
        for (int n = 1; n <= 6; n++) {
            int stages = n;
            Checks.Maker oneWord = () -> {
                FourPhases x = built(stages);
                x.add(0, 7);
                return x;
            };
            for (int k = 0; k < n; k++) {
                int stage = k;
                Checks.turnsAt("the stage " + k, 3 * k + 3, oneWord, x -> x.stage(stage), Checks.NONE, 7);
                Checks.turnsAt("the request of the link " + (k + 1), 3 * k + 3, oneWord, x -> x.link(stage + 1, 3), 0, 1);
                Checks.turnsAt("the stage " + k, 3 * k + 8, oneWord, x -> x.stage(stage), 7, Checks.NONE);
            }
            Checks.turnsAt("words noted of " + n, 3 * n + 3, oneWord, x -> x.total(6), 0, 1);
            Checks.turnsAt("changes of " + n, 3 * n + 9, oneWord, x -> x.total(4), 1, 0);
            Checks.due("changes that arrived", Checks.until(oneWord.make(), 3 * n + 9).total(8), 5 * (n + 1));
        }
    }

    private static void leastAndGreatestData() {
        Checks.says("the data (0 to 31)");
        FourPhases x = built(6);
        int[] senders = {1, 0, 1};
        int[] words = {15, 0, 15};
        int[] data = {31, 0, 31};
        for (int i = 0; i < 3; i++) {
            x.add(senders[i], words[i]);
            Checks.due("data at the beginning", x.link(0, 7), data[i]);
            x.run(3);
            Checks.due("data at the end", x.link(0, 8), data[i]);
            Checks.due("the stage", x.stage(0), data[i]);
            x.finish();
            Checks.due("data of the receiver", x.link(6, 8), data[i]);
            Checks.due("the note", x.noted(0, 0), data[i]);
            Checks.due("it is right", x.noted(0, 2), 1);
        }
    }

    private static void allZeroAtFirst() {
        Checks.says("At first all wires are 0 at both ends, all links are at rest, and all stages are empty");
        for (int n = 0; n <= 6; n++) {
            FourPhases x = n == 0 ? new FourPhases() : built(n);
            for (int k = 0; k <= x.total(0); k++) {
                for (int what = 3; what <= 8; what++) {
                    Checks.due("link(" + k + ", " + what + ")", x.link(k, what), 0);
                }
                Checks.due("at rest", x.link(k, 9), 1);
                Checks.due("a request waits", x.link(k, 10), 0);
                Checks.due("offered", x.link(k, 11), 0);
                Checks.due("the stage", x.stage(k), k < x.total(0) ? Checks.NONE : Checks.UNKNOWN);
            }
        }
    }

    private static void delaysAtFirst() {
        Checks.says("Each wire has a delay of 1 to 20 ticks (2 at first)");
        for (int n = 1; n <= 6; n++) {
            FourPhases x = built(n);
            for (int k = 0; k <= n; k++) {
                for (int wire = 0; wire < 3; wire++) {
                    Checks.due("delay", x.link(k, wire), 2);
                    Checks.due("0 ticks", x.setDelay(k, wire, 0), Checks.OUT_OF_RANGE);
                    Checks.due("21 ticks", x.setDelay(k, wire, 21), Checks.OUT_OF_RANGE);
                    Checks.due("1 tick", x.setDelay(k, wire, 1), 2);
                    Checks.due("delay", x.link(k, wire), 1);
                    Checks.due("20 ticks", x.setDelay(k, wire, 20), 1);
                    Checks.due("delay", x.link(k, wire), 20);
                }
            }
        }
    }

    /** All four steps on both links, with each delay at its least and at its greatest. */
    private static void delaysOfALink() {
        Checks.says("arrives at its other end at t plus the delay");
        for (int request : DELAYS) {
            for (int answer : DELAYS) {
                for (int data : DELAYS) {
                    oneLink(request, answer, data);
                }
            }
        }
    }

    private static void oneLink(int request, int answer, int data) {
        Checks.Maker maker = () -> {
            FourPhases x = oneStage(0, 0);
            for (int k = 0; k <= 1; k++) {
                x.setDelay(k, 0, request);
                x.setDelay(k, 1, answer);
                x.setDelay(k, 2, data);
            }
            x.add(1, 15);
            return x;
        };
        Checks.turnsAt("data of the link 0", data, maker, x -> x.link(0, 8), 0, 31);
        int taken = request;
        Checks.turnsAt("request 1", taken, maker, x -> x.link(0, 4), 0, 1);
        Checks.turnsAt("answer 1 where it is made", taken, maker, x -> x.link(0, 5), 0, 1);
        Checks.turnsAt("answer 1", taken + answer, maker, x -> x.link(0, 6), 0, 1);
        Checks.turnsAt("request 0 where it is made", taken + answer, maker, x -> x.link(0, 3), 1, 0);
        Checks.turnsAt("request 0", taken + answer + request, maker, x -> x.link(0, 4), 1, 0);
        Checks.turnsAt("answer 0 where it is made", taken + answer + request, maker, x -> x.link(0, 5), 1, 0);
        Checks.turnsAt("answer 0", taken + 2 * answer + request, maker, x -> x.link(0, 6), 1, 0);
        Checks.turnsAt("at rest", taken + 2 * answer + request, maker, x -> x.link(0, 9), 0, 1);
        int word = data <= request ? 31 : 0;
        Checks.turnsAt("the word offered by the stage", taken, maker, x -> x.link(1, 3) * 32 + x.link(1, 7), 0, 32 + word);
        int noted = 2 * request;
        Checks.turnsAt("notes", noted, maker, x -> x.total(6), 0, 1);
        Checks.turnsAt("answer 1 of the receiver", noted + answer, maker, x -> x.link(1, 6), 0, 1);
        Checks.turnsAt("request 0 to the receiver", noted + answer + request, maker, x -> x.link(1, 4), 1, 0);
        Checks.turnsAt("answer 0 of the receiver", noted + 2 * answer + request, maker, x -> x.link(1, 6), 1, 0);
    }

    private static void leadOfARequest() {
        Checks.says("then the request becomes 1, which takes LEAD ticks (see the settings) longer than its delay");
        for (int lead : EXTRAS) {
            Checks.Maker maker = () -> {
                FourPhases x = oneStage(lead, 0);
                x.add(0, 3);
                return x;
            };
            Checks.turnsAt("data without LEAD", 2, maker, x -> x.link(0, 8), 0, 3);
            Checks.turnsAt("request 1 with LEAD", 2 + lead, maker, x -> x.link(0, 4), 0, 1);
            Checks.turnsAt("answer 1 without LEAD", 4 + lead, maker, x -> x.link(0, 6), 0, 1);
            Checks.turnsAt("request 0 without LEAD", 6 + lead, maker, x -> x.link(0, 4), 1, 0);
            Checks.turnsAt("answer 0 without LEAD", 8 + lead, maker, x -> x.link(0, 9), 0, 1);
            Checks.turnsAt("request 1 of the stage with LEAD", 4 + 2 * lead, maker, x -> x.total(6), 0, 1);
        }
    }

    private static void thinkOfTheReceiver() {
        Checks.says("the answer becomes 1, which takes THINK ticks longer than its delay");
        for (int think : EXTRAS) {
            Checks.Maker maker = () -> {
                FourPhases x = oneStage(0, think);
                x.add(0, 3);
                return x;
            };
            Checks.turnsAt("a stage does not think", 4, maker, x -> x.link(0, 6), 0, 1);
            Checks.turnsAt("the note", 4, maker, x -> x.total(6), 0, 1);
            Checks.due("the receiver takes at once", Checks.until(maker.make(), 4).link(1, 10), 0);
            Checks.turnsAt("the answer is made at once", 4, maker, x -> x.link(1, 5), 0, 1);
            Checks.turnsAt("answer 1 with THINK", 6 + think, maker, x -> x.link(1, 6), 0, 1);
            Checks.says("the answer becomes 0 (also that of the receiver, without THINK)");
            Checks.turnsAt("request 0", 8 + think, maker, x -> x.link(1, 4), 1, 0);
            Checks.turnsAt("answer 0", 10 + think, maker, x -> x.link(1, 6), 1, 0);
            Checks.says("the answer becomes 1, which takes THINK ticks longer than its delay");
        }
    }

    private static void sameTimeDataAndRequest() {
        Checks.says("Changes that arrive at the same time arrive one after the other, in the order in which they were made");
        for (int delay : DELAYS) {
            for (int lead : EXTRAS) {
                if (delay + lead > 20) {
                    continue;
                }
                FourPhases x = oneStage(lead, 0);
                x.setDelay(0, 0, delay);
                x.setDelay(0, 2, delay + lead);
                x.add(0, 6);
                Checks.due("all of the same tick", x.run(delay + lead), 0);
                Checks.due("two arrived", x.total(8), 2);
                Checks.due("the data are there", x.stage(0), 6);
            }
        }
    }

    private static void sameTimeOlderAndYoungerData() {
        Checks.says("Changes that arrive at the same time arrive one after the other, in the order in which they were made");
        // The word 1 is offered at 0, its data come at 20; the link is at rest at 9 and offers the word 2.
        int[] delays = {10, 11, 12};
        int[] showAt20 = {1, 2, 1};
        int[] showAt21 = {1, 2, 2};
        for (int i = 0; i < 3; i++) {
            FourPhases x = oneStage(1, 0);
            x.setDelay(0, 2, 20);
            x.add(0, 1);
            x.add(0, 2);
            x.setDelay(0, 2, delays[i]);
            x.run(20);
            Checks.due("data that took " + delays[i] + ", at 20", x.link(0, 8), showAt20[i]);
            x.run(1);
            Checks.due("data that took " + delays[i] + ", at 21", x.link(0, 8), showAt21[i]);
        }
    }

    private static void sameTimeAnswerAndData() {
        Checks.says("Changes that arrive at the same time arrive one after the other, in the order in which they were made");
        // Noted at 6, so the answer to the word 1 is made then; the data of the word 2 are made at 9, both come at 19.
        FourPhases answerFirst = oneStage(1, 11);
        answerFirst.add(0, 1);
        answerFirst.add(0, 2);
        answerFirst.setDelay(0, 2, 10);
        answerFirst.run(18);
        Checks.due("the request waits", answerFirst.link(0, 10), 1);
        answerFirst.run(1);
        Checks.due("the answer first", answerFirst.stage(0), 1);
        Checks.due("the data then", answerFirst.link(0, 8), 2);
        // Noted at 24, the answer is made then; the data of the word 2 are made at 9, both come at 29.
        FourPhases dataFirst = oneStage(1, 0);
        dataFirst.add(0, 1);
        dataFirst.add(0, 2);
        dataFirst.setDelay(0, 2, 20);
        dataFirst.setDelay(1, 0, 20);
        dataFirst.setDelay(1, 1, 5);
        dataFirst.run(28);
        Checks.due("the request waits", dataFirst.link(0, 10), 1);
        Checks.due("the data of the word 1", dataFirst.link(0, 8), 1);
        dataFirst.run(1);
        Checks.due("the data first", dataFirst.stage(0), 2);
    }

    /**
     * The order within a tick counts far on: the request 0 of the link 2 and the answer 1 of the link 1 are made at 13,
     * in this order; so at 19 the note comes ahead of the offer on the link 1, and at 26 the answer 1 of the link 2
     * ahead of the data of the link 1, which the stage 1 misses by that.
     */
    private static void sameTimeRequestZeroAheadOfAnswer() {
        Checks.says("the request becomes 0; the stage there is empty then; then, if a request waits on the link to it, it takes");
        FourPhases x = built(2);
        x.set(0, 0);
        x.set(1, 5);
        x.setDelay(1, 2, 7);
        x.add(0, 3);
        x.add(0, 4);
        x.add(0, 5);
        x.run(25);
        Checks.due("the request waits", x.link(1, 10), 1);
        Checks.due("data of the word 4", x.link(1, 8), 4);
        x.run(1);
        Checks.due("taken ahead of the data", x.stage(1), 4);
        Checks.due("data of the word 5", x.link(1, 8), 5);
        notes("one behind", x, new int[] {0, 3, 4});
        Checks.due("the time", x.noted(1, 1), 19);
        Checks.due("right ones", x.total(7), 0);
    }

    /**
     * The stage 2 takes at 18: its answer is made ahead of its offer, so at 20 the stage 1 takes ahead of the note; so
     * at 36 it takes the word 6 and offers it ahead of the note of the word 5, and at 38 its data come ahead of the
     * answer by which the stage 2 takes them.
     */
    private static void sameTimeAnswerAheadOfOffer() {
        Checks.says("it is full, with this word; the answer becomes 1; then, if its next link is at rest, it offers");
        FourPhases x = new FourPhases();
        x.set(0, 0);
        x.setDelay(2, 0, 14);
        for (int word = 3; word <= 6; word++) {
            x.add(0, word);
        }
        x.run(11);
        x.setDelay(2, 0, 1);
        x.run(26);
        Checks.due("time", x.total(1), 37);
        Checks.due("the request waits", x.link(2, 10), 1);
        Checks.due("the data of the word 5", x.link(2, 8), 5);
        x.run(1);
        Checks.due("taken with the data of the word 6", x.stage(2), 6);
        notes("in a row", x, new int[] {3, 3, 4, 6});
        int[] rights = {1, 0, 0, 1};
        for (int i = 0; i < 4; i++) {
            Checks.due("right " + i, x.noted(3 - i, 2), rights[i]);
        }
    }

    private static void allThatIsCausedIsDoneAhead() {
        Checks.says("When a change arrives, all that it causes at once is done ahead of the next one");
        FourPhases x = oneStage(1, 0);
        x.setDelay(0, 0, 1);
        x.setDelay(0, 1, 1);
        x.setDelay(0, 2, 1);
        x.add(0, 1);
        x.add(0, 2);
        // At 7 arrive the answer 1 to the word 1 (noted at 5) and the request 1 of the word 2 (offered at 5).
        x.run(6);
        Checks.due("noted at 5", x.noted(0, 1), 5);
        Checks.due("the stage", x.stage(0), 1);
        Checks.due("next", x.next(), 7);
        x.run(1);
        Checks.due("empty ahead of the request, so it takes", x.stage(0), 2);
        Checks.due("no request waits", x.link(0, 10), 0);
        Checks.due("the request of the word 1 is 0", x.link(1, 3), 0);
        Checks.due("the answer to the word 2 is 1", x.link(0, 5), 1);
        Checks.due("not offered, as the link 1 is not at rest", x.link(1, 11), 1);
    }

    private static void twentyWait() {
        Checks.says("each with a row of words (0 to 15) that wait, at most 20");
        FourPhases x = new FourPhases();
        Checks.due("the first one is let go at once", x.add(0, 1), 0);
        for (int i = 1; i <= 20; i++) {
            Checks.due("sender 0", x.add(0, i % 16), i);
            Checks.due("sender 1", x.add(1, 15 - i % 16), i);
        }
        Checks.due("the 21st of the sender 0", x.add(0, 0), Checks.FULL);
        Checks.due("the 21st of the sender 1", x.add(1, 0), Checks.FULL);
        Checks.due("waiting", x.total(2), 40);
        Checks.due("ahead of the next turn", x.run(8), 0);
        Checks.due("still the 21st", x.add(1, 0), Checks.FULL);
        Checks.due("the next turn, of the sender 1", x.run(1), 0);
        Checks.due("there is room", x.add(1, 14), 20);
        Checks.due("and none in the other row", x.add(0, 0), Checks.FULL);
        Checks.due("the last place", x.waiting(1, 19), 14);
        Checks.due("waiting", x.total(2), 40);
        x.finish();
        Checks.due("noted", x.total(6), 42);
        Checks.due("right", x.total(7), 42);
    }

    private static void wordsOnDataWires() {
        Checks.says("A word w of the sender s is 16 * s + w on the data wires");
        for (int sender = 0; sender <= 1; sender++) {
            FourPhases x = new FourPhases();
            for (int word = 0; word <= 15; word++) {
                x.add(sender, word);
                Checks.due("data", x.link(0, 7), 16 * sender + word);
                x.finish();
                Checks.due("noted", x.noted(0, 0), 16 * sender + word);
                Checks.due("right", x.noted(0, 2), 1);
            }
        }
    }

    private static void dataThatShowTheWordAlready() {
        Checks.says("the data become the word (this is a change, also if they show it already)");
        FourPhases x = new FourPhases();
        for (int i = 1; i <= 3; i++) {
            x.add(0, 0);
            Checks.due("under way", x.total(4), 2);
            Checks.due("next are the data", x.next() - x.total(1), 2);
            x.run(2);
            Checks.due("they arrived", x.total(8), 20 * (i - 1) + 1);
            x.finish();
            Checks.due("all arrived", x.total(8), 20 * i);
        }
    }

    private static void notAtRestOnceOffered() {
        Checks.says("The link is not at rest any more");
        FourPhases x = new FourPhases();
        Checks.due("at rest", x.link(0, 9), 1);
        x.add(1, 0);
        Checks.due("not at rest", x.link(0, 9), 0);
        Checks.due("the link 1 is", x.link(1, 9), 1);
        Checks.due("the next word waits", x.add(1, 1), 1);
        Checks.due("words offered on it", x.link(0, 11), 1);
        Checks.turnsAt("the link 1", 3, () -> {
            FourPhases y = new FourPhases();
            y.add(1, 0);
            return y;
        }, y -> y.link(1, 9), 1, 0);
    }

    private static void tooEarlyByOneTick() {
        Checks.says("if the stage there is empty, it takes what the data show there at this time");
        for (int lead : EXTRAS) {
            for (int request = 1; request + lead <= 20; request += 3) {
                for (int data = request + lead; data <= Math.min(20, request + lead + 1); data++) {
                    FourPhases x = oneStage(lead, 0);
                    x.setDelay(0, 0, request);
                    x.setDelay(0, 2, data);
                    boolean inTime = data == request + lead;
                    x.add(1, 9);
                    x.run(request + lead);
                    Checks.due("the stage, with data of " + data, x.stage(0), inTime ? 25 : 0);
                    Checks.due("in time", x.link(0, 12), inTime ? 1 : 0);
                    x.run(1);
                    Checks.due("the stage, when the data are there", x.stage(0), inTime ? 25 : 0);
                    Checks.due("the data are there", x.link(0, 8), 25);
                    x.finish();
                    Checks.due("noted", x.noted(0, 0), inTime ? 25 : 0);
                    Checks.due("right", x.noted(0, 2), inTime ? 1 : 0);
                }
            }
        }
    }

    private static void requestWaitsForData() {
        Checks.says("If it is full, the request waits (when it is taken later, it is what the data show then)");
        // The request of the word 2 comes at 12; the answer 1 that empties the stage is made at 24 and comes at 28.
        for (int data = 18; data <= 20; data++) {
            FourPhases x = oneStage(1, 0);
            x.setDelay(1, 0, 20);
            x.setDelay(1, 1, 4);
            x.add(0, 1);
            x.add(0, 2);
            x.setDelay(0, 2, data);
            x.run(11);
            Checks.due("no request yet", x.link(0, 10), 0);
            x.run(1);
            Checks.due("the request waits", x.link(0, 10), 1);
            Checks.due("the stage stays", x.stage(0), 1);
            Checks.due("no answer", x.link(0, 5), 0);
            x.run(15);
            Checks.due("the request still waits", x.link(0, 10), 1);
            x.run(1);
            Checks.due("no request waits", x.link(0, 10), 0);
            Checks.due("taken with data that came at " + (9 + data), x.stage(0), data == 20 ? 1 : 2);
            Checks.due("the answer", x.link(0, 5), 1);
        }
    }

    private static void takenAndOfferedAtOnce() {
        Checks.says("it is full, with this word; the answer becomes 1; then, if its next link is at rest, it offers");
        FourPhases x = new FourPhases();
        x.add(1, 0);
        x.run(2);
        Checks.due("the stage", x.stage(0), Checks.NONE);
        Checks.due("the request is under way", x.total(4), 1);
        x.run(1);
        Checks.due("the stage", x.stage(0), 16);
        Checks.due("full stages", x.total(3), 1);
        Checks.due("answer 1", x.link(0, 5), 1);
        Checks.due("offered", x.link(1, 11), 1);
        Checks.due("data", x.link(1, 7), 16);
        Checks.due("request 1", x.link(1, 3), 1);
        Checks.due("an answer, data and a request", x.total(4), 3);
    }

    private static void takenAndNotOffered() {
        Checks.says("then, if its next link is at rest, it offers its word on it");
        // The stage is empty again at 8 + THINK, the link 1 is at rest at 12 + THINK; the request 2 comes at 12.
        int[] thinks = {0, 1, 3, 4, 5};
        int[] takenAt = {12, 12, 12, 12, 13};
        int[] offeredAt = {12, 13, 15, 16, 17};
        for (int i = 0; i < thinks.length; i++) {
            int think = thinks[i];
            Checks.Maker maker = () -> {
                FourPhases x = oneStage(1, think);
                x.add(0, 1);
                x.add(0, 2);
                return x;
            };
            Checks.turnsAt("the stage, THINK " + think, takenAt[i], maker, x -> x.stage(0) == 2 ? 1 : 0, 0, 1);
            Checks.turnsAt("offered, THINK " + think, offeredAt[i], maker, x -> x.link(1, 11), 1, 2);
            Checks.turnsAt("its request, THINK " + think, offeredAt[i] + 3, maker, x -> x.total(6), 1, 2);
        }
    }

    private static void emptyWhenTheAnswerIsThere() {
        Checks.says("the request becomes 0; the stage there is empty then; then, if a request waits on the link to it, it takes");
        Checks.Maker one = () -> {
            FourPhases x = oneStage(1, 7);
            x.add(0, 1);
            return x;
        };
        Checks.turnsAt("the stage", 15, one, x -> x.stage(0), 1, Checks.NONE);
        Checks.turnsAt("the request", 15, one, x -> x.link(1, 3), 1, 0);
        Checks.Maker two = () -> {
            FourPhases x = one.make();
            x.add(0, 2);
            return x;
        };
        Checks.turnsAt("a request waits", 12, two, x -> x.link(0, 10), 0, 1);
        Checks.turnsAt("a request waits", 15, two, x -> x.link(0, 10), 1, 0);
        Checks.turnsAt("the stage", 15, two, x -> x.stage(0), 1, 2);
        Checks.turnsAt("the answer", 15, two, x -> x.link(0, 5), 0, 1);
        Checks.due("full all the time", Checks.until(two.make(), 15).total(3), 1);
    }

    private static void offeredWhenAtRest() {
        Checks.says("the link is at rest; then, if the stage there is full, it offers its word");
        Checks.Maker two = () -> {
            FourPhases x = oneStage(1, 7);
            x.add(0, 1);
            x.add(0, 2);
            return x;
        };
        Checks.turnsAt("the link 1 offers", 19, two, x -> x.link(1, 11), 1, 2);
        Checks.due("it is not at rest then", Checks.until(two.make(), 19).link(1, 9), 0);
        Checks.Maker one = () -> {
            FourPhases x = oneStage(1, 7);
            x.add(0, 1);
            return x;
        };
        Checks.turnsAt("the link 1 is at rest", 19, one, x -> x.link(1, 9), 0, 1);
        Checks.due("an empty stage offers nothing", Checks.until(one.make(), 19).link(1, 11), 1);
    }

    private static void waiterAtOnce() {
        Checks.says("as soon as this link is at rest, and a sender has a word that waits, it offers the first word");
        Checks.Maker two = () -> {
            FourPhases x = new FourPhases();
            x.add(1, 5);
            x.add(1, 6);
            return x;
        };
        Checks.turnsAt("the word waits", 9, two, x -> x.total(2), 1, 0);
        Checks.turnsAt("offered by the waiter", 9, two, x -> x.total(5), 1, 2);
        Checks.turnsAt("data", 9, two, x -> x.link(0, 7), 21, 22);
        Checks.says("(Also as soon as a word is added while the link 0 is at rest.)");
        for (int time = 7; time <= 10; time++) {
            FourPhases x = new FourPhases();
            x.add(1, 5);
            x.run(time);
            boolean rests = time >= 9;
            Checks.due("a word added at " + time, x.add(1, 6), rests ? 0 : 1);
            Checks.due("offered by the waiter", x.total(5), rests ? 2 : 1);
        }
    }

    private static void notes(String name, FourPhases x, int[] words) {
        x.finish();
        for (int i = 0; i < words.length; i++) {
            Checks.due(name + " " + i, x.noted(words.length - 1 - i, 0), words[i]);
        }
    }

    private static void waiterInTurns() {
        Checks.says("If both have words, it is, by RULE, 0 the sender that was not the latest one to be let go");
        FourPhases x = new FourPhases();
        Checks.due("none was let go", x.total(9), Checks.NONE);
        x.add(1, 1);
        Checks.due("the latest", x.total(9), 1);
        x.add(1, 2);
        x.add(1, 3);
        x.add(0, 4);
        x.add(0, 5);
        notes("after 1 it is 0", x, new int[] {17, 4, 18, 5, 19});
        Checks.due("the latest", x.total(9), 1);
        x.add(0, 1);
        Checks.due("alone it is let go, the latest or not", x.total(9), 0);
        x.add(0, 2);
        x.run(9);
        Checks.due("again", x.total(9), 0);
        x.add(0, 3);
        x.add(1, 4);
        x.add(1, 5);
        notes("after 0 it is 1", x, new int[] {1, 2, 20, 3, 21});
    }

    private static void waiterSenderZeroFirst() {
        Checks.says("or 1 the sender 0");
        FourPhases x = new FourPhases();
        x.set(2, 1);
        x.add(0, 1);
        x.add(0, 2);
        x.add(1, 3);
        x.add(1, 4);
        x.add(0, 5);
        notes("0 ahead of 1", x, new int[] {1, 2, 5, 19, 20});
        x.add(1, 1);
        x.add(1, 2);
        x.add(0, 3);
        x.run(9);
        Checks.due("0 after 1", x.total(9), 0);
        x.add(0, 4);
        x.set(2, 0);
        notes("the rule counts when one is let go", x, new int[] {17, 3, 18, 4});
    }

    private static void rightInItsPlace() {
        Checks.says("the first one that is noted is to be the first one that was offered, and so on");
        FourPhases x = new FourPhases();
        x.setDelay(0, 2, 20);
        x.setDelay(3, 2, 4);
        int[] words = {7, 7, 8, 8, 8, 9};
        for (int word : words) {
            x.add(0, word);
        }
        // The data of the link 0 come 20 after an offer at 0, 9, 18 ..; the stage takes what showed 3 after it.
        x.finish();
        Checks.due("noted", x.total(6), 6);
        int rights = 0;
        for (int i = 0; i < words.length; i++) {
            Checks.due("right " + i, x.noted(5 - i, 2), x.noted(5 - i, 0) == words[i] ? 1 : 0);
            rights += x.noted(5 - i, 2);
        }
        Checks.due("the first one is taken too early", x.noted(5, 2), 0);
        Checks.due("right ones", x.total(7), rights);
        // Longer than any row of what is offered and not noted yet.
        FourPhases long1 = built(6);
        for (int i = 0; i < 21; i++) {
            long1.add(1, i * 7 % 16);
            long1.add(0, i * 5 % 16);
        }
        long1.finish();
        Checks.due("noted", long1.total(6), 41);
        Checks.due("right", long1.total(7), 41);
    }

    /** A link offers each 4 ticks at most, so of its data of 20 ticks 5 are under way, and one change of its talk. */
    private static void mostChangesUnderWay() {
        Checks.says("4 for changes under way");
        FourPhases x = built(6);
        x.set(0, 0);
        for (int link = 0; link <= 6; link++) {
            x.setDelay(link, 0, 1);
            x.setDelay(link, 1, 1);
            x.setDelay(link, 2, 20);
        }
        for (int i = 0; i <= 20; i++) {
            x.add(0, i % 16);
            x.add(1, i % 16);
        }
        for (int tick = 26; tick <= 160; tick++) {
            Checks.until(x, tick);
            Checks.due("under way at " + tick, x.total(4), 7 * 6);
            Checks.due("words between the waiter and the receiver", x.total(5) - x.total(6), tick % 4 == 3 ? 1 : 2);
        }
        x.finish();
        Checks.due("noted", x.total(6), 41);
        Checks.due("arrived", x.total(8), 41 * 5 * 7);
    }

    private static void quietOnlyWithoutChanges() {
        Checks.says("All is quiet if no change is under way");
        // The four steps of the link 1 end at 3 + 9; its data come at 3 + delay.
        int[] delays = {8, 9, 10, 20};
        int[] quiet = {12, 12, 13, 23};
        for (int i = 0; i < delays.length; i++) {
            int delay = delays[i];
            Checks.Maker maker = () -> {
                FourPhases x = oneStage(1, 0);
                x.setDelay(1, 2, delay);
                x.add(0, 1);
                return x;
            };
            Checks.turnsAt("quiet", quiet[i], maker, x -> x.total(4) == 0 ? 1 : 0, 0, 1);
            Checks.turnsAt("next", quiet[i], maker, x -> x.next(), quiet[i], Checks.NONE);
            Checks.turnsAt("finish()", quiet[i], maker, x -> x.finish(), 1, Checks.NONE);
            Checks.due("quietIn()", maker.make().quietIn(), quiet[i]);
        }
    }

    private static void nothingIsLeftWhenQuiet() {
        Checks.says("(Then no word waits, and all stages are empty.)");
        for (int n = 1; n <= 6; n++) {
            for (int think = 0; think <= 20; think += 10) {
                FourPhases x = built(n);
                x.set(1, think);
                x.set(2, n % 2);
                for (int i = 0; i < 9; i++) {
                    x.add(0, i);
                    x.add(1, i);
                }
                x.finish();
                Checks.due("waiting", x.total(2), 0);
                Checks.due("full stages", x.total(3), 0);
                Checks.due("noted", x.total(6), 18);
                Checks.due("offered", x.total(5), 18);
                Checks.due("arrived", x.total(8), 18 * 5 * (n + 1));
                for (int k = 0; k <= n; k++) {
                    Checks.due("at rest", x.link(k, 9), 1);
                    Checks.due("a request waits", x.link(k, 10), 0);
                }
            }
        }
    }

    private static void settingsAtFirst() {
        Checks.says("(Range; first value.) 0 LEAD (0 to 20; 1), 1 THINK (0 to 20; 0), 2 RULE (0 or 1; 0)");
        int[] first = {1, 0, 0};
        int[] greatest = {20, 20, 1};
        for (int setting = 0; setting < 3; setting++) {
            FourPhases x = new FourPhases();
            Checks.due("at first", x.total(10 + setting), first[setting]);
            Checks.due("next below", x.set(setting, -1), Checks.OUT_OF_RANGE);
            Checks.due("next above", x.set(setting, greatest[setting] + 1), Checks.OUT_OF_RANGE);
            Checks.due("the greatest", x.set(setting, greatest[setting]), first[setting]);
            Checks.due("the greatest again", x.set(setting, greatest[setting]), Checks.NONE);
            Checks.due("the least", x.set(setting, 0), greatest[setting]);
            Checks.due("the least again", x.set(setting, 0), Checks.NONE);
            Checks.due("at last", x.total(10 + setting), 0);
            for (int other = 0; other < 3; other++) {
                Checks.due("the others", x.total(10 + other), other == setting ? 0 : first[other]);
            }
        }
    }

    private static void settingsCountFromThenOn() {
        Checks.says("A setting and a delay that are changed count for changes of wires that are made from then on");
        // Offered at 0, at 3 and at 6 (by the stage 1): LEAD is changed at a time, and then counts or not.
        for (int time = 0; time <= 7; time++) {
            FourPhases x = built(2);
            x.add(0, 1);
            Checks.until(x, time);
            x.set(0, 20);
            int late = time < 3 ? 2 : time < 6 ? 1 : 0;
            x.finish();
            Checks.due("LEAD changed at " + time, x.noted(0, 1), 9 + 19 * late);
        }
        // The receiver notes at 6.
        for (int time = 4; time <= 8; time++) {
            FourPhases x = oneStage(1, 0);
            x.add(0, 1);
            Checks.until(x, time);
            x.set(1, 20);
            Checks.due("THINK changed at " + time, time + x.quietIn(), time < 6 ? 32 : 12);
        }
    }

    private static void delaysCountFromThenOn() {
        Checks.says("A setting and a delay that are changed count for changes of wires that are made from then on");
        // On the link 0 the request 1 is made at 0, the answer 1 at 3, the request 0 at 5 and the answer 0 at 7.
        for (int time = 0; time <= 9; time++) {
            delayChangedAt(time, 0, time < 5 ? 25 : 7, time < 5 ? 27 : 9);
            delayChangedAt(time, 1, time < 3 ? 25 : 7, time < 3 ? 45 : time < 7 ? 27 : 9);
            delayChangedAt(time, 2, 7, 9);
        }
    }

    /** The word was offered ahead of the change of the delay, so that its data and its request come at 2 and 3. */
    private static void delayChangedAt(int time, int wire, int requestZeroAt, int restAt) {
        FourPhases x = built(1);
        x.add(0, 1);
        Checks.until(x, time);
        x.setDelay(0, wire, 20);
        String name = "wire " + wire + " changed at " + time;
        for (int tick = time; tick <= 50; tick++) {
            Checks.until(x, tick);
            Checks.due("data, " + name, x.link(0, 8), tick < 2 ? 0 : 1);
            Checks.due("request, " + name, x.link(0, 4), tick < 3 || tick >= requestZeroAt ? 0 : 1);
            Checks.due("at rest, " + name, x.link(0, 9), tick < restAt ? 0 : 1);
        }
    }

    private static void runCountsItsNotes() {
        Checks.says("Returns how many words the receiver notes in them");
        // The words are noted at 6, 15, 24 and 33.
        int[] ticks = {5, 1, 1, 7, 1, 1, 16, 1, 1000};
        int[] notes = {0, 1, 0, 0, 1, 0, 1, 1, 0};
        FourPhases x = built(1);
        for (int i = 0; i < 4; i++) {
            x.add(0, i);
        }
        for (int i = 0; i < ticks.length; i++) {
            Checks.due("run(" + ticks[i] + ") from " + x.total(1), x.run(ticks[i]), notes[i]);
        }
        for (int i = 0; i < 4; i++) {
            x.add(0, i);
        }
        Checks.due("all in one run", x.run(1000), 4);
        Checks.due("noted", x.total(6), 8);
    }

    private static void runUpToTheTime() {
        Checks.says("Lets ticks go by: all changes that arrive up to the time then arrive");
        for (int ticks = 1; ticks <= 18; ticks++) {
            FourPhases once = new FourPhases();
            FourPhases ofOne = new FourPhases();
            once.add(1, 9);
            ofOne.add(1, 9);
            once.run(ticks);
            for (int i = 0; i < ticks; i++) {
                ofOne.run(1);
            }
            Checks.due("time", once.total(1), ticks);
            Checks.same("run(" + ticks + ")", Checks.state(once), Checks.state(ofOne));
            Checks.due("next is later", once.next() > ticks || ticks == 18 ? 1 : 0, 1);
        }
    }

    private static void finishToTheLastChange() {
        Checks.says("Lets ticks go by until all is quiet: the time is then that of the last change that arrives");
        for (int tick = 0; tick < 18; tick++) {
            FourPhases x = new FourPhases();
            x.run(7);
            x.add(0, 1);
            Checks.until(x, 7 + tick);
            Checks.due("finish() at " + tick, x.finish(), 18 - tick);
            Checks.due("time", x.total(1), 25);
            Checks.due("under way", x.total(4), 0);
            Checks.due("finish() again", x.finish(), Checks.NONE);
        }
    }
}
