/** The promises 14 to 23, what there is and what would be: each boundary that they name. */
public final class AskBoundsTest {
    public static void main(String[] args) {
        linkOfAStepAtATime();
        linkCountsItsOffers();
        linkDataInTime();
        stageOfTheWordZero();
        waitingOfEachPlace();
        waitingMovesUp();
        notedUpToFifty();
        notedTheLatestFirst();
        totalOfEachNumber();
        totalOfWordsOnTheirWay();
        totalOfSenders();
        nextOfSeveral();
        nextWhenQuiet();
        quietInOfEachTick();
        quietInAtTheGreatestTime();
        ifLeadOfEachLead();
        ifLeadFromNowOn();
        ifLeadCountsFromNowOn();
        ifLeadAtTheGreatestTime();
        leastLeadOfEachDelay();
        leastLeadWithoutAny();
        leastLeadFromNowOn();
        leastLeadByChance();
        leastLeadIsTheLeast();
        dearestOfDelaysAboveOne();
        dearestOfSeveral();
        dearestFromNowOn();
        dearestIsTheEarliest();
        dearestAtTheGreatestTime();
        Checks.end("AskBoundsTest");
    }

    private static FourPhases built(int stages) {
        FourPhases x = new FourPhases();
        x.build(stages);
        return x;
    }

    private static void allDelays(FourPhases x, int delay) {
        for (int link = 0; link <= x.total(0); link++) {
            for (int wire = 0; wire < 3; wire++) {
                x.setDelay(link, wire, delay);
            }
        }
    }

    /** The numbers 3 to 10 of a link, at each tick. */
    private static void linkIs(FourPhases x, int link, int[] due) {
        for (int i = 0; i < due.length; i++) {
            Checks.due("link(" + link + ", " + (3 + i) + ") at " + x.total(1), x.link(link, 3 + i), due[i]);
        }
    }

    private static void linkOfAStepAtATime() {
        Checks.says("3 and 4 for the request at its beginning and at its end, 5 and 6 for the answer, 7 and 8 for the data, 9, 10");
        FourPhases x = built(1);
        x.add(1, 6);
        int[][] linkZero = {{1, 0, 0, 0, 22, 0, 0, 0}, {1, 0, 0, 0, 22, 0, 0, 0}, {1, 0, 0, 0, 22, 22, 0, 0},
            {1, 1, 1, 0, 22, 22, 0, 0}, {1, 1, 1, 0, 22, 22, 0, 0}, {0, 1, 1, 1, 22, 22, 0, 0}, {0, 1, 1, 1, 22, 22, 0, 0},
            {0, 0, 0, 1, 22, 22, 0, 0}, {0, 0, 0, 1, 22, 22, 0, 0}, {0, 0, 0, 0, 22, 22, 1, 0}, {0, 0, 0, 0, 22, 22, 1, 0}};
        int[] rest = {0, 0, 0, 0, 0, 0, 1, 0};
        for (int tick = 0; tick <= 12; tick++) {
            Checks.until(x, tick);
            linkIs(x, 0, linkZero[Math.min(tick, 10)]);
            linkIs(x, 1, tick < 3 ? rest : linkZero[tick - 3]);
        }
        FourPhases y = built(1);
        y.set(1, 20);
        y.add(0, 1);
        y.add(0, 2);
        Checks.until(y, 12);
        linkIs(y, 0, new int[] {1, 1, 0, 0, 2, 2, 0, 1});
    }

    private static void linkCountsItsOffers() {
        Checks.says("11 for words that were offered on it so far");
        FourPhases x = built(2);
        for (int i = 0; i < 4; i++) {
            x.add(0, i);
        }
        // The link k offers at 3 * k, and each 9 ticks then.
        for (int tick = 0; tick <= 40; tick++) {
            Checks.until(x, tick);
            for (int k = 0; k <= 2; k++) {
                int offers = tick < 3 * k ? 0 : Math.min(4, (tick - 3 * k) / 9 + 1);
                Checks.due("offers on the link " + k + " at " + tick, x.link(k, 11), offers);
            }
        }
        x.undo();
        x.build(2);
        Checks.due("offers", x.link(0, 11), 0);
    }

    private static void linkDataInTime() {
        Checks.says("1 if the delay of the data is not greater than that of the request and LEAD together, otherwise 0");
        FourPhases x = new FourPhases();
        for (int lead = 0; lead <= 20; lead += 5) {
            x.set(0, lead);
            for (int request = 1; request <= 20; request++) {
                x.setDelay(2, 0, request);
                for (int data = 1; data <= 20; data++) {
                    x.setDelay(2, 2, data);
                    Checks.due("link(2, 12)", x.link(2, 12), data <= request + lead ? 1 : 0);
                }
            }
        }
        x.set(0, 0);
        x.setDelay(0, 2, 3);
        Checks.due("the answer does not count", x.setDelay(0, 1, 20), 2);
        Checks.due("link(0, 12)", x.link(0, 12), 0);
        x.set(1, 20);
        Checks.due("nor does THINK", x.link(0, 12), 0);
    }

    private static void stageOfTheWordZero() {
        Checks.says("Returns the word, as it is on data wires; NONE if the stage is empty");
        FourPhases x = built(6);
        x.add(0, 0);
        for (int tick = 0; tick <= 27; tick++) {
            Checks.until(x, tick);
            int full = 0;
            for (int k = 0; k < 6; k++) {
                boolean holds = tick >= 3 * k + 3 && tick < 3 * k + 8;
                Checks.due("stage " + k + " at " + tick, x.stage(k), holds ? 0 : Checks.NONE);
                full += holds ? 1 : 0;
            }
            Checks.due("full stages", x.total(3), full);
        }
        FourPhases y = new FourPhases();
        y.add(1, 15);
        y.run(3);
        Checks.due("the greatest word", y.stage(0), 31);
        FourPhases early = new FourPhases();
        early.setDelay(0, 2, 20);
        early.add(1, 15);
        early.run(3);
        Checks.due("what the data showed", early.stage(0), 0);
    }

    private static void waitingOfEachPlace() {
        Checks.says("place: 0 for the one that is let go next, and so on. NONE if not so many wait");
        for (int sender = 0; sender <= 1; sender++) {
            FourPhases x = new FourPhases();
            x.add(sender, 9);
            for (int count = 0; count <= 20; count++) {
                for (int place = 0; place < count; place++) {
                    Checks.due("place " + place + " of " + count, x.waiting(sender, place), (place * 7 + 3) % 16);
                }
                Checks.due("behind the last one", x.waiting(sender, count), Checks.NONE);
                Checks.due("the other row", x.waiting(1 - sender, 0), Checks.NONE);
                x.add(sender, (count * 7 + 3) % 16);
            }
        }
    }

    private static void waitingMovesUp() {
        Checks.says("place: 0 for the one that is let go next, and so on");
        FourPhases x = new FourPhases();
        for (int i = 0; i <= 20; i++) {
            x.add(0, i % 16);
        }
        for (int gone = 1; gone <= 20; gone++) {
            x.run(9);
            for (int place = 0; place < 20 - gone; place++) {
                Checks.due("place " + place + " when " + gone + " went", x.waiting(0, place), (place + gone + 1) % 16);
            }
            Checks.due("behind the last one", x.waiting(0, 20 - gone), Checks.NONE);
        }
        Checks.due("an empty row takes words again", x.add(0, 9), 1);
        Checks.due("place 0", x.waiting(0, 0), 9);
    }

    private static void notedUpToFifty() {
        Checks.says("Returns something of a word that the receiver noted, of the latest 50 of them");
        FourPhases x = built(1);
        for (int i = 0; i <= 120; i++) {
            int kept = Math.min(i, 50);
            if (i < 3 || i > 47 && i < 53 || i > 97) {
                for (int rank = 0; rank < kept; rank++) {
                    int number = i - 1 - rank;
                    Checks.due("word " + rank + " of " + i, x.noted(rank, 0), number % 2 * 16 + number % 16);
                    Checks.due("time " + rank + " of " + i, x.noted(rank, 1), number * 12 + 6);
                    Checks.due("right " + rank + " of " + i, x.noted(rank, 2), 1);
                }
                for (int what = 0; what <= 2; what++) {
                    Checks.due("the next rank of " + i, x.noted(kept, what), Checks.NONE);
                }
            }
            Checks.due("all are counted", x.total(6), i);
            Checks.due("all right ones are counted", x.total(7), i);
            x.add(i % 2, i % 16);
            x.finish();
        }
    }

    private static void notedTheLatestFirst() {
        Checks.says("rank: 0 for the latest one, 1 for the one ahead of it, and so on");
        FourPhases x = built(1);
        x.add(0, 0);
        Checks.due("offered, not noted", x.noted(0, 0), Checks.NONE);
        x.run(5);
        Checks.due("not noted yet", x.noted(0, 1), Checks.NONE);
        x.run(1);
        Checks.due("the word 0", x.noted(0, 0), 0);
        Checks.due("noted at", x.noted(0, 1), 6);
        Checks.due("right", x.noted(0, 2), 1);
        x.setDelay(1, 2, 20);
        x.add(1, 15);
        x.run(13);
        Checks.due("noted too early", x.noted(0, 0), 0);
        Checks.due("the time", x.noted(0, 1), 15);
        Checks.due("wrong", x.noted(0, 2), 0);
        Checks.due("the one ahead of it", x.noted(1, 2), 1);
        Checks.due("and its time", x.noted(1, 1), 6);
    }

    private static void totalOfEachNumber() {
        Checks.says("0 for the stages, 1 for the time, 2 for words that wait, 3 for stages that are full, 4 for changes under way ..");
        FourPhases x = built(2);
        x.set(0, 3);
        x.set(1, 4);
        x.set(2, 1);
        x.setDelay(2, 2, 6);
        Checks.typeAll(x, "a1,b2");
        x.add(1, 5);
        x.add(0, 6);
        x.add(0, 6);
        x.add(1, 7);
        // The first word is taken at 5 and at 10 and noted at 15, a tick ahead of its data; the second one is taken at 16.
        // There arrive 1 change at 2, 5, 9 to 15 each, 2 at 7, and 3 at 16.
        x.run(17);
        int[] totals = {2, 17, 2, 2, 4, 2, 1, 0, 14, 0, 3, 4, 1, 4, 5};
        for (int what = 0; what < totals.length; what++) {
            Checks.due("total(" + what + ")", x.total(what), totals[what]);
        }
    }

    private static void totalOfWordsOnTheirWay() {
        Checks.says("5 for words that the waiter offered so far, 6 for words noted so far, 7 for right ones of these, 8 for changes that arrived so far");
        FourPhases x = built(1);
        for (int i = 0; i < 5; i++) {
            x.add(0, 4);
        }
        // The waiter offers each 9 ticks, the receiver notes 6 later; 10 changes for each word.
        for (int tick = 0; tick <= 50; tick++) {
            Checks.until(x, tick);
            Checks.due("offered at " + tick, x.total(5), Math.min(5, tick / 9 + 1));
            Checks.due("waiting at " + tick, x.total(2), 5 - Math.min(5, tick / 9 + 1));
            Checks.due("noted at " + tick, x.total(6), Math.min(5, (tick + 3) / 9));
            Checks.due("right at " + tick, x.total(7), Math.min(5, (tick + 3) / 9));
        }
        Checks.due("arrived", x.total(8), 50);
        Checks.due("under way", x.total(4), 0);
    }

    private static void totalOfSenders() {
        Checks.says("9 for the sender that was let go latest (NONE if none was yet)");
        FourPhases x = new FourPhases();
        Checks.due("none", x.total(9), Checks.NONE);
        x.run(9);
        Checks.due("none", x.total(9), Checks.NONE);
        x.add(0, 1);
        Checks.due("0", x.total(9), 0);
        x.add(1, 1);
        Checks.due("still 0", x.total(9), 0);
        x.run(8);
        Checks.due("still 0", x.total(9), 0);
        x.run(1);
        Checks.due("1", x.total(9), 1);
        x.finish();
        Checks.due("still 1", x.total(9), 1);
        x.build(3);
        Checks.due("none", x.total(9), Checks.NONE);
        x.undo();
        Checks.due("1", x.total(9), 1);
    }

    private static void nextOfSeveral() {
        Checks.says("Returns the time at which the next change arrives");
        FourPhases x = built(1);
        x.run(100);
        x.add(0, 1);
        int[] times = {102, 103, 105, 105, 106, 107, 108, 109, 110, 112};
        for (int i = 0; i < times.length; i++) {
            Checks.due("next, the " + i + "th", x.next(), times[i]);
            if (x.total(1) < times[i] - 1) {
                x.run(times[i] - 1 - x.total(1));
                Checks.due("still", x.next(), times[i]);
            }
            if (i + 1 == times.length || times[i + 1] > times[i]) {
                x.run(1);
            }
        }
        Checks.due("next", x.next(), Checks.NONE);
        Checks.due("arrived", x.total(8), 10);
    }

    private static void nextWhenQuiet() {
        Checks.says("NONE if all is quiet");
        FourPhases x = new FourPhases();
        Checks.due("next", x.next(), Checks.NONE);
        x.add(0, 0);
        Checks.due("next", x.next(), 2);
        x.undo();
        Checks.due("next", x.next(), Checks.NONE);
        x.add(0, 0);
        x.finish();
        Checks.due("next", x.next(), Checks.NONE);
        Checks.until(x, 1000000);
        x.add(0, 0);
        Checks.due("next beyond the greatest time", x.next(), 1000002);
    }

    private static void quietInOfEachTick() {
        Checks.says("Returns how many, 0 if it is");
        FourPhases x = new FourPhases();
        Checks.due("quietIn", x.quietIn(), 0);
        x.add(0, 1);
        for (int tick = 0; tick <= 20; tick++) {
            Checks.until(x, tick);
            Checks.due("quietIn at " + tick, x.quietIn(), Math.max(0, 18 - tick));
        }
        x.add(0, 1);
        x.add(1, 1);
        Checks.due("two words", x.quietIn(), 27);
        Checks.due("as finish() answers", x.finish(), 27);
        Checks.due("quietIn", x.quietIn(), 0);
    }

    private static void quietInAtTheGreatestTime() {
        Checks.says("what would be; nothing changes, and the greatest time does not matter");
        FourPhases x = Checks.until(new FourPhases(), 1000000);
        Checks.due("quietIn", x.quietIn(), 0);
        x.add(0, 1);
        for (int i = 0; i < 20; i++) {
            x.add(0, 1);
            x.add(1, 1);
        }
        Checks.due("quietIn", x.quietIn(), 40 * 9 + 18);
        Checks.due("time", x.total(1), 1000000);
    }

    private static void ifLeadOfEachLead() {
        Checks.says("lead: 0 to 20; what: 0 for the ticks until then, 1 for the words noted in them, 2 for the wrong ones of these");
        FourPhases x = built(1);
        x.add(0, 1);
        x.add(0, 2);
        x.setDelay(0, 2, 20);
        x.setDelay(1, 2, 12);
        // The word 1 goes by the LEAD of 1 on the link 0, and is at the receiver at 3 + 2 + lead.
        for (int lead = 0; lead <= 20; lead++) {
            Checks.due("noted, " + lead, x.ifLead(lead, 1), 2);
            FourPhases y = built(1);
            y.add(0, 1);
            y.add(0, 2);
            y.setDelay(0, 2, 20);
            y.setDelay(1, 2, 12);
            y.set(0, lead);
            Checks.due("ticks, " + lead, x.ifLead(lead, 0), y.finish());
            Checks.due("wrong ones, " + lead, x.ifLead(lead, 2), 2 - y.total(7));
            Checks.due("wrong ones, " + lead, x.ifLead(lead, 2), lead >= 18 ? 0 : lead >= 10 ? 1 : 2);
        }
        Checks.due("LEAD", x.total(10), 1);
        Checks.due("offered", x.total(5), 1);
        FourPhases quiet = new FourPhases();
        for (int what = 0; what <= 2; what++) {
            Checks.due("of a quiet one", quiet.ifLead(20, what), 0);
        }
    }

    private static void ifLeadFromNowOn() {
        Checks.says("Tells what would be if LEAD was another one from now on, and all became quiet");
        // The requests are made at 0, 3, 6 and 9: those that are made already keep their lead of 1.
        for (int tick = 0; tick <= 12; tick++) {
            FourPhases x = new FourPhases();
            x.add(0, 1);
            Checks.until(x, tick);
            int later = tick < 9 ? 3 - tick / 3 : 0;
            Checks.due("with 20 at " + tick, x.ifLead(20, 0), 18 - tick + 19 * later);
            Checks.due("with 0 at " + tick, x.ifLead(0, 0), 18 - tick - later);
            Checks.due("with 1 at " + tick, x.ifLead(1, 0), 18 - tick);
        }
    }

    private static void ifLeadCountsFromNowOn() {
        Checks.says("1 for the words noted in them, 2 for the wrong ones of these");
        FourPhases x = built(1);
        x.setDelay(1, 2, 4);
        for (int i = 1; i <= 3; i++) {
            x.add(0, i);
        }
        // With LEAD 1 each word is noted a tick too early, at 6, 15 and 24.
        int[] times = {0, 5, 6, 14, 15, 23, 24, 40};
        int[] left = {3, 3, 2, 2, 1, 1, 0, 0};
        for (int i = 0; i < times.length; i++) {
            Checks.until(x, times[i]);
            Checks.due("noted after " + times[i], x.ifLead(1, 1), left[i]);
            Checks.due("wrong after " + times[i], x.ifLead(1, 2), left[i]);
        }
        Checks.due("wrong ones in all", x.total(6) - x.total(7), 3);
    }

    private static void ifLeadAtTheGreatestTime() {
        Checks.says("what would be; nothing changes, and the greatest time does not matter");
        FourPhases x = Checks.until(new FourPhases(), 1000000);
        x.add(0, 1);
        Checks.due("ticks", x.ifLead(20, 0), 18 + 3 * 19);
        Checks.due("noted", x.ifLead(20, 1), 1);
        Checks.due("wrong", x.ifLead(0, 2), 0);
        Checks.due("least lead", x.leastLead(), 0);
    }

    private static void leastLeadOfEachDelay() {
        Checks.says("Finds the least LEAD with which no wrong word would be noted until all is quiet");
        for (int request = 1; request <= 20; request++) {
            for (int data = 1; data <= 20; data++) {
                FourPhases x = built(1);
                x.setDelay(1, 0, request);
                x.setDelay(1, 2, data);
                Checks.due("of a quiet one", x.leastLead(), 0);
                x.add(0, 1);
                Checks.due("request " + request + ", data " + data, x.leastLead(), Math.max(0, data - request));
            }
        }
    }

    private static void leastLeadWithoutAny() {
        Checks.says("Returns the lead, 0 to 20; NONE if there is none");
        FourPhases x = built(1);
        x.setDelay(0, 2, 4);
        x.add(0, 1);
        Checks.due("its request was made with 1", x.leastLead(), Checks.NONE);
        FourPhases y = built(1);
        y.setDelay(0, 2, 3);
        y.add(0, 1);
        Checks.due("in time just so", y.leastLead(), 0);
        y.add(0, 2);
        Checks.due("the next one needs 1", y.leastLead(), 1);
        y.setDelay(1, 2, 4);
        Checks.due("the link 1 needs 2", y.leastLead(), 2);
    }

    private static void leastLeadFromNowOn() {
        Checks.says("with which no wrong word would be noted until all is quiet");
        FourPhases x = built(1);
        x.setDelay(0, 2, 20);
        x.add(0, 1);
        // Taken too early at 3, noted at 6: a wrong word that is noted already does not count.
        for (int tick = 0; tick <= 25; tick++) {
            Checks.until(x, tick);
            Checks.due("at " + tick, x.leastLead(), tick < 6 ? Checks.NONE : 0);
        }
    }

    private static void leastLeadByChance() {
        Checks.says("A word that the receiver notes is right if it is the word that was offered by the waiter in this place");
        FourPhases x = built(1);
        x.setDelay(0, 2, 20);
        x.add(0, 0);
        Checks.due("taken too early, and the same by chance", x.leastLead(), 0);
        x.finish();
        Checks.due("right", x.noted(0, 2), 1);
        x.add(1, 0);
        Checks.due("of the other sender it is another word", x.leastLead(), Checks.NONE);
    }

    private static void leastLeadIsTheLeast() {
        Checks.says("Finds the least LEAD with which no wrong word would be noted until all is quiet");
        for (int number = 0; number < 120; number++) {
            int least = Checks.NONE;
            for (int lead = 20; lead >= 0; lead--) {
                FourPhases y = mixed(number);
                int wrongBefore = y.total(6) - y.total(7);
                y.set(0, lead);
                y.finish();
                least = y.total(6) - y.total(7) == wrongBefore ? lead : least;
            }
            Checks.due("least lead of " + number, mixed(number).leastLead(), least);
        }
    }

    private static void dearestOfDelaysAboveOne() {
        Checks.says("(of wires with delays above 1); NONE if all delays are 1");
        for (int n = 1; n <= 6; n++) {
            FourPhases x = built(n);
            allDelays(x, 1);
            Checks.due("all delays are 1", x.dearest(), Checks.NONE);
            x.add(0, 1);
            Checks.due("all delays are 1, and a word", x.dearest(), Checks.NONE);
            x.finish();
            for (int link = 0; link <= n; link++) {
                for (int wire = 0; wire < 3; wire++) {
                    x.setDelay(link, wire, 2);
                    Checks.due("the only one", x.dearest(), 10 * link + wire);
                    x.setDelay(link, wire, 20);
                    Checks.due("the only one", x.dearest(), 10 * link + wire);
                    x.setDelay(link, wire, 1);
                }
            }
        }
    }

    private static void dearestOfSeveral() {
        Checks.says("of several the one of the least link, of these the request ahead of the answer ahead of the data");
        FourPhases x = built(6);
        allDelays(x, 1);
        int[] wires = {62, 61, 60, 32, 31, 30, 2, 1, 0};
        for (int wire : wires) {
            x.setDelay(wire / 10, wire % 10, 2);
            Checks.due("all are the same for a quiet one", x.dearest(), wire);
        }
        x.add(0, 1);
        // Each request of the links 1 to 6 would save the same; the answer 0 of the link 6 comes last of all.
        FourPhases y = built(1);
        y.add(0, 1);
        Checks.due("the request of the link 1 counts twice", y.dearest(), 10);
        y.setDelay(1, 0, 1);
        Checks.due("its answer counts twice", y.dearest(), 11);
        y.setDelay(1, 1, 1);
        // Now the link 0 is at rest at 9, and the link 1 at 3 + 6: no wire alone helps.
        Checks.due("quiet", y.quietIn(), 9);
        Checks.due("none helps alone", y.dearest(), 0);
        y.setDelay(0, 0, 1);
        Checks.due("quiet", y.quietIn(), 8);
        Checks.due("the answer of the link 0 helps", y.dearest(), 1);
    }

    private static void dearestFromNowOn() {
        Checks.says("the one whose delay, 1 less from now on, lets all be quiet the earliest");
        FourPhases x = built(1);
        x.add(0, 1);
        // The request 1 of the link 1 is made at 3, its request 0 at 8; the answers at 6 and at 10.
        int[] due = {10, 10, 10, 11, 11, 11, 10, 10, 11, 11, 0, 0, 0};
        for (int tick = 0; tick <= 12; tick++) {
            Checks.until(x, tick);
            Checks.due("at " + tick, x.dearest(), due[tick]);
        }
    }

    /** A line with delays and words of its own for each number. */
    private static FourPhases mixed(int number) {
        FourPhases x = built(1 + number % 6);
        x.set(0, number % 3);
        x.set(1, number % 4 * 5);
        for (int link = 0; link <= x.total(0); link++) {
            for (int wire = 0; wire < 3; wire++) {
                x.setDelay(link, wire, 1 + (number * 7 + link * 5 + wire * 3) * (link + 1) % 20);
            }
        }
        for (int i = 0; i <= number % 5; i++) {
            x.add(i % 2, (number + i * 3) % 16);
        }
        x.run(1 + number % 30);
        return x;
    }

    private static void dearestIsTheEarliest() {
        Checks.says("the one whose delay, 1 less from now on, lets all be quiet the earliest");
        for (int number = 0; number < 120; number++) {
            int best = Checks.NONE;
            int earliest = Integer.MAX_VALUE;
            for (int wire = 0; wire <= 10 * mixed(number).total(0) + 2; wire++) {
                FourPhases y = mixed(number);
                int delay = wire % 10 < 3 ? y.link(wire / 10, wire % 10) : 1;
                if (delay > 1) {
                    y.setDelay(wire / 10, wire % 10, delay - 1);
                    int quiet = y.quietIn();
                    best = quiet < earliest ? wire : best;
                    earliest = Math.min(quiet, earliest);
                }
            }
            Checks.due("dearest of " + number, mixed(number).dearest(), best);
        }
    }

    private static void dearestAtTheGreatestTime() {
        Checks.says("what would be; nothing changes, and the greatest time does not matter");
        FourPhases x = Checks.until(new FourPhases(), 1000000);
        Checks.due("of a quiet one", x.dearest(), 0);
        x.add(0, 1);
        Checks.due("of a busy one", x.dearest(), 30);
        Checks.due("time", x.total(1), 1000000);
        Checks.due("delay", x.link(3, 0), 2);
    }
}
