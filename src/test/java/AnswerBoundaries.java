/** The boundary cases of promises 10 to 29, the calls that tell what is. */
final class AnswerBoundaries {
    private final Boundaries b;

    AnswerBoundaries(Boundaries b) {
        this.b = b;
    }

    void all() {
        b.sentence("Promise 10", "Returns the minute.", this::minute);
        b.sentence("Promise 11", "Returns how many topics are on the belt.", this::topics);
        b.sentence("Promise 12", "Throws `IndexOutOfBoundsException` if there is no topic at this place", this::sizeAt);
        b.sentence("Promise 13", "Throws `IndexOutOfBoundsException` if there is no topic at this place", this::kindAt);
        b.sentence("Promise 14", "of several the first one", this::firstOfTheLargest);
        b.sentence("Promise 14", "-1 if the belt is empty", this::largestOfNone);
        b.sentence("Promise 16", "Returns how many topics of this kind are on the belt.", this::topicsOf);
        b.sentence("Promise 16", "Throws `IndexOutOfBoundsException` if kind is not 0 to 4", this::topicsOfNoKind);
        b.sentence("Promise 17", "till it is a nod, with the gear of now", this::turnsToNod);
        b.sentence("Promise 17", "Throws `IndexOutOfBoundsException` if there is no topic at this place",
                () -> b.refusedAtNoPlace(place -> "turnsToNod(" + place + ")", SmallerTalk::turnsToNod));
        b.sentence("Promise 18", "Returns how many nods are not bottled.", this::nods);
        b.sentence("Promise 20", "Returns how many topics fell through the sieve in all.", this::sieved);
        b.sentence("Promise 24", "Returns how many talkers there were in all.", this::talkers);
        b.sentence("Promise 25", "Returns how many of them are there.", this::present);
        b.sentence("Promise 26", "Throws `IndexOutOfBoundsException` if there is no such talker", this::isPresent);
        b.sentence("Promise 27", "Throws `IndexOutOfBoundsException` if there is no such talker", this::patienceOf);
        b.sentence("Promise 28", "-1 for one who is there", this::exitOfOneWhoIsThere);
        b.sentence("Promise 28", "Throws `IndexOutOfBoundsException` if there is no such talker", this::exitOf);
        b.sentence("Promise 29", "the talker who is there with the least patience", this::leastPatience);
        b.sentence("Promise 29", "of several the smallest number", this::smallestNumber);
        b.sentence("Promise 29", "-1 if nobody is there", this::nobodyIsThere);
    }

    private void minute() {
        SmallerTalk talk = new SmallerTalk();
        b.due("minute() of a new object", talk.minute(), 0);
        talk.pass(59);
        b.due("minute() behind pass(59)", talk.minute(), 59);
        talk.pass(1);
        talk.pass(60);
        b.due("minute() behind pass(1) and pass(60)", talk.minute(), 120);
    }

    private void topics() {
        b.due("topics() of a new object", new SmallerTalk().topics(), 0);
        for (int count = 1; count <= 12; count++) {
            b.due("topics()", States.many(count, 0, 2).topics(), count);
        }
        SmallerTalk last = States.with(1, 3);
        last.pass(1);
        b.due("topics() behind the last one is a nod", last.topics(), 0);
    }

    private void sizeAt() {
        SmallerTalk talk = risingBelt();
        for (int place = 0; place <= 11; place++) {
            b.due("sizeAt(" + place + ")", talk.sizeAt(place), 20 + place);
        }
        b.refusedAtNoPlace(place -> "sizeAt(" + place + ")", SmallerTalk::sizeAt);
        b.refused("sizeAt(11) behind drop(0)", Boundaries.INDEX, AnswerBoundaries::droppedBelt, left -> left.sizeAt(11));
        b.due("sizeAt(10) behind drop(0)", droppedBelt().sizeAt(10), 31);
    }

    private void kindAt() {
        SmallerTalk talk = risingBelt();
        for (int place = 0; place <= 11; place++) {
            b.due("kindAt(" + place + ")", talk.kindAt(place), place % 5);
        }
        b.refusedAtNoPlace(place -> "kindAt(" + place + ")", SmallerTalk::kindAt);
        b.refused("kindAt(11) behind drop(0)", Boundaries.INDEX, AnswerBoundaries::droppedBelt, left -> left.kindAt(11));
        b.due("kindAt(10) behind drop(0)", droppedBelt().kindAt(10), 1);
    }

    private static SmallerTalk risingBelt() {
        SmallerTalk talk = new SmallerTalk();
        for (int place = 0; place < 12; place++) {
            talk.put(place % 5, 20 + place);
        }
        return talk;
    }

    private static SmallerTalk droppedBelt() {
        SmallerTalk talk = risingBelt();
        talk.drop(0);
        return talk;
    }

    private void firstOfTheLargest() {
        b.due("largest() of 12 of the same size", States.full(1, 2).largest(), 0);
        b.due("largest() of 98, 99, 99", States.with(0, 98, 1, 99, 2, 99).largest(), 1);
        b.due("largest() of 99, 98, 99", States.with(0, 99, 1, 98, 2, 99).largest(), 0);
        b.due("largest() of 12 that rise", risingBelt().largest(), 11);
    }

    private void largestOfNone() {
        SmallerTalk talk = new SmallerTalk();
        b.due("largest() of a new object", talk.largest(), -1);
        talk.put(0, 2);
        b.due("largest() of the least topic", talk.largest(), 0);
        talk.drop(0);
        b.due("largest() behind drop(0)", talk.largest(), -1);
    }

    private void topicsOf() {
        for (int kind = 0; kind <= 4; kind++) {
            b.due("topicsOf(" + kind + ") of a new object", new SmallerTalk().topicsOf(kind), 0);
            b.due("topicsOf(" + kind + ") of 12", States.full(kind, 9).topicsOf(kind), 12);
            b.due("topicsOf(another) of 12", States.full(kind, 9).topicsOf((kind + 1) % 5), 0);
        }
        b.due("topicsOf(1) of kinds 0, 1, 2, 3, 4, 0, 1, ..", risingBelt().topicsOf(1), 3);
        b.due("topicsOf(2) of kinds 0, 1, 2, 3, 4, 0, 1, ..", risingBelt().topicsOf(2), 2);
        b.due("topicsOf(0) behind drop(0)", droppedBelt().topicsOf(0), 2);
    }

    private void topicsOfNoKind() {
        SmallerTalk talk = risingBelt();
        b.due("topicsOf(0)", talk.topicsOf(0), 3);
        b.due("topicsOf(4)", talk.topicsOf(4), 2);
        b.refusedOutside(0, 4, Boundaries.INDEX, kind -> "topicsOf(" + kind + ")", SmallerTalk::topicsOf);
    }

    // One turn more from each 2 * gear, 2 * gear * gear, .. on.
    private void turnsToNod() {
        for (int gear = 2; gear <= 9; gear++) {
            int turns = 1;
            for (int size = 2; size <= 99; size *= gear) {
                turns(size, gear, turns);
                turns(Math.min(99, size * gear - 1), gear, turns);
                turns++;
            }
        }
        SmallerTalk talk = States.with(1, 99);
        b.due("turnsToNod(0) of 99 with gear 2", talk.turnsToNod(0), 6);
        talk.setGear(9);
        b.due("turnsToNod(0) of 99 with the gear of now", talk.turnsToNod(0), 2);
        talk.setGear(2);
        talk.pass(5);
        b.due("turnsToNod(0) of the 3 that is left", talk.turnsToNod(0), 1);
        talk.pass(1);
        b.due("nods() behind it", talk.nods(), 1);
    }

    private void turns(int size, int gear, int turns) {
        SmallerTalk talk = States.with(1, size);
        talk.setGear(gear);
        b.due("turnsToNod(0) of " + size + " with gear " + gear, talk.turnsToNod(0), turns);
    }

    private void nods() {
        SmallerTalk talk = States.full(1, 2);
        int[] nods = {1, 2, 3, 4, 5, 0, 1, 2, 3, 4, 5, 0};
        b.due("nods() of a new object", talk.nods(), 0);
        for (int minute = 0; minute < 12; minute++) {
            talk.pass(1);
            b.due("nods() behind minute " + minute, talk.nods(), nods[minute]);
        }
    }

    private void sieved() {
        SmallerTalk talk = new SmallerTalk();
        b.due("sieved() of a new object", talk.sieved(), 0);
        talk.put(1, 99);
        States.putMany(talk, 11, 0, 2);
        b.due("sieved() before a minute", talk.sieved(), 0);
        talk.pass(1);
        b.due("sieved() of 11", talk.sieved(), 11);
        talk.pass(1);
        b.due("sieved() behind none more", talk.sieved(), 11);
        talk.put(0, 2);
        talk.pass(1);
        b.due("sieved() of 11 and 1", talk.sieved(), 12);
        talk.put(0, 2);
        talk.drop(1);
        b.due("sieved() of one that is dropped", talk.sieved(), 12);
    }

    private void talkers() {
        SmallerTalk talk = States.full(4, 99);
        b.due("talkers() of none", talk.talkers(), 0);
        for (int count = 1; count <= 6; count++) {
            talk.addTalker(1, 2, 9);
            b.due("talkers()", talk.talkers(), count);
        }
        talk.pass(1);
        b.due("talkers() behind all went", talk.talkers(), 6);
    }

    private void present() {
        SmallerTalk talk = States.full(4, 99);
        b.due("present() of none", talk.present(), 0);
        for (int count = 1; count <= 6; count++) {
            talk.addTalker(1, 2, 9);
            b.due("present()", talk.present(), count);
        }
        talk.pass(1);
        b.due("present() behind all went", talk.present(), 0);
        b.due("present() of 6, of whom 1 went", States.crowded().present(), 5);
    }

    private void isPresent() {
        b.due("isPresent(0), who went", States.crowded().isPresent(0), false);
        b.due("isPresent(1)", States.crowded().isPresent(1), true);
        b.due("isPresent(5)", States.crowded().isPresent(5), true);
        b.refusedOfNoTalker(talker -> "isPresent(" + talker + ")", SmallerTalk::isPresent);
    }

    private void patienceOf() {
        b.due("patienceOf(0), who went", States.crowded().patienceOf(0), 0);
        b.due("patienceOf(1)", States.crowded().patienceOf(1), 30);
        b.due("patienceOf(5)", States.crowded().patienceOf(5), 30);
        b.refusedOfNoTalker(talker -> "patienceOf(" + talker + ")", SmallerTalk::patienceOf);
    }

    private void exitOfOneWhoIsThere() {
        SmallerTalk stays = States.behindNoise(579);
        b.due("exitOf(0) with patience 1", stays.exitOf(0), -1);
        stays.pass(1);
        b.due("exitOf(0) of this one, a minute later", stays.exitOf(0), 1);
        b.due("exitOf(0), who went in minute 0", States.behindNoise(580).exitOf(0), 0);
        SmallerTalk talk = new SmallerTalk();
        talk.addTalker(1, 2, 9);
        b.due("exitOf(0), who has just come", talk.exitOf(0), -1);
        talk.pass(60);
        b.due("exitOf(0) behind 60 quiet minutes", talk.exitOf(0), -1);
    }

    private void exitOf() {
        b.due("exitOf(0), who went", States.crowded().exitOf(0), 0);
        b.due("exitOf(1)", States.crowded().exitOf(1), -1);
        b.due("exitOf(5)", States.crowded().exitOf(5), -1);
        b.refusedOfNoTalker(talker -> "exitOf(" + talker + ")", SmallerTalk::exitOf);
    }

    // Who comes a minute later has not heard the noise of the first one.
    private static SmallerTalk withALaterOne(int noise) {
        SmallerTalk talk = States.behindNoise(noise);
        talk.addTalker(1, 2, 9);
        return talk;
    }

    private void leastPatience() {
        b.due("nextToGo() of patience 29 and 30", withALaterOne(2).nextToGo(), 0);
        b.due("nextToGo() of patience 1 and 30", withALaterOne(579).nextToGo(), 0);
        b.due("nextToGo() of one who went and patience 30", withALaterOne(580).nextToGo(), 1);
        b.due("nextToGo() of one with patience 30", States.behindNoise(0).nextToGo(), 0);
    }

    private void smallestNumber() {
        SmallerTalk six = new SmallerTalk();
        for (int talker = 0; talker < 6; talker++) {
            six.addTalker(1, 2, 9);
        }
        b.due("nextToGo() of six with patience 30", six.nextToGo(), 0);
        b.due("nextToGo() of one who went and five with patience 30", States.crowded().nextToGo(), 1);
        // Two quiet minutes give the first one back what noise 2 took: both have 30 then.
        SmallerTalk two = withALaterOne(2);
        States.dropAll(two);
        two.pass(2);
        b.due("nextToGo() of two with patience 30", two.nextToGo(), 0);
    }

    private void nobodyIsThere() {
        b.due("nextToGo() of a new object", new SmallerTalk().nextToGo(), -1);
        SmallerTalk stays = States.behindNoise(579);
        b.due("nextToGo() of one with patience 1", stays.nextToGo(), 0);
        stays.pass(1);
        b.due("nextToGo() of this one, a minute later", stays.nextToGo(), -1);
        b.due("nextToGo() of one who went", States.behindNoise(580).nextToGo(), -1);
    }
}
