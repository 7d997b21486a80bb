/** The boundary cases that "What it is" and "Terms" name, but for those of a minute. */
final class TermBoundaries {
    private static final String TERMS = "Terms";

    private final Boundaries b;

    TermBoundaries(Boundaries b) {
        this.b = b;
    }

    void all() {
        b.sentence("What it is", "at most 512 calls after it has been made", this::lastCall);
        b.sentence(TERMS, "/ is cut towards 0", this::cutTowardsZero);
        b.sentence(TERMS, "Time is told in minutes, from 0", this::timeFromZero);
        b.sentence(TERMS, "At most 12 lie on the belt", this::atMostTwelve);
        b.sentence(TERMS, "at places from 0 on", this::placesFromZero);
        b.sentence(TERMS, "each is of a kind, 0 to 4", this::kinds);
        b.sentence(TERMS, "of which 0 is the weather", this::weather);
        b.sentence(TERMS, "has a size, 2 to 99", this::sizes);
        b.sentence(TERMS, "What would be put on a full belt is not put there", this::fullBelt);
        b.sentence(TERMS, "It has 1 to 4 stones", this::stones);
        b.sentence(TERMS, "(1, at first)", this::stonesAtFirst);
        b.sentence(TERMS, "a gear, 2 to 9", this::gears);
        b.sentence(TERMS, "(2, at first)", this::gearAtFirst);
        b.sentence(TERMS, "Its mesh is 0 to 20", this::meshes);
        b.sentence(TERMS, "(3, at first)", this::meshAtFirst);
        b.sentence(TERMS, "bottles of 6 nods each", this::sixNods);
        b.sentence(TERMS, "At most 6, numbered from 0", this::atMostSix);
        b.sentence(TERMS, "each has patience, 0 to 30", this::patience);
        b.sentence(TERMS, "(30, at first)", this::patienceAtFirst);
        b.sentence(TERMS, "goes as soon as it is 0", this::goesAtZero);
        b.sentence(TERMS, "for good", this::goneForGood);
        b.sentence(TERMS, "each so many minutes, 1 to 9", this::minutesBetween);
        b.sentence(TERMS, "the sizes of all topics on the belt, added", this::noise);
    }

    private void lastCall() {
        SmallerTalk passed = new SmallerTalk();
        SmallerTalk refused = new SmallerTalk();
        SmallerTalk asked = new SmallerTalk();
        for (int call = 1; call <= 511; call++) {
            passed.pass(60);
            putWrong(refused);
            asked.digest();
        }
        b.due("minute() behind 511 times pass(60)", passed.minute(), 30660);
        b.due("topics() behind 511 refused calls", refused.topics(), 0);
        b.due("digest() behind 511 others", asked.digest(), new SmallerTalk().digest());
        SmallerTalk ground = new SmallerTalk();
        for (int time = 1; time <= 255; time++) {
            ground.put(1, 2);
            ground.pass(1);
        }
        b.due("bottles() as call 511, of 255 nods", ground.bottles(), 42);
        b.due("nods() as call 512", ground.nods(), 3);
    }

    private static void putWrong(SmallerTalk talk) {
        try {
            talk.put(1, 100);
        } catch (IllegalArgumentException e) {
            return;
        }
    }

    private void cutTowardsZero() {
        b.due("4 / 2", ground(4, 2), 2);
        b.due("5 / 2", ground(5, 2), 2);
        b.due("6 / 2", ground(6, 2), 3);
        b.due("98 / 9", ground(98, 9), 10);
        b.due("99 / 9", ground(99, 9), 11);
        b.due("patience behind noise 39, which is 39 / 20 and 1 less", patienceBehind(39), 28);
        b.due("patience behind noise 40, which is 40 / 20 and 1 less", patienceBehind(40), 27);
    }

    private static int patienceBehind(int noise) {
        return States.behindNoise(noise).patienceOf(0);
    }

    private static int ground(int size, int gear) {
        SmallerTalk talk = States.with(1, size);
        talk.setGear(gear);
        talk.pass(1);
        return talk.sizeAt(0);
    }

    private void timeFromZero() {
        SmallerTalk talk = new SmallerTalk();
        b.due("minute() of a new object", talk.minute(), 0);
        States.putMany(talk, 12, 1, 99);
        talk.addTalker(1, 2, 1);
        talk.noiseIn(60);
        b.due("minute() before any passed", talk.minute(), 0);
        talk.pass(1);
        b.due("minute() behind the first one", talk.minute(), 1);
        b.due("exitOf(0), who went in the first minute", talk.exitOf(0), 0);
    }

    private void atMostTwelve() {
        SmallerTalk talk = States.many(11, 4, 7);
        b.due("put(4, 7), the 12th", talk.put(4, 7), 11);
        b.due("topics() then", talk.topics(), 12);
        b.refused("put(4, 7), the 13th", Boundaries.STATE, () -> States.full(4, 7), full -> full.put(4, 7));
        talk.drop(5);
        b.due("topics() behind drop(5)", talk.topics(), 11);
        b.due("put(3, 8) behind it", talk.put(3, 8), 11);
        b.due("kindAt(11)", talk.kindAt(11), 3);
    }

    private void placesFromZero() {
        SmallerTalk talk = new SmallerTalk();
        b.due("put(2, 9), the first", talk.put(2, 9), 0);
        b.due("sizeAt(0)", talk.sizeAt(0), 9);
        b.refused("sizeAt(-1)", Boundaries.INDEX, () -> States.with(2, 9), one -> one.sizeAt(-1));
        b.refused("sizeAt(1)", Boundaries.INDEX, () -> States.with(2, 9), one -> one.sizeAt(1));
        b.due("sizeAt(11) of 12", States.full(2, 9).sizeAt(11), 9);
        b.refused("sizeAt(12)", Boundaries.INDEX, () -> States.full(2, 9), twelve -> twelve.sizeAt(12));
    }

    private void kinds() {
        SmallerTalk talk = new SmallerTalk();
        for (int kind = 0; kind <= 4; kind++) {
            talk.put(kind, 50);
            b.due("kindAt(" + kind + ")", talk.kindAt(kind), kind);
        }
        for (int kind = 0; kind <= 4; kind++) {
            SmallerTalk one = new SmallerTalk();
            one.addTalker(kind, 50, 1);
            one.pass(1);
            b.due("kindAt(0) of what a talker of kind " + kind + " brings", one.kindAt(0), kind);
        }
        b.refusedInEachState("put(-1, 50)", Boundaries.ARGUMENT, any -> any.put(-1, 50));
        b.refusedInEachState("put(5, 50)", Boundaries.ARGUMENT, any -> any.put(5, 50));
    }

    private void weather() {
        SmallerTalk talk = States.with(1, 99, 0, 5, 1, 5, 2, 5, 3, 5, 4, 5);
        talk.setMesh(20);
        talk.pass(1);
        b.belt("kind 0 falls, 1 to 4 do not", talk, "1:49 1:5 2:5 3:5 4:5");
        b.due("sieved()", talk.sieved(), 1);
    }

    private void sizes() {
        SmallerTalk talk = new SmallerTalk();
        talk.put(1, 2);
        talk.put(1, 99);
        b.due("sizeAt(0), the least", talk.sizeAt(0), 2);
        b.due("sizeAt(1), the most", talk.sizeAt(1), 99);
        b.refusedInEachState("put(1, 1)", Boundaries.ARGUMENT, any -> any.put(1, 1));
        b.refusedInEachState("put(1, 100)", Boundaries.ARGUMENT, any -> any.put(1, 100));
        b.due("topics() behind 4 / 2 is 2", topicsBehindOneMinute(4), 1);
        b.due("topics() behind 3 / 2 is 1", topicsBehindOneMinute(3), 0);
    }

    private static int topicsBehindOneMinute(int size) {
        SmallerTalk talk = States.with(1, size);
        talk.pass(1);
        return talk.topics();
    }

    private void fullBelt() {
        // Nothing becomes a nod in the first minute: 9 / 2 is 4. The noise, 26, takes 2 of the patience.
        SmallerTalk twelve = quietTopics(12);
        twelve.addTalker(3, 6, 9);
        twelve.pass(1);
        b.due("topics() of 12 and one brought", twelve.topics(), 12);
        b.due("topicsOf(3), which was brought", twelve.topicsOf(3), 0);
        b.due("present()", twelve.present(), 1);
        SmallerTalk eleven = quietTopics(11);
        eleven.addTalker(3, 6, 9);
        eleven.pass(1);
        b.due("topics() of 11 and one brought", eleven.topics(), 12);
        b.due("kindAt(11)", eleven.kindAt(11), 3);
        SmallerTalk two = quietTopics(11);
        two.addTalker(2, 6, 9);
        two.addTalker(3, 6, 9);
        two.pass(1);
        b.due("topics() of 11 and two brought", two.topics(), 12);
        b.due("kindAt(11), the first one's", two.kindAt(11), 2);
        b.due("topicsOf(3), the second one's", two.topicsOf(3), 0);
        lostOnAFullBelt(twelve);
    }

    private void lostOnAFullBelt(SmallerTalk talk) {
        States.dropAll(talk);
        talk.pass(8);
        b.due("topics() of an empty belt till minute 8", talk.topics(), 0);
        talk.pass(1);
        b.due("topicsOf(3) behind minute 9", talk.topicsOf(3), 1);
    }

    private static SmallerTalk quietTopics(int count) {
        SmallerTalk talk = States.with(1, 9);
        States.putMany(talk, count - 1, 4, 2);
        return talk;
    }

    private void stones() {
        for (int stones = 1; stones <= 4; stones++) {
            SmallerTalk talk = States.many(5, 1, 80);
            talk.setStones(stones);
            b.due("stones()", talk.stones(), stones);
            talk.pass(1);
            b.due("noise() with " + stones + " stones", talk.noise(), 400 - 40 * stones);
        }
        b.refusedInEachState("setStones(0)", Boundaries.ARGUMENT, any -> any.setStones(0));
        b.refusedInEachState("setStones(5)", Boundaries.ARGUMENT, any -> any.setStones(5));
    }

    private void stonesAtFirst() {
        SmallerTalk talk = States.with(1, 80, 1, 80);
        b.due("stones()", talk.stones(), 1);
        talk.pass(1);
        b.belt("one is ground, the next is not", talk, "1:40 1:80");
    }

    private void gears() {
        int[] ground = {49, 33, 24, 19, 16, 14, 12, 11};
        for (int gear = 2; gear <= 9; gear++) {
            SmallerTalk talk = States.with(1, 99);
            talk.setGear(gear);
            b.due("gear()", talk.gear(), gear);
            talk.pass(1);
            b.due("99 with gear " + gear, talk.sizeAt(0), ground[gear - 2]);
        }
        b.refusedInEachState("setGear(1)", Boundaries.ARGUMENT, any -> any.setGear(1));
        b.refusedInEachState("setGear(10)", Boundaries.ARGUMENT, any -> any.setGear(10));
    }

    private void gearAtFirst() {
        SmallerTalk talk = States.with(1, 80);
        b.due("gear()", talk.gear(), 2);
        talk.pass(1);
        b.due("80 behind a minute", talk.sizeAt(0), 40);
    }

    private void meshes() {
        for (int mesh = 0; mesh <= 20; mesh++) {
            SmallerTalk talk = new SmallerTalk();
            talk.setMesh(mesh);
            b.due("mesh()", talk.mesh(), mesh);
        }
        b.refusedInEachState("setMesh(-1)", Boundaries.ARGUMENT, any -> any.setMesh(-1));
        b.refusedInEachState("setMesh(21)", Boundaries.ARGUMENT, any -> any.setMesh(21));
    }

    private void meshAtFirst() {
        SmallerTalk talk = States.with(1, 80, 0, 2, 0, 3);
        b.due("mesh()", talk.mesh(), 3);
        talk.pass(1);
        b.belt("2 falls, 3 does not", talk, "1:40 0:3");
    }

    private void sixNods() {
        int[] bottles = {0, 0, 0, 0, 0, 0, 1, 1, 1, 1, 1, 1, 2};
        for (int nods = 1; nods <= 12; nods++) {
            SmallerTalk talk = States.full(1, 2);
            talk.pass(nods);
            b.due("bottles() of " + nods, talk.bottles(), bottles[nods]);
            b.due("nods() of " + nods, talk.nods(), nods - 6 * bottles[nods]);
        }
    }

    private void atMostSix() {
        SmallerTalk talk = new SmallerTalk();
        for (int talker = 0; talker < 6; talker++) {
            b.due("addTalker(1, 2, 9)", talk.addTalker(1, 2, 9), talker);
            b.due("isPresent(" + talker + ")", talk.isPresent(talker), true);
        }
        b.refused("addTalker(1, 2, 9), the 7th", Boundaries.STATE, States::crowded, six -> six.addTalker(1, 2, 9));
        b.refused("isPresent(-1)", Boundaries.INDEX, States::crowded, six -> six.isPresent(-1));
        b.refused("isPresent(6)", Boundaries.INDEX, States::crowded, six -> six.isPresent(6));
    }

    private void patience() {
        SmallerTalk quiet = new SmallerTalk();
        quiet.addTalker(1, 2, 1);
        quiet.pass(60);
        b.due("patienceOf(0) behind 60 quiet minutes", quiet.patienceOf(0), 30);
        b.due("patienceOf(0) behind the most noise", patienceBehind(11 * 99), 0);
        b.due("patienceOf(0) behind the least noise", patienceBehind(2), 29);
    }

    private void patienceAtFirst() {
        SmallerTalk talk = States.many(3, 1, 99);
        talk.addTalker(1, 2, 9);
        b.due("patienceOf(0) before a minute", talk.patienceOf(0), 30);
        talk.pass(1);
        talk.addTalker(1, 2, 9);
        b.due("patienceOf(1) of one who comes later", talk.patienceOf(1), 30);
        // 49 + 99 + 99 is 247: 13 less.
        b.due("patienceOf(0) then", talk.patienceOf(0), 17);
    }

    private void goesAtZero() {
        SmallerTalk one = States.behindNoise(579);
        b.due("patienceOf(0) behind noise 579, 29 less", one.patienceOf(0), 1);
        b.due("isPresent(0) with patience 1", one.isPresent(0), true);
        b.due("exitOf(0) with patience 1", one.exitOf(0), -1);
        SmallerTalk none = States.behindNoise(580);
        b.due("patienceOf(0) behind noise 580, 30 less", none.patienceOf(0), 0);
        b.due("isPresent(0) with patience 0", none.isPresent(0), false);
        b.due("exitOf(0) with patience 0", none.exitOf(0), 0);
    }

    private void goneForGood() {
        SmallerTalk talk = States.withOneWhoWent();
        b.due("pass(60) on an empty belt", talk.pass(60), 0);
        b.due("isPresent(0)", talk.isPresent(0), false);
        b.due("patienceOf(0)", talk.patienceOf(0), 0);
        b.due("exitOf(0)", talk.exitOf(0), 0);
        b.due("topics(), of which this one brings none", talk.topics(), 0);
        States.putMany(talk, 12, 1, 99);
        b.due("pass(1) with noise", talk.pass(1), 0);
        b.due("exitOf(0) with noise", talk.exitOf(0), 0);
        SmallerTalk stays = States.behindNoise(579);
        States.dropAll(stays);
        stays.pass(5);
        b.due("isPresent(0) of one who had patience 1", stays.isPresent(0), true);
        b.due("patienceOf(0) of this one behind 5 quiet minutes", stays.patienceOf(0), 6);
    }

    private void minutesBetween() {
        for (int minutes = 1; minutes <= 9; minutes++) {
            b.due("brought each " + minutes + " in 1 minute", brought(minutes, 1), 1);
            b.due("brought each " + minutes + ", before it is time", brought(minutes, minutes), 1);
            b.due("brought each " + minutes + ", when it is time", brought(minutes, minutes + 1), 2);
            b.due("brought each " + minutes + " in 60", brought(minutes, 60), 59 / minutes + 1);
        }
        b.refusedInEachState("addTalker(1, 2, 0)", Boundaries.ARGUMENT, any -> any.addTalker(1, 2, 0));
        b.refusedInEachState("addTalker(1, 2, 10)", Boundaries.ARGUMENT, any -> any.addTalker(1, 2, 10));
    }

    // What is brought is a nod a minute later, and is not heard, so the talker stays.
    private static int brought(int each, int minutes) {
        SmallerTalk talk = new SmallerTalk();
        talk.addTalker(1, 2, each);
        talk.pass(minutes);
        return talk.bottles() * 6 + talk.nods() + talk.topics();
    }

    private void noise() {
        b.due("noise() of an empty belt", States.empty().noise(), 0);
        b.due("noise() of the least topic", States.with(0, 2).noise(), 2);
        b.due("noise() of one of each kind", States.with(0, 2, 1, 3, 2, 5, 3, 7, 4, 11).noise(), 28);
        b.due("noise() of 12 of the largest", States.full(4, 99).noise(), 1188);
        SmallerTalk dropped = States.full(4, 99);
        dropped.drop(11);
        b.due("noise() without the last one", dropped.noise(), 1089);
    }
}
