/** The boundary cases that the steps of a minute name. */
final class MinuteBoundaries {
    private static final String TERMS = "Terms";

    private final Boundaries b;

    MinuteBoundaries(Boundaries b) {
        this.b = b;
    }

    void all() {
        b.sentence(TERMS, "as many as there are stones, by places", this::asManyAsStones);
        b.sentence(TERMS, "If it is less than 2 then, the topic is a nod", this::lessThanTwo);
        b.sentence(TERMS, ", and is not on the belt any more, behind this step.", this::nodIsOffTheBelt);
        b.sentence(TERMS, "Each weather topic whose size is less than the mesh falls", this::lessThanTheMesh);
        b.sentence(TERMS, ", and is not on the belt any more.", this::sievedIsOffTheBelt);
        b.sentence(TERMS, "As long as there are 6 nods or more, 6 of them are bottled.", this::sixOrMore);
        b.sentence(TERMS, "Each talker who is there: ", this::eachWhoIsThereHears);
        b.sentence(TERMS, "with noise, the patience is noise / 20 and 1 less", this::withNoise);
        b.sentence(TERMS, ", at least 0;", this::atLeastZero);
        b.sentence(TERMS, "without, it is 1 more", this::withoutNoise);
        b.sentence(TERMS, ", at most 30.", this::atMostThirty);
        b.sentence(TERMS, "Who has none goes, in this minute.", this::goesInThisMinute);
        b.sentence(TERMS, "Each talker who is there, by numbers,", this::eachWhoIsThereBrings);
        b.sentence(TERMS, "whose minutes divide the minute", this::minutesThatDivide);
        b.sentence(TERMS, "puts a topic at the end of the belt", this::atTheEnd);
        b.sentence(TERMS, "The minute is 1 greater.", this::oneGreater);
    }

    private static SmallerTalk behindOneMinute(SmallerTalk talk) {
        talk.pass(1);
        return talk;
    }

    private static SmallerTalk withStones(int stones, SmallerTalk talk) {
        talk.setStones(stones);
        return talk;
    }

    private static SmallerTalk withMesh(int mesh, SmallerTalk talk) {
        talk.setMesh(mesh);
        return talk;
    }

    private void asManyAsStones() {
        for (int stones = 1; stones <= 4; stones++) {
            for (int topics = 0; topics <= 5; topics++) {
                SmallerTalk talk = withStones(stones, States.many(topics, 1, 80));
                talk.pass(1);
                int ground = Math.min(stones, topics);
                String of = " of " + topics + " topics and " + stones + " stones";
                b.due("noise()" + of, talk.noise(), 80 * topics - 40 * ground);
                b.due("topics()" + of, talk.topics(), topics);
            }
        }
        SmallerTalk mixed = withStones(4, States.with(0, 40, 1, 3, 2, 50, 3, 8, 4, 60));
        b.belt("four of five, of which one is a nod", behindOneMinute(mixed), "0:20 2:25 3:4 4:60");
        SmallerTalk allNods = withStones(4, States.many(4, 1, 3));
        b.belt("four of four, all nods", behindOneMinute(allNods), "");
        b.due("nods() of them", allNods.nods(), 4);
    }

    private void lessThanTwo() {
        for (int gear = 2; gear <= 9; gear++) {
            b.due("2 with gear " + gear, nodsOf(2, gear), 1);
            b.due("twice the gear less 1, with gear " + gear, nodsOf(2 * gear - 1, gear), 1);
            b.due("twice the gear, with gear " + gear, nodsOf(2 * gear, gear), 0);
            b.due("99 with gear " + gear, nodsOf(99, gear), 0);
        }
    }

    private static int nodsOf(int size, int gear) {
        SmallerTalk talk = States.with(1, size);
        talk.setGear(gear);
        talk.pass(1);
        return talk.nods();
    }

    private void nodIsOffTheBelt() {
        SmallerTalk one = States.with(1, 3, 2, 99);
        b.belt("one stone leaves the one behind a nod alone", behindOneMinute(one), "2:99");
        b.belt("and grinds it in the next minute", behindOneMinute(one), "2:49");
        SmallerTalk two = withStones(2, States.with(1, 3, 2, 2, 3, 2, 4, 2));
        b.belt("two stones leave two of four nods to the next minute", behindOneMinute(two), "3:2 4:2");
        b.due("a nod is not heard: patience 29 behind it", patienceBehind(1, 3), 30);
        b.due("a topic of 2 is heard: patience 29 behind it", patienceBehind(1, 4), 28);
        SmallerTalk weather = States.with(0, 3);
        b.due("a nod of weather is no sieved one: sieved()", behindOneMinute(weather).sieved(), 0);
        b.due("but a nod: nods()", weather.nods(), 1);
        SmallerTalk place = States.full(4, 2);
        place.addTalker(3, 6, 9);
        b.due("a nod's place of 12 is free for what is brought: topics()", behindOneMinute(place).topics(), 12);
        b.due("kindAt(11)", place.kindAt(11), 3);
    }

    /** Patience, 29 before, behind a minute with this topic alone. */
    private static int patienceBehind(int kind, int size) {
        SmallerTalk talk = States.behindNoise(2);
        States.dropAll(talk);
        talk.put(kind, size);
        talk.pass(1);
        return talk.patienceOf(0);
    }

    private void lessThanTheMesh() {
        for (int mesh = 0; mesh <= 20; mesh++) {
            for (int size = Math.max(2, mesh - 1); size <= Math.max(2, mesh + 1); size++) {
                SmallerTalk talk = withMesh(mesh, States.with(1, 99, 0, size));
                talk.pass(1);
                b.due("sieved() of size " + size + " with mesh " + mesh, talk.sieved(), size < mesh ? 1 : 0);
                b.due("topics() then", talk.topics(), size < mesh ? 1 : 2);
            }
        }
        SmallerTalk each = withMesh(20, States.with(1, 99));
        States.putMany(each, 11, 0, 19);
        b.due("sieved() of 11 of 19 with mesh 20", behindOneMinute(each).sieved(), 11);
        b.belt("the belt then", each, "1:49");
        b.belt("19 / 2 falls with mesh 10", behindOneMinute(withMesh(10, States.with(0, 19))), "");
        b.belt("20 / 2 does not", behindOneMinute(withMesh(10, States.with(0, 20))), "0:10");
        SmallerTalk twelve = withStones(4, withMesh(20, States.full(0, 19)));
        b.due("sieved() of 12", behindOneMinute(twelve).sieved(), 12);
        b.due("topics() then", twelve.topics(), 0);
    }

    private void sievedIsOffTheBelt() {
        b.due("what falls is not heard: patience 29 behind it", patienceBehind(0, 4), 30);
        b.due("what does not fall is heard: patience 29 behind it", patienceBehind(0, 6), 28);
        SmallerTalk place = States.with(4, 9, 0, 2);
        States.putMany(place, 10, 4, 3);
        place.addTalker(3, 6, 9);
        b.due("its place of 12 is free for what is brought: topics()", behindOneMinute(place).topics(), 12);
        b.due("kindAt(11)", place.kindAt(11), 3);
        b.due("it falls once: sieved()", behindOneMinute(place).sieved(), 1);
        b.due("it is no nod: nods()", place.nods(), 0);
    }

    private void sixOrMore() {
        for (int before = 0; before <= 5; before++) {
            for (int now = 1; now <= 4; now++) {
                SmallerTalk talk = States.many(before + now, 1, 2);
                for (int minute = 0; minute < before; minute++) {
                    talk.pass(1);
                }
                talk.setStones(now);
                talk.pass(1);
                int nods = before + now;
                String of = " of " + before + " nods and " + now;
                b.due("bottles()" + of, talk.bottles(), nods < 6 ? 0 : 1);
                b.due("nods()" + of, talk.nods(), nods < 6 ? nods : nods - 6);
            }
        }
    }

    private void eachWhoIsThereHears() {
        SmallerTalk talk = States.crowded();
        // One stone makes a nod of the first 3: ten of them and 4 are left, which is 34, and takes 2.
        talk.pass(1);
        b.due("patienceOf(0), who went", talk.patienceOf(0), 0);
        for (int talker = 1; talker <= 5; talker++) {
            b.due("patienceOf(" + talker + ")", talk.patienceOf(talker), 28);
        }
        SmallerTalk quiet = States.withOneWhoWent();
        quiet.addTalker(1, 2, 9);
        quiet.pass(1);
        b.due("patienceOf(0), who went, behind a quiet minute", quiet.patienceOf(0), 0);
        b.due("patienceOf(1), who is there", quiet.patienceOf(1), 30);
        b.due("exitOf(0), who went in minute 0", quiet.exitOf(0), 0);
    }

    private void withNoise() {
        int[] noises = {2, 3, 19, 20, 21, 39, 40, 59, 60, 99, 100, 559, 560, 579};
        int[] patience = {29, 29, 29, 28, 28, 28, 27, 27, 26, 25, 24, 2, 1, 1};
        for (int i = 0; i < noises.length; i++) {
            b.due("patienceOf(0) behind " + noises[i], States.behindNoise(noises[i]).patienceOf(0), patience[i]);
        }
        SmallerTalk brought = new SmallerTalk();
        brought.addTalker(1, 99, 9);
        b.due("what is brought is not heard before the next minute", behindOneMinute(brought).patienceOf(0), 30);
        b.due("then 49 of it is", behindOneMinute(brought).patienceOf(0), 27);
    }

    private void atLeastZero() {
        for (int noise : new int[] {580, 599, 600, 620, 1089}) {
            b.due("patienceOf(0) behind " + noise, States.behindNoise(noise).patienceOf(0), 0);
        }
    }

    private void withoutNoise() {
        // 20 takes 2; two quiet minutes give them back.
        SmallerTalk talk = States.behindNoise(20);
        States.dropAll(talk);
        b.due("patienceOf(0) behind noise 20", talk.patienceOf(0), 28);
        b.due("behind one quiet minute", behindOneMinute(talk).patienceOf(0), 29);
        b.due("behind two", behindOneMinute(talk).patienceOf(0), 30);
        SmallerTalk last = States.behindNoise(579);
        States.dropAll(last);
        b.due("patience 1 behind a quiet minute", behindOneMinute(last).patienceOf(0), 2);
    }

    private void atMostThirty() {
        SmallerTalk talk = States.behindNoise(2);
        States.dropAll(talk);
        b.due("patience 29 behind a quiet minute", behindOneMinute(talk).patienceOf(0), 30);
        b.due("patience 30 behind a quiet minute", behindOneMinute(talk).patienceOf(0), 30);
    }

    private void goesInThisMinute() {
        SmallerTalk talk = new SmallerTalk();
        talk.pass(8);
        talk.addTalker(3, 50, 2);
        States.putMany(talk, 7, 1, 99);
        // 49 + 6 * 99 is 643, which takes all.
        b.due("pass(1), minute 8", talk.pass(1), 1);
        b.due("exitOf(0)", talk.exitOf(0), 8);
        b.due("isPresent(0)", talk.isPresent(0), false);
        b.due("minute() then", talk.minute(), 9);
        b.due("topicsOf(3), which is not brought any more", talk.topicsOf(3), 0);
        SmallerTalk stays = States.behindNoise(579);
        b.due("topicsOf(3) of one with patience 1", stays.topicsOf(3), 1);
        b.due("topicsOf(3) of one without", States.behindNoise(580).topicsOf(3), 0);
        b.due("pass(1) of one with patience 1, a minute later", stays.pass(1), 1);
        b.due("exitOf(0) of this one", stays.exitOf(0), 1);
    }

    private void eachWhoIsThereBrings() {
        SmallerTalk six = new SmallerTalk();
        for (int talker = 0; talker < 6; talker++) {
            six.addTalker(talker % 5, 12 - talker, 9);
        }
        b.belt("six, by their numbers", behindOneMinute(six), "0:12 1:11 2:10 3:9 4:8 0:7");
        SmallerTalk talk = States.withOneWhoWent();
        talk.addTalker(2, 9, 1);
        b.belt("who went brings nothing", behindOneMinute(talk), "2:9");
        b.belt("nobody brings nothing", behindOneMinute(new SmallerTalk()), "");
    }

    private void minutesThatDivide() {
        for (int each = 1; each <= 9; each++) {
            SmallerTalk talk = new SmallerTalk();
            talk.addTalker(1, 2, each);
            for (int minute = 0; minute <= 19; minute++) {
                talk.pass(1);
                b.due("topics() behind minute " + minute + ", each " + each, talk.topics(), minute % each == 0 ? 1 : 0);
            }
        }
        b.due("topics() behind minute 5 of one who comes in it, each 3", broughtBehind(5, 1), 0);
        b.due("topics() behind minute 6 of the same one", broughtBehind(5, 2), 1);
        b.due("topics() behind minute 6 of one who comes in it", broughtBehind(6, 1), 1);
    }

    private static int broughtBehind(int before, int minutes) {
        SmallerTalk talk = new SmallerTalk();
        talk.pass(before);
        talk.addTalker(1, 2, 3);
        talk.pass(minutes);
        return talk.topics();
    }

    private void atTheEnd() {
        SmallerTalk empty = new SmallerTalk();
        empty.addTalker(3, 6, 9);
        b.belt("of an empty belt", behindOneMinute(empty), "3:6");
        SmallerTalk some = States.with(1, 9, 0, 9);
        some.addTalker(3, 6, 9);
        b.belt("of a belt of two", behindOneMinute(some), "1:4 0:9 3:6");
        SmallerTalk eleven = States.many(11, 4, 4);
        eleven.addTalker(3, 6, 9);
        b.due("of a belt of 11: kindAt(11)", behindOneMinute(eleven).kindAt(11), 3);
        SmallerTalk twelve = States.full(4, 4);
        twelve.addTalker(3, 6, 9);
        b.due("not on a belt of 12: kindAt(11)", behindOneMinute(twelve).kindAt(11), 4);
        SmallerTalk weather = withMesh(20, new SmallerTalk());
        weather.addTalker(1, 99, 9);
        weather.addTalker(0, 2, 9);
        b.belt("what is brought does not fall in its minute", behindOneMinute(weather), "1:99 0:2");
        b.belt("but in the next one", behindOneMinute(weather), "1:49");
    }

    private void oneGreater() {
        SmallerTalk talk = States.behindNoise(580);
        b.due("minute() behind minute 0", talk.minute(), 1);
        b.due("exitOf(0), before it was greater", talk.exitOf(0), 0);
        b.due("minute() behind one more", behindOneMinute(talk).minute(), 2);
        talk.pass(60);
        b.due("minute() behind 60 more", talk.minute(), 62);
    }
}
