/** Each promise by its number: ordinary inputs, the edges, and wrong inputs; all answers worked out by hand. */
public final class PromiseTest {
    private static final Class<IllegalArgumentException> ARGUMENT = IllegalArgumentException.class;
    private static final Class<IllegalStateException> STATE = IllegalStateException.class;
    private static final Class<IndexOutOfBoundsException> INDEX = IndexOutOfBoundsException.class;
    private static final int[] FAR = {Integer.MIN_VALUE, -1, Integer.MAX_VALUE};

    private static final Checks CHECKS = new Checks();

    public static void main(String[] args) {
        newObject();
        put();
        putWrong();
        pushToFront();
        drop();
        setGear();
        setStones();
        setMesh();
        addTalker();
        addTalkerWrong();
        pass();
        grinding();
        sieving();
        bottling();
        patience();
        leaving();
        speaking();
        minuteAndTopics();
        sizeAtAndKindAt();
        largest();
        noise();
        topicsOf();
        turnsToNod();
        talkersAndPresent();
        askedOfNoTalker();
        nextToGo();
        noiseIn();
        minutesUntilQuiet();
        minutesUntilQuietEdges();
        minutesUntilExit();
        minutesUntilExitEdges();
        bestGear();
        bestPush();
        bottlesIn();
        meanPatience();
        digest();
        looksAheadChangeNothing();
        CHECKS.end();
    }

    private static void belt(String what, SmallerTalk talk, String want) {
        CHECKS.due(what, Checks.beltOf(talk), want);
    }

    // Promise 1, and the first answers of 18 to 25
    private static void newObject() {
        SmallerTalk talk = new SmallerTalk();
        CHECKS.due("1: minute()", talk.minute(), 0);
        CHECKS.due("1: topics()", talk.topics(), 0);
        CHECKS.due("1: noise()", talk.noise(), 0);
        CHECKS.due("1: nods()", talk.nods(), 0);
        CHECKS.due("1: bottles()", talk.bottles(), 0);
        CHECKS.due("1: sieved()", talk.sieved(), 0);
        CHECKS.due("1: gear()", talk.gear(), 2);
        CHECKS.due("1: stones()", talk.stones(), 1);
        CHECKS.due("1: mesh()", talk.mesh(), 3);
        CHECKS.due("1: talkers()", talk.talkers(), 0);
        CHECKS.due("1: present()", talk.present(), 0);
        SmallerTalk other = new SmallerTalk();
        talk.put(1, 10);
        talk.addTalker(1, 10, 1);
        CHECKS.due("1: topics() of another object", other.topics(), 0);
        CHECKS.due("1: talkers() of another object", other.talkers(), 0);
    }

    // Promise 2
    private static void put() {
        SmallerTalk talk = new SmallerTalk();
        CHECKS.due("2: put(0, 2)", talk.put(0, 2), 0);
        CHECKS.due("2: put(4, 99)", talk.put(4, 99), 1);
        CHECKS.due("2: put(2, 50)", talk.put(2, 50), 2);
        belt("2: the belt", talk, "0:2 4:99 2:50");
        for (int place = 3; place < 12; place++) {
            CHECKS.due("2: put(1, 20)", talk.put(1, 20), place);
        }
        CHECKS.throwsAndKeeps("2: a 13th", talk, STATE, () -> talk.put(1, 20));
        CHECKS.throwsAndKeeps("2: a 13th of a wrong kind", talk, ARGUMENT, () -> talk.put(5, 20));
        CHECKS.throwsAndKeeps("2: a 13th of a wrong size", talk, ARGUMENT, () -> talk.put(1, 100));
        talk.drop(0);
        CHECKS.due("2: put(3, 3) behind a drop", talk.put(3, 3), 11);
    }

    private static void putWrong() {
        SmallerTalk talk = States.with(1, 9);
        for (int kind : new int[] {Integer.MIN_VALUE, -1, 5, Integer.MAX_VALUE}) {
            CHECKS.throwsAndKeeps("2: kind " + kind, talk, ARGUMENT, () -> talk.put(kind, 10));
        }
        for (int size : new int[] {Integer.MIN_VALUE, -1, 0, 1, 100, Integer.MAX_VALUE}) {
            CHECKS.throwsAndKeeps("2: size " + size, talk, ARGUMENT, () -> talk.put(0, size));
        }
    }

    // Promise 3
    private static void pushToFront() {
        SmallerTalk talk = States.with(1, 10, 2, 20, 3, 30, 4, 40);
        CHECKS.due("3: pushToFront(2)", talk.pushToFront(2), 30);
        belt("3: behind it", talk, "3:30 1:10 2:20 4:40");
        CHECKS.due("3: pushToFront(0)", talk.pushToFront(0), 30);
        belt("3: the first one stays", talk, "3:30 1:10 2:20 4:40");
        CHECKS.due("3: pushToFront(3)", talk.pushToFront(3), 40);
        belt("3: the last one", talk, "4:40 3:30 1:10 2:20");
        CHECKS.throwsAndKeeps("3: pushToFront(4)", talk, INDEX, () -> talk.pushToFront(4));
        for (int place : FAR) {
            CHECKS.throwsAndKeeps("3: pushToFront(" + place + ")", talk, INDEX, () -> talk.pushToFront(place));
        }
        SmallerTalk empty = new SmallerTalk();
        CHECKS.throwsAndKeeps("3: on an empty belt", empty, INDEX, () -> empty.pushToFront(0));
        SmallerTalk twelve = States.full(1, 5);
        CHECKS.due("3: pushToFront(11)", twelve.pushToFront(11), 5);
        CHECKS.throwsAndKeeps("3: pushToFront(12)", twelve, INDEX, () -> twelve.pushToFront(12));
    }

    // Promise 4
    private static void drop() {
        SmallerTalk talk = States.with(1, 10, 2, 20, 3, 30, 4, 40);
        CHECKS.due("4: drop(1)", talk.drop(1), 3);
        belt("4: behind it", talk, "1:10 3:30 4:40");
        CHECKS.due("4: drop(2)", talk.drop(2), 2);
        belt("4: the last one", talk, "1:10 3:30");
        CHECKS.throwsAndKeeps("4: drop(2) again", talk, INDEX, () -> talk.drop(2));
        for (int place : FAR) {
            CHECKS.throwsAndKeeps("4: drop(" + place + ")", talk, INDEX, () -> talk.drop(place));
        }
        CHECKS.due("4: drop(0)", talk.drop(0), 1);
        belt("4: the first one", talk, "3:30");
        CHECKS.due("4: the only one", talk.drop(0), 0);
        CHECKS.throwsAndKeeps("4: on an empty belt", talk, INDEX, () -> talk.drop(0));
        CHECKS.due("4: a dropped topic is no nod", talk.nods(), 0);
        CHECKS.due("4: a dropped topic is not sieved", talk.sieved(), 0);
        SmallerTalk twelve = States.full(1, 5);
        CHECKS.due("4: drop(11) of 12", twelve.drop(11), 11);
    }

    // Promises 5 and 21
    private static void setGear() {
        SmallerTalk talk = new SmallerTalk();
        CHECKS.due("5: setGear(9)", talk.setGear(9), 2);
        CHECKS.due("21: gear()", talk.gear(), 9);
        for (int gear : new int[] {Integer.MIN_VALUE, -2, 0, 1, 10, Integer.MAX_VALUE}) {
            CHECKS.throwsAndKeeps("5: setGear(" + gear + ")", talk, ARGUMENT, () -> talk.setGear(gear));
        }
        CHECKS.due("5: setGear(2)", talk.setGear(2), 9);
        CHECKS.due("5: setGear(2) again", talk.setGear(2), 2);
    }

    // Promises 6 and 22
    private static void setStones() {
        SmallerTalk talk = new SmallerTalk();
        CHECKS.due("6: setStones(4)", talk.setStones(4), 1);
        CHECKS.due("22: stones()", talk.stones(), 4);
        for (int stones : new int[] {Integer.MIN_VALUE, -1, 0, 5, Integer.MAX_VALUE}) {
            CHECKS.throwsAndKeeps("6: setStones(" + stones + ")", talk, ARGUMENT, () -> talk.setStones(stones));
        }
        CHECKS.due("6: setStones(1)", talk.setStones(1), 4);
        CHECKS.due("6: setStones(3)", talk.setStones(3), 1);
    }

    // Promises 7 and 23
    private static void setMesh() {
        SmallerTalk talk = States.with(0, 2);
        CHECKS.due("7: setMesh(20)", talk.setMesh(20), 3);
        CHECKS.due("23: mesh()", talk.mesh(), 20);
        CHECKS.due("7: nothing falls at once", talk.topics(), 1);
        for (int mesh : new int[] {Integer.MIN_VALUE, -1, 21, Integer.MAX_VALUE}) {
            CHECKS.throwsAndKeeps("7: setMesh(" + mesh + ")", talk, ARGUMENT, () -> talk.setMesh(mesh));
        }
        CHECKS.due("7: setMesh(0)", talk.setMesh(0), 20);
        CHECKS.due("7: setMesh(1)", talk.setMesh(1), 0);
    }

    // Promises 8 and 24
    private static void addTalker() {
        SmallerTalk talk = new SmallerTalk();
        CHECKS.due("8: addTalker(0, 2, 1)", talk.addTalker(0, 2, 1), 0);
        CHECKS.due("8: addTalker(4, 99, 9)", talk.addTalker(4, 99, 9), 1);
        CHECKS.due("8: nothing is put at once", talk.topics(), 0);
        CHECKS.due("8: patience at first", talk.patienceOf(1), 30);
        CHECKS.due("8: no exit at first", talk.exitOf(1), -1);
        for (int number = 2; number < 6; number++) {
            CHECKS.due("8: addTalker(1, 50, 1)", talk.addTalker(1, 50, 1), number);
        }
        CHECKS.due("24: talkers()", talk.talkers(), 6);
        CHECKS.throwsAndKeeps("8: a 7th", talk, STATE, () -> talk.addTalker(1, 50, 1));
        CHECKS.throwsAndKeeps("8: a 7th of a wrong kind", talk, ARGUMENT, () -> talk.addTalker(-1, 50, 1));
        CHECKS.throwsAndKeeps("8: a 7th of a wrong size", talk, ARGUMENT, () -> talk.addTalker(1, 1, 1));
        CHECKS.throwsAndKeeps("8: a 7th of wrong minutes", talk, ARGUMENT, () -> talk.addTalker(1, 50, 10));
        talk.pass(60);
        CHECKS.due("8: all are gone", talk.present(), 0);
        CHECKS.due("24: those who went count", talk.talkers(), 6);
        CHECKS.throwsAndKeeps("8: a 7th behind those who went", talk, STATE, () -> talk.addTalker(1, 50, 1));
    }

    private static void addTalkerWrong() {
        SmallerTalk talk = States.with(1, 9);
        for (int kind : new int[] {Integer.MIN_VALUE, -1, 5, Integer.MAX_VALUE}) {
            CHECKS.throwsAndKeeps("8: kind " + kind, talk, ARGUMENT, () -> talk.addTalker(kind, 10, 1));
        }
        for (int size : new int[] {Integer.MIN_VALUE, 0, 1, 100, Integer.MAX_VALUE}) {
            CHECKS.throwsAndKeeps("8: size " + size, talk, ARGUMENT, () -> talk.addTalker(0, size, 1));
        }
        for (int minutes : new int[] {Integer.MIN_VALUE, -1, 0, 10, Integer.MAX_VALUE}) {
            CHECKS.throwsAndKeeps("8: minutes " + minutes, talk, ARGUMENT, () -> talk.addTalker(0, 2, minutes));
        }
    }

    // Promise 9
    private static void pass() {
        SmallerTalk talk = new SmallerTalk();
        CHECKS.due("9: pass(60)", talk.pass(60), 0);
        CHECKS.due("9: minute() then", talk.minute(), 60);
        for (int minutes : new int[] {Integer.MIN_VALUE, -1, 0, 61, Integer.MAX_VALUE}) {
            CHECKS.throwsAndKeeps("9: pass(" + minutes + ")", talk, ARGUMENT, () -> talk.pass(minutes));
        }
        CHECKS.due("9: pass(1)", talk.pass(1), 0);
        CHECKS.due("9: minute() then", talk.minute(), 61);
        SmallerTalk loud = States.full(1, 99);
        loud.addTalker(1, 99, 9);
        loud.addTalker(1, 99, 9);
        CHECKS.due("9: two go at once", loud.pass(1), 2);
        CHECKS.due("9: and only once", loud.pass(1), 0);
    }

    // Promise 9, step 1, and promise 18
    private static void grinding() {
        SmallerTalk talk = States.with(1, 40, 2, 7, 3, 15, 4, 99);
        talk.pass(1);
        belt("9.1: one stone grinds the first", talk, "1:20 2:7 3:15 4:99");
        talk.setStones(3);
        talk.setGear(3);
        talk.pass(1);
        belt("9.1: three stones grind three", talk, "1:6 2:2 3:5 4:99");
        talk.pass(1);
        belt("9.1: a nod's place is not ground again in the minute", talk, "1:2 4:99");
        CHECKS.due("18: nods()", talk.nods(), 2);
        talk.setStones(4);
        talk.pass(1);
        belt("9.1: more stones than topics", talk, "4:33");
        CHECKS.due("18: nods()", talk.nods(), 3);
        SmallerTalk edge = States.with(1, 3, 1, 4, 1, 3, 1, 4);
        edge.setStones(4);
        edge.pass(1);
        belt("9.1: 3 / 2 is a nod, 4 / 2 is not", edge, "1:2 1:2");
        CHECKS.due("18: nods()", edge.nods(), 2);
    }

    // Promise 9, step 2, and promise 20
    private static void sieving() {
        SmallerTalk talk = States.with(1, 99, 0, 2, 1, 2, 0, 3, 0, 4);
        talk.pass(1);
        belt("9.2: weather under the mesh falls", talk, "1:49 1:2 0:3 0:4");
        CHECKS.due("20: sieved()", talk.sieved(), 1);
        talk.setMesh(4);
        talk.pass(1);
        belt("9.2: the mesh itself stays", talk, "1:24 1:2 0:4");
        CHECKS.due("20: sieved() adds up", talk.sieved(), 2);
        SmallerTalk ground = States.with(0, 39, 0, 3);
        ground.setMesh(20);
        ground.setStones(2);
        ground.pass(1);
        belt("9.2: ground before it is sieved", ground, "");
        CHECKS.due("20: 39 / 2 falls", ground.sieved(), 1);
        CHECKS.due("18: a weather nod is no sieved one", ground.nods(), 1);
        SmallerTalk none = States.with(1, 99, 0, 2);
        none.setMesh(0);
        none.pass(1);
        CHECKS.due("9.2: mesh 0 lets nothing fall", none.sieved(), 0);
        SmallerTalk late = new SmallerTalk();
        late.addTalker(1, 99, 9);
        late.addTalker(0, 2, 9);
        late.pass(1);
        belt("9.2: a new topic is sieved a minute later", late, "1:99 0:2");
        late.pass(1);
        CHECKS.due("20: then it falls", late.sieved(), 1);
    }

    // Promise 9, step 3, and promises 18 and 19
    private static void bottling() {
        SmallerTalk talk = States.full(1, 2);
        talk.pass(5);
        CHECKS.due("18: 5 nods", talk.nods(), 5);
        CHECKS.due("19: no bottle of 5", talk.bottles(), 0);
        talk.pass(1);
        CHECKS.due("18: 6 nods are bottled", talk.nods(), 0);
        CHECKS.due("19: a bottle of 6", talk.bottles(), 1);
        talk.setStones(4);
        talk.pass(1);
        CHECKS.due("18: 4 nods", talk.nods(), 4);
        talk.put(1, 2);
        talk.put(1, 2);
        talk.pass(1);
        CHECKS.due("18: 8 nods leave 2", talk.nods(), 2);
        CHECKS.due("19: two bottles", talk.bottles(), 2);
    }

    // Promise 9, step 4, and promise 27
    private static void patience() {
        SmallerTalk talk = States.with(1, 2);
        talk.addTalker(1, 40, 9);
        talk.addTalker(1, 2, 8);
        talk.pass(1);
        CHECKS.due("27: at most 30 without noise", talk.patienceOf(0), 30);
        belt("9.5: the first minute", talk, "1:40 1:2");
        talk.pass(1);
        CHECKS.due("27: noise 22 takes 2", talk.patienceOf(0), 28);
        CHECKS.due("27: of each talker", talk.patienceOf(1), 28);
        talk.pass(1);
        CHECKS.due("27: noise 12 takes 1", talk.patienceOf(0), 27);
        CHECKS.due("27: noise is heard behind the mill", talk.noise(), 12);
        SmallerTalk edge = States.with(1, 40, 1, 19);
        edge.addTalker(1, 2, 9);
        edge.pass(1);
        CHECKS.due("27: noise 39 takes 2", edge.patienceOf(0), 28);
        belt("9.5: the new topic is not heard in its minute", edge, "1:20 1:19 1:2");
        SmallerTalk twenty = States.with(1, 40);
        twenty.addTalker(1, 2, 9);
        twenty.pass(1);
        CHECKS.due("27: noise 20 takes 2", twenty.patienceOf(0), 28);
        SmallerTalk nineteen = States.with(1, 38);
        nineteen.addTalker(1, 2, 9);
        nineteen.pass(1);
        CHECKS.due("27: noise 19 takes 1", nineteen.patienceOf(0), 29);
        nineteen.drop(0);
        nineteen.pass(1);
        CHECKS.due("27: quiet gives 1 back", nineteen.patienceOf(0), 30);
        nineteen.pass(1);
        CHECKS.due("27: and no more than 30", nineteen.patienceOf(0), 30);
    }

    // Promise 9, step 4, and promises 25, 26, 28
    private static void leaving() {
        SmallerTalk talk = States.full(1, 99);
        talk.pass(7);
        for (int i = 0; i < 4; i++) {
            talk.drop(0);
        }
        // 7 of 99 are left: more noise than any patience.
        belt("9: behind 7 minutes", talk, "1:99 1:99 1:99 1:99 1:99 1:99 1:99");
        talk.addTalker(2, 50, 1);
        CHECKS.due("25: present()", talk.present(), 1);
        CHECKS.due("26: isPresent(0)", talk.isPresent(0), true);
        CHECKS.due("28: exitOf(0)", talk.exitOf(0), -1);
        int topics = talk.topics();
        CHECKS.due("9: one goes", talk.pass(1), 1);
        CHECKS.due("25: nobody is there", talk.present(), 0);
        CHECKS.due("26: not there", talk.isPresent(0), false);
        CHECKS.due("27: the patience is 0, not less", talk.patienceOf(0), 0);
        CHECKS.due("28: the minute before it is 1 greater", talk.exitOf(0), 7);
        CHECKS.due("9.5: who goes does not speak any more", talk.topics(), topics);
        for (int i = 0; i < 7; i++) {
            talk.drop(0);
        }
        talk.pass(5);
        CHECKS.due("26: gone for good", talk.isPresent(0), false);
        CHECKS.due("27: no patience comes back", talk.patienceOf(0), 0);
        CHECKS.due("28: the minute stays", talk.exitOf(0), 7);
        SmallerTalk exact = States.with(1, 87, 1, 99, 1, 99, 1, 99, 1, 99, 1, 99, 1, 76);
        exact.setGear(9);
        exact.addTalker(1, 2, 9);
        CHECKS.due("9.4: noise 9 + 495 + 76 takes all 30", exact.pass(1), 1);
        SmallerTalk almost = States.with(1, 87, 1, 99, 1, 99, 1, 99, 1, 99, 1, 99, 1, 75);
        almost.setGear(9);
        almost.addTalker(1, 2, 9);
        CHECKS.due("9.4: noise 579 leaves 1", almost.pass(1), 0);
        CHECKS.due("27: patience 1", almost.patienceOf(0), 1);
    }

    // Promise 9, step 5
    private static void speaking() {
        SmallerTalk talk = new SmallerTalk();
        talk.setMesh(0);
        talk.addTalker(3, 4, 3);
        talk.addTalker(2, 8, 2);
        talk.pass(1);
        belt("9.5: minute 0 is divided by all, by numbers", talk, "3:4 2:8");
        talk.pass(1);
        belt("9.5: minute 1", talk, "3:2 2:8");
        talk.pass(1);
        belt("9.5: minute 2", talk, "2:8 2:8");
        talk.pass(1);
        belt("9.5: minute 3", talk, "2:4 2:8 3:4");
        talk.pass(3);
        belt("9.5: minute 6 brings both", talk, "2:4 3:4 2:8 3:4 2:8");
        SmallerTalk crowded = States.full(4, 4);
        crowded.drop(11);
        crowded.addTalker(2, 5, 1);
        crowded.addTalker(3, 6, 1);
        crowded.pass(1);
        CHECKS.due("9.5: a full belt takes one, the other is lost", crowded.topics(), 12);
        CHECKS.due("9.5: the smaller number is first", crowded.kindAt(11), 2);
        CHECKS.due("9.5: the lost one", crowded.topicsOf(3), 0);
    }

    // Promises 10 and 11
    private static void minuteAndTopics() {
        SmallerTalk talk = States.with(1, 99, 2, 99);
        talk.noiseIn(60);
        CHECKS.due("10: minute() behind a look ahead", talk.minute(), 0);
        talk.pass(13);
        talk.pass(2);
        CHECKS.due("10: minute()", talk.minute(), 15);
        SmallerTalk other = States.with(1, 99, 2, 99);
        CHECKS.due("11: topics()", other.topics(), 2);
        other.pass(6);
        CHECKS.due("11: behind a nod", other.topics(), 1);
    }

    // Promises 12 and 13
    private static void sizeAtAndKindAt() {
        SmallerTalk talk = States.with(1, 10, 4, 99);
        CHECKS.due("12: sizeAt(0)", talk.sizeAt(0), 10);
        CHECKS.due("12: sizeAt(1)", talk.sizeAt(1), 99);
        CHECKS.due("13: kindAt(0)", talk.kindAt(0), 1);
        CHECKS.due("13: kindAt(1)", talk.kindAt(1), 4);
        for (int place : new int[] {Integer.MIN_VALUE, -1, 2, 11, 12, Integer.MAX_VALUE}) {
            CHECKS.throwsAndKeeps("12: sizeAt(" + place + ")", talk, INDEX, () -> talk.sizeAt(place));
            CHECKS.throwsAndKeeps("13: kindAt(" + place + ")", talk, INDEX, () -> talk.kindAt(place));
        }
        SmallerTalk twelve = States.full(3, 7);
        CHECKS.due("12: sizeAt(11)", twelve.sizeAt(11), 7);
        CHECKS.due("13: kindAt(11)", twelve.kindAt(11), 3);
        CHECKS.throwsAndKeeps("12: sizeAt(12)", twelve, INDEX, () -> twelve.sizeAt(12));
        CHECKS.throwsAndKeeps("13: kindAt(12)", twelve, INDEX, () -> twelve.kindAt(12));
    }

    // Promise 14
    private static void largest() {
        CHECKS.due("14: an empty belt", new SmallerTalk().largest(), -1);
        CHECKS.due("14: one", States.with(0, 2).largest(), 0);
        CHECKS.due("14: the largest", States.with(0, 5, 1, 9, 2, 8).largest(), 1);
        CHECKS.due("14: the last one", States.with(0, 5, 1, 9, 2, 10).largest(), 2);
        CHECKS.due("14: of several the first one", States.with(0, 5, 1, 9, 2, 9, 3, 9).largest(), 1);
    }

    // Promise 15
    private static void noise() {
        CHECKS.due("15: an empty belt", new SmallerTalk().noise(), 0);
        CHECKS.due("15: all added", States.with(0, 5, 1, 9, 2, 99).noise(), 113);
        CHECKS.due("15: a full belt", States.full(4, 99).noise(), 1188);
    }

    // Promise 16
    private static void topicsOf() {
        SmallerTalk talk = States.with(0, 5, 4, 9, 0, 99, 2, 3);
        CHECKS.due("16: topicsOf(0)", talk.topicsOf(0), 2);
        CHECKS.due("16: topicsOf(1)", talk.topicsOf(1), 0);
        CHECKS.due("16: topicsOf(2)", talk.topicsOf(2), 1);
        CHECKS.due("16: topicsOf(4)", talk.topicsOf(4), 1);
        for (int kind : new int[] {Integer.MIN_VALUE, -1, 5, Integer.MAX_VALUE}) {
            CHECKS.throwsAndKeeps("16: topicsOf(" + kind + ")", talk, INDEX, () -> talk.topicsOf(kind));
        }
        talk.drop(0);
        CHECKS.due("16: behind a drop", talk.topicsOf(0), 1);
    }

    // Promise 17
    private static void turnsToNod() {
        SmallerTalk talk = States.with(1, 2, 1, 3, 1, 4, 1, 63, 1, 64, 1, 99, 0, 9);
        int[] withTwo = {1, 1, 2, 5, 6, 6, 3};
        int[] withNine = {1, 1, 1, 2, 2, 2, 1};
        for (int place = 0; place < withTwo.length; place++) {
            CHECKS.due("17: gear 2, turnsToNod(" + place + ")", talk.turnsToNod(place), withTwo[place]);
        }
        talk.setGear(9);
        for (int place = 0; place < withNine.length; place++) {
            CHECKS.due("17: gear 9, turnsToNod(" + place + ")", talk.turnsToNod(place), withNine[place]);
        }
        for (int place : new int[] {Integer.MIN_VALUE, -1, 7, Integer.MAX_VALUE}) {
            CHECKS.throwsAndKeeps("17: turnsToNod(" + place + ")", talk, INDEX, () -> talk.turnsToNod(place));
        }
        CHECKS.due("17: nothing is ground by it", talk.sizeAt(5), 99);
    }

    // Promises 24 to 28
    private static void talkersAndPresent() {
        SmallerTalk talk = States.full(1, 99);
        talk.addTalker(1, 2, 9);
        talk.addTalker(1, 2, 9);
        talk.pass(1);
        talk.addTalker(1, 2, 9);
        CHECKS.due("24: talkers()", talk.talkers(), 3);
        CHECKS.due("25: present()", talk.present(), 1);
        CHECKS.due("26: isPresent(1)", talk.isPresent(1), false);
        CHECKS.due("26: isPresent(2)", talk.isPresent(2), true);
        CHECKS.due("27: patienceOf(1)", talk.patienceOf(1), 0);
        CHECKS.due("27: patienceOf(2)", talk.patienceOf(2), 30);
        CHECKS.due("28: exitOf(1), in minute 0", talk.exitOf(1), 0);
        CHECKS.due("28: exitOf(2)", talk.exitOf(2), -1);
    }

    private static void askedOfNoTalker() {
        SmallerTalk talk = new SmallerTalk();
        talk.setStones(4);
        talk.addTalker(1, 2, 9);
        for (int talker : new int[] {Integer.MIN_VALUE, -1, 1, 5, 6, Integer.MAX_VALUE}) {
            CHECKS.throwsAndKeeps("26: isPresent(" + talker + ")", talk, INDEX, () -> talk.isPresent(talker));
            CHECKS.throwsAndKeeps("27: patienceOf(" + talker + ")", talk, INDEX, () -> talk.patienceOf(talker));
            CHECKS.throwsAndKeeps("28: exitOf(" + talker + ")", talk, INDEX, () -> talk.exitOf(talker));
            CHECKS.throwsAndKeeps("32: minutesUntilExit(" + talker + ")", talk, INDEX, () -> talk.minutesUntilExit(talker));
        }
        for (int i = 1; i < 6; i++) {
            talk.addTalker(1, 2, 9);
        }
        CHECKS.due("26: isPresent(5)", talk.isPresent(5), true);
        CHECKS.due("32: minutesUntilExit(5)", talk.minutesUntilExit(5), -1);
        CHECKS.throwsAndKeeps("26: isPresent(6) of 6", talk, INDEX, () -> talk.isPresent(6));
        CHECKS.throwsAndKeeps("27: patienceOf(6) of 6", talk, INDEX, () -> talk.patienceOf(6));
        CHECKS.throwsAndKeeps("28: exitOf(6) of 6", talk, INDEX, () -> talk.exitOf(6));
        CHECKS.throwsAndKeeps("32: minutesUntilExit(6) of 6", talk, INDEX, () -> talk.minutesUntilExit(6));
    }

    // Promise 29
    private static void nextToGo() {
        SmallerTalk talk = States.with(1, 99);
        CHECKS.due("29: nobody was ever there", talk.nextToGo(), -1);
        talk.addTalker(1, 2, 9);
        talk.addTalker(1, 2, 9);
        CHECKS.due("29: of several the smallest number", talk.nextToGo(), 0);
        talk.pass(1);
        talk.addTalker(1, 2, 9);
        CHECKS.due("29: the least patience", talk.nextToGo(), 0);
        SmallerTalk left = States.full(1, 99);
        left.addTalker(1, 2, 9);
        left.pass(1);
        CHECKS.due("29: all are gone", left.nextToGo(), -1);
        left.addTalker(1, 2, 9);
        left.addTalker(1, 2, 9);
        CHECKS.due("29: one who went is not next", left.nextToGo(), 1);
    }

    // Promise 30
    private static void noiseIn() {
        SmallerTalk talk = States.with(1, 99, 2, 10);
        CHECKS.due("30: noiseIn(1)", talk.noiseIn(1), 59);
        CHECKS.due("30: noiseIn(5)", talk.noiseIn(5), 13);
        CHECKS.due("30: noiseIn(6)", talk.noiseIn(6), 10);
        CHECKS.due("30: noiseIn(60)", talk.noiseIn(60), 0);
        for (int minutes : new int[] {Integer.MIN_VALUE, -1, 0, 61, Integer.MAX_VALUE}) {
            CHECKS.throwsAndKeeps("30: noiseIn(" + minutes + ")", talk, ARGUMENT, () -> talk.noiseIn(minutes));
        }
        talk.addTalker(3, 7, 1);
        CHECKS.due("30: with what a talker brings", talk.noiseIn(1), 66);
        CHECKS.due("30: noiseIn(1) again", talk.noiseIn(1), 66);
        SmallerTalk other = States.with(1, 99, 1, 60, 0, 9, 0, 10);
        other.setStones(2);
        CHECKS.due("30: with two stones", other.noiseIn(1), 98);
        other.setGear(3);
        CHECKS.due("33: a look ahead with other gears", other.bestGear(), 2);
        CHECKS.due("30: with the gear of now", other.noiseIn(1), 72);
        other.setMesh(10);
        CHECKS.due("30: with the mesh of now", other.noiseIn(1), 63);
        other.setMesh(0);
        CHECKS.due("30: with mesh 0", other.noiseIn(1), 72);
    }

    // Promise 31
    private static void minutesUntilQuiet() {
        SmallerTalk talk = new SmallerTalk();
        CHECKS.due("31: an empty belt", talk.minutesUntilQuiet(), 0);
        talk.put(1, 2);
        CHECKS.due("31: one minute", talk.minutesUntilQuiet(), 1);
        talk.put(1, 99);
        CHECKS.due("31: 1 and 6", talk.minutesUntilQuiet(), 7);
        talk.put(0, 2);
        CHECKS.due("31: the sieve takes one", talk.minutesUntilQuiet(), 7);
        SmallerTalk endless = new SmallerTalk();
        endless.addTalker(1, 2, 1);
        CHECKS.due("31: empty now, with a talker", endless.minutesUntilQuiet(), 0);
        // Each 2 is a nod before it is heard, so this one never goes, and brings the next.
        endless.put(1, 2);
        CHECKS.due("31: a talker who never stops", endless.minutesUntilQuiet(), -1);
        SmallerTalk twelve = States.full(1, 99);
        CHECKS.due("31: 12 times 6", twelve.minutesUntilQuiet(), 72);
    }

    private static void minutesUntilQuietEdges() {
        // The 2 of each minute is a nod before it is heard. 16 is heard as 8, 4 and 2 each 5 minutes: patience is 1
        // less from one 16 to the next, and its least is 27 behind the first. So both go in minute 138, when 2 of the
        // last 16 is left: the belt is empty behind minute 139.
        SmallerTalk talk = new SmallerTalk();
        talk.setStones(4);
        talk.addTalker(1, 16, 5);
        talk.addTalker(1, 2, 1);
        talk.pass(39);
        CHECKS.due("31: 101 minutes are too many", talk.minutesUntilQuiet(), -1);
        talk.pass(1);
        CHECKS.due("31: 100 minutes", talk.minutesUntilQuiet(), 100);
        CHECKS.due("9: none goes in 60", talk.pass(60), 0);
        CHECKS.due("31: 40 minutes", talk.minutesUntilQuiet(), 40);
        CHECKS.due("9: two go in 39", talk.pass(39), 2);
        CHECKS.due("28: the minute 138", talk.exitOf(1), 138);
        CHECKS.due("31: 1 minute", talk.minutesUntilQuiet(), 1);
        talk.pass(1);
        CHECKS.due("31: quiet", talk.minutesUntilQuiet(), 0);
    }

    // Promise 32
    private static void minutesUntilExit() {
        SmallerTalk talk = States.with(1, 80);
        talk.addTalker(1, 2, 9);
        // Behind the mill it is 40, 20, 10, 5, 2, 0 with one topic of 2 behind it: no exit within the belt's noise.
        CHECKS.due("32: one who never goes", talk.minutesUntilExit(0), -1);
        SmallerTalk loud = States.full(1, 99);
        loud.addTalker(1, 2, 9);
        CHECKS.due("32: at once", loud.minutesUntilExit(0), 1);
        loud.pass(1);
        CHECKS.due("32: one who is gone", loud.minutesUntilExit(0), 0);
        SmallerTalk two = States.with(1, 99, 1, 99, 1, 99, 1, 99);
        two.addTalker(1, 2, 9);
        // 346, 321, .. take 18, 17, ..: 30, 12, gone.
        CHECKS.due("32: behind two", two.minutesUntilExit(0), 2);
        two.pass(1);
        CHECKS.due("32: behind one more", two.minutesUntilExit(0), 1);
        two.addTalker(1, 2, 9);
        CHECKS.due("32: of a later one", two.minutesUntilExit(1), 2);
    }

    private static void minutesUntilExitEdges() {
        // As in minutesUntilQuietEdges, without the second talker.
        SmallerTalk talk = new SmallerTalk();
        talk.addTalker(1, 16, 5);
        talk.pass(38);
        CHECKS.due("32: 101 minutes are too many", talk.minutesUntilExit(0), -1);
        talk.pass(1);
        CHECKS.due("32: 100 minutes", talk.minutesUntilExit(0), 100);
        talk.pass(60);
        CHECKS.due("32: 40 minutes", talk.minutesUntilExit(0), 40);
        CHECKS.due("9: none goes in 39", talk.pass(39), 0);
        CHECKS.due("32: 1 minute", talk.minutesUntilExit(0), 1);
        CHECKS.due("9: one goes then", talk.pass(1), 1);
        CHECKS.due("32: gone", talk.minutesUntilExit(0), 0);
        CHECKS.due("28: exitOf(0)", talk.exitOf(0), 138);
    }

    // Promise 33
    private static void bestGear() {
        CHECKS.due("33: an empty belt", new SmallerTalk().bestGear(), 2);
        CHECKS.due("33: quiet with each gear", States.with(1, 9).bestGear(), 2);
        // With 2, 99 takes 6 minutes each: behind 10 there is 99 / 16; with 3, 4 each; both are quiet then.
        SmallerTalk talk = States.with(1, 99, 1, 99);
        CHECKS.due("33: the first that is quiet", talk.bestGear(), 3);
        talk.setGear(9);
        CHECKS.due("33: whatever the gear of now", talk.bestGear(), 3);
        CHECKS.due("33: the gear stays", talk.gear(), 9);
        // Gear 7 needs 3 minutes each (14, 2, a nod), 8 and 9 need 2: just 10 in all.
        CHECKS.due("33: 5 of 99", States.with(1, 99, 1, 99, 1, 99, 1, 99, 1, 99).bestGear(), 8);
        CHECKS.due("33: 17 is a nod at once with 9 alone", States.full(1, 17).bestGear(), 9);
        // 8 and 9 leave one of 99 as it was; a minute later 9 would leave less of it.
        CHECKS.due("33: 6 of 99", States.with(1, 99, 1, 99, 1, 99, 1, 99, 1, 99, 1, 99).bestGear(), 8);
    }

    // Promise 34
    private static void bestPush() {
        CHECKS.due("34: an empty belt", new SmallerTalk().bestPush(), -1);
        CHECKS.due("34: one topic", States.with(1, 9).bestPush(), 0);
        // With gear 2, 5 minutes make 99 a 3 (96 less), and take 40 away with all of it.
        CHECKS.due("34: the large one", States.with(1, 40, 1, 99).bestPush(), 1);
        CHECKS.due("34: of several the smallest", States.with(1, 40, 1, 99, 1, 99).bestPush(), 1);
        CHECKS.due("34: all the same", States.full(2, 50).bestPush(), 0);
        // In 5 minutes 62 is a nod and 64 is 2: both 62 less. In 4 the 64 would lose more, in 6 the 62 first is better.
        CHECKS.due("34: not behind 4 minutes", States.with(1, 62, 1, 64).bestPush(), 0);
        CHECKS.due("34: not behind 6 minutes", States.with(1, 64, 1, 62).bestPush(), 0);
        SmallerTalk talk = States.with(1, 2, 1, 2, 1, 99);
        talk.setStones(4);
        CHECKS.due("34: no place matters with many stones", talk.bestPush(), 0);
        belt("34: the belt stays", talk, "1:2 1:2 1:99");
    }

    // Promise 35
    private static void bottlesIn() {
        SmallerTalk talk = States.full(1, 2);
        CHECKS.due("35: bottlesIn(5)", talk.bottlesIn(5), 0);
        CHECKS.due("35: bottlesIn(6)", talk.bottlesIn(6), 1);
        CHECKS.due("35: bottlesIn(12)", talk.bottlesIn(12), 2);
        CHECKS.due("35: bottlesIn(60)", talk.bottlesIn(60), 2);
        for (int minutes : new int[] {Integer.MIN_VALUE, -1, 0, 61, Integer.MAX_VALUE}) {
            CHECKS.throwsAndKeeps("35: bottlesIn(" + minutes + ")", talk, ARGUMENT, () -> talk.bottlesIn(minutes));
        }
        talk.pass(6);
        CHECKS.due("35: those of now count", talk.bottlesIn(1), 1);
        CHECKS.due("35: and those to come", talk.bottlesIn(6), 2);
    }

    // Promise 36
    private static void meanPatience() {
        SmallerTalk talk = States.with(1, 38);
        CHECKS.due("36: nobody", talk.meanPatience(), 0.0);
        talk.addTalker(1, 2, 9);
        CHECKS.due("36: one", talk.meanPatience(), 30.0);
        talk.pass(1);
        talk.addTalker(1, 2, 9);
        CHECKS.due("36: 29 and 30", talk.meanPatience(), 29.5);
        talk.addTalker(1, 2, 9);
        CHECKS.due("36: 29, 30 and 30", talk.meanPatience(), 89.0 / 3.0);
        SmallerTalk left = States.full(1, 99);
        left.addTalker(1, 2, 9);
        left.pass(1);
        CHECKS.due("36: all are gone", left.meanPatience(), 0.0);
        left.addTalker(1, 2, 9);
        CHECKS.due("36: one who went does not count", left.meanPatience(), 30.0);
    }

    // Promise 37
    private static void digest() {
        long empty = 2039;
        for (int x : new int[] {0, 0, 0, 0, 0, 0, 2, 1, 3, 0, 0, 2, -1}) {
            empty = empty * 31 + x;
        }
        CHECKS.due("37: a new object", new SmallerTalk().digest(), empty);
        SmallerTalk talk = States.full(4, 99);
        talk.addTalker(1, 2, 9);
        talk.pass(1);
        talk.addTalker(1, 2, 9);
        talk.setGear(3);
        talk.setStones(2);
        talk.setMesh(5);
        for (int i = 0; i < 10; i++) {
            talk.drop(11 - i);
        }
        // Two stones grind both, whichever is first, and even gear 2 is quiet behind 10 minutes.
        long d = 2039;
        for (int x : new int[] {1, 2, 148, 0, 0, 0, 3, 2, 5, 2, 1, 2, 0, 49, 4, 99, 4, 0, 0, 0, 1, 30, -1}) {
            d = d * 31 + x;
        }
        CHECKS.due("37: with topics and talkers", talk.digest(), d);
        CHECKS.due("37: again", talk.digest(), d);
    }

    private static void looksAheadChangeNothing() {
        SmallerTalk talk = States.with(1, 99, 0, 7, 2, 50, 0, 3);
        talk.addTalker(0, 9, 3);
        talk.addTalker(3, 30, 2);
        talk.pass(3);
        String before = Checks.allOf(talk);
        talk.noiseIn(60);
        CHECKS.due("30: nothing is changed", Checks.allOf(talk), before);
        talk.minutesUntilQuiet();
        CHECKS.due("31: nothing is changed", Checks.allOf(talk), before);
        talk.minutesUntilExit(1);
        CHECKS.due("32: nothing is changed", Checks.allOf(talk), before);
        talk.bestGear();
        CHECKS.due("33: nothing is changed", Checks.allOf(talk), before);
        talk.bestPush();
        CHECKS.due("34: nothing is changed", Checks.allOf(talk), before);
        talk.bottlesIn(60);
        CHECKS.due("35: nothing is changed", Checks.allOf(talk), before);
        talk.digest();
        CHECKS.due("37: nothing is changed", Checks.allOf(talk), before);
    }
}
