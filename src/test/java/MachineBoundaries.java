/** The boundary cases of promises 1 to 9, the calls that change something, and of what a refused call leaves. */
final class MachineBoundaries {
    private final Boundaries b;

    MachineBoundaries(Boundaries b) {
        this.b = b;
    }

    void all() {
        b.sentence("Terms", "A method that throws an exception changes nothing.", this::changesNothing);
        b.sentence("Terms", "If several exceptions apply, the one that is named first is thrown.", this::namedFirst);
        b.sentence("Promise 1", "Creates a machine with an empty belt", this::emptyBelt);
        b.sentence("Promise 1", ", without talkers", this::withoutTalkers);
        b.sentence("Promise 2", "Puts a topic at the end of the belt", this::putsAtTheEnd);
        b.sentence("Promise 2", "Throws `IllegalArgumentException` if kind is not 0 to 4", this::putOfNoKind);
        b.sentence("Promise 2", ", or size is not 2 to 99", this::putOfNoSize);
        b.sentence("Promise 2", "Throws `IllegalStateException` if there are 12", this::putOnTwelve);
        b.sentence("Promise 3", "Pushes a topic to the place 0; those ahead of it move back.", this::pushes);
        b.sentence("Promise 3", "Throws `IndexOutOfBoundsException` if there is no topic at this place",
                () -> b.refusedAtNoPlace(place -> "pushToFront(" + place + ")", SmallerTalk::pushToFront));
        b.sentence("Promise 4", "Takes a topic off the belt; those behind it move up.", this::takesOff);
        b.sentence("Promise 4", "Returns how many topics there are then.", this::howManyThen);
        b.sentence("Promise 4", "Throws `IndexOutOfBoundsException` if there is no topic at this place",
                () -> b.refusedAtNoPlace(place -> "drop(" + place + ")", SmallerTalk::drop));
        b.sentence("Promise 5", "Throws `IllegalArgumentException` if gear is not 2 to 9", this::setGear);
        b.sentence("Promise 6", "Throws `IllegalArgumentException` if stones is not 1 to 4", this::setStones);
        b.sentence("Promise 7", "Throws `IllegalArgumentException` if mesh is not 0 to 20", this::setMesh);
        b.sentence("Promise 8", "Throws `IllegalArgumentException` if kind is not 0 to 4", this::talkerOfNoKind);
        b.sentence("Promise 8", ", size is not 2 to 99", this::talkerOfNoSize);
        b.sentence("Promise 8", ", or minutes is not 1 to 9", this::talkerOfNoMinutes);
        b.sentence("Promise 8", "Throws `IllegalStateException` if there are 6", this::talkerToSix);
        b.sentence("Promise 8", ", those who went as well", this::talkerToThoseWhoWent);
        b.sentence("Promise 9", "Returns how many talkers go in them.", this::howManyGo);
        b.sentence("Promise 9", "Throws `IllegalArgumentException` if minutes is not 1 to 60", this::pass);
    }

    private void changesNothing() {
        b.refusedInEachState("put(5, 1)", Boundaries.ARGUMENT, talk -> talk.put(5, 1));
        b.refused("put(0, 2) of 12 topics", Boundaries.STATE, States::crowded, talk -> talk.put(0, 2));
        b.refusedInEachState("pushToFront(12)", Boundaries.INDEX, talk -> talk.pushToFront(12));
        b.refusedInEachState("drop(12)", Boundaries.INDEX, talk -> talk.drop(12));
        b.refusedInEachState("setGear(10)", Boundaries.ARGUMENT, talk -> talk.setGear(10));
        b.refusedInEachState("setStones(5)", Boundaries.ARGUMENT, talk -> talk.setStones(5));
        b.refusedInEachState("setMesh(21)", Boundaries.ARGUMENT, talk -> talk.setMesh(21));
        b.refusedInEachState("addTalker(5, 1, 0)", Boundaries.ARGUMENT, talk -> talk.addTalker(5, 1, 0));
        b.refused("addTalker(1, 2, 1) to 6", Boundaries.STATE, States::crowded, talk -> talk.addTalker(1, 2, 1));
        b.refusedInEachState("pass(61)", Boundaries.ARGUMENT, talk -> talk.pass(61));
        b.refusedInEachState("sizeAt(12)", Boundaries.INDEX, talk -> talk.sizeAt(12));
        b.refusedInEachState("kindAt(12)", Boundaries.INDEX, talk -> talk.kindAt(12));
        b.refusedInEachState("topicsOf(5)", Boundaries.INDEX, talk -> talk.topicsOf(5));
        b.refusedInEachState("turnsToNod(12)", Boundaries.INDEX, talk -> talk.turnsToNod(12));
        b.refusedInEachState("isPresent(6)", Boundaries.INDEX, talk -> talk.isPresent(6));
        b.refusedInEachState("patienceOf(6)", Boundaries.INDEX, talk -> talk.patienceOf(6));
        b.refusedInEachState("exitOf(6)", Boundaries.INDEX, talk -> talk.exitOf(6));
        b.refusedInEachState("noiseIn(61)", Boundaries.ARGUMENT, talk -> talk.noiseIn(61));
        b.refusedInEachState("minutesUntilExit(6)", Boundaries.INDEX, talk -> talk.minutesUntilExit(6));
        b.refusedInEachState("bottlesIn(61)", Boundaries.ARGUMENT, talk -> talk.bottlesIn(61));
    }

    private void namedFirst() {
        b.refused("put(5, 9) of 12 topics", Boundaries.ARGUMENT, States::crowded, talk -> talk.put(5, 9));
        b.refused("put(-1, 9) of 12 topics", Boundaries.ARGUMENT, States::crowded, talk -> talk.put(-1, 9));
        b.refused("put(1, 1) of 12 topics", Boundaries.ARGUMENT, States::crowded, talk -> talk.put(1, 1));
        b.refused("put(1, 100) of 12 topics", Boundaries.ARGUMENT, States::crowded, talk -> talk.put(1, 100));
        b.refused("put(4, 99) of 12 topics", Boundaries.STATE, States::crowded, talk -> talk.put(4, 99));
        b.refused("addTalker(5, 9, 9) to 6", Boundaries.ARGUMENT, States::crowded, talk -> talk.addTalker(5, 9, 9));
        b.refused("addTalker(-1, 9, 9) to 6", Boundaries.ARGUMENT, States::crowded, talk -> talk.addTalker(-1, 9, 9));
        b.refused("addTalker(1, 1, 9) to 6", Boundaries.ARGUMENT, States::crowded, talk -> talk.addTalker(1, 1, 9));
        b.refused("addTalker(1, 100, 9) to 6", Boundaries.ARGUMENT, States::crowded, talk -> talk.addTalker(1, 100, 9));
        b.refused("addTalker(1, 9, 0) to 6", Boundaries.ARGUMENT, States::crowded, talk -> talk.addTalker(1, 9, 0));
        b.refused("addTalker(1, 9, 10) to 6", Boundaries.ARGUMENT, States::crowded, talk -> talk.addTalker(1, 9, 10));
        b.refused("addTalker(4, 99, 9) to 6", Boundaries.STATE, States::crowded, talk -> talk.addTalker(4, 99, 9));
    }

    private void emptyBelt() {
        SmallerTalk talk = new SmallerTalk();
        b.due("topics()", talk.topics(), 0);
        b.due("noise()", talk.noise(), 0);
        b.refused("sizeAt(0)", Boundaries.INDEX, States::empty, empty -> empty.sizeAt(0));
        talk.put(1, 9);
        b.due("topics() behind put(1, 9)", talk.topics(), 1);
        b.due("topics() of another object", new SmallerTalk().topics(), 0);
    }

    private void withoutTalkers() {
        SmallerTalk talk = new SmallerTalk();
        b.due("talkers()", talk.talkers(), 0);
        b.due("present()", talk.present(), 0);
        b.refused("isPresent(0)", Boundaries.INDEX, States::empty, empty -> empty.isPresent(0));
        talk.addTalker(1, 9, 1);
        b.due("talkers() behind addTalker(1, 9, 1)", talk.talkers(), 1);
        b.due("talkers() of another object", new SmallerTalk().talkers(), 0);
    }

    private void putsAtTheEnd() {
        SmallerTalk talk = new SmallerTalk();
        for (int place = 0; place < 12; place++) {
            b.due("put(.., ..) at the end", talk.put(place % 5, 2 + place), place);
            b.due("sizeAt(" + place + ")", talk.sizeAt(place), 2 + place);
            b.due("kindAt(" + place + ")", talk.kindAt(place), place % 5);
            b.due("sizeAt(0), the first one", talk.sizeAt(0), 2);
        }
    }

    private void putOfNoKind() {
        for (int kind = 0; kind <= 4; kind++) {
            b.due("put(" + kind + ", 9)", new SmallerTalk().put(kind, 9), 0);
        }
        b.refusedOutside(0, 4, Boundaries.ARGUMENT, kind -> "put(" + kind + ", 9)", (talk, kind) -> talk.put(kind, 9));
    }

    private void putOfNoSize() {
        for (int size = 2; size <= 99; size++) {
            b.due("put(1, " + size + ")", new SmallerTalk().put(1, size), 0);
        }
        b.refusedOutside(2, 99, Boundaries.ARGUMENT, size -> "put(1, " + size + ")", (talk, size) -> talk.put(1, size));
    }

    private void putOnTwelve() {
        b.due("put(4, 4) of 11", States.many(11, 3, 3).put(4, 4), 11);
        b.refused("put(4, 4) of 12", Boundaries.STATE, () -> States.full(3, 3), talk -> talk.put(4, 4));
        b.refused("put(4, 4) of 12 and 6 talkers", Boundaries.STATE, States::crowded, talk -> talk.put(4, 4));
        SmallerTalk talk = States.full(3, 3);
        talk.drop(0);
        b.due("put(4, 4) behind drop(0)", talk.put(4, 4), 11);
        SmallerTalk ground = States.full(3, 3);
        ground.pass(1);
        b.due("put(4, 4) behind a nod", ground.put(4, 4), 11);
    }

    private void pushes() {
        SmallerTalk talk = States.with(1, 10, 2, 20, 3, 30, 4, 40);
        b.due("pushToFront(0)", talk.pushToFront(0), 10);
        b.belt("the first one", talk, "1:10 2:20 3:30 4:40");
        b.due("pushToFront(1)", talk.pushToFront(1), 20);
        b.belt("the second one", talk, "2:20 1:10 3:30 4:40");
        b.due("pushToFront(3)", talk.pushToFront(3), 40);
        b.belt("the last one", talk, "4:40 2:20 1:10 3:30");
        b.due("topics() then", talk.topics(), 4);
        SmallerTalk one = States.with(1, 10);
        b.due("pushToFront(0) of one", one.pushToFront(0), 10);
        b.belt("the only one", one, "1:10");
        SmallerTalk twelve = States.many(11, 1, 9);
        twelve.put(4, 99);
        b.due("pushToFront(11) of 12", twelve.pushToFront(11), 99);
        b.belt("the twelfth", twelve, "4:99 1:9 1:9 1:9 1:9 1:9 1:9 1:9 1:9 1:9 1:9 1:9");
    }

    private void takesOff() {
        SmallerTalk talk = States.with(1, 10, 2, 20, 3, 30, 4, 40);
        talk.drop(3);
        b.belt("the last one", talk, "1:10 2:20 3:30");
        talk.drop(0);
        b.belt("the first one", talk, "2:20 3:30");
        talk.drop(0);
        talk.drop(0);
        b.belt("the only one", talk, "");
        b.due("nods() of what is dropped", talk.nods(), 0);
        b.due("sieved() of what is dropped", talk.sieved(), 0);
        SmallerTalk twelve = States.many(10, 1, 9);
        twelve.put(2, 98);
        twelve.put(3, 99);
        twelve.drop(10);
        b.belt("one of 12", twelve, "1:9 1:9 1:9 1:9 1:9 1:9 1:9 1:9 1:9 1:9 3:99");
    }

    private void howManyThen() {
        SmallerTalk talk = States.full(1, 9);
        for (int left = 11; left >= 0; left--) {
            b.due("drop(" + left + ")", talk.drop(left), left);
        }
    }

    private void setGear() {
        SmallerTalk talk = new SmallerTalk();
        for (int gear = 2; gear <= 9; gear++) {
            b.due("setGear(" + gear + ")", talk.setGear(gear), gear == 2 ? 2 : gear - 1);
        }
        b.due("gear()", talk.gear(), 9);
        b.refusedOutside(2, 9, Boundaries.ARGUMENT, gear -> "setGear(" + gear + ")", SmallerTalk::setGear);
    }

    private void setStones() {
        SmallerTalk talk = new SmallerTalk();
        for (int stones = 1; stones <= 4; stones++) {
            b.due("setStones(" + stones + ")", talk.setStones(stones), stones == 1 ? 1 : stones - 1);
        }
        b.due("stones()", talk.stones(), 4);
        b.refusedOutside(1, 4, Boundaries.ARGUMENT, stones -> "setStones(" + stones + ")", SmallerTalk::setStones);
    }

    private void setMesh() {
        SmallerTalk talk = new SmallerTalk();
        for (int mesh = 0; mesh <= 20; mesh++) {
            b.due("setMesh(" + mesh + ")", talk.setMesh(mesh), mesh == 0 ? 3 : mesh - 1);
        }
        b.due("mesh()", talk.mesh(), 20);
        SmallerTalk fine = States.with(0, 2);
        fine.setMesh(20);
        b.due("topics(), of which none falls before a minute", fine.topics(), 1);
        b.refusedOutside(0, 20, Boundaries.ARGUMENT, mesh -> "setMesh(" + mesh + ")", SmallerTalk::setMesh);
    }

    private void talkerOfNoKind() {
        for (int kind = 0; kind <= 4; kind++) {
            b.due("addTalker(" + kind + ", 9, 9)", new SmallerTalk().addTalker(kind, 9, 9), 0);
        }
        b.refusedOutside(0, 4, Boundaries.ARGUMENT, kind -> "addTalker(" + kind + ", 9, 9)",
                (talk, kind) -> talk.addTalker(kind, 9, 9));
    }

    private void talkerOfNoSize() {
        for (int size = 2; size <= 99; size++) {
            SmallerTalk talk = new SmallerTalk();
            b.due("addTalker(1, " + size + ", 9)", talk.addTalker(1, size, 9), 0);
            talk.pass(1);
            b.due("sizeAt(0), which this one brings", talk.sizeAt(0), size);
        }
        b.refusedOutside(2, 99, Boundaries.ARGUMENT, size -> "addTalker(1, " + size + ", 9)",
                (talk, size) -> talk.addTalker(1, size, 9));
    }

    private void talkerOfNoMinutes() {
        for (int minutes = 1; minutes <= 9; minutes++) {
            b.due("addTalker(1, 9, " + minutes + ")", new SmallerTalk().addTalker(1, 9, minutes), 0);
        }
        b.refusedOutside(1, 9, Boundaries.ARGUMENT, minutes -> "addTalker(1, 9, " + minutes + ")",
                (talk, minutes) -> talk.addTalker(1, 9, minutes));
    }

    private static SmallerTalk talkers(int count) {
        SmallerTalk talk = new SmallerTalk();
        for (int talker = 0; talker < count; talker++) {
            talk.addTalker(1, 9, 9);
        }
        return talk;
    }

    private void talkerToSix() {
        for (int before = 0; before <= 5; before++) {
            b.due("addTalker(4, 99, 9) to " + before, talkers(before).addTalker(4, 99, 9), before);
        }
        b.refused("addTalker(4, 99, 9) to 6", Boundaries.STATE, () -> talkers(6), talk -> talk.addTalker(4, 99, 9));
    }

    private static SmallerTalk behindLeaving(int count) {
        SmallerTalk talk = talkers(count);
        States.putMany(talk, 12, 4, 99);
        talk.pass(1);
        return talk;
    }

    private void talkerToThoseWhoWent() {
        SmallerTalk five = behindLeaving(5);
        b.due("present() behind noise", five.present(), 0);
        b.due("addTalker(4, 99, 9) to 5 who went", five.addTalker(4, 99, 9), 5);
        b.due("talkers() then", five.talkers(), 6);
        b.due("present() then", five.present(), 1);
        b.refused("addTalker(4, 99, 9) to 6 who went", Boundaries.STATE, () -> behindLeaving(6),
                talk -> talk.addTalker(4, 99, 9));
        b.refused("addTalker(4, 99, 9) to 5 who are there and 1 who went", Boundaries.STATE, States::crowded,
                talk -> talk.addTalker(4, 99, 9));
    }

    private static SmallerTalk oneWhoGoesInTheSecondMinute() {
        SmallerTalk talk = States.many(4, 1, 99);
        talk.addTalker(1, 2, 9);
        return talk;
    }

    private void howManyGo() {
        b.due("pass(60) without talkers", new SmallerTalk().pass(60), 0);
        // 49 + 297 is 346, which takes 18; 24 + 297 + 2 is 323, which takes 17 of the 12 that are left.
        SmallerTalk talk = oneWhoGoesInTheSecondMinute();
        b.due("pass(1), the minute before", talk.pass(1), 0);
        b.due("patienceOf(0) then", talk.patienceOf(0), 12);
        b.due("pass(1), the minute itself", talk.pass(1), 1);
        b.due("pass(1), the minute behind", talk.pass(1), 0);
        b.due("pass(2), of which it is the last", oneWhoGoesInTheSecondMinute().pass(2), 1);
        b.due("pass(60), of which it is the second", oneWhoGoesInTheSecondMinute().pass(60), 1);
        SmallerTalk six = talkers(6);
        States.putMany(six, 12, 4, 99);
        b.due("pass(1) of six who go at once", six.pass(1), 6);
        b.due("pass(60) behind it", six.pass(60), 0);
    }

    private void pass() {
        for (int minutes = 1; minutes <= 60; minutes++) {
            SmallerTalk talk = new SmallerTalk();
            talk.pass(minutes);
            b.due("minute() behind pass(" + minutes + ")", talk.minute(), minutes);
        }
        b.refusedOutside(1, 60, Boundaries.ARGUMENT, minutes -> "pass(" + minutes + ")", SmallerTalk::pass);
    }
}
