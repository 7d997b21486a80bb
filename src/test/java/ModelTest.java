import java.util.Random;

/** Long mixed runs, each call compared with PlainModel; the seeds are fixed, so each run is the same. */
public final class ModelTest {
    private static final int RUNS = 2000;
    // What is asked behind them keeps each object below its 512 calls.
    private static final int CHANGES = 60;

    private final Checks checks = new Checks();
    private final Random random;
    private final int run;
    private final SmallerTalk talk = new SmallerTalk();
    private final PlainModel model = new PlainModel();

    private ModelTest(int run) {
        this.run = run;
        this.random = new Random(run);
    }

    public static void main(String[] args) {
        for (int run = 0; run < RUNS; run++) {
            new ModelTest(run).compare();
        }
        System.out.println(RUNS + " runs as in the model");
    }

    private void compare() {
        for (int call = 1; call <= CHANGES; call++) {
            change();
            checks.due(what("digest() behind call " + call), talk.digest(), model.digest());
            if (call % 20 == 0) {
                compareState(call);
            }
            if (call % 10 == 0) {
                compareLooksAhead(call);
            }
        }
        if (checks.anyWrong()) {
            checks.end();
        }
    }

    private int from(int least, int most) {
        return least + random.nextInt(most - least + 1);
    }

    private void change() {
        int choice = random.nextInt(100);
        if (choice < 36) {
            putOne();
        } else if (choice < 45) {
            pushOne();
        } else if (choice < 50) {
            dropOne();
        } else if (choice < 65) {
            setOne();
        } else if (choice < 75) {
            addOne();
        } else {
            passSome();
        }
    }

    // Runs differ in how loud they are: small topics let the talkers stay.
    private int someSize() {
        return from(2, run % 3 == 0 ? 99 : run % 3 == 1 ? 30 : 6);
    }

    private void putOne() {
        int kind = from(0, 4);
        int size = someSize();
        String what = what("put(" + kind + ", " + size + ")");
        if (model.belt.size() == 12) {
            checks.throwsAndKeeps(what, talk, IllegalStateException.class, () -> talk.put(kind, size));
            return;
        }
        checks.due(what, talk.put(kind, size), model.belt.size());
        model.belt.add(new PlainModel.Topic(kind, size));
    }

    private void pushOne() {
        int place = from(0, 12);
        String what = what("pushToFront(" + place + ")");
        if (place >= model.belt.size()) {
            checks.throwsAndKeeps(what, talk, IndexOutOfBoundsException.class, () -> talk.pushToFront(place));
            return;
        }
        checks.due(what, talk.pushToFront(place), model.belt.get(place).size);
        model.belt.add(0, model.belt.remove(place));
    }

    private void dropOne() {
        int place = from(0, 12);
        String what = what("drop(" + place + ")");
        if (place >= model.belt.size()) {
            checks.throwsAndKeeps(what, talk, IndexOutOfBoundsException.class, () -> talk.drop(place));
            return;
        }
        model.belt.remove(place);
        checks.due(what, talk.drop(place), model.belt.size());
    }

    private void setOne() {
        int gear = from(2, 9);
        int stones = from(1, 4);
        int mesh = from(0, 20);
        int choice = random.nextInt(3);
        if (choice == 0) {
            checks.due(what("setGear(" + gear + ")"), talk.setGear(gear), model.gear);
            model.gear = gear;
        } else if (choice == 1) {
            checks.due(what("setStones(" + stones + ")"), talk.setStones(stones), model.stones);
            model.stones = stones;
        } else {
            checks.due(what("setMesh(" + mesh + ")"), talk.setMesh(mesh), model.mesh);
            model.mesh = mesh;
        }
    }

    private void addOne() {
        int kind = from(0, 4);
        int size = someSize();
        int minutes = from(1, 9);
        String what = what("addTalker(" + kind + ", " + size + ", " + minutes + ")");
        if (model.talkers.size() == 6) {
            checks.throwsAndKeeps(what, talk, IllegalStateException.class, () -> talk.addTalker(kind, size, minutes));
            return;
        }
        checks.due(what, talk.addTalker(kind, size, minutes), model.talkers.size());
        model.talkers.add(new PlainModel.Talker(kind, size, minutes));
    }

    private void passSome() {
        int minutes = random.nextInt(8) == 0 ? from(1, 60) : from(1, 4);
        int before = model.present();
        for (int i = 0; i < minutes; i++) {
            model.step();
        }
        checks.due(what("pass(" + minutes + ")"), talk.pass(minutes), before - model.present());
    }

    private String what(String call) {
        return "run " + run + ": " + call;
    }

    private void compareState(int call) {
        String at = "behind call " + call + ": ";
        checks.due(what(at + "minute()"), talk.minute(), model.minute);
        checks.due(what(at + "topics()"), talk.topics(), model.belt.size());
        checks.due(what(at + "noise()"), talk.noise(), model.noise());
        checks.due(what(at + "largest()"), talk.largest(), model.largest());
        checks.due(what(at + "nods()"), talk.nods(), model.nods);
        checks.due(what(at + "bottles()"), talk.bottles(), model.bottles);
        checks.due(what(at + "sieved()"), talk.sieved(), model.sieved);
        checks.due(what(at + "gear()"), talk.gear(), model.gear);
        checks.due(what(at + "stones()"), talk.stones(), model.stones);
        checks.due(what(at + "mesh()"), talk.mesh(), model.mesh);
        checks.due(what(at + "talkers()"), talk.talkers(), model.talkers.size());
        checks.due(what(at + "present()"), talk.present(), model.present());
        checks.due(what(at + "nextToGo()"), talk.nextToGo(), model.nextToGo());
        checks.due(what(at + "meanPatience()"), talk.meanPatience(), model.meanPatience());
        compareTopics(at);
        compareTalkers(at);
    }

    private void compareTopics(String at) {
        int[] ofKind = new int[5];
        for (int place = 0; place < model.belt.size(); place++) {
            PlainModel.Topic topic = model.belt.get(place);
            ofKind[topic.kind]++;
            checks.due(what(at + "sizeAt(" + place + ")"), talk.sizeAt(place), topic.size);
            checks.due(what(at + "kindAt(" + place + ")"), talk.kindAt(place), topic.kind);
            checks.due(what(at + "turnsToNod(" + place + ")"), talk.turnsToNod(place), model.turnsToNod(place));
        }
        for (int kind = 0; kind < 5; kind++) {
            checks.due(what(at + "topicsOf(" + kind + ")"), talk.topicsOf(kind), ofKind[kind]);
        }
    }

    private void compareTalkers(String at) {
        for (int number = 0; number < model.talkers.size(); number++) {
            PlainModel.Talker talker = model.talkers.get(number);
            checks.due(what(at + "isPresent(" + number + ")"), talk.isPresent(number), talker.exit < 0);
            checks.due(what(at + "patienceOf(" + number + ")"), talk.patienceOf(number), talker.patience);
            checks.due(what(at + "exitOf(" + number + ")"), talk.exitOf(number), talker.exit);
        }
    }

    private void compareLooksAhead(int call) {
        String at = "behind call " + call + ": ";
        int minutes = from(1, 60);
        PlainModel later = model.behind(minutes);
        checks.due(what(at + "noiseIn(" + minutes + ")"), talk.noiseIn(minutes), later.noise());
        checks.due(what(at + "bottlesIn(" + minutes + ")"), talk.bottlesIn(minutes), later.bottles);
        checks.due(what(at + "minutesUntilQuiet()"), talk.minutesUntilQuiet(), model.minutesUntilQuiet());
        for (int talker = 0; talker < model.talkers.size(); talker++) {
            int exit = model.minutesUntilExit(talker);
            checks.due(what(at + "minutesUntilExit(" + talker + ")"), talk.minutesUntilExit(talker), exit);
        }
        checks.due(what(at + "bestGear()"), talk.bestGear(), model.bestGear());
        checks.due(what(at + "bestPush()"), talk.bestPush(), model.bestPush());
        checks.due(what(at + "digest() behind the looks ahead"), talk.digest(), model.digest());
    }
}
