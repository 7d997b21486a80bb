/** Objects in the states that the tests start from. */
final class States {
    private States() {
    }

    static SmallerTalk empty() {
        return new SmallerTalk();
    }

    static SmallerTalk with(int... kindsAndSizes) {
        SmallerTalk talk = new SmallerTalk();
        for (int i = 0; i < kindsAndSizes.length; i += 2) {
            talk.put(kindsAndSizes[i], kindsAndSizes[i + 1]);
        }
        return talk;
    }

    static SmallerTalk many(int count, int kind, int size) {
        SmallerTalk talk = new SmallerTalk();
        putMany(talk, count, kind, size);
        return talk;
    }

    static SmallerTalk full(int kind, int size) {
        return many(12, kind, size);
    }

    /** Some topics, two talkers who are there, and settings other than the first ones. */
    static SmallerTalk busy() {
        SmallerTalk talk = new SmallerTalk();
        talk.setGear(3);
        talk.setStones(2);
        talk.setMesh(8);
        talk.put(1, 40);
        talk.put(0, 9);
        talk.put(2, 15);
        talk.addTalker(0, 9, 3);
        talk.addTalker(3, 6, 2);
        talk.pass(3);
        return talk;
    }

    /** 12 topics and 6 talkers, one of whom went. */
    static SmallerTalk crowded() {
        SmallerTalk talk = withOneWhoWent();
        for (int talker = 1; talker < 6; talker++) {
            talk.addTalker(talker - 1, 3 + talker, talker);
        }
        putMany(talk, 11, 1, 3);
        talk.put(4, 4);
        return talk;
    }

    /** An empty belt behind minute 0, in which talker 0 went. */
    static SmallerTalk withOneWhoWent() {
        SmallerTalk talk = full(4, 99);
        talk.addTalker(4, 90, 1);
        talk.pass(1);
        dropAll(talk);
        return talk;
    }

    static void putMany(SmallerTalk talk, int count, int kind, int size) {
        for (int i = 0; i < count; i++) {
            talk.put(kind, size);
        }
    }

    static void dropAll(SmallerTalk talk) {
        while (talk.topics() > 0) {
            talk.drop(0);
        }
    }

    /** A talker, and a topic that is a nod before it is heard, so that the one stone leaves those behind it alone. */
    static SmallerTalk silent() {
        SmallerTalk talk = with(1, 2);
        talk.addTalker(3, 2, 9);
        return talk;
    }

    /** A talker behind minute 0, in which there was just this noise, at most 11 * 99. */
    static SmallerTalk behindNoise(int noise) {
        SmallerTalk talk = silent();
        putNoise(talk, noise);
        talk.pass(1);
        return talk;
    }

    private static void putNoise(SmallerTalk talk, int noise) {
        int left = noise;
        while (left > 0) {
            // A topic of 1 can't be put: what is left is 0 or at least 2.
            int size = left > 99 ? Math.min(99, left - 2) : left;
            talk.put(4, size);
            left -= size;
        }
    }
}
