/** Counts and prints what is not as due; ends a test with exit code 1 if there was anything. */
final class Checks {
    private int made = 0;
    private int wrong = 0;

    /** A call whose exception is looked at. */
    interface Call {
        void run();
    }

    void due(String what, long got, long want) {
        made++;
        if (got != want) {
            wrong++;
            System.out.println(what + " answered " + got + ", due is " + want);
        }
    }

    void due(String what, double got, double want) {
        made++;
        if (got != want) {
            wrong++;
            System.out.println(what + " answered " + got + ", due is " + want);
        }
    }

    void due(String what, boolean got, boolean want) {
        due(what, got ? 1L : 0L, want ? 1L : 0L);
    }

    void due(String what, String got, String want) {
        made++;
        if (!got.equals(want)) {
            wrong++;
            System.out.println(what + " answered " + got + ", due is " + want);
        }
    }

    /** The call throws exactly this exception, by its own throw, and changes nothing. */
    void throwsAndKeeps(String what, SmallerTalk talk, Class<? extends RuntimeException> want, Call call) {
        // One call tells of all that is: an object has 512 calls.
        long before = talk.digest();
        Class<?> got = null;
        try {
            call.run();
        } catch (RuntimeException e) {
            got = e.getClass();
        }
        due(what, got == null ? "nothing thrown" : got.getName(), want.getName());
        due(what + ": digest() behind it", talk.digest(), before);
    }

    int made() {
        return made;
    }

    boolean anyWrong() {
        return wrong != 0;
    }

    void end() {
        System.out.println(wrong == 0 ? made + " answers are as due" : wrong + " of " + made + " answers are not as due");
        if (wrong != 0) {
            System.exit(1);
        }
    }

    /** All that an object tells of its state, without the looks ahead. */
    static String allOf(SmallerTalk talk) {
        StringBuilder all = new StringBuilder();
        all.append("minute ").append(talk.minute()).append(" noise ").append(talk.noise());
        all.append(" nods ").append(talk.nods()).append(" bottles ").append(talk.bottles());
        all.append(" sieved ").append(talk.sieved()).append(" gear ").append(talk.gear());
        all.append(" stones ").append(talk.stones()).append(" mesh ").append(talk.mesh());
        all.append(" largest ").append(talk.largest()).append(" next ").append(talk.nextToGo());
        all.append(" present ").append(talk.present()).append(" mean ").append(talk.meanPatience());
        all.append(" belt ").append(beltOf(talk));
        all.append(" talkers");
        for (int talker = 0; talker < talk.talkers(); talker++) {
            all.append(' ').append(talk.isPresent(talker)).append('/').append(talk.patienceOf(talker));
            all.append('/').append(talk.exitOf(talker));
        }
        return all.toString();
    }

    /** The topics as "kind:size", by places. */
    static String beltOf(SmallerTalk talk) {
        StringBuilder belt = new StringBuilder();
        for (int place = 0; place < talk.topics(); place++) {
            belt.append(place == 0 ? "" : " ").append(talk.kindAt(place)).append(':').append(talk.sizeAt(place));
        }
        return belt.toString();
    }
}
