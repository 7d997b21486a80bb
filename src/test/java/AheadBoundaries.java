import java.math.BigInteger;
import java.util.ArrayList;
import java.util.List;
import java.util.function.Consumer;

/** The boundary cases of promises 30 to 37, the calls that tell what would be. */
final class AheadBoundaries {
    private static final String NOTHING_IS_CHANGED = "(nothing is changed)";

    private static final String NOTHING_ELSE = ", if nothing else is done";

    private final Boundaries b;

    AheadBoundaries(Boundaries b) {
        this.b = b;
    }

    void all() {
        b.sentence("Promise 30", "Returns the noise behind them" + NOTHING_ELSE, this::noiseComesTrue);
        b.sentence("Promise 30", NOTHING_IS_CHANGED, () -> nothingIsChanged("noiseIn(60)", talk -> talk.noiseIn(60)));
        b.sentence("Promise 30", "Throws `IllegalArgumentException` if minutes is not 1 to 60", this::noiseIn);
        b.sentence("Promise 31", "Returns behind how many minutes the belt is empty", this::quietBehindMinutes);
        b.sentence("Promise 31", NOTHING_ELSE, this::quietComesTrue);
        b.sentence("Promise 31", "0 if it is now", this::quietNow);
        b.sentence("Promise 31", "at most 100; -1 if not by then", this::quietBehindAHundred);
        b.sentence("Promise 31", NOTHING_IS_CHANGED,
                () -> nothingIsChanged("minutesUntilQuiet()", SmallerTalk::minutesUntilQuiet));
        b.sentence("Promise 32", "Returns behind how many minutes this one is gone", this::exitComesTrue);
        b.sentence("Promise 32", "likewise", this::goneBehindAHundred);
        b.sentence("Promise 32", "0 for one who is", this::goneNow);
        b.sentence("Promise 32", NOTHING_IS_CHANGED, this::exitsChangeNothing);
        b.sentence("Promise 32", "Throws `IndexOutOfBoundsException` if there is no such talker",
                () -> b.refusedOfNoTalker(talker -> "minutesUntilExit(" + talker + ")", SmallerTalk::minutesUntilExit));
        b.sentence("Promise 33", "Returns the gear, 2 to 9,", this::eachGear);
        b.sentence("Promise 33", "with which the noise is the least", this::leastNoise);
        b.sentence("Promise 33", "behind 10 minutes", this::behindTenMinutes);
        b.sentence("Promise 33", NOTHING_ELSE, this::gearComesTrue);
        b.sentence("Promise 33", "of several the smallest", this::smallestGear);
        b.sentence("Promise 33", NOTHING_IS_CHANGED, () -> nothingIsChanged("bestGear()", SmallerTalk::bestGear));
        b.sentence("Promise 34", "Returns the place of the topic that had best be pushed", this::eachPlace);
        b.sentence("Promise 34", "behind 5 minutes", this::behindFiveMinutes);
        b.sentence("Promise 34", NOTHING_ELSE, this::pushComesTrue);
        b.sentence("Promise 34", "of several the smallest", this::smallestPlace);
        b.sentence("Promise 34", "-1 if the belt is empty", this::nothingToPush);
        b.sentence("Promise 34", NOTHING_IS_CHANGED, () -> nothingIsChanged("bestPush()", SmallerTalk::bestPush));
        b.sentence("Promise 35", "how many bottles there are behind them" + NOTHING_ELSE, this::bottlesComeTrue);
        b.sentence("Promise 35", NOTHING_IS_CHANGED,
                () -> nothingIsChanged("bottlesIn(60)", talk -> talk.bottlesIn(60)));
        b.sentence("Promise 35", "Throws `IllegalArgumentException` if minutes is not 1 to 60", this::bottlesIn);
        b.sentence("Promise 36", "0 without any", this::meanPatience);
        b.sentence("Promise 37", "A number d starts with 2039", this::digestOfNothing);
        b.sentence("Promise 37", "d becomes d * 31 + x, which wraps around as a 64-bit integer", this::digestWraps);
        b.sentence("Promise 37", "(whether something is so counts 1 or 0)", this::digestOfWhoIsThere);
        b.sentence("Promise 37", "then for each topic sizeAt(), kindAt(); then for each talker", this::digestOfEach);
    }

    /** Neither now nor in later minutes can anything be told of the call. */
    private void nothingIsChanged(String what, Consumer<SmallerTalk> call) {
        for (Boundaries.State state : Boundaries.STATES) {
            SmallerTalk asked = state.maker().get();
            SmallerTalk spared = state.maker().get();
            call.accept(asked);
            call.accept(asked);
            String of = what + " of " + state.name();
            b.due(of, Checks.allOf(asked), Checks.allOf(spared));
            for (int minute = 1; minute <= 20; minute++) {
                call.accept(asked);
                b.due(of + ", pass(1) number " + minute, asked.pass(1), spared.pass(1));
                b.due(of + ", digest() behind it", asked.digest(), spared.digest());
            }
        }
    }

    private static SmallerTalk behind(Boundaries.State state, int minutes) {
        SmallerTalk talk = state.maker().get();
        talk.pass(minutes);
        return talk;
    }

    private void noiseComesTrue() {
        for (Boundaries.State state : Boundaries.STATES) {
            SmallerTalk talk = state.maker().get();
            for (int minutes = 1; minutes <= 60; minutes++) {
                String what = "noiseIn(" + minutes + ") of " + state.name();
                b.due(what, talk.noiseIn(minutes), behind(state, minutes).noise());
            }
        }
    }

    private void bottlesComeTrue() {
        for (Boundaries.State state : Boundaries.STATES) {
            SmallerTalk talk = state.maker().get();
            for (int minutes = 1; minutes <= 60; minutes++) {
                String what = "bottlesIn(" + minutes + ") of " + state.name();
                b.due(what, talk.bottlesIn(minutes), behind(state, minutes).bottles());
            }
        }
    }

    private void quietComesTrue() {
        for (Boundaries.State state : Boundaries.STATES) {
            SmallerTalk talk = state.maker().get();
            int told = talk.minutesUntilQuiet();
            int minutes = 0;
            while (talk.topics() > 0 && minutes <= 100) {
                talk.pass(1);
                minutes++;
            }
            b.due("minutesUntilQuiet() of " + state.name(), told, minutes <= 100 ? minutes : -1);
        }
    }

    private void exitComesTrue() {
        for (Boundaries.State state : Boundaries.STATES) {
            for (int talker = 0; talker < state.maker().get().talkers(); talker++) {
                SmallerTalk talk = state.maker().get();
                int told = talk.minutesUntilExit(talker);
                int minutes = 0;
                while (talk.isPresent(talker) && minutes <= 100) {
                    talk.pass(1);
                    minutes++;
                }
                b.due("minutesUntilExit(" + talker + ") of " + state.name(), told, minutes <= 100 ? minutes : -1);
            }
        }
    }

    private void gearComesTrue() {
        for (Boundaries.State state : Boundaries.STATES) {
            int best = 0;
            int least = Integer.MAX_VALUE;
            for (int gear = 2; gear <= 9; gear++) {
                SmallerTalk talk = state.maker().get();
                talk.setGear(gear);
                talk.pass(10);
                best = talk.noise() < least ? gear : best;
                least = Math.min(least, talk.noise());
            }
            b.due("bestGear() of " + state.name(), state.maker().get().bestGear(), best);
        }
    }

    private void pushComesTrue() {
        for (Boundaries.State state : Boundaries.STATES) {
            int best = -1;
            int least = Integer.MAX_VALUE;
            for (int place = 0; place < state.maker().get().topics(); place++) {
                SmallerTalk talk = state.maker().get();
                talk.pushToFront(place);
                talk.pass(5);
                best = talk.noise() < least ? place : best;
                least = Math.min(least, talk.noise());
            }
            b.due("bestPush() of " + state.name(), state.maker().get().bestPush(), best);
        }
    }

    // 99 takes 6 minutes of the one stone: ten of them just the 60.
    private void noiseIn() {
        SmallerTalk talk = States.many(10, 1, 99);
        int[] left = {49, 24, 12, 6, 3, 0};
        for (int minutes = 1; minutes <= 60; minutes++) {
            int untouched = 9 - (minutes - 1) / 6;
            b.due("noiseIn(" + minutes + ")", talk.noiseIn(minutes), untouched * 99 + left[(minutes - 1) % 6]);
        }
        b.due("noiseIn(1) of an empty belt", new SmallerTalk().noiseIn(1), 0);
        b.refusedOutside(1, 60, Boundaries.ARGUMENT, minutes -> "noiseIn(" + minutes + ")", SmallerTalk::noiseIn);
    }

    private void quietBehindMinutes() {
        for (int topics = 1; topics <= 12; topics++) {
            SmallerTalk large = States.many(topics, 1, 99);
            b.due("minutesUntilQuiet() of " + topics + " of 99", large.minutesUntilQuiet(), 6 * topics);
        }
        // The belt is empty within minute 0, but what is brought at its end is there till minute 1.
        SmallerTalk brought = States.with(1, 2);
        brought.addTalker(1, 2, 9);
        b.due("minutesUntilQuiet() of 2 and one that is brought", brought.minutesUntilQuiet(), 2);
        SmallerTalk falls = States.with(1, 3, 0, 2);
        b.due("minutesUntilQuiet() of a nod and one that falls", falls.minutesUntilQuiet(), 1);
    }

    private void quietNow() {
        b.due("minutesUntilQuiet() of a new object", new SmallerTalk().minutesUntilQuiet(), 0);
        b.due("minutesUntilQuiet() of the least topic", States.with(1, 2).minutesUntilQuiet(), 1);
        SmallerTalk empty = new SmallerTalk();
        empty.addTalker(1, 2, 1);
        b.due("minutesUntilQuiet() of an empty belt that will not stay so", empty.minutesUntilQuiet(), 0);
        empty.pass(1);
        b.due("minutesUntilQuiet() a minute later", empty.minutesUntilQuiet(), -1);
        SmallerTalk dropped = States.with(1, 99);
        dropped.drop(0);
        b.due("minutesUntilQuiet() behind drop(0)", dropped.minutesUntilQuiet(), 0);
    }

    // The 2 of each minute is a nod before it is heard. The 16 of each 5 minutes is heard as 8, 4 and 2, and two quiet
    // minutes follow: patience is 1 less from one 16 to the next. Its least, 3 less than before, is 27 behind minute 3.
    // So both go in minute 138; what is left of the last 16, a 2, is a nod in minute 139.
    private static SmallerTalk quietBehindMinute139(int passed) {
        SmallerTalk talk = new SmallerTalk();
        talk.setStones(4);
        talk.addTalker(1, 16, 5);
        talk.addTalker(1, 2, 1);
        for (int minute = 0; minute < passed; minute++) {
            talk.pass(1);
        }
        return talk;
    }

    private void quietBehindAHundred() {
        b.due("minutesUntilQuiet(), 139 minutes before", quietBehindMinute139(1).minutesUntilQuiet(), -1);
        b.due("minutesUntilQuiet(), 101 minutes before", quietBehindMinute139(39).minutesUntilQuiet(), -1);
        b.due("minutesUntilQuiet(), 100 minutes before", quietBehindMinute139(40).minutesUntilQuiet(), 100);
        b.due("minutesUntilQuiet(), 99 minutes before", quietBehindMinute139(41).minutesUntilQuiet(), 99);
        b.due("minutesUntilQuiet(), 1 minute before", quietBehindMinute139(139).minutesUntilQuiet(), 1);
        b.due("topics() then", quietBehindMinute139(139).topics(), 1);
        b.due("topics() a minute later", quietBehindMinute139(140).topics(), 0);
    }

    private void goneBehindAHundred() {
        b.due("minutesUntilExit(0), 139 minutes before", quietBehindMinute139(0).minutesUntilExit(0), -1);
        b.due("minutesUntilExit(0), 101 minutes before", quietBehindMinute139(38).minutesUntilExit(0), -1);
        b.due("minutesUntilExit(0), 100 minutes before", quietBehindMinute139(39).minutesUntilExit(0), 100);
        b.due("minutesUntilExit(1), 100 minutes before", quietBehindMinute139(39).minutesUntilExit(1), 100);
        b.due("minutesUntilExit(0), 99 minutes before", quietBehindMinute139(40).minutesUntilExit(0), 99);
        b.due("minutesUntilExit(0), 1 minute before", quietBehindMinute139(138).minutesUntilExit(0), 1);
        b.due("exitOf(0)", quietBehindMinute139(139).exitOf(0), 138);
        SmallerTalk never = new SmallerTalk();
        never.addTalker(1, 2, 1);
        b.due("minutesUntilExit(0) without noise", never.minutesUntilExit(0), -1);
    }

    private void goneNow() {
        b.due("minutesUntilExit(0), who went", States.behindNoise(580).minutesUntilExit(0), 0);
        b.due("minutesUntilExit(0), with patience 1 and noise", States.behindNoise(579).minutesUntilExit(0), 1);
        b.due("minutesUntilExit(0), who went long ago", quietBehindMinute139(200).minutesUntilExit(0), 0);
    }

    private void exitsChangeNothing() {
        nothingIsChanged("minutesUntilExit(each)", talk -> {
            for (int talker = 0; talker < talk.talkers(); talker++) {
                talk.minutesUntilExit(talker);
            }
        });
    }

    // With the gear, and all greater ones, each minute makes a nod of a topic; with each smaller one each second minute.
    private void eachGear() {
        for (int gear = 2; gear <= 9; gear++) {
            b.due("bestGear() of 12 topics of twice " + gear + " less 1", States.full(1, 2 * gear - 1).bestGear(), gear);
        }
    }

    // With gear 2 noise 580 drives all six away in minute 0, and 6 + 4 * 99 + 36 is left. With 3 or more they go a minute
    // later, and bring five more of 99 till then: with 9 still 36 + 6 * 99 is left.
    private void leastNoise() {
        SmallerTalk loud = States.with(1, 98, 1, 99, 1, 99, 1, 99, 1, 99, 1, 99, 1, 36);
        for (int talker = 0; talker < 6; talker++) {
            loud.addTalker(3, 99, 9);
        }
        b.due("bestGear() where more noise makes talkers go", loud.bestGear(), 2);
        SmallerTalk lessLoud = States.with(1, 98, 1, 99, 1, 99, 1, 99, 1, 99, 1, 99, 1, 35);
        for (int talker = 0; talker < 6; talker++) {
            lessLoud.addTalker(3, 99, 9);
        }
        b.due("bestGear() where none makes them go in minute 0", lessLoud.bestGear(), 8);
    }

    private void behindTenMinutes() {
        b.due("bestGear(): 5 is ground in minute 10, and a nod from gear 3 on", ahead(9, 5).bestGear(), 3);
        b.due("bestGear(): 5 is not ground in 10 minutes", ahead(10, 5).bestGear(), 2);
        b.due("bestGear(): 99 is ground in minute 10", ahead(9, 99).bestGear(), 9);
        b.due("bestGear(): 99 is not ground in 10 minutes", ahead(10, 99).bestGear(), 2);
    }

    /** So many minutes go by before the last topic is ground. */
    private static SmallerTalk ahead(int minutes, int size) {
        SmallerTalk talk = States.many(minutes, 1, 2);
        talk.put(1, size);
        return talk;
    }

    private void smallestGear() {
        b.due("bestGear() of an empty belt", new SmallerTalk().bestGear(), 2);
        b.due("bestGear() of one that is quiet with each gear", States.with(1, 99).bestGear(), 2);
        // 18 is a nod behind 2 minutes with each gear from 4 on, behind 3 with 3.
        b.due("bestGear() of 12 of 18", States.full(1, 18).bestGear(), 4);
        SmallerTalk other = States.full(1, 18);
        other.setGear(9);
        b.due("bestGear() of them with gear 9 now", other.bestGear(), 4);
    }

    // 5 minutes take 96 of 99; with a 2 ahead of it, which is a nod, 93 and 2.
    private void eachPlace() {
        for (int place = 0; place <= 11; place++) {
            SmallerTalk talk = States.many(place, 1, 2);
            talk.put(1, 99);
            States.putMany(talk, 11 - place, 1, 2);
            b.due("bestPush() of 99 among eleven 2", talk.bestPush(), place);
        }
        b.due("bestPush() of one topic", States.with(1, 2).bestPush(), 0);
        // With gear 3: 5 takes 1 minute, 99 the 4 others, all together 104; as they lie, 99 and 4 of the 6 are 103.
        SmallerTalk movedBack = States.with(1, 99, 1, 6, 1, 5);
        movedBack.setGear(3);
        b.due("bestPush() of 99, 6, 5, where 99 moves back one place alone", movedBack.bestPush(), 2);
    }

    private void behindFiveMinutes() {
        // 4 minutes take 59 of 62 and 60 of 64; 5 take 62 of both; 6 take 62 and 32 with 62 ahead, 64 with 64 ahead.
        b.due("bestPush() that would be 1 behind 4 minutes", States.with(1, 62, 1, 64).bestPush(), 0);
        b.due("bestPush() that would be 1 behind 6 minutes", States.with(1, 64, 1, 62).bestPush(), 0);
    }

    private void smallestPlace() {
        b.due("bestPush() of 12 of the same", States.full(2, 50).bestPush(), 0);
        b.due("bestPush() of two 99 behind 40", States.with(1, 40, 1, 99, 1, 99).bestPush(), 1);
        SmallerTalk four = States.with(1, 9, 1, 20, 1, 99, 1, 50);
        four.setStones(4);
        b.due("bestPush() of four topics and four stones", four.bestPush(), 0);
    }

    private void nothingToPush() {
        SmallerTalk talk = new SmallerTalk();
        b.due("bestPush() of a new object", talk.bestPush(), -1);
        talk.addTalker(1, 50, 1);
        b.due("bestPush() of an empty belt with a talker", talk.bestPush(), -1);
        talk.pass(1);
        b.due("bestPush() of what this one brings", talk.bestPush(), 0);
        talk.drop(0);
        b.due("bestPush() behind drop(0)", talk.bestPush(), -1);
    }

    // A nod each minute: a bottle each 6 minutes, the tenth just in minute 60.
    private void bottlesIn() {
        SmallerTalk talk = States.with(1, 2);
        talk.addTalker(1, 2, 1);
        for (int minutes = 1; minutes <= 60; minutes++) {
            b.due("bottlesIn(" + minutes + ")", talk.bottlesIn(minutes), minutes / 6);
        }
        talk.pass(6);
        b.due("bottlesIn(5) behind 6 minutes", talk.bottlesIn(5), 1);
        b.due("bottlesIn(6) behind 6 minutes", talk.bottlesIn(6), 2);
        b.due("bottlesIn(60) of an empty belt", new SmallerTalk().bottlesIn(60), 0);
        b.refusedOutside(1, 60, Boundaries.ARGUMENT, minutes -> "bottlesIn(" + minutes + ")", SmallerTalk::bottlesIn);
    }

    private void meanPatience() {
        b.due("meanPatience() of a new object", new SmallerTalk().meanPatience(), 0.0);
        b.due("meanPatience() of one who went", States.behindNoise(580).meanPatience(), 0.0);
        SmallerTalk one = States.behindNoise(579);
        b.due("meanPatience() of one with patience 1", one.meanPatience(), 1.0);
        one.addTalker(1, 2, 9);
        b.due("meanPatience() of 1 and 30, which is not cut", one.meanPatience(), 15.5);
        SmallerTalk went = States.behindNoise(580);
        went.addTalker(1, 2, 9);
        b.due("meanPatience() of one who went and one who comes", went.meanPatience(), 30.0);
    }

    private void digestOfNothing() {
        b.due("digest() of a new object", new SmallerTalk().digest(),
                wrapped(digestOf(0, 0, 0, 0, 0, 0, 2, 1, 3, 0, 0, 2, -1)));
    }

    private void digestWraps() {
        BigInteger all = digestOf(0, 0, 0, 0, 0, 0, 2, 1, 3, 0, 0, 2, -1);
        b.due("the bits of the whole number are more than 64", all.bitLength() > 64, true);
        b.due("digest(), the last 64 of them", new SmallerTalk().digest(), wrapped(all));
        SmallerTalk below = States.with(1, 2);
        b.due("digest() of one topic", below.digest(),
                wrapped(digestOf(0, 1, 2, 0, 0, 0, 2, 1, 3, 0, 0, 2, 0, 2, 1)));
        b.due("one of the two is below 0", below.digest() < 0 || new SmallerTalk().digest() < 0, true);
        b.due("one of the two is not", below.digest() >= 0 || new SmallerTalk().digest() >= 0, true);
    }

    private void digestOfWhoIsThere() {
        SmallerTalk comes = new SmallerTalk();
        comes.addTalker(1, 2, 9);
        b.due("digest() with one who is there", comes.digest(),
                wrapped(digestOf(0, 0, 0, 0, 0, 0, 2, 1, 3, 1, 1, 2, -1, 1, 30, -1)));
        SmallerTalk went = States.withOneWhoWent();
        b.due("digest() with one who went", went.digest(),
                wrapped(digestOf(1, 0, 0, 0, 0, 0, 2, 1, 3, 1, 0, 2, -1, 0, 0, 0)));
    }

    private void digestOfEach() {
        SmallerTalk talk = States.crowded();
        List<Integer> numbers = new ArrayList<>(List.of(1, 12, 37, 0, 0, 0, 2, 1, 3, 6));
        numbers.addAll(List.of(5, talk.bestGear(), talk.bestPush()));
        for (int place = 0; place < 11; place++) {
            numbers.addAll(List.of(3, 1));
        }
        numbers.addAll(List.of(4, 4, 0, 0, 0));
        for (int talker = 1; talker < 6; talker++) {
            numbers.addAll(List.of(1, 30, -1));
        }
        b.due("digest() of 12 topics and 6 talkers", talk.digest(),
                wrapped(digestOf(numbers.stream().mapToInt(Integer::intValue).toArray())));
    }

    private static BigInteger digestOf(int... numbers) {
        BigInteger d = BigInteger.valueOf(2039);
        for (int number : numbers) {
            d = d.multiply(BigInteger.valueOf(31)).add(BigInteger.valueOf(number));
        }
        return d;
    }

    private static long wrapped(BigInteger number) {
        return number.longValue();
    }
}
