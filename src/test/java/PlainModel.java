import java.util.ArrayList;
import java.util.List;

/** The document once more, in lists and without care for speed, to compare long runs with. It is asked in its bounds only. */
final class PlainModel {
    static final class Topic {
        final int kind;
        final int size;

        Topic(int kind, int size) {
            this.kind = kind;
            this.size = size;
        }
    }

    static final class Talker {
        final int kind;
        final int size;
        final int every;
        int patience = 30;
        int exit = -1;

        Talker(int kind, int size, int every) {
            this.kind = kind;
            this.size = size;
            this.every = every;
        }
    }

    final List<Topic> belt = new ArrayList<>();
    final List<Talker> talkers = new ArrayList<>();
    int gear = 2;
    int stones = 1;
    int mesh = 3;
    int nods;
    int bottles;
    int sieved;
    int minute;

    PlainModel copy() {
        PlainModel other = new PlainModel();
        other.belt.addAll(belt);
        for (Talker talker : talkers) {
            Talker same = new Talker(talker.kind, talker.size, talker.every);
            same.patience = talker.patience;
            same.exit = talker.exit;
            other.talkers.add(same);
        }
        other.gear = gear;
        other.stones = stones;
        other.mesh = mesh;
        other.nods = nods;
        other.bottles = bottles;
        other.sieved = sieved;
        other.minute = minute;
        return other;
    }

    PlainModel behind(int minutes) {
        PlainModel later = copy();
        for (int i = 0; i < minutes; i++) {
            later.step();
        }
        return later;
    }

    void step() {
        grind();
        List<Topic> fine = new ArrayList<>();
        for (Topic topic : belt) {
            if (topic.kind == 0 && topic.size < mesh) {
                fine.add(topic);
            }
        }
        belt.removeAll(fine);
        sieved += fine.size();
        while (nods >= 6) {
            nods -= 6;
            bottles++;
        }
        int noise = noise();
        for (Talker talker : talkers) {
            if (talker.exit < 0) {
                listen(talker, noise);
            }
        }
        for (Talker talker : talkers) {
            if (talker.exit < 0 && minute % talker.every == 0 && belt.size() < 12) {
                belt.add(new Topic(talker.kind, talker.size));
            }
        }
        minute++;
    }

    private void grind() {
        List<Topic> left = new ArrayList<>();
        for (int place = 0; place < belt.size(); place++) {
            Topic topic = belt.get(place);
            if (place >= stones) {
                left.add(topic);
            } else if (topic.size / gear >= 2) {
                left.add(new Topic(topic.kind, topic.size / gear));
            } else {
                nods++;
            }
        }
        belt.clear();
        belt.addAll(left);
    }

    private void listen(Talker talker, int noise) {
        if (noise == 0) {
            talker.patience = talker.patience == 30 ? 30 : talker.patience + 1;
            return;
        }
        int less = talker.patience - noise / 20 - 1;
        talker.patience = less < 0 ? 0 : less;
        if (talker.patience == 0) {
            talker.exit = minute;
        }
    }

    int noise() {
        int noise = 0;
        for (Topic topic : belt) {
            noise += topic.size;
        }
        return noise;
    }

    int present() {
        int there = 0;
        for (Talker talker : talkers) {
            there += talker.exit < 0 ? 1 : 0;
        }
        return there;
    }

    int largest() {
        for (int size = 99; size >= 2; size--) {
            for (int place = 0; place < belt.size(); place++) {
                if (belt.get(place).size == size) {
                    return place;
                }
            }
        }
        return -1;
    }

    int turnsToNod(int place) {
        int turns = 0;
        for (int size = belt.get(place).size; size >= 2; size /= gear) {
            turns++;
        }
        return turns;
    }

    int nextToGo() {
        for (int patience = 0; patience <= 30; patience++) {
            for (int talker = 0; talker < talkers.size(); talker++) {
                if (talkers.get(talker).exit < 0 && talkers.get(talker).patience == patience) {
                    return talker;
                }
            }
        }
        return -1;
    }

    int minutesUntilQuiet() {
        for (int minutes = 0; minutes <= 100; minutes++) {
            if (behind(minutes).belt.isEmpty()) {
                return minutes;
            }
        }
        return -1;
    }

    int minutesUntilExit(int talker) {
        for (int minutes = 0; minutes <= 100; minutes++) {
            if (behind(minutes).talkers.get(talker).exit >= 0) {
                return minutes;
            }
        }
        return -1;
    }

    int bestGear() {
        int best = 9;
        int[] noises = new int[10];
        for (int with = 9; with >= 2; with--) {
            PlainModel other = copy();
            other.gear = with;
            noises[with] = other.behind(10).noise();
            if (noises[with] <= noises[best]) {
                best = with;
            }
        }
        return best;
    }

    int bestPush() {
        int best = -1;
        int least = 0;
        for (int place = belt.size() - 1; place >= 0; place--) {
            PlainModel other = copy();
            other.belt.add(0, other.belt.remove(place));
            int noise = other.behind(5).noise();
            if (best < 0 || noise <= least) {
                least = noise;
                best = place;
            }
        }
        return best;
    }

    double meanPatience() {
        int sum = 0;
        for (Talker talker : talkers) {
            sum += talker.exit < 0 ? talker.patience : 0;
        }
        return present() == 0 ? 0.0 : sum / (double) present();
    }

    long digest() {
        List<Integer> numbers = new ArrayList<>(List.of(minute, belt.size(), noise(), nods, bottles, sieved));
        numbers.addAll(List.of(gear, stones, mesh, talkers.size(), present(), bestGear(), bestPush()));
        for (Topic topic : belt) {
            numbers.addAll(List.of(topic.size, topic.kind));
        }
        for (Talker talker : talkers) {
            numbers.addAll(List.of(talker.exit < 0 ? 1 : 0, talker.patience, talker.exit));
        }
        long d = 2039;
        for (int number : numbers) {
            d = d * 31 + number;
        }
        return d;
    }
}
