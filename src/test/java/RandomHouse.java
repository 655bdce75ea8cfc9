import java.util.ArrayList;
import java.util.List;
import java.util.Random;

/** A house made by a seed, as lines of a text: objects of it can be made again and again. */
final class RandomHouse {
    final int rooms;
    final int doors;
    final int period;
    final int his;
    final List<String> doorLines = new ArrayList<>();
    final List<String> ruleLines = new ArrayList<>();
    final String beastLine;

    RandomHouse(Random random, int mostRooms, int mostDoors, String... ruleKinds) {
        rooms = 2 + random.nextInt(mostRooms - 1);
        doors = 2 + random.nextInt(mostDoors - 1);
        period = 1 + random.nextInt(4);
        his = random.nextInt(rooms);
        for (int d = 0; d < doors; d++) {
            String barred = random.nextInt(5) == 0 ? " barred;" : ";";
            doorLines.add("door " + random.nextInt(rooms) + " " + random.nextInt(rooms) + barred);
        }
        for (int k = random.nextInt(5); k > 0 && ruleKinds.length > 0; k--) {
            ruleLines.add(ruleLine(random, ruleKinds[random.nextInt(ruleKinds.length)]));
        }
        String habit = List.of("sleeps", "left", "hungry", "turns").get(random.nextInt(4));
        beastLine = "beast " + (his + 1 + random.nextInt(rooms - 1)) % rooms + " " + habit + ";";
    }

    private String ruleLine(Random random, String kind) {
        int d = random.nextInt(doors);
        int e = (d + 1 + random.nextInt(doors - 1)) % doors;
        switch (kind) {
            case "swap": return "swap " + d + " " + e + ";";
            case "turn": return "turn " + d + " " + (1 + random.nextInt(6)) + ";";
            default: return "bar " + d + ";";
        }
    }

    /** The lines ahead of the rules. */
    String frame() {
        return "rooms " + rooms + ";" + String.join("", doorLines) + "period " + period + ";in " + his + ";";
    }

    String text() {
        return frame() + String.join("", ruleLines) + beastLine;
    }

    ThreadMoved made() {
        return Check.told(text());
    }

    ThreadMoved withoutBeast() {
        return Check.told(frame() + String.join("", ruleLines));
    }
}
