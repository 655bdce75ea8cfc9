import java.util.ArrayList;
import java.util.List;

/** Promise 30: walks by a seed. */
public final class WalkTest {
    public static void main(String[] args) {
        wrong();
        byHand();
        againstGo();
        Check.finish();
    }

    private static void wrong() {
        ThreadMoved x = Check.told("rooms 3;door 0 1;beast 1 hungry;");
        Check.due("walk(1, 0, 0)", x.walk(1, 0, 0), -1);
        Check.due("walk(1, 61, 0)", x.walk(1, 61, 0), -1);
        Check.due("walk(1, 1, 2)", x.walk(1, 1, 2), -1);
        Check.due("walk(1, 1, -1)", x.walk(1, 1, -1), -1);
        Check.due("walk(1, 60, 0): eaten in the first", x.walk(1, 60, 0), 0);
        x.go(10);
        Check.due("walk, eaten", x.walk(1, 1, 0), -2);
        Check.due("walk, eaten, no such", x.walk(1, 0, 0), -1);
    }

    private static void byHand() {
        ThreadMoved x = Check.told("rooms 3;door 0 1;door 0 2;");
        // 0 becomes 12345: bits 16 to 30 are 0: door 0
        Check.due("walk(0, 1, 1)", x.walk(0, 1, 1), 1);
        // 1 becomes 1103527590: 16838, 2 modulo 3: behind both doors he stays
        Check.due("walk(1, 1, 1)", x.walk(1, 1, 1), 0);
        // 2 becomes -2087924461: the sign is not among the bits: 908, 2 modulo 3
        Check.due("walk(2, 1, 1)", x.walk(2, 1, 1), 0);
        Check.due("walk(0, 60, 0): no beast", x.walk(0, 60, 0), 60);
        Check.due("nothing is changed", x.rule(5), 0);
        Check.due("nor where he is", x.rule(6), 0);
        Check.due("nor his string", x.count(0), 0);
        Check.due("no doors", new ThreadMoved().walk(5, 60, 1), 0);
    }

    /** The same walk, one go() behind another. */
    private static void againstGo() {
        String house = "rooms 6;door 0 1;door 1 2;door 2 3;door 3 4;door 4 5;door 5 0;door 1 4;swap 0 3;turn 6 1;bar 2;"
                + "period 3;beast 3 turns;";
        for (int seed = -40; seed < 40; seed++) {
            ThreadMoved x = Check.told(house);
            int n = 1 + Math.floorMod(seed * 7, 60);
            int safe = 0;
            int s = seed * 1000003;
            int first = s;
            int waysOut = x.walk(first, n, 0);
            int end = x.walk(first, n, 1);
            for (int i = 0; i < n; i++) {
                s = s * 1103515245 + 12345;
                List<Integer> ways = new ArrayList<>();
                for (int d = 0; d < 7; d++) {
                    if ((x.doors(x.rule(6)) >> d & 1) != 0) {
                        ways.add(d);
                    }
                }
                ways.add(10);
                if (x.go(ways.get(((s >>> 16) & 0x7fff) % ways.size())) >= 10) {
                    break;
                }
                safe++;
            }
            Check.due("walk(" + first + ", " + n + ", 0)", waysOut, safe);
            Check.due("walk(" + first + ", " + n + ", 1)", end, x.rule(6));
        }
    }
}
