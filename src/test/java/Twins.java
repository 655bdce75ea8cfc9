import java.util.ArrayList;
import java.util.List;
import java.util.function.Supplier;
import java.util.function.ToIntFunction;

/** What is refused changes nothing: two objects are made alike, one has a refused call more, and both look the same. */
final class Twins {
    interface OneNumber {
        int of(ThreadMoved x, int v);
    }

    private Twins() {
    }

    static void refused(Supplier<ThreadMoved> made, int answer, String call, ToIntFunction<ThreadMoved> called) {
        ThreadMoved x = made.get();
        Check.due(call, called.applyAsInt(x), answer);
        int[] with = look(x);
        int[] without = look(made.get());
        for (int i = 0; i < with.length; i++) {
            Check.due("look " + i + " behind " + call, with[i], without[i]);
        }
    }

    static void allRefused(Supplier<ThreadMoved> made, int answer, String call, OneNumber called, int... values) {
        for (int v : values) {
            refused(made, answer, call + "(" + v + ")", x -> called.of(x, v));
        }
    }

    /** All that an object tells, by some 250 calls; it is of no more use then. */
    private static int[] look(ThreadMoved x) {
        List<Integer> told = new ArrayList<>();
        lookAtHouse(x, told);
        for (int i = 0; i < 7; i++) {
            told.add(x.doors(i));
            told.add(x.count(i));
            told.add(x.soonest(i, 0));
            told.add(x.law(i));
            told.add(x.lair(i));
        }
        for (int what = 0; what < 3; what++) {
            told.add(x.laws(what));
            told.add(x.wall(what));
            told.add(x.sure(1, what));
        }
        told.add(x.fault());
        told.add(x.torn());
        told.add(x.again());
        told.add(x.alive(24));
        for (int k = 0; k < 2; k++) {
            told.add(x.back(k));
            lookAtHouse(x, told);
        }
        lookAtSheets(x, told);
        told.add(x.text());
        told.add(x.fault());
        lookAtHouse(x, told);
        return told.stream().mapToInt(Integer::intValue).toArray();
    }

    private static void lookAtHouse(ThreadMoved x, List<Integer> told) {
        for (int i = 0; i < 10; i++) {
            told.add(x.rule(i));
        }
        for (int d = 0; d < 5; d++) {
            for (int what = 0; what < 3; what++) {
                told.add(x.door(d, what));
            }
        }
        for (int i = 0; i < 5; i++) {
            told.add(x.thread(i));
        }
        told.add(x.leads(0));
        told.add(x.leads(1));
    }

    private static void lookAtSheets(ThreadMoved x, List<Integer> told) {
        for (int k = 0; k < 4; k++) {
            for (int lane = 0; lane < 3; lane++) {
                for (int i = 0; i < 5; i += 2) {
                    told.add(x.read(k, lane, i, 2));
                    told.add(x.torn());
                }
            }
        }
    }
}
