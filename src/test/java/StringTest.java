/** Promises 18 and 19: his string. */
public final class StringTest {
    public static void main(String[] args) {
        thread();
        leads();
        broken();
        Check.finish();
    }

    private static void thread() {
        ThreadMoved x = Check.told("rooms 3;door 0 1;door 1 2;door 2 0;");
        Check.due("thread(0) of none", x.thread(0), -4);
        Check.due("thread(-1)", x.thread(-1), -1);
        x.go(0);
        x.go(1);
        x.go(2);
        int[] due = {0, 1, 2, -4};
        for (int i = 0; i < due.length; i++) {
            Check.due("thread(" + i + ")", x.thread(i), due[i]);
        }
        Check.due("thread(11)", x.thread(11), -4);
        Check.due("thread(least)", x.thread(Integer.MIN_VALUE), -1);
    }

    private static void leads() {
        ThreadMoved x = Check.told("rooms 4;door 0 1;door 1 2;door 2 3;door 3 3;");
        Check.due("leads(0) of none", x.leads(0), 0);
        Check.due("leads(1) of none", x.leads(1), -4);
        x.go(0);
        x.go(1);
        x.go(2);
        x.go(3);
        Check.due("leads(0)", x.leads(0), 0);
        Check.due("leads(1)", x.leads(1), -4);
        Check.due("leads(2)", x.leads(2), -1);
        Check.due("leads(-1)", x.leads(-1), -1);
        x.bar(3, true);
        Check.due("leads(0), broken at once", x.leads(0), 3);
        Check.due("leads(1), broken at once", x.leads(1), 3);
        x.bar(3, false);
        x.bar(1, true);
        Check.due("leads(0), broken", x.leads(0), 2);
        Check.due("leads(1), broken", x.leads(1), 1);
        x.bar(0, true);
        Check.due("the first from its end", x.leads(1), 1);
        x.bar(1, false);
        Check.due("leads(0), broken at the last", x.leads(0), 1);
        Check.due("leads(1), broken at the last", x.leads(1), 0);
        x.bite(0);
        Check.due("leads(0), bitten off", x.leads(0), 3);
        Check.due("leads(1), bitten off", x.leads(1), -4);
    }

    /** It leads by doors as they lie now: elsewhere, too. */
    private static void broken() {
        ThreadMoved x = Check.told("rooms 4;door 0 1;door 3 1;door 2 1;swap 0 1;turn 2 1;period 2;");
        x.go(0);
        Check.due("go(2)", x.go(2), 2);
        Check.due("by no door from 2 to 1", x.door(2, 1), 2);
        Check.due("leads(0): round in 2", x.leads(0), 2);
        Check.due("leads(1): door 0 is not there", x.leads(1), 0);
        x = Check.told("rooms 4;door 0 1;turn 0 2;");
        x.go(0);
        Check.due("the door has gone", x.leads(1), 0);
        x.put(3);
        Check.due("it leads from where he is", x.leads(0), 0);
        Check.due("leads(1)", x.leads(1), -4);
    }
}
