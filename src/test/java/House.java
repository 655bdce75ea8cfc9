/** Objects in states that many boundary tests begin with; each made by fewer than 150 calls. */
final class House {
    /** All that there can be: rules, string, beast, seen, heard, an image, sheets, a tape, faults. */
    static ThreadMoved furnished() {
        ThreadMoved x = Check.told("rooms 5;door 0 1;door 1 2;door 2 3 barred;door 3 4;door 0 0;swap 0 3;turn 1 2;bar 2;"
                + "period 3;in 1;beast 4 sleeps;string 5;");
        Check.tell(x, "!");
        x.go(0);
        x.go(4);
        x.keep(0);
        x.go(10);
        x.see(1, 0, 4);
        x.see(2, 1, 4);
        x.hear(2, 4, true);
        x.hear(1, 2, false);
        for (int k = 0; k < 3; k++) {
            x.sheet(k, k, 4 - k);
            x.lay(k, 0, 10);
        }
        x.lay(0, 1, 4);
        x.read(0, 0, 99, 1);
        Check.lay(x, "in 3;");
        return x;
    }

    /** He is eaten in room 1; door 0 leads on from there. */
    static ThreadMoved eaten() {
        ThreadMoved x = Check.told("rooms 3;door 0 1;door 1 2;beast 1 sleeps;");
        x.keep(1);
        x.go(0);
        return x;
    }

    /** Nothing more can be seen, heard, fed; his string is full. */
    static ThreadMoved full() {
        ThreadMoved x = Check.told("rooms 3;door 0 1;door 1 2;beast 2 sleeps;string 2;");
        x.go(0);
        x.go(0);
        for (int i = 1; i <= 6; i++) {
            x.see(i, 0, 1);
            x.hear(i, 2, true);
        }
        for (int i = 0; i < 40; i++) {
            x.feed(0x2020202020202020L);
        }
        return x;
    }

    /** The 999th step has been gone; he is in room 0. */
    static ThreadMoved late() {
        ThreadMoved x = Check.told("rooms 3;door 0 1;door 1 2 barred;beast 2 sleeps;");
        x.sheet(0, 0, 20);
        for (int i = 0; i < 20; i++) {
            x.lay(0, i, 10);
        }
        for (int i = 0; i < 49; i++) {
            x.read(0, 0, 0, 20);
        }
        x.read(0, 0, 0, 19);
        return x;
    }

    private House() {
    }
}
