/** Objects in states that the tests of edges start from; each is made by fewer than 360 calls. */
final class Scenes {
    static final int LAWS = 8;
    static final int ENTRIES = 150;
    static final int SHIPS = 30;
    static final int LOTS = 100;
    static final int BYTES = 200;
    static final int LAST_MONTH = 119;
    static final int END = 120;
    /** Numbers that are never a month, place, citizen or the like; the edges themselves come beside them. */
    static final int[] FAR = {Integer.MIN_VALUE, Integer.MIN_VALUE + 1, -1000, 100000, 1 << 16, 1 << 30,
        Integer.MAX_VALUE - 1, Integer.MAX_VALUE};

    private Scenes() {
    }

    /** In month 3, with something of everything; on the tape a text of 15 bytes. */
    static GrainDole busy() {
        GrainDole dole = new GrainDole();
        Check.law(dole, 0, "share 4; rank 1 50; spoil 3; damp 1; sale yes; premium 10");
        Check.law(dole, 2, "share 3; rank 2 10; spoil 3; sale yes; back 50");
        for (int place = 0; place < 6; place++) {
            dole.enter(0, 0, place, 10 + place, place % 4);
        }
        dole.enter(2, 0, 1, 30, 0);
        dole.enter(3, 0, 2, 0, 0);
        dole.ship(100, 1);
        dole.ship(50, 5);
        dole.land(0, 0, 40, false);
        dole.land(0, 1, 30, true);
        dole.land(1, 2, 9, false);
        dole.room(3, 500);
        for (int m = 0; m < 3; m++) {
            dole.show(0, 0, 0);
            dole.show(1, 0, 1);
            dole.show(3, 0, 2);
            dole.show(9, 0, 3);
            dole.part();
        }
        dole.enter(1, 1, 10, 0, 0);
        dole.land(1, 3, 20, true);
        dole.show(1, 0, 0);
        dole.swear(1);
        dole.swear(4);
        dole.show(4, 1, 1);
        dole.show(5, 0, 1);
        dole.show(9, 0, 2);
        Check.write(dole, "share 7; back 9");
        return dole;
    }

    /** In month 1, with as many laws, entries, ships, lots and bytes as there can be. */
    static GrainDole full() {
        GrainDole dole = new GrainDole();
        dole.part();
        for (int k = 0; k < LAWS; k++) {
            Check.law(dole, k, "sale yes; share " + (k + 1));
        }
        for (int k = 0; k < ENTRIES; k++) {
            dole.enter(k < 30 ? 0 : 2, 1, k % 30, k % 100, k % 4);
        }
        for (int k = 0; k < SHIPS; k++) {
            dole.ship(1 + k, 1 + k);
        }
        for (int k = 0; k < LOTS; k++) {
            dole.land(k % SHIPS, k % 4, 1 + k % 7, k % 2 == 0);
        }
        Check.write(dole, textOf200());
        return dole;
    }

    /** As busy, but all months are parted; on the tape a text of 15 bytes. */
    static GrainDole over() {
        GrainDole dole = busy();
        Check.partTo(dole, END);
        return dole;
    }

    /** Nothing but blanks ahead of a clause that ends with the last byte. */
    static String textOf200() {
        String clause = "share 42";
        return " ".repeat(BYTES - clause.length()) + clause;
    }
}
