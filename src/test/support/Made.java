/** Objects that several tests start from, and numbers that are out of all bounds. */
final class Made {
    /** The second and the last but one would be in many bounds if an int were cut to 16 bits. */
    static final int[] FAR_OUT = {Integer.MIN_VALUE, -65535, -1000000, 1000000, 6553601, Integer.MAX_VALUE};

    private Made() {
    }

    /** One duct of length 10 and flow 10 with sizes whose falls are 100, 25 and 6. */
    static DuctSizes oneDuct() {
        DuctSizes x = new DuctSizes();
        x.duct(0, 10, 0);
        x.need(1, 10);
        x.size(10, 5);
        x.size(20, 9);
        x.size(40, 30);
        return x;
    }

    /** Two ducts from the fan, so that what it gives shows the sum of both needs. */
    static DuctSizes twoNodes() {
        DuctSizes x = new DuctSizes();
        x.duct(0, 1, 0);
        x.duct(0, 1, 0);
        return x;
    }

    /**
     * Duct 1 to two branches, 2 long and 3 short; node 1 needs no air.
     * Falls: duct 1 at 30: 227, 102, 27; duct 2 at 20: 201, 89, 23; duct 3 at 10: 12, 5, 1.
     */
    static DuctSizes branches() {
        DuctSizes x = new DuctSizes();
        x.duct(0, 10, 2);
        x.duct(1, 20, 1);
        x.duct(1, 5, 0);
        x.need(2, 20);
        x.need(3, 10);
        x.size(20, 3);
        x.size(30, 5);
        x.size(60, 12);
        return x;
    }

    /** Six ducts in a row below the fan, of one length and one fitting, whose nodes need nothing. */
    static DuctSizes row(int length, int fitting) {
        DuctSizes x = new DuctSizes();
        for (int node = 0; node < 6; node++) {
            x.duct(node, length, fitting);
        }
        return x;
    }

    /** As many ducts, sizes and points as there can be, and settings of its own. */
    static DuctSizes full() {
        DuctSizes x = branches();
        x.duct(0, 7, 3);
        x.duct(4, 100, 50);
        x.duct(5, 1, 0);
        x.need(6, 4);
        x.size(1000, 1000);
        x.fan(0, 300);
        x.fan(20, 290);
        x.fan(40, 250);
        x.fan(100, 250);
        x.fan(10000, 0);
        x.set(0, 90);
        x.set(1, 7);
        return x;
    }
}
