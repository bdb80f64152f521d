/** The sentences of the document's "Terms", each with the edges that it names. */
public final class TermsTest {
    private TermsTest() {
    }

    public static void main(String[] args) {
        lastCalls();
        nodes();
        ductsLeadToNodes();
        lengths();
        fittings();
        needs();
        flows();
        sizeNumbers();
        areasAndPrices();
        speeds();
        falls();
        fallsHaveAMost();
        fallsOfGreatFlows();
        sizesThatMayBe();
        speedLimit();
        choices();
        pressures();
        costs();
        energyPrice();
        fitsTheFan();
        fitsThreeHundred();
        bestCostsLeast();
        bestHasLessPressure();
        bestComesFirst();
        fanHasPoints();
        fanGivesAtTheFlowOfAll();
        fanBetweenPoints();
        fanBeforeTheFirstPoint();
        fanBehindTheLastPoint();
        fanWithoutPoints();
        Check.end();
    }

    private static void dueBest(DuctSizes x, String call, int cost, int pressure, int... sizes) {
        Check.due(call + ", cost", cost, () -> x.best(0));
        Check.due(call + ", pressure", pressure, () -> x.best(1));
        for (int at = 0; at < sizes.length; at++) {
            int duct = at + 1;
            Check.due(call + ", size of duct " + duct, sizes[at], () -> x.chosen(duct));
        }
    }

    private static void dueNone(DuctSizes x, String call) {
        dueBest(x, call, -1, -1, -1);
    }

    private static void lastCalls() {
        Check.sentence("An object is used for at most 512 calls after it has been made");
        DuctSizes x = Made.row(1, 1);
        for (int size = 0; size < 4; size++) {
            x.size(1, 1);
        }
        for (int call = 11; call <= 511; call++) {
            x.least(call % 301);
        }
        Check.due("the 512th call", 6, () -> x.best(0));
    }

    private static void nodes() {
        Check.sentence("NODES are 0, the fan, and 1 .. 6, as they come, each below another one");
        DuctSizes x = new DuctSizes();
        x.size(1, 1);
        Check.due("node 0 is there at first", 0, () -> x.pressure(0));
        for (int number = 1; number <= 6; number++) {
            int node = number;
            Check.illegalArgument("no node " + node + " yet", () -> x.pressure(node));
            Check.illegalArgument("node " + node + " below itself", () -> x.duct(node, 1, 0));
            Check.due("node " + node + " below the one before", node, () -> x.duct(node - 1, 1, node));
            Check.due("node " + node + " is there", node * (node + 1) / 2, () -> x.pressure(node));
        }
        Check.illegalArgument("no node 7", () -> x.pressure(7));
        Check.illegalArgument("no node -1", () -> x.pressure(-1));
    }

    private static void ductsLeadToNodes() {
        Check.sentence("DUCT k leads to node k, from the node that it is below");
        DuctSizes x = new DuctSizes();
        x.size(1, 1);
        x.duct(0, 1, 1);
        x.duct(0, 1, 2);
        x.duct(1, 1, 4);
        x.duct(1, 1, 8);
        x.duct(3, 1, 16);
        x.duct(2, 1, 32);
        int[] due = {0, 1, 2, 1 + 4, 1 + 8, 1 + 4 + 16, 2 + 32};
        for (int number = 0; number <= 6; number++) {
            int node = number;
            Check.due("the way to node " + node, due[node], () -> x.pressure(node));
        }
    }

    private static void lengths() {
        Check.sentence("a LENGTH (1 .. 100)");
        DuctSizes x = new DuctSizes();
        x.size(10, 1);
        Check.illegalArgument("length 0", () -> x.duct(0, 0, 0));
        Check.illegalArgument("length 101", () -> x.duct(0, 101, 0));
        Check.due("length 1", 1, () -> x.duct(0, 1, 0));
        Check.due("length 1 costs", 1, () -> x.best(0));
        Check.due("length 100", 2, () -> x.duct(0, 100, 0));
        Check.due("lengths 1 and 100 cost", 101, () -> x.best(0));
        x.need(1, 10);
        x.need(2, 10);
        Check.due("fall of length 1", 10, () -> x.told(1, 0, 1));
        Check.due("fall of length 100", 1000, () -> x.told(2, 0, 1));
    }

    private static void fittings() {
        Check.sentence("a FITTING (0 .. 50)");
        DuctSizes x = new DuctSizes();
        x.size(10, 1);
        Check.illegalArgument("fitting -1", () -> x.duct(0, 1, -1));
        Check.illegalArgument("fitting 51", () -> x.duct(0, 1, 51));
        Check.due("fitting 0", 1, () -> x.duct(0, 1, 0));
        Check.due("fall of fitting 0", 0, () -> x.told(1, 0, 1));
        Check.due("fitting 50", 2, () -> x.duct(0, 1, 50));
        Check.due("fall of fitting 50", 50, () -> x.told(2, 0, 1));
    }

    private static void needs() {
        Check.sentence("A node NEEDS air (0 .. 1000; 0 at first)");
        DuctSizes x = new DuctSizes();
        x.duct(0, 1, 0);
        Check.due("flow at first", 0, () -> x.flow(1));
        Check.illegalArgument("need -1", () -> x.need(1, -1));
        Check.illegalArgument("need 1001", () -> x.need(1, 1001));
        Check.due("0 at first", 0, () -> x.need(1, 1000));
        Check.due("flow of need 1000", 1000, () -> x.flow(1));
        Check.due("needed 1000", 1000, () -> x.need(1, 0));
        Check.due("flow of need 0", 0, () -> x.flow(1));
        x.need(1, 1);
        x.duct(1, 1, 0);
        Check.due("a later node needs 0 at first", 0, () -> x.need(2, 5));
    }

    private static void flows() {
        Check.sentence("a duct's FLOW is what its node and all below it need");
        DuctSizes x = new DuctSizes();
        x.duct(0, 1, 0);
        x.duct(1, 1, 0);
        x.duct(2, 1, 0);
        x.duct(1, 1, 0);
        x.duct(0, 1, 0);
        for (int node = 1; node <= 5; node++) {
            x.need(node, 1 << node);
        }
        int[] due = {2 + 4 + 8 + 16, 4 + 8, 8, 16, 32};
        for (int number = 1; number <= 5; number++) {
            int duct = number;
            Check.due("flow of duct " + duct, due[duct - 1], () -> x.flow(duct));
        }
        x.duct(3, 1, 0);
        Check.due("a new node adds nothing", 2 + 4 + 8 + 16, () -> x.flow(1));
        x.need(6, 1000);
        Check.due("what is far below counts", 2 + 4 + 8 + 16 + 1000, () -> x.flow(1));
        Check.due("what is beside does not", 32, () -> x.flow(5));
        x.need(3, 0);
        Check.due("no more needed between", 4 + 1000, () -> x.flow(2));
    }

    private static void sizeNumbers() {
        Check.sentence("SIZES are 0 .. 3, as they come");
        DuctSizes x = new DuctSizes();
        x.duct(0, 1, 0);
        x.need(1, 12);
        for (int number = 0; number <= 3; number++) {
            int size = number;
            Check.illegalArgument("no size " + size + " yet", () -> x.told(1, size, 0));
            Check.due("size " + size, size, () -> x.size(size + 1, 1));
            Check.due("its speed", 1200 / (size + 1), () -> x.told(1, size, 0));
        }
        Check.illegalArgument("no size 4", () -> x.told(1, 4, 0));
        Check.illegalArgument("no size -1", () -> x.told(1, -1, 0));
        Check.due("size 0 stays the first", 1200, () -> x.told(1, 0, 0));
    }

    private static void areasAndPrices() {
        Check.sentence("each with an AREA (1 .. 1000) and a PRICE (1 .. 1000) a length");
        DuctSizes x = new DuctSizes();
        Check.illegalArgument("area 0", () -> x.size(0, 1));
        Check.illegalArgument("area 1001", () -> x.size(1001, 1));
        Check.illegalArgument("price 0", () -> x.size(1, 0));
        Check.illegalArgument("price 1001", () -> x.size(1, 1001));
        Check.due("area 1, price 1000", 0, () -> x.size(1, 1000));
        x.duct(0, 7, 0);
        Check.due("price 1000 a length", 7000, () -> x.best(0));
        Check.due("area 1000, price 1", 1, () -> x.size(1000, 1));
        Check.due("price 1 a length", 7, () -> x.best(0));
        x.need(1, 20);
        Check.due("speed at area 1", 2000, () -> x.told(1, 0, 0));
        Check.due("speed at area 1000", 2, () -> x.told(1, 1, 0));
    }

    private static void speeds() {
        Check.sentence("A size's SPEED in a duct is 100 * flow / area, rounded down");
        DuctSizes x = new DuctSizes();
        x.duct(0, 3, 50);
        x.size(7, 1);
        x.size(1000, 1);
        Check.due("at rest", 0, () -> x.told(1, 0, 0));
        x.need(1, 10);
        Check.due("142.8", 142, () -> x.told(1, 0, 0));
        Check.due("just 1", 1, () -> x.told(1, 1, 0));
        x.need(1, 9);
        Check.due("0.9", 0, () -> x.told(1, 1, 0));
        x.set(0, 1);
        Check.due("told though it is above the limit", 128, () -> x.told(1, 0, 0));
    }

    private static void falls() {
        Check.sentence("its FALL is length * (1000 * flow * flow / (area * area)) / 100, both quotients rounded down, .. and the fitting");
        DuctSizes x = new DuctSizes();
        x.duct(0, 33, 7);
        x.size(7, 1);
        x.size(1, 1);
        x.size(1000, 1);
        Check.due("at rest", 7, () -> x.told(1, 0, 1));
        x.need(1, 1);
        // 1000 / 49 is 20.4, 33 * 20 / 100 is 6.6
        Check.due("both quotients down", 6 + 7, () -> x.told(1, 0, 1));
        x.need(1, 2);
        // 4000 / 49 is 81.6; with its fraction 33 * 81.6 / 100 would be 26.9
        Check.due("inner quotient down", 26 + 7, () -> x.told(1, 0, 1));
        Check.due("narrowest", 1320 + 7, () -> x.told(1, 1, 1));
        x.need(1, 31);
        Check.due("inner quotient below 1", 7, () -> x.told(1, 2, 1));
        x.need(1, 32);
        Check.due("outer quotient below 1", 7, () -> x.told(1, 2, 1));
        x.need(1, 62);
        // 3844000 / 1000000 is 3, 33 * 3 / 100 is 0.99
        Check.due("outer quotient just below 1", 7, () -> x.told(1, 2, 1));
        x.need(1, 64);
        Check.due("outer quotient just above 1", 1 + 7, () -> x.told(1, 2, 1));
    }

    private static void fallsHaveAMost() {
        Check.sentence("both quotients rounded down, 1000000 at most, and the fitting");
        DuctSizes x = new DuctSizes();
        x.duct(0, 10, 7);
        x.duct(0, 100, 50);
        x.duct(0, 1, 0);
        x.size(1, 1);
        x.need(1, 99);
        Check.due("just below the most", 980100 + 7, () -> x.told(1, 0, 1));
        x.need(1, 100);
        Check.due("just the most", 1000000 + 7, () -> x.told(1, 0, 1));
        x.need(1, 101);
        Check.due("just above the most", 1000000 + 7, () -> x.told(1, 0, 1));
        x.need(2, 1000);
        Check.due("far above the most", 1000000 + 50, () -> x.told(2, 0, 1));
        x.need(3, 1000);
        Check.due("without a fitting", 1000000, () -> x.told(3, 0, 1));
    }

    private static void fallsOfGreatFlows() {
        Check.sentence("its FALL is length * (1000 * flow * flow / (area * area)) / 100: beyond 2^31 it does not wrap around");
        DuctSizes x = Made.row(100, 50);
        for (int node = 1; node <= 6; node++) {
            x.need(node, 1000);
        }
        x.size(1, 1);
        x.size(1000, 1);
        Check.due("greatest speed", 600000, () -> x.told(1, 0, 0));
        Check.due("greatest fall", 1000050, () -> x.told(1, 0, 1));
        // 1000 * 6000 * 6000 is 36 * 10^9
        Check.due("greatest fall of the widest", 36050, () -> x.told(1, 1, 1));
        Check.due("fall of the last", 1050, () -> x.told(6, 1, 1));
        x.set(1, 1000);
        dueNone(x, "no pressure wraps around into one that fits");
        Check.due("nor into one for least", -1, () -> x.least(300));
    }

    private static void sizesThatMayBe() {
        Check.sentence("A size MAY BE in a duct if its speed is not above the SPEED LIMIT");
        DuctSizes x = Made.oneDuct();
        x.set(0, 100);
        dueBest(x, "just the limit", 50, 100, 0);
        x.set(0, 99);
        dueBest(x, "above the limit", 90, 25, 1);
        x.set(0, 25);
        dueBest(x, "one just at the limit", 300, 6, 2);
        x.set(0, 24);
        dueNone(x, "all above the limit");
        Check.due("least, all above the limit", -1, () -> x.least(300));
        DuctSizes two = Made.oneDuct();
        two.duct(1, 1, 0);
        two.need(2, 10);
        two.need(1, 0);
        two.set(0, 50);
        dueBest(two, "the limit holds in each duct", 99, 25 + 2, 1, 1);
        two.need(1, 1);
        two.need(2, 5);
        // Duct 1 has a flow of 6 and speeds 60, 30, 15; duct 2 one of 5 and 50, 25, 12.
        dueBest(two, "a size may be in one duct alone", 90 + 5, 9 + 2, 1, 0);
    }

    private static void speedLimit() {
        Check.sentence("the SPEED LIMIT (1 .. 100000; at first that)");
        DuctSizes x = new DuctSizes();
        Check.illegalArgument("limit 0", () -> x.set(0, 0));
        Check.illegalArgument("limit 100001", () -> x.set(0, 100001));
        Check.due("at first 100000", 100000, () -> x.set(0, 1));
        x.duct(0, 1, 0);
        x.size(1000, 1);
        x.need(1, 9);
        dueBest(x, "speed 0 at limit 1", 1, 0, 0);
        x.need(1, 19);
        dueBest(x, "speed 1 at limit 1", 1, 0, 0);
        x.need(1, 20);
        dueNone(x, "speed 2 at limit 1");
        Check.due("limit was 1", 1, () -> x.set(0, 100000));
        dueBest(x, "speed 2 at limit 100000", 1, 0, 0);
    }

    private static void choices() {
        Check.sentence("A CHOICE gives each duct a size that may be");
        DuctSizes x = new DuctSizes();
        dueBest(x, "no ducts, no sizes: the empty choice", 0, 0);
        x.duct(0, 10, 0);
        dueNone(x, "a duct, no sizes: no choice");
        Check.due("least, a duct, no sizes", -1, () -> x.least(300));
        x.size(10, 5);
        dueBest(x, "a duct, a size", 50, 0, 0);
        x.duct(0, 10, 0);
        dueBest(x, "two ducts of one size", 100, 0, 0, 0);
        x.set(0, 1);
        x.need(2, 10);
        dueBest(x, "one duct has no size that may be", -1, -1, -1, -1);
        Check.due("least, one duct has no size that may be", -1, () -> x.least(300));
        DuctSizes sizesAlone = new DuctSizes();
        sizesAlone.size(10, 5);
        dueBest(sizesAlone, "sizes, no ducts: the empty choice", 0, 0);
    }

    private static void pressures() {
        Check.sentence("The PRESSURE at a node is the sum of the falls of all ducts on its way; that of a choice is the greatest at any node (0 without ducts)");
        DuctSizes x = new DuctSizes();
        Check.due("without ducts", 0, () -> x.best(1));
        x.size(10, 1);
        x.duct(0, 10, 3);
        x.duct(1, 10, 4);
        x.duct(0, 10, 5);
        x.need(1, 5);
        Check.due("at node 1", 28, () -> x.pressure(1));
        Check.due("at node 2, on whose way is duct 1", 32, () -> x.pressure(2));
        Check.due("at node 3", 5, () -> x.pressure(3));
        Check.due("greatest at a node that needs none", 32, () -> x.best(1));
        x.need(3, 10);
        Check.due("greatest at the last node", 105, () -> x.best(1));
        DuctSizes flat = Made.row(1, 0);
        flat.size(1, 1);
        Check.due("no falls", 0, () -> flat.best(1));
    }

    private static void costs() {
        Check.sentence("It COSTS the sum of length times price of all ducts, and the ENERGY price times its pressure");
        DuctSizes x = Made.oneDuct();
        x.set(1, 1);
        dueBest(x, "energy at 1", 90 + 25, 25, 1);
        x.set(1, 11);
        dueBest(x, "energy at 11", 90 + 11 * 25, 25, 1);
        x.set(1, 12);
        dueBest(x, "energy at 12", 300 + 12 * 6, 6, 2);
        x.set(1, 1000);
        dueBest(x, "energy at 1000", 300 + 1000 * 6, 6, 2);
        x.set(1, 0);
        dueBest(x, "energy at 0", 50, 100, 0);
        DuctSizes dear = Made.row(100, 50);
        dear.size(1, 1000);
        dear.set(1, 1000);
        dueBest(dear, "the greatest cost", 6 * 100 * 1000 + 1000 * 300, 300, 0, 0, 0, 0, 0, 0);
        DuctSizes beside = Made.twoNodes();
        beside.size(10, 5);
        beside.set(1, 10);
        beside.need(1, 100);
        beside.need(2, 100);
        // Falls of 1000 each: too much, until the needs are less.
        dueNone(beside, "two falls of 1000");
        beside.need(1, 50);
        beside.need(2, 40);
        dueBest(beside, "energy for the greatest pressure, not for each", 10 + 10 * 250, 250, 0, 0);
    }

    private static void energyPrice() {
        Check.sentence("the ENERGY price (0 .. 1000; 0 at first)");
        DuctSizes x = Made.oneDuct();
        Check.due("no energy at first", 50, () -> x.best(0));
        Check.illegalArgument("energy -1", () -> x.set(1, -1));
        Check.illegalArgument("energy 1001", () -> x.set(1, 1001));
        Check.due("0 at first", 0, () -> x.set(1, 1000));
        Check.due("was 1000", 1000, () -> x.set(1, 0));
        Check.due("was 0", 0, () -> x.set(1, 1));
    }

    private static void fitsTheFan() {
        Check.sentence("It FITS if its pressure is not above what the fan gives");
        DuctSizes x = Made.oneDuct();
        x.fan(9, 101);
        dueNone(x, "behind the fan's last point");
        x.fan(10, 100);
        dueBest(x, "just what the fan gives", 50, 100, 0);
        x.fan(12, 98);
        x.need(1, 11);
        // At flow 11 the falls are 121, 30 and 7, and the fan gives 99.
        dueBest(x, "above what the fan gives", 90, 30, 1);
        x.fan(20, 10);
        x.need(1, 20);
        // At flow 20 the falls are 400, 100 and 25, and the fan gives 10.
        dueNone(x, "all above what the fan gives");
        DuctSizes none = new DuctSizes();
        none.fan(0, 0);
        dueBest(none, "without ducts, where the fan gives 0", 0, 0);
        none.duct(0, 100, 0);
        none.size(1, 1000);
        dueBest(none, "no falls, where the fan gives 0", 100000, 0, 0);
        none.duct(0, 100, 1);
        dueNone(none, "a fall of 1, where the fan gives 0");
    }

    private static void fitsThreeHundred() {
        Check.sentence("and not above 300");
        DuctSizes x = new DuctSizes();
        x.duct(0, 30, 0);
        x.need(1, 10);
        x.size(10, 1);
        dueBest(x, "just 300", 30, 300, 0);
        x.duct(1, 1, 1);
        dueNone(x, "301");
        DuctSizes row = Made.row(1, 50);
        row.size(1, 1);
        dueBest(row, "300 on six ducts", 6, 300, 0, 0, 0, 0, 0, 0);
        row.fan(0, 300);
        dueBest(row, "300 where a point gives 300", 6, 300, 0, 0, 0, 0, 0, 0);
        DuctSizes less = Made.row(1, 50);
        less.size(1, 1);
        less.fan(0, 299);
        dueNone(less, "300 where a point gives 299");
    }

    private static void bestCostsLeast() {
        Check.sentence("THE BEST choice is of all that fit the one that costs least");
        DuctSizes x = new DuctSizes();
        x.duct(0, 10, 0);
        x.size(10, 9);
        x.size(10, 7);
        x.size(10, 8);
        dueBest(x, "neither the first nor the last", 70, 0, 1);
        x.size(10, 6);
        dueBest(x, "the last", 60, 0, 3);
        dueBest(Made.branches(), "branches", 50 + 100 + 15, 102 + 89, 1, 1, 0);
        DuctSizes beside = Made.branches();
        beside.set(1, 3);
        // Wide in ducts 1 and 2: 120 + 240, pressure 27 + 23; duct 3 may stay narrow.
        dueBest(beside, "branches with energy", 120 + 240 + 15 + 3 * 50, 50, 2, 2, 0);
    }

    private static void bestHasLessPressure() {
        Check.sentence("of these the one with the least pressure");
        DuctSizes x = new DuctSizes();
        x.duct(0, 10, 0);
        x.need(1, 10);
        x.size(10, 5);
        x.size(20, 5);
        x.size(20, 5);
        dueBest(x, "the later has less pressure", 50, 25, 1);
        DuctSizes first = new DuctSizes();
        first.duct(0, 10, 0);
        first.need(1, 10);
        first.size(20, 5);
        first.size(10, 5);
        dueBest(first, "the earlier has less pressure", 50, 25, 0);
        DuctSizes energy = new DuctSizes();
        energy.duct(0, 10, 0);
        energy.need(1, 10);
        energy.size(10, 5);
        energy.size(20, 20);
        energy.set(1, 2);
        // 50 + 2 * 100 and 200 + 2 * 25 are both 250.
        dueBest(energy, "the same with energy, the dearer duct", 250, 25, 1);
    }

    private static void bestComesFirst() {
        Check.sentence("of these the first by the sizes' numbers, duct by duct");
        DuctSizes same = Made.row(1, 0);
        same.size(10, 1);
        same.size(10, 1);
        dueBest(same, "all the same", 6, 0, 0, 0, 0, 0, 0, 0);
        DuctSizes row = new DuctSizes();
        row.duct(0, 10, 0);
        row.duct(1, 10, 0);
        row.need(2, 10);
        row.size(20, 9);
        row.size(10, 5);
        row.fan(0, 125);
        row.fan(10, 125);
        // One of the two must be wide: 100 + 25 either way, at the same price.
        dueBest(row, "duct 1 decides before duct 2", 140, 125, 0, 1);
        DuctSizes turned = new DuctSizes();
        turned.duct(0, 10, 0);
        turned.duct(1, 10, 0);
        turned.need(2, 10);
        turned.size(10, 5);
        turned.size(20, 9);
        turned.fan(0, 125);
        turned.fan(10, 125);
        dueBest(turned, "also where the narrow size is the first", 140, 125, 0, 1);
    }

    private static void fanHasPoints() {
        Check.sentence("THE FAN has up to 5 POINTS: a flow (0 .. 10000, rising) and a pressure (0 .. 300, not rising)");
        DuctSizes x = new DuctSizes();
        Check.illegalArgument("flow -1", () -> x.fan(-1, 0));
        Check.illegalArgument("flow 10001", () -> x.fan(10001, 0));
        Check.illegalArgument("pressure -1", () -> x.fan(0, -1));
        Check.illegalArgument("pressure 301", () -> x.fan(0, 301));
        Check.due("flow 0, pressure 300", 1, () -> x.fan(0, 300));
        Check.illegalState("flow not rising", () -> x.fan(0, 300));
        Check.due("pressure not rising", 2, () -> x.fan(1, 300));
        Check.due("pressure falling", 3, () -> x.fan(2, 299));
        Check.illegalState("pressure rising", () -> x.fan(3, 300));
        Check.due("pressure 0", 4, () -> x.fan(3, 0));
        Check.due("flow 10000, pressure 0 again", 5, () -> x.fan(10000, 0));
        Check.illegalState("a sixth", () -> x.fan(10000, 0));
    }

    private static void dueGives(DuctSizes x, String call, int flow, int want) {
        x.need(1, flow / 2);
        x.need(2, flow - flow / 2);
        Check.due(call, want, () -> x.gives());
    }

    private static void fanGivesAtTheFlowOfAll() {
        Check.sentence("It gives at the flow of all ducts below it together (what all nodes need)");
        DuctSizes x = Made.full();
        // They need 20, 10 and 4, though the ducts' flows together are more.
        Check.due("at 34", 290 - 28, () -> x.gives());
        x.need(1, 3);
        x.need(4, 3);
        Check.due("at 40", 250, () -> x.gives());
        x.need(2, 0);
        Check.due("at 20", 290, () -> x.gives());
        DuctSizes row = Made.row(1, 0);
        for (int node = 1; node <= 6; node++) {
            row.need(node, 1000);
        }
        row.fan(0, 300);
        row.fan(10000, 0);
        Check.due("at the greatest flow of all", 300 - 180, () -> row.gives());
    }

    private static void fanBetweenPoints() {
        Check.sentence("between points p and n: p's pressure less (p's - n's) * (flow - p's flow) / (n's flow - p's flow), the quotient rounded up");
        DuctSizes x = Made.twoNodes();
        x.fan(10, 300);
        x.fan(13, 299);
        x.fan(2000, 0);
        dueGives(x, "a third, up", 11, 299);
        dueGives(x, "two thirds, up", 12, 299);
        dueGives(x, "at a point", 13, 299);
        // 299 / 1987 is 0.15, 299 * 987 / 1987 is 148.52, 299 * 1986 / 1987 is 298.8
        dueGives(x, "just behind a point", 14, 298);
        dueGives(x, "far from both", 1000, 150);
        dueGives(x, "just before the last point", 1999, 0);
        dueGives(x, "at the last point", 2000, 0);
        DuctSizes whole = Made.twoNodes();
        whole.fan(100, 250);
        whole.fan(200, 150);
        whole.fan(300, 150);
        whole.fan(400, 0);
        dueGives(whole, "a whole quotient", 130, 220);
        dueGives(whole, "at the second point", 200, 150);
        dueGives(whole, "between the same pressures", 250, 150);
        dueGives(whole, "at the third point", 300, 150);
        dueGives(whole, "behind the third point", 302, 147);
    }

    private static void fanBeforeTheFirstPoint() {
        Check.sentence("before the first point that one's pressure");
        DuctSizes x = Made.twoNodes();
        x.fan(100, 250);
        dueGives(x, "at no flow", 0, 250);
        dueGives(x, "before the only point", 99, 250);
        dueGives(x, "at the only point", 100, 250);
        x.fan(200, 50);
        dueGives(x, "before the first of two", 99, 250);
        dueGives(x, "at the first of two", 100, 250);
        dueGives(x, "behind the first of two", 101, 248);
    }

    private static void fanBehindTheLastPoint() {
        Check.sentence("behind the last one 0");
        DuctSizes x = Made.twoNodes();
        for (int number = 1; number <= 5; number++) {
            int flow = number * 10;
            x.fan(flow, 200);
            dueGives(x, "at the last of " + number, flow, 200);
            dueGives(x, "behind the last of " + number, flow + 1, 0);
        }
        DuctSizes zero = Made.twoNodes();
        zero.fan(0, 300);
        dueGives(zero, "at a point at 0", 0, 300);
        dueGives(zero, "behind a point at 0", 1, 0);
    }

    private static void fanWithoutPoints() {
        Check.sentence("300 without points");
        DuctSizes x = Made.twoNodes();
        dueGives(x, "at no flow", 0, 300);
        dueGives(x, "at a great flow", 2000, 300);
    }
}
