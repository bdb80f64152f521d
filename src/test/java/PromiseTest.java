/** The sentences of promises 1 to 15: ordinary inputs, the edges that they name, and wrong inputs. */
public final class PromiseTest {
    private PromiseTest() {
    }

    public static void main(String[] args) {
        constants();
        newObject();
        ductNumbers();
        ductIllegalArgument();
        ductIllegalState();
        needAnswers();
        needIllegalArgument();
        sizeNumbers();
        sizeIllegalArgument();
        sizeIllegalState();
        setAnswers();
        setIllegalArgument();
        fanCounts();
        fanIllegalArgument();
        fanIllegalState();
        givesNow();
        flowOfADuct();
        toldOfASize();
        toldIllegalArgument();
        bestAnswers();
        bestIsNoneIfNoneFits();
        bestFollowsEveryChange();
        chosenSizes();
        pressureAtNodes();
        pressureAtTheFan();
        damperBalances();
        damperWhereNoneIsNeeded();
        damperIsNoneAsBest();
        damperIllegalArgument();
        leastCosts();
        leastWhateverTheFanGives();
        leastIsNone();
        worstNode();
        worstIsTheLeastOfSeveral();
        worstWithoutDucts();
        worstIsNoneAsBest();
        Check.end();
    }

    private static void constants() {
        Check.sentence("NONE = -1: There is none");
        Check.due("NONE", -1, () -> DuctSizes.NONE);
    }

    private static void newObject() {
        Check.sentence("1: The fan alone");
        DuctSizes x = new DuctSizes();
        Check.due("best(0)", 0, () -> x.best(0));
        Check.due("best(1)", 0, () -> x.best(1));
        Check.due("gives()", 300, () -> x.gives());
        Check.due("pressure(0)", 0, () -> x.pressure(0));
        Check.due("worst()", 0, () -> x.worst());
        Check.due("least(0)", 0, () -> x.least(0));
        Check.illegalArgument("no node 1", () -> x.pressure(1));
        Check.illegalArgument("no duct 1", () -> x.flow(1));
        Check.due("first size", 0, () -> x.size(1, 1));
        Check.due("first point", 1, () -> x.fan(0, 300));
        Check.due("first duct", 1, () -> x.duct(0, 1, 0));
        Check.due("nothing needed", 0, () -> x.need(1, 1));
        Check.due("first speed limit", 100000, () -> x.set(0, 1));
        Check.due("first energy price", 0, () -> x.set(1, 1));
        DuctSizes other = new DuctSizes();
        Check.due("objects share no limit", 100000, () -> other.set(0, 1));
        Check.due("objects share no energy price", 0, () -> other.set(1, 1));
        Check.due("objects share no sizes", 0, () -> other.size(1, 1));
        Check.due("objects share no points", 300, () -> other.gives());
        Check.due("objects share no ducts", 1, () -> other.duct(0, 1, 0));
        Check.due("objects share no needs", 0, () -> other.need(1, 1));
    }

    private static void ductNumbers() {
        Check.sentence("2: A duct from a node, and the node at its end: its number");
        DuctSizes x = new DuctSizes();
        Check.due("first", 1, () -> x.duct(0, 1, 0));
        Check.due("below the first", 2, () -> x.duct(1, 100, 50));
        Check.due("below the newest", 3, () -> x.duct(2, 7, 7));
        Check.due("from the fan again", 4, () -> x.duct(0, 7, 7));
        Check.due("a second below the first", 5, () -> x.duct(1, 7, 7));
        Check.due("sixth", 6, () -> x.duct(5, 7, 7));
    }

    private static void ductIllegalArgument() {
        Check.sentence("2: Illegal argument");
        DuctSizes x = new DuctSizes();
        Check.illegalArgument("from -1", () -> x.duct(-1, 7, 7));
        Check.illegalArgument("from itself", () -> x.duct(1, 7, 7));
        Check.illegalArgument("length 0", () -> x.duct(0, 0, 7));
        Check.illegalArgument("length 101", () -> x.duct(0, 101, 7));
        Check.illegalArgument("fitting -1", () -> x.duct(0, 7, -1));
        Check.illegalArgument("fitting 51", () -> x.duct(0, 7, 51));
        for (int far : Made.FAR_OUT) {
            Check.illegalArgument("from far out", () -> x.duct(far, 7, 7));
            Check.illegalArgument("length far out", () -> x.duct(0, far, 7));
            Check.illegalArgument("fitting far out", () -> x.duct(0, 7, far));
        }
        Check.due("first after refusals", 1, () -> x.duct(0, 7, 7));
    }

    private static void ductIllegalState() {
        Check.sentence("2: illegal state: there are 6");
        DuctSizes x = Made.row(1, 0);
        Check.illegalState("seventh from the fan", () -> x.duct(0, 1, 0));
        Check.illegalState("seventh below the sixth", () -> x.duct(6, 100, 50));
        Check.illegalArgument("node 7, named first", () -> x.duct(7, 1, 0));
        Check.illegalArgument("length 0, named first", () -> x.duct(0, 0, 0));
        Check.illegalArgument("fitting 51, named first", () -> x.duct(0, 1, 51));
    }

    private static void needAnswers() {
        Check.sentence("3: What a node needs: what it needed");
        DuctSizes x = Made.row(1, 0);
        Check.due("needed none", 0, () -> x.need(1, 1000));
        Check.due("needed 1000", 1000, () -> x.need(1, 0));
        Check.due("needed 0", 0, () -> x.need(1, 17));
        Check.due("another needed none", 0, () -> x.need(6, 18));
        Check.due("needed 17", 17, () -> x.need(1, 17));
        Check.due("needed 17 still", 17, () -> x.need(1, 17));
        Check.due("the other needed 18", 18, () -> x.need(6, 18));
    }

    private static void needIllegalArgument() {
        Check.sentence("3: Illegal argument: also for node 0");
        DuctSizes x = new DuctSizes();
        Check.illegalArgument("node 0 without ducts", () -> x.need(0, 5));
        Check.illegalArgument("no node yet", () -> x.need(1, 5));
        x.duct(0, 10, 0);
        x.need(1, 17);
        Check.illegalArgument("node 0", () -> x.need(0, 5));
        Check.illegalArgument("node 0 needs 0", () -> x.need(0, 0));
        Check.illegalArgument("node -1", () -> x.need(-1, 5));
        Check.illegalArgument("node 2", () -> x.need(2, 5));
        Check.illegalArgument("flow -1", () -> x.need(1, -1));
        Check.illegalArgument("flow 1001", () -> x.need(1, 1001));
        for (int far : Made.FAR_OUT) {
            Check.illegalArgument("node far out", () -> x.need(far, 5));
            Check.illegalArgument("flow far out", () -> x.need(1, far));
        }
        Check.due("refusals changed nothing", 17, () -> x.need(1, 17));
    }

    private static void sizeNumbers() {
        Check.sentence("4: A size: its number");
        DuctSizes x = new DuctSizes();
        Check.due("smallest", 0, () -> x.size(1, 1));
        Check.due("greatest", 1, () -> x.size(1000, 1000));
        Check.due("third", 2, () -> x.size(5, 5));
        Check.due("the same again", 3, () -> x.size(5, 5));
    }

    private static void sizeIllegalArgument() {
        Check.sentence("4: Illegal argument");
        DuctSizes x = new DuctSizes();
        Check.illegalArgument("area 0", () -> x.size(0, 5));
        Check.illegalArgument("area 1001", () -> x.size(1001, 5));
        Check.illegalArgument("price 0", () -> x.size(5, 0));
        Check.illegalArgument("price 1001", () -> x.size(5, 1001));
        for (int far : Made.FAR_OUT) {
            Check.illegalArgument("area far out", () -> x.size(far, 5));
            Check.illegalArgument("price far out", () -> x.size(5, far));
        }
        Check.due("first after refusals", 0, () -> x.size(5, 5));
    }

    private static void sizeIllegalState() {
        Check.sentence("4: illegal state: there are 4");
        DuctSizes x = Made.full();
        Check.illegalState("fifth", () -> x.size(5, 5));
        Check.illegalState("smallest as the fifth", () -> x.size(1, 1));
        Check.illegalState("greatest as the fifth", () -> x.size(1000, 1000));
        Check.illegalArgument("area 0, named first", () -> x.size(0, 5));
        Check.illegalArgument("price 1001, named first", () -> x.size(5, 1001));
    }

    private static void setAnswers() {
        Check.sentence("5: The speed limit (0) or the energy price (1): what it was");
        DuctSizes x = new DuctSizes();
        Check.due("limit", 100000, () -> x.set(0, 1));
        Check.due("limit was 1", 1, () -> x.set(0, 100000));
        Check.due("limit was 100000", 100000, () -> x.set(0, 77));
        Check.due("energy", 0, () -> x.set(1, 1000));
        Check.due("energy was 1000", 1000, () -> x.set(1, 0));
        Check.due("energy was 0", 0, () -> x.set(1, 88));
        Check.due("limit was 77", 77, () -> x.set(0, 77));
        Check.due("limit was 77 still", 77, () -> x.set(0, 1001));
        Check.due("energy was 88", 88, () -> x.set(1, 88));
    }

    private static void setIllegalArgument() {
        Check.sentence("5: Illegal argument");
        DuctSizes x = new DuctSizes();
        x.set(0, 77);
        x.set(1, 88);
        Check.illegalArgument("limit 0", () -> x.set(0, 0));
        Check.illegalArgument("limit -1", () -> x.set(0, -1));
        Check.illegalArgument("limit 100001", () -> x.set(0, 100001));
        Check.illegalArgument("energy -1", () -> x.set(1, -1));
        Check.illegalArgument("energy 1001", () -> x.set(1, 1001));
        Check.illegalArgument("energy within the limit's bounds", () -> x.set(1, 100000));
        Check.illegalArgument("what -1", () -> x.set(-1, 1));
        Check.illegalArgument("what 2", () -> x.set(2, 1));
        for (int far : Made.FAR_OUT) {
            Check.illegalArgument("what far out", () -> x.set(far, 1));
            Check.illegalArgument("limit far out", () -> x.set(0, far));
            Check.illegalArgument("energy far out", () -> x.set(1, far));
        }
        Check.due("limit stays", 77, () -> x.set(0, 77));
        Check.due("energy stays", 88, () -> x.set(1, 88));
    }

    private static void fanCounts() {
        Check.sentence("6: A point of the fan: how many it has");
        DuctSizes x = new DuctSizes();
        Check.due("first", 1, () -> x.fan(0, 300));
        Check.due("second", 2, () -> x.fan(1, 300));
        Check.due("third", 3, () -> x.fan(20, 100));
        Check.due("fourth", 4, () -> x.fan(9999, 100));
        Check.due("fifth", 5, () -> x.fan(10000, 0));
        DuctSizes last = new DuctSizes();
        Check.due("a first point at the end", 1, () -> last.fan(10000, 0));
    }

    private static void fanIllegalArgument() {
        Check.sentence("6: Illegal argument");
        DuctSizes x = new DuctSizes();
        Check.illegalArgument("flow -1", () -> x.fan(-1, 5));
        Check.illegalArgument("flow 10001", () -> x.fan(10001, 5));
        Check.illegalArgument("pressure -1", () -> x.fan(5, -1));
        Check.illegalArgument("pressure 301", () -> x.fan(5, 301));
        for (int far : Made.FAR_OUT) {
            Check.illegalArgument("flow far out", () -> x.fan(far, 5));
            Check.illegalArgument("pressure far out", () -> x.fan(5, far));
        }
        Check.due("first after refusals", 1, () -> x.fan(50, 200));
    }

    private static void fanIllegalState() {
        Check.sentence("6: illegal state: it has 5, the flow is not above the last one's, or the pressure is above it");
        DuctSizes x = new DuctSizes();
        x.fan(50, 200);
        Check.illegalState("the same flow", () -> x.fan(50, 200));
        Check.illegalState("the same flow, less pressure", () -> x.fan(50, 199));
        Check.illegalState("less flow", () -> x.fan(49, 200));
        Check.illegalState("more pressure", () -> x.fan(51, 201));
        Check.illegalState("less flow, more pressure", () -> x.fan(49, 201));
        Check.illegalArgument("flow -1, named first", () -> x.fan(-1, 200));
        Check.illegalArgument("pressure 301, named first", () -> x.fan(51, 301));
        Check.due("gives after refusals", 200, () -> x.gives());
        Check.due("more flow, the same pressure", 2, () -> x.fan(51, 200));
        Check.illegalState("above the first point's flow, not above the last one's", () -> x.fan(51, 100));
        x.fan(52, 100);
        Check.illegalState("below the first point's pressure, above the last one's", () -> x.fan(53, 101));
        x.fan(53, 100);
        x.fan(54, 100);
        Check.illegalState("a sixth that would follow", () -> x.fan(55, 100));
        Check.illegalState("a sixth that would not follow", () -> x.fan(54, 101));
        Check.illegalArgument("flow 10001, named first", () -> x.fan(10001, 100));
        Check.illegalArgument("pressure -1, named first", () -> x.fan(55, -1));
    }

    private static void givesNow() {
        Check.sentence("7: What the fan gives now");
        DuctSizes x = new DuctSizes();
        Check.due("at first", 300, () -> x.gives());
        x.fan(0, 200);
        Check.due("after a point", 200, () -> x.gives());
        x.duct(0, 1, 0);
        Check.due("after a duct", 200, () -> x.gives());
        x.need(1, 50);
        Check.due("after a need", 0, () -> x.gives());
        x.fan(100, 100);
        Check.due("after another point", 150, () -> x.gives());
        x.need(1, 0);
        Check.due("after a need of 0", 200, () -> x.gives());
    }

    private static void flowOfADuct() {
        Check.sentence("8: A duct's flow. Illegal argument");
        DuctSizes x = new DuctSizes();
        Check.illegalArgument("no duct", () -> x.flow(1));
        x.duct(0, 1, 0);
        Check.due("none needed", 0, () -> x.flow(1));
        x.need(1, 12);
        Check.due("12 needed", 12, () -> x.flow(1));
        Check.illegalArgument("duct 0", () -> x.flow(0));
        Check.illegalArgument("duct -1", () -> x.flow(-1));
        Check.illegalArgument("duct 2", () -> x.flow(2));
        for (int far : Made.FAR_OUT) {
            Check.illegalArgument("duct far out", () -> x.flow(far));
        }
        DuctSizes row = Made.row(1, 0);
        Check.due("duct 6", 0, () -> row.flow(6));
        Check.illegalArgument("duct 7", () -> row.flow(7));
    }

    private static void toldOfASize() {
        Check.sentence("9: A size in a duct: what = 0 its speed, 1 its fall");
        DuctSizes x = Made.branches();
        int[][] speeds = {{150, 100, 50}, {100, 66, 33}, {50, 33, 16}};
        int[][] falls = {{227, 102, 27}, {201, 89, 23}, {12, 5, 1}};
        for (int k = 1; k <= 3; k++) {
            for (int s = 0; s <= 2; s++) {
                int duct = k;
                int size = s;
                Check.due("speed", speeds[k - 1][s], () -> x.told(duct, size, 0));
                Check.due("fall", falls[k - 1][s], () -> x.told(duct, size, 1));
            }
        }
    }

    private static void toldIllegalArgument() {
        Check.sentence("9: Illegal argument");
        DuctSizes x = new DuctSizes();
        Check.illegalArgument("no duct and no size", () -> x.told(1, 0, 0));
        x.duct(0, 1, 0);
        Check.illegalArgument("no size", () -> x.told(1, 0, 0));
        x.size(10, 10);
        Check.due("size 0", 0, () -> x.told(1, 0, 0));
        Check.illegalArgument("size 1", () -> x.told(1, 1, 0));
        Check.illegalArgument("size -1", () -> x.told(1, -1, 0));
        Check.illegalArgument("duct 0", () -> x.told(0, 0, 0));
        Check.illegalArgument("duct -1", () -> x.told(-1, 0, 0));
        Check.illegalArgument("duct 2", () -> x.told(2, 0, 0));
        Check.illegalArgument("what -1", () -> x.told(1, 0, -1));
        Check.illegalArgument("what 2", () -> x.told(1, 0, 2));
        for (int far : Made.FAR_OUT) {
            Check.illegalArgument("duct far out", () -> x.told(far, 0, 0));
            Check.illegalArgument("size far out", () -> x.told(1, far, 0));
            Check.illegalArgument("what far out", () -> x.told(1, 0, far));
        }
        DuctSizes sizeAlone = new DuctSizes();
        sizeAlone.size(10, 10);
        Check.illegalArgument("no duct", () -> sizeAlone.told(1, 0, 0));
        DuctSizes full = Made.full();
        Check.illegalArgument("duct 7", () -> full.told(7, 0, 0));
        Check.illegalArgument("size 4", () -> full.told(6, 4, 0));
    }

    private static void bestAnswers() {
        Check.sentence("10: Of the best choice: what = 0 what it costs, 1 its pressure. Illegal argument");
        DuctSizes x = Made.branches();
        Check.due("what it costs", 165, () -> x.best(0));
        Check.due("its pressure", 191, () -> x.best(1));
        Check.due("what it costs, again", 165, () -> x.best(0));
        Check.illegalArgument("what -1", () -> x.best(-1));
        Check.illegalArgument("what 2", () -> x.best(2));
        for (int far : Made.FAR_OUT) {
            Check.illegalArgument("what far out", () -> x.best(far));
        }
    }

    private static void bestIsNoneIfNoneFits() {
        Check.sentence("10: NONE if none fits");
        DuctSizes x = Made.branches();
        x.set(0, 49);
        Check.due("the speed limit leaves none, cost", -1, () -> x.best(0));
        Check.due("the speed limit leaves none, pressure", -1, () -> x.best(1));
        Check.illegalArgument("illegal argument though none fits", () -> x.best(2));
        x.set(0, 50);
        Check.due("one may be, and fits", 120 + 240 + 15, () -> x.best(0));
        x.fan(30, 49);
        Check.due("the fan gives too little by 1, cost", -1, () -> x.best(0));
        Check.due("the fan gives too little by 1, pressure", -1, () -> x.best(1));
        DuctSizes bare = Made.row(1, 0);
        Check.due("no sizes, cost", -1, () -> bare.best(0));
        Check.due("no sizes, pressure", -1, () -> bare.best(1));
    }

    private static void bestFollowsEveryChange() {
        Check.sentence("10: Of the best choice: what it costs after each call that changes something");
        DuctSizes x = Made.oneDuct();
        Check.due("at first", 50, () -> x.best(0));
        x.need(1, 20);
        Check.due("after need", 90, () -> x.best(0));
        x.size(21, 8);
        Check.due("after size", 80, () -> x.best(0));
        x.set(0, 90);
        Check.due("after the speed limit", 300, () -> x.best(0));
        x.set(1, 2);
        Check.due("after the energy price", 350, () -> x.best(0));
        x.duct(0, 1, 26);
        Check.due("after duct", 300 + 5 + 2 * 26, () -> x.best(0));
        x.least(300);
        x.least(0);
        Check.due("after least", 300 + 5 + 2 * 26, () -> x.best(0));
        x.fan(20, 25);
        Check.due("after fan", -1, () -> x.best(0));
    }

    private static void chosenSizes() {
        Check.sentence("11: The size of a duct in the best choice. NONE as best(). Illegal argument");
        DuctSizes x = Made.branches();
        Check.due("duct 1", 1, () -> x.chosen(1));
        Check.due("duct 2", 1, () -> x.chosen(2));
        Check.due("duct 3", 0, () -> x.chosen(3));
        Check.illegalArgument("duct 0", () -> x.chosen(0));
        Check.illegalArgument("duct -1", () -> x.chosen(-1));
        Check.illegalArgument("duct 4", () -> x.chosen(4));
        for (int far : Made.FAR_OUT) {
            Check.illegalArgument("duct far out", () -> x.chosen(far));
        }
        x.set(0, 40);
        for (int number = 1; number <= 3; number++) {
            int duct = number;
            Check.due("none for duct " + duct, -1, () -> x.chosen(duct));
        }
        Check.illegalArgument("duct 0 though none fits", () -> x.chosen(0));
        Check.illegalArgument("duct 4 though none fits", () -> x.chosen(4));
        Check.illegalArgument("duct 1 without ducts", () -> new DuctSizes().chosen(1));
        Check.illegalArgument("duct 7 of six", () -> Made.full().chosen(7));
    }

    private static void pressureAtNodes() {
        Check.sentence("12: The pressure at a node in the best choice. NONE as best(). Illegal argument");
        DuctSizes x = Made.branches();
        Check.due("node 1", 102, () -> x.pressure(1));
        Check.due("node 2", 102 + 89, () -> x.pressure(2));
        Check.due("node 3", 102 + 12, () -> x.pressure(3));
        Check.illegalArgument("node -1", () -> x.pressure(-1));
        Check.illegalArgument("node 4", () -> x.pressure(4));
        for (int far : Made.FAR_OUT) {
            Check.illegalArgument("node far out", () -> x.pressure(far));
        }
        x.set(0, 40);
        for (int number = 1; number <= 3; number++) {
            int node = number;
            Check.due("none at node " + node, -1, () -> x.pressure(node));
        }
        Check.illegalArgument("node 4 though none fits", () -> x.pressure(4));
        Check.illegalArgument("node -1 though none fits", () -> x.pressure(-1));
    }

    private static void pressureAtTheFan() {
        Check.sentence("12: at node 0 0. NONE as best()");
        DuctSizes x = new DuctSizes();
        Check.due("without ducts", 0, () -> x.pressure(0));
        DuctSizes branches = Made.branches();
        Check.due("with ducts", 0, () -> branches.pressure(0));
        branches.set(0, 40);
        Check.due("none fits", -1, () -> branches.pressure(0));
        branches.set(0, 100000);
        Check.due("one fits again", 0, () -> branches.pressure(0));
    }

    private static void damperBalances() {
        Check.sentence("13: What a damper at a node must take so that all nodes that need air have the pressure of the whole choice: that less the node's");
        DuctSizes x = Made.branches();
        Check.due("at the greatest pressure", 0, () -> x.damper(2));
        Check.due("at less pressure", 89 - 12, () -> x.damper(3));
        x.need(2, 19);
        x.need(1, 1);
        // Duct 2 at 19 falls by 181 in size 0, which now fits: 102 + 181 is 283.
        Check.due("on the way", 181, () -> x.damper(1));
        Check.due("beside", 181 - 12, () -> x.damper(3));
        DuctSizes idle = new DuctSizes();
        idle.size(10, 1);
        idle.duct(0, 10, 1);
        idle.duct(0, 10, 50);
        idle.need(1, 5);
        // The whole choice's pressure comes about at node 2, which needs no air.
        Check.due("the greatest pressure at a node that needs none", 50 - 26, () -> idle.damper(1));
    }

    private static void damperWhereNoneIsNeeded() {
        Check.sentence("13: 0 if it needs none");
        DuctSizes x = Made.branches();
        Check.due("on the way", 0, () -> x.damper(1));
        x.need(3, 0);
        Check.due("at the end of a way", 0, () -> x.damper(3));
        // Falls: duct 1 at 20: 102, 46, 13, of which the second is chosen, with 201 in duct 2.
        Check.due("the pressure of the whole choice", 46 + 201, () -> x.best(1));
        Check.due("the pressure there", 46, () -> x.pressure(3));
        x.need(3, 1);
        Check.due("1 needed", 201, () -> x.damper(3));
    }

    private static void damperIsNoneAsBest() {
        Check.sentence("13: NONE as best()");
        DuctSizes x = Made.branches();
        x.set(0, 10);
        Check.due("a node that needs air", -1, () -> x.damper(2));
        Check.due("a node that needs none", -1, () -> x.damper(1));
        x.need(3, 0);
        Check.due("another node that needs none", -1, () -> x.damper(3));
        DuctSizes bare = Made.row(1, 0);
        Check.due("without sizes", -1, () -> bare.damper(6));
    }

    private static void damperIllegalArgument() {
        Check.sentence("13: Illegal argument: also for node 0");
        DuctSizes x = Made.branches();
        Check.illegalArgument("node 0", () -> x.damper(0));
        Check.illegalArgument("node -1", () -> x.damper(-1));
        Check.illegalArgument("node 4", () -> x.damper(4));
        for (int far : Made.FAR_OUT) {
            Check.illegalArgument("node far out", () -> x.damper(far));
        }
        x.set(0, 10);
        Check.illegalArgument("node 0 though none fits", () -> x.damper(0));
        Check.illegalArgument("node 4 though none fits", () -> x.damper(4));
        Check.illegalArgument("node 0 without ducts", () -> new DuctSizes().damper(0));
        Check.illegalArgument("node 7 of six", () -> Made.full().damper(7));
    }

    private static void leastCosts() {
        Check.sentence("14: The least that choices cost without energy, with a pressure of so much (0 .. 300) at most. Illegal argument");
        DuctSizes x = Made.oneDuct();
        Check.due("at the most", 50, () -> x.least(300));
        Check.due("just enough", 50, () -> x.least(100));
        Check.due("just too little", 90, () -> x.least(99));
        Check.due("just the second", 90, () -> x.least(25));
        Check.due("less than the second", 300, () -> x.least(24));
        Check.due("just the third", 300, () -> x.least(6));
        x.set(1, 1000);
        Check.due("without energy", 50, () -> x.least(300));
        x.set(0, 99);
        Check.due("within the speed limit", 90, () -> x.least(300));
        x.need(1, 0);
        Check.due("at 0", 50, () -> x.least(0));
        Check.illegalArgument("pressure -1", () -> x.least(-1));
        Check.illegalArgument("pressure 301", () -> x.least(301));
        for (int far : Made.FAR_OUT) {
            Check.illegalArgument("pressure far out", () -> x.least(far));
        }
        Check.illegalArgument("pressure 301 without ducts", () -> new DuctSizes().least(301));
    }

    private static void leastWhateverTheFanGives() {
        Check.sentence("14: whatever the fan gives");
        DuctSizes x = Made.oneDuct();
        x.fan(0, 0);
        Check.due("the fan gives none", 0, () -> x.gives());
        Check.due("no choice fits it", -1, () -> x.best(0));
        Check.due("at 300", 50, () -> x.least(300));
        Check.due("at 25", 90, () -> x.least(25));
        Check.due("still no choice fits the fan", -1, () -> x.best(0));
        DuctSizes row = Made.row(1, 50);
        row.size(1, 3);
        row.fan(0, 299);
        Check.due("just 300, of which the fan gives 299", 18, () -> row.least(300));
    }

    private static void leastIsNone() {
        Check.sentence("14: NONE if there is none");
        DuctSizes x = Made.oneDuct();
        Check.due("just too little", -1, () -> x.least(5));
        Check.due("none at 0", -1, () -> x.least(0));
        x.set(0, 24);
        Check.due("the speed limit leaves none", -1, () -> x.least(300));
        DuctSizes row = Made.row(1, 50);
        Check.due("without sizes", -1, () -> row.least(300));
        row.size(1, 3);
        Check.due("just below 300", -1, () -> row.least(299));
        Check.due("without ducts", 0, () -> new DuctSizes().least(300));
    }

    private static void worstNode() {
        Check.sentence("15: The node on whose way the best choice's greatest pressure comes about");
        DuctSizes x = Made.branches();
        Check.due("branch 2", 2, () -> x.worst());
        x.need(2, 0);
        x.need(3, 20);
        // Falls: duct 1 at 20: 102, 46, 13; duct 2 at rest: 1; duct 3 at 20: 50, 22, 5.
        Check.due("branch 3", 3, () -> x.worst());
        x.need(3, 0);
        Check.due("by fittings", 2, () -> x.worst());
        x.duct(0, 1, 4);
        Check.due("the last", 4, () -> x.worst());
        x.duct(4, 1, 1);
        x.duct(5, 1, 1);
        Check.due("the sixth", 6, () -> x.worst());
        Check.due("the only duct", 1, () -> Made.oneDuct().worst());
    }

    private static void worstIsTheLeastOfSeveral() {
        Check.sentence("15: the least of several");
        DuctSizes x = new DuctSizes();
        x.size(1, 1);
        x.duct(0, 1, 1);
        x.duct(0, 1, 2);
        x.duct(1, 1, 1);
        Check.due("node 2 before node 3", 2, () -> x.worst());
        x.duct(2, 1, 0);
        Check.due("a node before one below it without a fall", 2, () -> x.worst());
        x.duct(3, 1, 1);
        Check.due("node 5 alone", 5, () -> x.worst());
        DuctSizes even = new DuctSizes();
        even.size(1, 1);
        even.duct(0, 1, 1);
        even.duct(0, 1, 1);
        Check.due("node 1 before node 2", 1, () -> even.worst());
        // Node 0 is a node and has the pressure 0, so it is the least if all have that.
        DuctSizes flat = Made.row(1, 0);
        flat.size(1, 1);
        Check.due("all pressures 0", 0, () -> flat.worst());
        DuctSizes beside = Made.twoNodes();
        beside.size(1000, 1);
        beside.need(2, 99);
        Check.due("a fall rounded down to 0", 0, () -> beside.worst());
        beside.need(2, 1000);
        Check.due("a fall above 0", 2, () -> beside.worst());
    }

    private static void worstWithoutDucts() {
        Check.sentence("15: 0 without ducts");
        DuctSizes x = new DuctSizes();
        Check.due("new", 0, () -> x.worst());
        x.size(10, 10);
        x.fan(0, 0);
        x.set(1, 1000);
        Check.due("with a size and a point", 0, () -> x.worst());
    }

    private static void worstIsNoneAsBest() {
        Check.sentence("15: NONE as best()");
        DuctSizes x = Made.branches();
        x.set(0, 10);
        Check.due("the speed limit leaves none", -1, () -> x.worst());
        x.set(0, 100000);
        Check.due("one fits again", 2, () -> x.worst());
        x.fan(0, 300);
        Check.due("the fan gives too little", -1, () -> x.worst());
        DuctSizes bare = Made.row(1, 0);
        Check.due("without sizes", -1, () -> bare.worst());
    }
}
