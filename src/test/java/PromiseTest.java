/** Each promise of the document: ordinary inputs, the edges that it names, and wrong inputs. */
public final class PromiseTest {
    private static final int[] FAR_OUT = {Integer.MIN_VALUE, -1000000, 1000000, Integer.MAX_VALUE};

    private PromiseTest() {
    }

    public static void main(String[] args) {
        newObject();
        ductNumbers();
        ductRefusals();
        needs();
        sizes();
        settings();
        fanPoints();
        fanRefusals();
        gives();
        givesRoundsTheQuotientUp();
        flows();
        speeds();
        falls();
        toldRefusals();
        bestCost();
        bestByEnergy();
        bestWithinTheFan();
        bestWithinThreeHundred();
        bestWithinTheSpeedLimit();
        bestPrefersLessPressure();
        bestPrefersFirstSizes();
        bestFollowsEveryChange();
        chosenSizes();
        pressures();
        dampers();
        leastCosts();
        worstNodes();
        constants();
        Check.end();
    }

    private static void newObject() {
        DuctSizes x = new DuctSizes();
        Check.due("1 best(0)", 0, () -> x.best(0));
        Check.due("1 best(1)", 0, () -> x.best(1));
        Check.due("1 gives()", 300, () -> x.gives());
        Check.due("1 pressure(0)", 0, () -> x.pressure(0));
        Check.due("1 worst()", 0, () -> x.worst());
        Check.due("1 least(0)", 0, () -> x.least(0));
        Check.illegalArgument("1 no node 1", () -> x.pressure(1));
        Check.illegalArgument("1 no duct 1", () -> x.flow(1));
        Check.due("1 first size", 0, () -> x.size(1, 1));
        Check.due("1 first point", 1, () -> x.fan(0, 300));
        Check.due("1 first duct", 1, () -> x.duct(0, 1, 0));
        Check.due("1 nothing needed", 0, () -> x.need(1, 1));
        Check.due("1 first speed limit", 100000, () -> x.set(0, 1));
        Check.due("1 first energy price", 0, () -> x.set(1, 1));
        DuctSizes other = new DuctSizes();
        Check.due("1 objects share no limit", 100000, () -> other.set(0, 1));
        Check.due("1 objects share no ducts", 1, () -> other.duct(0, 1, 0));
    }

    private static void ductNumbers() {
        DuctSizes x = new DuctSizes();
        Check.due("2 shortest", 1, () -> x.duct(0, 1, 0));
        Check.due("2 longest", 2, () -> x.duct(1, 100, 50));
        Check.due("2 below the newest", 3, () -> x.duct(2, 7, 7));
        Check.due("2 from the fan again", 4, () -> x.duct(0, 7, 7));
        Check.due("2 fifth", 5, () -> x.duct(4, 7, 7));
        Check.due("2 sixth", 6, () -> x.duct(5, 7, 7));
        Check.illegalState("2 seventh", () -> x.duct(0, 7, 7));
        Check.illegalState("2 seventh below the sixth", () -> x.duct(6, 7, 7));
        Check.illegalArgument("2 no node 7, named first", () -> x.duct(7, 7, 7));
        Check.illegalArgument("2 length, named first", () -> x.duct(0, 0, 7));
        Check.illegalArgument("2 fitting, named first", () -> x.duct(0, 7, 51));
    }

    private static void ductRefusals() {
        DuctSizes x = new DuctSizes();
        Check.illegalArgument("2 from -1", () -> x.duct(-1, 7, 7));
        Check.illegalArgument("2 from itself", () -> x.duct(1, 7, 7));
        Check.illegalArgument("2 length 0", () -> x.duct(0, 0, 7));
        Check.illegalArgument("2 length 101", () -> x.duct(0, 101, 7));
        Check.illegalArgument("2 fitting -1", () -> x.duct(0, 7, -1));
        Check.illegalArgument("2 fitting 51", () -> x.duct(0, 7, 51));
        for (int far : FAR_OUT) {
            Check.illegalArgument("2 from far out", () -> x.duct(far, 7, 7));
            Check.illegalArgument("2 length far out", () -> x.duct(0, far, 7));
            Check.illegalArgument("2 fitting far out", () -> x.duct(0, 7, far));
        }
        Check.due("2 refusals made no duct", 0, () -> x.best(0));
        Check.due("2 first after refusals", 1, () -> x.duct(0, 7, 7));
    }

    private static void needs() {
        DuctSizes x = new DuctSizes();
        Check.illegalArgument("3 no node yet", () -> x.need(1, 5));
        x.duct(0, 10, 0);
        Check.due("3 needed none", 0, () -> x.need(1, 1000));
        Check.due("3 needed 1000", 1000, () -> x.need(1, 0));
        Check.due("3 needed 0", 0, () -> x.need(1, 17));
        Check.illegalArgument("3 node 0", () -> x.need(0, 5));
        Check.illegalArgument("3 node -1", () -> x.need(-1, 5));
        Check.illegalArgument("3 node 2", () -> x.need(2, 5));
        Check.illegalArgument("3 flow -1", () -> x.need(1, -1));
        Check.illegalArgument("3 flow 1001", () -> x.need(1, 1001));
        for (int far : FAR_OUT) {
            Check.illegalArgument("3 node far out", () -> x.need(far, 5));
            Check.illegalArgument("3 flow far out", () -> x.need(1, far));
        }
        Check.due("3 refusals changed nothing", 17, () -> x.need(1, 17));
    }

    private static void sizes() {
        DuctSizes x = new DuctSizes();
        Check.illegalArgument("4 area 0", () -> x.size(0, 5));
        Check.illegalArgument("4 area 1001", () -> x.size(1001, 5));
        Check.illegalArgument("4 price 0", () -> x.size(5, 0));
        Check.illegalArgument("4 price 1001", () -> x.size(5, 1001));
        for (int far : FAR_OUT) {
            Check.illegalArgument("4 area far out", () -> x.size(far, 5));
            Check.illegalArgument("4 price far out", () -> x.size(5, far));
        }
        Check.due("4 smallest", 0, () -> x.size(1, 1));
        Check.due("4 greatest", 1, () -> x.size(1000, 1000));
        Check.due("4 third", 2, () -> x.size(5, 5));
        Check.due("4 the same again", 3, () -> x.size(5, 5));
        Check.illegalState("4 fifth", () -> x.size(5, 5));
        Check.illegalArgument("4 area, named first", () -> x.size(0, 5));
        Check.illegalArgument("4 price, named first", () -> x.size(5, 1001));
    }

    private static void settings() {
        DuctSizes x = new DuctSizes();
        Check.due("5 limit", 100000, () -> x.set(0, 1));
        Check.due("5 limit was 1", 1, () -> x.set(0, 100000));
        Check.due("5 limit was 100000", 100000, () -> x.set(0, 77));
        Check.due("5 energy", 0, () -> x.set(1, 1000));
        Check.due("5 energy was 1000", 1000, () -> x.set(1, 0));
        Check.due("5 energy was 0", 0, () -> x.set(1, 88));
        Check.illegalArgument("5 limit 0", () -> x.set(0, 0));
        Check.illegalArgument("5 limit 100001", () -> x.set(0, 100001));
        Check.illegalArgument("5 energy -1", () -> x.set(1, -1));
        Check.illegalArgument("5 energy 1001", () -> x.set(1, 1001));
        Check.illegalArgument("5 what -1", () -> x.set(-1, 1));
        Check.illegalArgument("5 what 2", () -> x.set(2, 1));
        for (int far : FAR_OUT) {
            Check.illegalArgument("5 what far out", () -> x.set(far, 1));
            Check.illegalArgument("5 limit far out", () -> x.set(0, far));
            Check.illegalArgument("5 energy far out", () -> x.set(1, far));
        }
        Check.due("5 limit stays", 77, () -> x.set(0, 77));
        Check.due("5 energy stays", 88, () -> x.set(1, 88));
    }

    private static void fanPoints() {
        DuctSizes x = new DuctSizes();
        Check.due("6 first", 1, () -> x.fan(0, 300));
        Check.due("6 the same pressure", 2, () -> x.fan(1, 300));
        Check.due("6 third", 3, () -> x.fan(20, 100));
        Check.due("6 fourth", 4, () -> x.fan(9999, 100));
        Check.due("6 fifth", 5, () -> x.fan(10000, 0));
        Check.illegalState("6 sixth", () -> x.fan(10000, 0));
        Check.illegalArgument("6 flow, named first", () -> x.fan(10001, 0));
        Check.illegalArgument("6 pressure, named first", () -> x.fan(10000, 301));
        DuctSizes short5 = new DuctSizes();
        for (int point = 1; point <= 5; point++) {
            short5.fan(point, 10);
        }
        Check.illegalState("6 sixth that would rise", () -> short5.fan(6, 10));
    }

    private static void fanRefusals() {
        DuctSizes x = new DuctSizes();
        Check.illegalArgument("6 flow -1", () -> x.fan(-1, 5));
        Check.illegalArgument("6 flow 10001", () -> x.fan(10001, 5));
        Check.illegalArgument("6 pressure -1", () -> x.fan(5, -1));
        Check.illegalArgument("6 pressure 301", () -> x.fan(5, 301));
        for (int far : FAR_OUT) {
            Check.illegalArgument("6 flow far out", () -> x.fan(far, 5));
            Check.illegalArgument("6 pressure far out", () -> x.fan(5, far));
        }
        Check.due("6 first after refusals", 1, () -> x.fan(50, 200));
        Check.illegalState("6 the same flow", () -> x.fan(50, 200));
        Check.illegalState("6 less flow", () -> x.fan(49, 200));
        Check.illegalState("6 more pressure", () -> x.fan(51, 201));
        Check.due("6 gives after refusals", 200, () -> x.gives());
        Check.due("6 second after refusals", 2, () -> x.fan(51, 200));
    }

    private static void gives() {
        DuctSizes x = twoNodes();
        Check.due("7 without points", 300, () -> x.gives());
        x.fan(100, 250);
        dueGives(x, "7 before the only point", 99, 250);
        dueGives(x, "7 at the only point", 100, 250);
        dueGives(x, "7 behind the only point", 101, 0);
        x.fan(200, 150);
        x.fan(300, 150);
        x.fan(400, 0);
        dueGives(x, "7 at no flow", 0, 250);
        dueGives(x, "7 between", 130, 220);
        dueGives(x, "7 at the second point", 200, 150);
        dueGives(x, "7 between the same pressures", 250, 150);
        dueGives(x, "7 at the third point", 300, 150);
        dueGives(x, "7 behind the third point", 302, 147);
        dueGives(x, "7 at the last point", 400, 0);
        dueGives(x, "7 behind the last point", 401, 0);
        x.fan(500, 0);
        dueGives(x, "7 behind the last of five points", 501, 0);
        DuctSizes level = twoNodes();
        for (int point = 1; point <= 5; point++) {
            level.fan(point, 200);
        }
        dueGives(level, "7 at the fifth point", 5, 200);
        dueGives(level, "7 behind the fifth point", 6, 0);
    }

    private static void givesRoundsTheQuotientUp() {
        DuctSizes x = twoNodes();
        x.fan(10, 300);
        x.fan(13, 299);
        dueGives(x, "7 a third, up", 11, 299);
        dueGives(x, "7 two thirds, up", 12, 299);
        dueGives(x, "7 whole", 13, 299);
        x.fan(2000, 0);
        // 299 * 987 / 1987 is 148.52..
        dueGives(x, "7 long stretch", 1000, 150);
    }

    /** Two ducts from the fan, so that what it gives shows the sum of both needs. */
    private static DuctSizes twoNodes() {
        DuctSizes x = new DuctSizes();
        x.duct(0, 1, 0);
        x.duct(0, 1, 0);
        return x;
    }

    private static void dueGives(DuctSizes x, String call, int flow, int want) {
        x.need(1, flow / 2);
        x.need(2, flow - flow / 2);
        Check.due(call, want, () -> x.gives());
    }

    private static void flows() {
        DuctSizes x = new DuctSizes();
        Check.illegalArgument("8 no duct", () -> x.flow(1));
        x.duct(0, 1, 0);
        x.duct(1, 1, 0);
        x.duct(2, 1, 0);
        x.duct(1, 1, 0);
        x.duct(0, 1, 0);
        Check.due("8 none needed", 0, () -> x.flow(1));
        for (int node = 1; node <= 5; node++) {
            x.need(node, 1 << node);
        }
        Check.due("8 all below", 2 + 4 + 8 + 16, () -> x.flow(1));
        Check.due("8 one below", 4 + 8, () -> x.flow(2));
        Check.due("8 end of a row", 8, () -> x.flow(3));
        Check.due("8 end beside it", 16, () -> x.flow(4));
        Check.due("8 alone", 32, () -> x.flow(5));
        x.need(3, 1000);
        Check.due("8 more below", 2 + 4 + 1000 + 16, () -> x.flow(1));
        x.need(3, 0);
        Check.due("8 less below", 4, () -> x.flow(2));
        x.duct(3, 1, 0);
        Check.due("8 a new node needs none", 0, () -> x.flow(3));
        Check.illegalArgument("8 duct 0", () -> x.flow(0));
        Check.illegalArgument("8 duct -1", () -> x.flow(-1));
        Check.illegalArgument("8 duct 7", () -> x.flow(7));
        for (int far : FAR_OUT) {
            Check.illegalArgument("8 duct far out", () -> x.flow(far));
        }
    }

    private static void speeds() {
        DuctSizes x = new DuctSizes();
        x.duct(0, 3, 50);
        x.size(7, 1);
        x.size(1000, 1);
        Check.due("9 speed at rest", 0, () -> x.told(1, 0, 0));
        x.need(1, 10);
        Check.due("9 speed rounded down", 142, () -> x.told(1, 0, 0));
        Check.due("9 speed of the wide", 1, () -> x.told(1, 1, 0));
        x.need(1, 9);
        Check.due("9 speed below 1", 0, () -> x.told(1, 1, 0));
        x.set(0, 1);
        Check.due("9 speed above the limit is told", 128, () -> x.told(1, 0, 0));
    }

    private static void falls() {
        DuctSizes x = new DuctSizes();
        x.duct(0, 33, 7);
        x.size(7, 1);
        x.size(1, 1);
        x.size(1000, 1);
        Check.due("9 fall at rest", 7, () -> x.told(1, 0, 1));
        x.need(1, 1);
        // 1000 / 49 is 20.4, 33 * 20 / 100 is 6.6
        Check.due("9 both quotients down", 6 + 7, () -> x.told(1, 0, 1));
        x.need(1, 2);
        // 4000 / 49 is 81.6; with its fraction 33 * 81.6 / 100 would be 26.9
        Check.due("9 inner quotient down", 26 + 7, () -> x.told(1, 0, 1));
        Check.due("9 narrowest", 1320 + 7, () -> x.told(1, 1, 1));
        x.need(1, 31);
        Check.due("9 less than 1", 7, () -> x.told(1, 2, 1));
        x.need(1, 56);
        Check.due("9 just above the most", 1000000 + 7, () -> x.told(1, 1, 1));
        x.need(1, 55);
        Check.due("9 just below the most", 998250 + 7, () -> x.told(1, 1, 1));
        fallsOfGreatFlows();
    }

    private static void fallsOfGreatFlows() {
        DuctSizes x = new DuctSizes();
        x.duct(0, 100, 50);
        x.need(1, 1000);
        for (int node = 1; node < 6; node++) {
            x.duct(node, 100, 50);
            x.need(node + 1, 1000);
        }
        x.size(1, 1);
        x.size(1000, 1);
        Check.due("9 greatest speed", 600000, () -> x.told(1, 0, 0));
        Check.due("9 greatest fall", 1000050, () -> x.told(1, 0, 1));
        Check.due("9 greatest fall of the widest", 36050, () -> x.told(1, 1, 1));
        Check.due("9 no choice of these", -1, () -> x.best(0));
    }

    private static void toldRefusals() {
        DuctSizes x = new DuctSizes();
        Check.illegalArgument("9 no duct and no size", () -> x.told(1, 0, 0));
        x.duct(0, 1, 0);
        Check.illegalArgument("9 no size", () -> x.told(1, 0, 0));
        x.size(10, 10);
        Check.due("9 size 0", 0, () -> x.told(1, 0, 0));
        Check.illegalArgument("9 size 1", () -> x.told(1, 1, 0));
        Check.illegalArgument("9 size -1", () -> x.told(1, -1, 0));
        Check.illegalArgument("9 duct 0", () -> x.told(0, 0, 0));
        Check.illegalArgument("9 duct -1", () -> x.told(-1, 0, 0));
        Check.illegalArgument("9 duct 2", () -> x.told(2, 0, 0));
        Check.illegalArgument("9 what -1", () -> x.told(1, 0, -1));
        Check.illegalArgument("9 what 2", () -> x.told(1, 0, 2));
        for (int far : FAR_OUT) {
            Check.illegalArgument("9 duct far out", () -> x.told(far, 0, 0));
            Check.illegalArgument("9 size far out", () -> x.told(1, far, 0));
            Check.illegalArgument("9 what far out", () -> x.told(1, 0, far));
        }
    }

    /** One duct of length 10 and flow 10 with sizes whose falls are 100, 25 and 6. */
    private static DuctSizes oneDuct() {
        DuctSizes x = new DuctSizes();
        x.duct(0, 10, 0);
        x.need(1, 10);
        x.size(10, 5);
        x.size(20, 9);
        x.size(40, 30);
        return x;
    }

    private static void dueBest(DuctSizes x, String call, int cost, int pressure, int size) {
        Check.due(call + ", cost", cost, () -> x.best(0));
        Check.due(call + ", pressure", pressure, () -> x.best(1));
        Check.due(call + ", size of duct 1", size, () -> x.chosen(1));
    }

    private static void bestCost() {
        DuctSizes x = new DuctSizes();
        x.duct(0, 10, 0);
        dueBest(x, "10 without sizes", -1, -1, -1);
        dueBest(oneDuct(), "10 the cheapest", 50, 100, 0);
        Check.illegalArgument("10 what -1", () -> x.best(-1));
        Check.illegalArgument("10 what 2", () -> x.best(2));
        for (int far : FAR_OUT) {
            Check.illegalArgument("10 what far out", () -> x.best(far));
        }
        DuctSizes fan = new DuctSizes();
        fan.fan(0, 0);
        Check.due("10 without ducts, with a fan that gives none", 0, () -> fan.best(0));
        fan.duct(0, 100, 0);
        fan.size(1, 1000);
        dueBest(fan, "10 no fall fits no pressure", 100000, 0, 0);
    }

    private static void bestByEnergy() {
        DuctSizes x = oneDuct();
        x.set(1, 1);
        dueBest(x, "10 energy at 1", 90 + 25, 25, 1);
        x.set(1, 11);
        dueBest(x, "10 energy at 11", 90 + 11 * 25, 25, 1);
        x.set(1, 12);
        dueBest(x, "10 energy at 12", 300 + 12 * 6, 6, 2);
        x.set(1, 1000);
        dueBest(x, "10 energy at 1000", 300 + 1000 * 6, 6, 2);
        x.set(1, 0);
        dueBest(x, "10 energy at 0", 50, 100, 0);
    }

    private static void bestWithinTheFan() {
        DuctSizes x = oneDuct();
        x.fan(9, 101);
        dueBest(x, "10 behind the fan's last point", -1, -1, -1);
        x.fan(10, 100);
        dueBest(x, "10 just what the fan gives", 50, 100, 0);
        x.fan(12, 98);
        x.need(1, 11);
        // At flow 11 the falls are 121, 30 and 7, and the fan gives 99.
        dueBest(x, "10 above what the fan gives", 90, 30, 1);
        x.fan(20, 10);
        x.need(1, 20);
        // At flow 20 the falls are 400, 100 and 25, and the fan gives 10.
        dueBest(x, "10 all above what the fan gives", -1, -1, -1);
    }

    private static void bestWithinThreeHundred() {
        DuctSizes x = new DuctSizes();
        x.duct(0, 30, 0);
        x.need(1, 10);
        x.size(10, 1);
        dueBest(x, "10 just 300", 30, 300, 0);
        x.duct(1, 1, 1);
        dueBest(x, "10 301", -1, -1, -1);
    }

    private static void bestWithinTheSpeedLimit() {
        DuctSizes x = oneDuct();
        x.set(0, 100);
        dueBest(x, "10 just the limit", 50, 100, 0);
        x.set(0, 99);
        dueBest(x, "10 above the limit", 90, 25, 1);
        x.set(0, 24);
        dueBest(x, "10 all above the limit", -1, -1, -1);
        Check.due("14 all above the limit", -1, () -> x.least(300));
    }

    private static void bestPrefersLessPressure() {
        DuctSizes x = new DuctSizes();
        x.duct(0, 10, 0);
        x.need(1, 10);
        x.size(10, 5);
        x.size(20, 5);
        x.size(20, 5);
        dueBest(x, "10 the same cost, less pressure", 50, 25, 1);
        x.set(1, 2);
        x.size(25, 7);
        // The new size falls by 16: 70 + 2 * 16 is 102, and 50 + 2 * 25 is 100.
        dueBest(x, "10 energy keeps the cheaper", 100, 25, 1);
    }

    private static void bestPrefersFirstSizes() {
        DuctSizes x = new DuctSizes();
        x.duct(0, 10, 0);
        x.duct(0, 10, 0);
        x.need(1, 10);
        x.need(2, 10);
        x.size(20, 9);
        x.size(10, 5);
        x.fan(0, 100);
        x.fan(20, 100);
        Check.due("10 both narrow", 100, () -> x.best(0));
        DuctSizes row = new DuctSizes();
        row.duct(0, 10, 0);
        row.duct(1, 10, 0);
        row.need(2, 10);
        row.size(20, 9);
        row.size(10, 5);
        row.fan(0, 125);
        row.fan(10, 125);
        // One of the two must be wide: 100 + 25 either way, at the same price.
        dueBest(row, "10 the first by duct 1", 140, 125, 0);
        Check.due("11 duct 2 has the other", 1, () -> row.chosen(2));
    }

    private static void bestFollowsEveryChange() {
        DuctSizes x = oneDuct();
        Check.due("10 at first", 50, () -> x.best(0));
        x.need(1, 20);
        Check.due("10 after need", 90, () -> x.best(0));
        x.size(21, 8);
        Check.due("10 after size", 80, () -> x.best(0));
        x.set(0, 90);
        Check.due("10 after the speed limit", 300, () -> x.best(0));
        x.set(1, 2);
        Check.due("10 after the energy price", 350, () -> x.best(0));
        x.duct(0, 1, 26);
        Check.due("10 after duct", 300 + 5 + 2 * 26, () -> x.best(0));
        x.least(300);
        x.least(0);
        Check.due("10 after least", 300 + 5 + 2 * 26, () -> x.best(0));
        x.fan(20, 25);
        Check.due("10 after fan", -1, () -> x.best(0));
    }

    /** Duct 1 to two branches: 2, narrow and long, and 3, short. Node 2 alone asks much. */
    private static DuctSizes branches() {
        DuctSizes x = new DuctSizes();
        x.duct(0, 10, 2);
        x.duct(1, 20, 1);
        x.duct(1, 5, 0);
        x.need(2, 20);
        x.need(3, 10);
        x.size(20, 3);
        x.size(30, 5);
        x.size(60, 12);
        return x;
    }

    private static void chosenSizes() {
        DuctSizes x = branches();
        // Falls: duct 1 at 30: 227, 102, 27; duct 2 at 20: 201, 89, 23; duct 3 at 10: 12, 5, 1.
        dueBest(x, "11 branches", 50 + 100 + 15, 102 + 89, 1);
        Check.due("11 duct 2", 1, () -> x.chosen(2));
        Check.due("11 duct 3", 0, () -> x.chosen(3));
        x.set(0, 40);
        Check.due("11 none", -1, () -> x.chosen(2));
        Check.illegalArgument("11 duct 0", () -> x.chosen(0));
        Check.illegalArgument("11 duct -1", () -> x.chosen(-1));
        Check.illegalArgument("11 duct 4", () -> x.chosen(4));
        for (int far : FAR_OUT) {
            Check.illegalArgument("11 duct far out", () -> x.chosen(far));
        }
    }

    private static void pressures() {
        DuctSizes x = branches();
        Check.due("12 node 0", 0, () -> x.pressure(0));
        Check.due("12 node 1", 102, () -> x.pressure(1));
        Check.due("12 node 2", 102 + 89, () -> x.pressure(2));
        Check.due("12 node 3", 102 + 12, () -> x.pressure(3));
        x.set(0, 40);
        for (int node = 0; node <= 3; node++) {
            int at = node;
            Check.due("12 none", -1, () -> x.pressure(at));
        }
        Check.illegalArgument("12 node -1", () -> x.pressure(-1));
        Check.illegalArgument("12 node 4", () -> x.pressure(4));
        for (int far : FAR_OUT) {
            Check.illegalArgument("12 node far out", () -> x.pressure(far));
        }
    }

    private static void dampers() {
        DuctSizes x = branches();
        Check.due("13 needs none", 0, () -> x.damper(1));
        Check.due("13 at the greatest pressure", 0, () -> x.damper(2));
        Check.due("13 at less pressure", 89 - 12, () -> x.damper(3));
        x.need(2, 19);
        x.need(1, 1);
        // Duct 2 at 19 falls by 181 in size 0, which now fits: 102 + 181 is 283.
        Check.due("13 on the way", 181, () -> x.damper(1));
        Check.due("13 beside", 181 - 12, () -> x.damper(3));
        x.need(3, 0);
        Check.due("13 needs none at less pressure", 0, () -> x.damper(3));
        x.set(0, 10);
        Check.due("13 none", -1, () -> x.damper(1));
        Check.due("13 none, where none is needed", -1, () -> x.damper(3));
        Check.illegalArgument("13 node 0", () -> x.damper(0));
        Check.illegalArgument("13 node -1", () -> x.damper(-1));
        Check.illegalArgument("13 node 4", () -> x.damper(4));
        for (int far : FAR_OUT) {
            Check.illegalArgument("13 node far out", () -> x.damper(far));
        }
    }

    private static void leastCosts() {
        DuctSizes x = oneDuct();
        Check.due("14 at the most", 50, () -> x.least(300));
        Check.due("14 just enough", 50, () -> x.least(100));
        Check.due("14 just too little", 90, () -> x.least(99));
        Check.due("14 second", 90, () -> x.least(25));
        Check.due("14 third", 300, () -> x.least(24));
        Check.due("14 just the third", 300, () -> x.least(6));
        Check.due("14 none", -1, () -> x.least(5));
        Check.due("14 none at 0", -1, () -> x.least(0));
        x.set(1, 1000);
        Check.due("14 without energy", 50, () -> x.least(300));
        x.fan(0, 0);
        Check.due("14 the fan gives none", 0, () -> x.gives());
        Check.due("14 whatever the fan gives", 50, () -> x.least(300));
        x.set(0, 99);
        Check.due("14 within the speed limit", 90, () -> x.least(300));
        Check.illegalArgument("14 pressure -1", () -> x.least(-1));
        Check.illegalArgument("14 pressure 301", () -> x.least(301));
        for (int far : FAR_OUT) {
            Check.illegalArgument("14 pressure far out", () -> x.least(far));
        }
    }

    private static void worstNodes() {
        DuctSizes x = branches();
        Check.due("15 branch 2", 2, () -> x.worst());
        x.need(2, 0);
        x.need(3, 20);
        // Falls: duct 1 at 20: 102, 46, 13; duct 2 at rest: 1; duct 3 at 20: 50, 22, 5.
        Check.due("15 branch 3", 3, () -> x.worst());
        x.need(3, 0);
        Check.due("15 by fittings", 2, () -> x.worst());
        x.duct(0, 1, 3);
        Check.due("15 the least of several", 2, () -> x.worst());
        x.duct(0, 1, 4);
        Check.due("15 the last", 5, () -> x.worst());
        x.duct(5, 1, 0);
        Check.due("15 before one below without a fall", 5, () -> x.worst());
        x.need(1, 1000);
        Check.due("15 none", -1, () -> x.worst());
        DuctSizes flat = new DuctSizes();
        Check.due("15 without ducts", 0, () -> flat.worst());
        flat.duct(0, 1, 0);
        Check.due("15 without sizes", -1, () -> flat.worst());
        flat.size(1, 1);
        flat.duct(0, 1, 0);
        Check.due("15 no falls at all", 1, () -> flat.worst());
    }

    private static void constants() {
        Check.due("NONE", -1, () -> DuctSizes.NONE);
    }
}
