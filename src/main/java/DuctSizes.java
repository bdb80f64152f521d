/**
 * Air ducts as a tree below a fan: sizes from a list, speeds and falls of pressure in whole numbers,
 * the sizes that cost least with the fan's pressure, exactly; dampers that balance; what the fan gives.
 */
public final class DuctSizes {
    public static final int NONE = -1;

    private static final int MOST_DUCTS = 6;
    private static final int MOST_LENGTH = 100;
    private static final int MOST_FITTING = 50;
    private static final int MOST_NEED = 1000;
    private static final int MOST_SIZES = 4;
    private static final int MOST_AREA = 1000;
    private static final int MOST_PRICE = 1000;
    private static final int MOST_SPEED_LIMIT = 100000;
    private static final int MOST_ENERGY_PRICE = 1000;
    private static final int MOST_FALL = 1000000;
    private static final int MOST_POINTS = 5;
    private static final int MOST_POINT_FLOW = 10000;
    private static final int MOST_PRESSURE = 300;

    private final Network network;
    private final Curve curve;
    private final Search best;
    private final Search cheapest;
    private int energyPrice;
    // Many calls ask about one and the same best choice; it is sought anew only after a change.
    private boolean bestIsOld;

    public DuctSizes() {
        network = new Network();
        curve = new Curve();
        best = new Search(network);
        cheapest = new Search(network);
        energyPrice = 0;
        bestIsOld = true;
    }

    public int duct(int from, int length, int fitting) throws IllegalArgumentException, IllegalStateException {
        demand(from, 0, network.ducts);
        demand(length, 1, MOST_LENGTH);
        demand(fitting, 0, MOST_FITTING);
        if (network.ducts >= MOST_DUCTS) {
            throw new IllegalStateException("there are all the ducts that there can be");
        }
        bestIsOld = true;
        return network.addDuct(from, length, fitting);
    }

    public int need(int node, int flow) throws IllegalArgumentException {
        demand(node, 1, network.ducts);
        demand(flow, 0, MOST_NEED);
        bestIsOld = true;
        return network.changeNeed(node, flow);
    }

    public int size(int area, int price) throws IllegalArgumentException, IllegalStateException {
        demand(area, 1, MOST_AREA);
        demand(price, 1, MOST_PRICE);
        if (network.sizes >= MOST_SIZES) {
            throw new IllegalStateException("there are all the sizes that there can be");
        }
        bestIsOld = true;
        return network.addSize(area, price);
    }

    public int set(int what, int v) throws IllegalArgumentException {
        demand(what, 0, 1);
        return what == 0 ? changeSpeedLimit(v) : changeEnergyPrice(v);
    }

    public int fan(int flow, int pressure) throws IllegalArgumentException, IllegalStateException {
        demand(flow, 0, MOST_POINT_FLOW);
        demand(pressure, 0, MOST_PRESSURE);
        if (!curve.takes(flow, pressure)) {
            throw new IllegalStateException("the fan can not have this point behind its others");
        }
        bestIsOld = true;
        return curve.addPoint(flow, pressure);
    }

    public int gives() {
        return curve.pressureAt(network.flows[0]);
    }

    // ---- ducts

    public int flow(int duct) throws IllegalArgumentException {
        demand(duct, 1, network.ducts);
        return network.flows[duct];
    }

    public int told(int duct, int size, int what) throws IllegalArgumentException {
        demand(duct, 1, network.ducts);
        demand(size, 0, network.sizes - 1);
        demand(what, 0, 1);
        return what == 0 ? network.speedOf(duct, size) : network.fallOf(duct, size);
    }

    // ---- the best choice

    public int best(int what) throws IllegalArgumentException {
        demand(what, 0, 1);
        Search choice = bestChoice();
        if (!choice.found) {
            return NONE;
        }
        return what == 0 ? choice.cost : choice.pressure;
    }

    public int chosen(int duct) throws IllegalArgumentException {
        demand(duct, 1, network.ducts);
        Search choice = bestChoice();
        return choice.found ? choice.sizeOf[duct] : NONE;
    }

    public int pressure(int node) throws IllegalArgumentException {
        demand(node, 0, network.ducts);
        Search choice = bestChoice();
        return choice.found ? choice.pressureAt[node] : NONE;
    }

    public int damper(int node) throws IllegalArgumentException {
        demand(node, 1, network.ducts);
        Search choice = bestChoice();
        if (!choice.found) {
            return NONE;
        }
        return network.needs[node] == 0 ? 0 : choice.pressure - choice.pressureAt[node];
    }

    public int least(int pressure) throws IllegalArgumentException {
        demand(pressure, 0, MOST_PRESSURE);
        cheapest.run(pressure, 0);
        return cheapest.found ? cheapest.cost : NONE;
    }

    public int worst() {
        Search choice = bestChoice();
        return choice.found ? choice.firstNodeOfGreatestPressure() : NONE;
    }

    private static void demand(int number, int low, int high) {
        if (number < low || number > high) {
            throw new IllegalArgumentException("a number is out of its bounds");
        }
    }

    private int changeSpeedLimit(int limit) {
        demand(limit, 1, MOST_SPEED_LIMIT);
        int before = network.speedLimit;
        network.speedLimit = limit;
        bestIsOld = true;
        return before;
    }

    private int changeEnergyPrice(int price) {
        demand(price, 0, MOST_ENERGY_PRICE);
        int before = energyPrice;
        energyPrice = price;
        bestIsOld = true;
        return before;
    }

    private Search bestChoice() {
        if (bestIsOld) {
            // A fan never gives more than 300, so what fits by the fan is not above 300 either.
            best.run(gives(), energyPrice);
            bestIsOld = false;
        }
        return best;
    }

    /** The ducts and their nodes, numbered from 1 (node 0 is the fan), and the list of sizes. */
    private static final class Network {
        // A duct's node has a higher number than the node that it is below: from[k] < k.
        final int[] from = new int[MOST_DUCTS + 1];
        final int[] lengths = new int[MOST_DUCTS + 1];
        final int[] fittings = new int[MOST_DUCTS + 1];
        final int[] needs = new int[MOST_DUCTS + 1];
        // The flow at 0 is what all nodes need together.
        final int[] flows = new int[MOST_DUCTS + 1];
        int ducts = 0;
        // Below the number of sizes an area is never 0, so that it may divide.
        final int[] areas = new int[MOST_SIZES];
        final int[] prices = new int[MOST_SIZES];
        int sizes = 0;
        int speedLimit = MOST_SPEED_LIMIT;

        int addDuct(int above, int length, int fitting) {
            ducts++;
            from[ducts] = above;
            lengths[ducts] = length;
            fittings[ducts] = fitting;
            return ducts;
        }

        int addSize(int area, int price) {
            areas[sizes] = area;
            prices[sizes] = price;
            sizes++;
            return sizes - 1;
        }

        int changeNeed(int node, int flow) {
            int before = needs[node];
            needs[node] = flow;
            sumFlows();
            return before;
        }

        private void sumFlows() {
            for (int node = 0; node <= ducts; node++) {
                flows[node] = needs[node];
            }
            // From the highest number down each node is whole before it is added to the one above.
            for (int node = ducts; node >= 1; node--) {
                flows[from[node]] += flows[node];
            }
        }

        int speedOf(int duct, int size) {
            return 100 * flows[duct] / areas[size];
        }

        int fallOf(int duct, int size) {
            // The products outgrow an int: 1000 * 6000 * 6000 is above 2^31.
            long flow = flows[duct];
            long area = areas[size];
            long perLength = 1000 * flow * flow / (area * area);
            long fall = Math.min(lengths[duct] * perLength / 100, MOST_FALL);
            return (int) fall + fittings[duct];
        }

        boolean allows(int duct, int size) {
            return speedOf(duct, size) <= speedLimit;
        }

        int priceOf(int duct, int size) {
            return lengths[duct] * prices[size];
        }
    }

    /** The fan's points: their flows rise, their pressures do not. */
    private static final class Curve {
        final int[] flows = new int[MOST_POINTS];
        final int[] pressures = new int[MOST_POINTS];
        int points = 0;

        boolean takes(int flow, int pressure) {
            if (points >= MOST_POINTS) {
                return false;
            }
            return points == 0 || (flow > flows[points - 1] && pressure <= pressures[points - 1]);
        }

        int addPoint(int flow, int pressure) {
            flows[points] = flow;
            pressures[points] = pressure;
            points++;
            return points;
        }

        int pressureAt(int flow) {
            if (points == 0) {
                return MOST_PRESSURE;
            }
            if (flow <= flows[0]) {
                return pressures[0];
            }
            for (int next = 1; next < points; next++) {
                if (flow <= flows[next]) {
                    return pressureBefore(next, flow);
                }
            }
            return 0;
        }

        private int pressureBefore(int next, int flow) {
            int last = next - 1;
            // Never 0: the flow is above the last point's and not above the next one's.
            int span = flows[next] - flows[last];
            int drop = (pressures[last] - pressures[next]) * (flow - flows[last]);
            return pressures[last] - (drop + span - 1) / span;
        }
    }

    /** Looks through all choices for the one that costs least within a limit of pressure. */
    private static final class Search {
        private static final int NOT_ALLOWED = -1;

        private final Network network;
        private final int[][] falls = new int[MOST_DUCTS + 1][MOST_SIZES];
        private final int[] trialSizeOf = new int[MOST_DUCTS + 1];
        private final int[] trialPressureAt = new int[MOST_DUCTS + 1];
        private int limit = 0;
        private int energyPrice = 0;

        final int[] sizeOf = new int[MOST_DUCTS + 1];
        final int[] pressureAt = new int[MOST_DUCTS + 1];
        boolean found = false;
        int cost = 0;
        int pressure = 0;

        Search(Network network) {
            this.network = network;
        }

        void run(int pressureLimit, int priceOfEnergy) {
            limit = pressureLimit;
            energyPrice = priceOfEnergy;
            found = false;
            noteFalls();
            placeFrom(1, 0, 0);
        }

        // Node 0 counts too: its pressure is 0, and that is the greatest one if no duct has a fall.
        int firstNodeOfGreatestPressure() {
            int first = 0;
            for (int node = 1; node <= network.ducts; node++) {
                if (pressureAt[node] > pressureAt[first]) {
                    first = node;
                }
            }
            return first;
        }

        private void noteFalls() {
            for (int duct = 1; duct <= network.ducts; duct++) {
                for (int size = 0; size < network.sizes; size++) {
                    falls[duct][size] = network.allows(duct, size) ? network.fallOf(duct, size) : NOT_ALLOWED;
                }
            }
        }

        // Goes one duct deeper at each level, and there are MOST_DUCTS at most.
        private void placeFrom(int duct, int price, int greatest) {
            if (duct > network.ducts) {
                keepTrial(price, greatest);
                return;
            }
            for (int size = 0; size < network.sizes; size++) {
                if (falls[duct][size] != NOT_ALLOWED) {
                    placeSize(duct, size, price, greatest);
                }
            }
        }

        private void placeSize(int duct, int size, int priceBefore, int greatestBefore) {
            int here = trialPressureAt[network.from[duct]] + falls[duct][size];
            int greatest = Math.max(greatestBefore, here);
            int price = priceBefore + network.priceOf(duct, size);
            // Further ducts only add to price and pressure: what is no better now will not become so.
            if (greatest > limit || !isBetter(price, greatest)) {
                return;
            }
            trialSizeOf[duct] = size;
            trialPressureAt[duct] = here;
            placeFrom(duct + 1, price, greatest);
        }

        // A tie is not better: choices come in the order of their sizes' numbers, and the first one stays.
        private boolean isBetter(int price, int greatest) {
            int wouldCost = price + energyPrice * greatest;
            return !found || wouldCost < cost || (wouldCost == cost && greatest < pressure);
        }

        private void keepTrial(int price, int greatest) {
            found = true;
            cost = price + energyPrice * greatest;
            pressure = greatest;
            for (int node = 1; node <= network.ducts; node++) {
                sizeOf[node] = trialSizeOf[node];
                pressureAt[node] = trialPressureAt[node];
            }
        }
    }
}
