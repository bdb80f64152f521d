import java.math.BigInteger;
import java.util.ArrayList;
import java.util.List;
import java.util.Random;
import java.util.function.IntSupplier;

/** Long mixed runs against a model that goes through every choice, written from the document anew. */
public final class ModelTest {
    private static final int RUNS = 2000;
    // What an object answers behind its 512th call is free.
    private static final int CALLS = 512;
    private static final int CALLS_AT_ONCE = 40;
    private static final String ARGUMENT = "throws.IllegalArgumentException";
    private static final String STATE = "throws.IllegalStateException";

    private ModelTest() {
    }

    public static void main(String[] args) {
        int choicesFound = 0;
        int choicesMissed = 0;
        for (int run = 1; run <= RUNS; run++) {
            Random random = new Random(run);
            Run calls = new Run(random);
            while (calls.asked <= CALLS - CALLS_AT_ONCE) {
                calls.oneCall("run " + run + " call " + (calls.asked + 1) + ": ");
            }
            choicesFound += calls.found;
            choicesMissed += calls.missed;
        }
        System.out.println("best choices found " + choicesFound + ", none " + choicesMissed);
        // Runs in which nothing ever fits, or all does, would show nothing.
        Check.compare("both kinds come often", "true", "" + (choicesFound > 5000 && choicesMissed > 5000));
        Check.end();
    }

    /** One object, its model, and the kind of numbers that this run draws. */
    private static final class Run {
        final Random random;
        final DuctSizes program = new DuctSizes();
        final Model model = new Model();
        final int lengths;
        final int fittings;
        final int flows;
        final int areas;
        final int prices;
        final int energy;
        int asked = 0;
        int found = 0;
        int missed = 0;

        Run(Random random) {
            this.random = random;
            lengths = oneOf(2, 10, 100);
            fittings = oneOf(0, 3, 50);
            flows = oneOf(5, 50, 1000);
            areas = oneOf(3, 60, 1000);
            prices = oneOf(2, 20, 1000);
            energy = oneOf(1, 20, 1000);
        }

        int oneOf(int... numbers) {
            return numbers[random.nextInt(numbers.length)];
        }

        /** Mostly within low .. high, at times an edge or out of it. */
        int draw(int low, int high) {
            int kind = random.nextInt(40);
            if (kind == 0) {
                return low - 1;
            }
            if (kind == 1) {
                return high + 1;
            }
            if (kind == 2) {
                return random.nextInt();
            }
            return high < low ? low : low + random.nextInt(high - low + 1);
        }

        void ask(String call, String want, IntSupplier asking) {
            asked++;
            Check.compare(call, want, Check.answerOf(asking));
        }

        void oneCall(String where) {
            switch (random.nextInt(18)) {
                case 0, 1 -> {
                    int from = draw(0, model.ducts.size());
                    int length = draw(1, lengths);
                    int fitting = draw(0, fittings);
                    ask(where + "duct(" + from + ", " + length + ", " + fitting + ")",
                        model.duct(from, length, fitting), () -> program.duct(from, length, fitting));
                }
                case 2, 3, 4, 5 -> {
                    int node = draw(1, model.ducts.size());
                    int flow = draw(0, flows);
                    ask(where + "need(" + node + ", " + flow + ")",
                        model.need(node, flow), () -> program.need(node, flow));
                }
                case 6, 7 -> {
                    int area = draw(1, areas);
                    int price = draw(1, prices);
                    ask(where + "size(" + area + ", " + price + ")",
                        model.size(area, price), () -> program.size(area, price));
                }
                case 8 -> {
                    int what = draw(0, 1);
                    int v = what == 0 ? draw(1, oneOf(10, 300, 100000)) : draw(0, energy);
                    ask(where + "set(" + what + ", " + v + ")",
                        model.set(what, v), () -> program.set(what, v));
                }
                case 9 -> fanPoint(where);
                case 10, 11 -> {
                    int duct = draw(1, model.ducts.size());
                    int size = draw(0, model.sizes.size() - 1);
                    int what = draw(0, 1);
                    ask(where + "told(" + duct + ", " + size + ", " + what + ")",
                        model.told(duct, size, what), () -> program.told(duct, size, what));
                }
                case 12, 13, 14, 15 -> {
                    int pressure = draw(0, 300);
                    ask(where + "least(" + pressure + ")",
                        model.least(pressure), () -> program.least(pressure));
                }
                default -> lookAtAll(where);
            }
        }

        /** Points come seldom, so that many calls lie between them; what the fan gives is asked else. */
        void fanPoint(String where) {
            if (random.nextInt(4) != 0) {
                ask(where + "gives()", "" + model.gives(), () -> program.gives());
                return;
            }
            int flow = draw(0, oneOf(flows, 10 * flows, 10000));
            int pressure = draw(0, 300);
            ask(where + "fan(" + flow + ", " + pressure + ")",
                model.fan(flow, pressure), () -> program.fan(flow, pressure));
        }

        /** At most CALLS_AT_ONCE calls. */
        void lookAtAll(String where) {
            ask(where + "gives()", "" + model.gives(), () -> program.gives());
            int[] best = model.bestChoice();
            if (best == null) {
                missed++;
            } else {
                found++;
            }
            ask(where + "best(0)", best == null ? "-1" : "" + model.fullCost(best), () -> program.best(0));
            ask(where + "best(1)", best == null ? "-1" : "" + model.pressureOf(best), () -> program.best(1));
            ask(where + "worst()", best == null ? "-1" : "" + model.worst(best), () -> program.worst());
            for (int drawn = -1; drawn <= 7; drawn++) {
                int k = drawn;
                boolean isNode = k >= 0 && k <= model.ducts.size();
                boolean isDuct = isNode && k > 0;
                ask(where + "flow(" + k + ")", !isDuct ? ARGUMENT : "" + model.flowOf(k), () -> program.flow(k));
                ask(where + "pressure(" + k + ")",
                    !isNode ? ARGUMENT : best == null ? "-1" : "" + model.pressureAt(best, k),
                    () -> program.pressure(k));
                ask(where + "chosen(" + k + ")",
                    !isDuct ? ARGUMENT : best == null ? "-1" : "" + best[k - 1], () -> program.chosen(k));
                ask(where + "damper(" + k + ")",
                    !isDuct ? ARGUMENT : best == null ? "-1" : "" + model.damper(best, k),
                    () -> program.damper(k));
            }
        }
    }

    private static final class Model {
        /** Each: the node above, length, fitting, need. */
        final List<int[]> ducts = new ArrayList<>();
        /** Each: area, price. */
        final List<int[]> sizes = new ArrayList<>();
        /** Each: flow, pressure. */
        final List<int[]> points = new ArrayList<>();
        final int[] settings = {100000, 0};

        static boolean out(int number, int low, int high) {
            return number < low || number > high;
        }

        String duct(int from, int length, int fitting) {
            if (out(from, 0, ducts.size()) || out(length, 1, 100) || out(fitting, 0, 50)) {
                return ARGUMENT;
            }
            if (ducts.size() == 6) {
                return STATE;
            }
            ducts.add(new int[] {from, length, fitting, 0});
            return "" + ducts.size();
        }

        String need(int node, int flow) {
            if (out(node, 1, ducts.size()) || out(flow, 0, 1000)) {
                return ARGUMENT;
            }
            int before = ducts.get(node - 1)[3];
            ducts.get(node - 1)[3] = flow;
            return "" + before;
        }

        String size(int area, int price) {
            if (out(area, 1, 1000) || out(price, 1, 1000)) {
                return ARGUMENT;
            }
            if (sizes.size() == 4) {
                return STATE;
            }
            sizes.add(new int[] {area, price});
            return "" + (sizes.size() - 1);
        }

        String set(int what, int v) {
            if (out(what, 0, 1) || out(v, 1 - what, what == 0 ? 100000 : 1000)) {
                return ARGUMENT;
            }
            int before = settings[what];
            settings[what] = v;
            return "" + before;
        }

        String fan(int flow, int pressure) {
            if (out(flow, 0, 10000) || out(pressure, 0, 300)) {
                return ARGUMENT;
            }
            int[] last = points.isEmpty() ? new int[] {-1, 300} : points.get(points.size() - 1);
            if (points.size() == 5 || flow <= last[0] || pressure > last[1]) {
                return STATE;
            }
            points.add(new int[] {flow, pressure});
            return "" + points.size();
        }

        int gives() {
            int flow = 0;
            for (int[] duct : ducts) {
                flow += duct[3];
            }
            if (points.isEmpty()) {
                return 300;
            }
            int[] p = null;
            for (int[] n : points) {
                if (flow <= n[0]) {
                    return p == null ? n[1] : p[1] + Math.floorDiv(-(p[1] - n[1]) * (flow - p[0]), n[0] - p[0]);
                }
                p = n;
            }
            return 0;
        }

        int flowOf(int duct) {
            int flow = 0;
            for (int node = 1; node <= ducts.size(); node++) {
                for (int above = node; above != 0; above = ducts.get(above - 1)[0]) {
                    if (above == duct) {
                        flow += ducts.get(node - 1)[3];
                    }
                }
            }
            return flow;
        }

        int speed(int duct, int size) {
            return 100 * flowOf(duct) / sizes.get(size)[0];
        }

        int fall(int duct, int size) {
            BigInteger flow = BigInteger.valueOf(flowOf(duct));
            BigInteger area = BigInteger.valueOf(sizes.get(size)[0]);
            BigInteger perLength = BigInteger.valueOf(1000).multiply(flow.pow(2)).divide(area.pow(2));
            BigInteger fall = perLength.multiply(BigInteger.valueOf(ducts.get(duct - 1)[1]));
            return fall.divide(BigInteger.valueOf(100)).min(BigInteger.valueOf(1000000)).intValueExact()
                + ducts.get(duct - 1)[2];
        }

        String told(int duct, int size, int what) {
            if (out(duct, 1, ducts.size()) || out(size, 0, sizes.size() - 1) || out(what, 0, 1)) {
                return ARGUMENT;
            }
            return "" + (what == 0 ? speed(duct, size) : fall(duct, size));
        }

        /** All choices whose sizes may be, first by the sizes' numbers, with their falls behind them. */
        List<int[][]> choices() {
            List<int[][]> all = new ArrayList<>();
            all.add(new int[][] {{}, {}});
            for (int duct = 1; duct <= ducts.size(); duct++) {
                List<int[][]> longer = new ArrayList<>();
                for (int size = 0; size < sizes.size(); size++) {
                    if (speed(duct, size) > settings[0]) {
                        continue;
                    }
                    int fall = fall(duct, size);
                    for (int[][] one : all) {
                        longer.add(new int[][] {with(one[0], size), with(one[1], fall)});
                    }
                }
                all = longer;
            }
            return all;
        }

        static int[] with(int[] row, int more) {
            int[] longer = java.util.Arrays.copyOf(row, row.length + 1);
            longer[row.length] = more;
            return longer;
        }

        int pressureByFalls(int[] falls) {
            int greatest = 0;
            for (int node = 1; node <= ducts.size(); node++) {
                int sum = 0;
                for (int above = node; above != 0; above = ducts.get(above - 1)[0]) {
                    sum += falls[above - 1];
                }
                greatest = Math.max(greatest, sum);
            }
            return greatest;
        }

        int ductCost(int[] choice) {
            int cost = 0;
            for (int at = 0; at < choice.length; at++) {
                cost += ducts.get(at)[1] * sizes.get(choice[at])[1];
            }
            return cost;
        }

        int[] bestChoice() {
            int most = Math.min(gives(), 300);
            int[] best = null;
            long[] bestRank = null;
            for (int[][] one : choices()) {
                int pressure = pressureByFalls(one[1]);
                if (pressure > most) {
                    continue;
                }
                long[] rank = {ductCost(one[0]) + (long) settings[1] * pressure, pressure, numberOf(one[0])};
                if (best == null || java.util.Arrays.compare(rank, bestRank) < 0) {
                    best = one[0];
                    bestRank = rank;
                }
            }
            return best;
        }

        static long numberOf(int[] choice) {
            long number = 0;
            for (int size : choice) {
                number = 10 * number + size;
            }
            return number;
        }

        int pressureAt(int[] choice, int node) {
            int sum = 0;
            for (int above = node; above != 0; above = ducts.get(above - 1)[0]) {
                sum += fall(above, choice[above - 1]);
            }
            return sum;
        }

        int pressureOf(int[] choice) {
            int greatest = 0;
            for (int node = 1; node <= ducts.size(); node++) {
                greatest = Math.max(greatest, pressureAt(choice, node));
            }
            return greatest;
        }

        int fullCost(int[] choice) {
            return ductCost(choice) + settings[1] * pressureOf(choice);
        }

        int damper(int[] choice, int node) {
            return ducts.get(node - 1)[3] == 0 ? 0 : pressureOf(choice) - pressureAt(choice, node);
        }

        int worst(int[] choice) {
            int worst = 0;
            for (int node = 1; node <= ducts.size(); node++) {
                if (pressureAt(choice, node) > pressureAt(choice, worst)) {
                    worst = node;
                }
            }
            return worst;
        }

        String least(int pressure) {
            if (out(pressure, 0, 300)) {
                return ARGUMENT;
            }
            int least = -1;
            for (int[][] one : choices()) {
                if (pressureByFalls(one[1]) <= pressure && (least == -1 || ductCost(one[0]) < least)) {
                    least = ductCost(one[0]);
                }
            }
            return "" + least;
        }
    }
}
