import java.util.function.Supplier;
import java.util.function.ToIntFunction;

/** What the document says of all calls that throw, for every such call at the edges of its numbers. */
public final class RefusalTest {
    private static final String ARGUMENT = "throws.IllegalArgumentException";
    private static final String STATE = "throws.IllegalStateException";

    private RefusalTest() {
    }

    public static void main(String[] args) {
        new Stage("new", DuctSizes::new, 0, 0, -1, 300, 0).refuseAll();
        new Stage("branches", RefusalTest::branchesWithAPoint, 3, 3, 50, 200, 1).refuseAll();
        new Stage("full", Made::full, 6, 4, 10000, 0, 5).refuseAll();
        new Stage("none fits", RefusalTest::fullWhereNoneFits, 6, 4, 10000, 0, 5).refuseAll();
        Check.end();
    }

    private static DuctSizes branchesWithAPoint() {
        DuctSizes x = Made.branches();
        x.set(1, 3);
        x.fan(50, 200);
        return x;
    }

    private static DuctSizes fullWhereNoneFits() {
        DuctSizes x = Made.full();
        x.set(0, 1);
        return x;
    }

    /** An object that can be made again and again, and what the document counts of it. */
    private static final class Stage {
        final String name;
        final Supplier<DuctSizes> maker;
        final int ducts;
        final int sizes;
        final int lastFlow;
        final int lastPressure;
        final int points;
        final String untouched;

        Stage(String name, Supplier<DuctSizes> maker, int ducts, int sizes, int lastFlow, int lastPressure, int points) {
            this.name = name;
            this.maker = maker;
            this.ducts = ducts;
            this.sizes = sizes;
            this.lastFlow = lastFlow;
            this.lastPressure = lastPressure;
            this.points = points;
            untouched = Answers.of(maker.get());
        }

        void refuseAll() {
            Check.sentence("In all calls illegal argument: a number is out of its bounds, there is no such node, duct, size. "
                + "Of several exceptions the one named first is thrown; a call that throws changes nothing");
            ductCalls();
            needCalls();
            sizeCalls();
            setCalls();
            fanCalls();
            toldCalls();
            callsOfOneNumber();
        }

        /** Both edges, what lies behind them, and the ends of int. */
        static int[] round(int low, int high) {
            return new int[] {Integer.MIN_VALUE, low - 1, low, high, high + 1, Integer.MAX_VALUE};
        }

        static boolean out(int number, int low, int high) {
            return number < low || number > high;
        }

        /** Asks a new object, at first and again after the best choice has been asked for. */
        void refuse(String call, String want, ToIntFunction<DuctSizes> asking) {
            DuctSizes x = maker.get();
            Check.compare(name + ": " + call, want, Check.answerOf(() -> asking.applyAsInt(x)));
            Check.compare(name + ": all after " + call, untouched, Answers.of(x));
            DuctSizes asked = maker.get();
            asked.best(0);
            Check.compare(name + ": " + call + " after best", want, Check.answerOf(() -> asking.applyAsInt(asked)));
            Check.compare(name + ": all after best and " + call, untouched, Answers.of(asked));
        }

        void ductCalls() {
            for (int from : round(0, ducts)) {
                for (int length : round(1, 100)) {
                    for (int fitting : round(0, 50)) {
                        boolean wrong = out(from, 0, ducts) || out(length, 1, 100) || out(fitting, 0, 50);
                        if (wrong || ducts == 6) {
                            refuse("duct(" + from + ", " + length + ", " + fitting + ")", wrong ? ARGUMENT : STATE,
                                x -> x.duct(from, length, fitting));
                        }
                    }
                }
            }
        }

        void needCalls() {
            for (int node : round(0, ducts)) {
                for (int flow : round(0, 1000)) {
                    if (out(node, 1, ducts) || out(flow, 0, 1000)) {
                        refuse("need(" + node + ", " + flow + ")", ARGUMENT, x -> x.need(node, flow));
                    }
                }
            }
        }

        void sizeCalls() {
            for (int area : round(1, 1000)) {
                for (int price : round(1, 1000)) {
                    boolean wrong = out(area, 1, 1000) || out(price, 1, 1000);
                    if (wrong || sizes == 4) {
                        refuse("size(" + area + ", " + price + ")", wrong ? ARGUMENT : STATE, x -> x.size(area, price));
                    }
                }
            }
        }

        void setCalls() {
            for (int what : round(0, 1)) {
                int low = what == 0 ? 1 : 0;
                int high = what == 0 ? 100000 : 1000;
                for (int v : round(low, high)) {
                    if (out(what, 0, 1) || out(v, low, high)) {
                        refuse("set(" + what + ", " + v + ")", ARGUMENT, x -> x.set(what, v));
                    }
                }
            }
        }

        void fanCalls() {
            int[] flows = {Integer.MIN_VALUE, -1, 0, lastFlow - 1, lastFlow, lastFlow + 1, 10000, 10001, Integer.MAX_VALUE};
            int[] pressures = {Integer.MIN_VALUE, -1, 0, lastPressure, lastPressure + 1, 300, 301, Integer.MAX_VALUE};
            for (int flow : flows) {
                for (int pressure : pressures) {
                    boolean wrong = out(flow, 0, 10000) || out(pressure, 0, 300);
                    if (wrong || points == 5 || flow <= lastFlow || pressure > lastPressure) {
                        refuse("fan(" + flow + ", " + pressure + ")", wrong ? ARGUMENT : STATE, x -> x.fan(flow, pressure));
                    }
                }
            }
        }

        void toldCalls() {
            for (int duct : round(1, ducts)) {
                for (int size : round(0, sizes - 1)) {
                    for (int what : round(0, 1)) {
                        if (out(duct, 1, ducts) || out(size, 0, sizes - 1) || out(what, 0, 1)) {
                            refuse("told(" + duct + ", " + size + ", " + what + ")", ARGUMENT,
                                x -> x.told(duct, size, what));
                        }
                    }
                }
            }
        }

        void callsOfOneNumber() {
            refuseOut("flow", 1, ducts, DuctSizes::flow);
            refuseOut("best", 0, 1, DuctSizes::best);
            refuseOut("chosen", 1, ducts, DuctSizes::chosen);
            refuseOut("pressure", 0, ducts, DuctSizes::pressure);
            refuseOut("damper", 1, ducts, DuctSizes::damper);
            refuseOut("least", 0, 300, DuctSizes::least);
        }

        void refuseOut(String call, int low, int high, Call asking) {
            for (int number : round(low, high)) {
                if (out(number, low, high)) {
                    refuse(call + "(" + number + ")", ARGUMENT, x -> asking.of(x, number));
                }
            }
        }
    }

    private interface Call {
        int of(DuctSizes x, int number);
    }
}
