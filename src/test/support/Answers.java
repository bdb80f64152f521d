import java.util.function.IntSupplier;

/** All that an object answers, as one text: what two objects that were used alike have in common. */
final class Answers {
    private final StringBuilder text = new StringBuilder();

    private Answers() {
    }

    /** Looks first and changes then, since what was set or needed shows in changes alone. Some 150 calls. */
    static String of(DuctSizes x) {
        Answers answers = new Answers();
        answers.look(x);
        answers.change(x);
        return answers.text.toString();
    }

    private void add(String call, IntSupplier asking) {
        text.append(call).append(' ').append(Check.answerOf(asking)).append("; ");
    }

    private void look(DuctSizes x) {
        add("cost", () -> x.best(0));
        add("its pressure", () -> x.best(1));
        add("worst", () -> x.worst());
        add("gives", () -> x.gives());
        add("fan's pressure", () -> x.pressure(0));
        for (int number = 1; number <= 6; number++) {
            int k = number;
            add("flow " + k, () -> x.flow(k));
            add("chosen " + k, () -> x.chosen(k));
            add("pressure " + k, () -> x.pressure(k));
            add("damper " + k, () -> x.damper(k));
            for (int s = 0; s <= 3; s++) {
                int size = s;
                add("speed " + k + " " + size, () -> x.told(k, size, 0));
                add("fall " + k + " " + size, () -> x.told(k, size, 1));
            }
        }
        for (int pressure : new int[] {0, 10, 50, 100, 200, 300}) {
            add("least " + pressure, () -> x.least(pressure));
        }
    }

    private void change(DuctSizes x) {
        add("speed limit", () -> x.set(0, 100000));
        add("energy price", () -> x.set(1, 0));
        for (int number = 1; number <= 6; number++) {
            int k = number;
            add("need " + k, () -> x.need(k, 50));
            add("gives", () -> x.gives());
        }
        add("next duct", () -> x.duct(0, 1, 0));
        add("next size", () -> x.size(500, 1));
        add("next point", () -> x.fan(10000, 0));
        add("cost", () -> x.best(0));
    }
}
