/**
 * All that an object's calls tell, as one text: two objects with the same text are in the same
 * state. Telling uses the object up (it goes back to what was kept, and its tape is read), so the
 * text is taken of one of two objects that were made alike; it takes less than 450 calls.
 */
final class Told {
    private final OrderSplit x;
    private final StringBuilder text = new StringBuilder();

    private Told(OrderSplit x) {
        this.x = x;
    }

    static String of(OrderSplit x) {
        Told t = new Told(x);
        t.add("fault", x.fault(), x.size(0), x.size(1), x.size(2));
        t.state();
        t.plan();
        t.add("back", x.back() ? 1 : 0);
        t.state();
        t.plan();
        t.add("tape", x.split(x.size(0)), x.fault(), x.where(), x.about(0), x.about(1), x.about(2));
        return t.text.toString();
    }

    private void add(String what, int... numbers) {
        text.append(what);
        for (int n : numbers) {
            text.append(' ').append(n);
        }
        text.append('\n');
    }

    private void state() {
        add("about", x.about(0), x.about(1), x.about(2), x.about(3), x.about(4));
        for (int v = 0; v < x.about(3); v++) {
            add("venue", x.venue(v, 0), x.venue(v, 1), x.venue(v, 2), x.venue(v, 3), x.venue(v, 4));
            for (int k = 0; k < x.venue(v, 5); k++) {
                add("level", x.level(v, k, 0), x.level(v, k, 1));
            }
            if (x.size(2) == 1) {
                add("part", x.part(v, 0), x.part(v, 1), x.part(v, 2), x.part(v, 3), x.part(v, 4), x.part(v, 5), x.part(v, 6));
            }
        }
        add("splits", x.best(120), x.greedy(120, 0), x.bound(120), x.planned(0), x.planned(1), x.move());
        if (x.size(2) == 1) {
            run();
        }
    }

    private void run() {
        add("now", x.now(0), x.now(1), x.now(2), x.now(3), x.now(4), x.now(5), x.now(6), x.now(7));
        add("will", x.will(0), x.will(2), x.will(3), x.will(4), x.will(5));
        for (int i = 0; i < x.entries(); i++) {
            add("entry", x.entry(i, 0), x.entry(i, 1), x.entry(i, 2));
        }
    }

    /** What was planned at each VENUE is told by planning something else; a run shows it by its parts. */
    private void plan() {
        if (x.size(2) == 0) {
            for (int v = 0; v < x.about(3); v++) {
                add("plan", x.plan(v, 0));
            }
        }
    }
}
