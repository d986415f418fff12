import java.lang.reflect.InvocationTargetException;
import java.lang.reflect.Method;
import java.lang.reflect.Modifier;
import java.util.ArrayList;
import java.util.Comparator;
import java.util.List;
import java.util.NoSuchElementException;
import java.util.Random;

/** Random runs of calls, the same ones each time, on OrderSplit and on the Model of the document. */
public final class ModelTest {
    private static final int OBJECTS = 1500;
    private static final int CALLS = 170;

    private final Random dice;
    private final OrderSplit real = new OrderSplit();
    private final Model model = new Model();
    private final List<String> told = new ArrayList<>();
    private final List<Method> methods = new ArrayList<>();

    private ModelTest(long seed) {
        dice = new Random(seed);
        for (Method m : OrderSplit.class.getDeclaredMethods()) {
            if (Modifier.isPublic(m.getModifiers())) {
                methods.add(m);
            }
        }
        methods.sort(Comparator.comparing(Method::getName));
    }

    public static void main(String[] args) throws Exception {
        int objects = args.length > 1 ? Integer.parseInt(args[1]) : OBJECTS;
        for (int seed = 0; seed < objects; seed++) {
            ModelTest t = new ModelTest(seed);
            boolean same = t.run();
            if (!same) {
                System.out.println("seed " + seed + ":");
                t.told.forEach(System.out::println);
            }
            Checks.is("seed " + seed, same, true);
            if (!same) {
                break;
            }
        }
        Checks.end("ModelTest");
    }

    private boolean run() throws Exception {
        for (int i = 0; i < CALLS; i++) {
            if (!(i == 3 || dice.nextInt(60) == 0 ? newText() : someCall())) {
                return false;
            }
        }
        return true;
    }

    private boolean newText() throws Exception {
        String text = ModelTexts.text(dice);
        for (int i = 0; i < text.length(); i += 20) {
            Object[] five = new Object[5];
            for (int j = 0; j < 5; j++) {
                int number = 0;
                for (int k = i + 4 * j; k < i + 4 * j + 4; k++) {
                    number = number << 8 | (k < text.length() ? text.charAt(k) & 255 : 32);
                }
                five[j] = number;
            }
            if (!same(named("feed"), five)) {
                return false;
            }
        }
        told.add("(the text is: " + text + ")");
        return same(named("split"), text.length()) && same(named("fault")) && same(named("where"))
            && same(named("trouble")) && same(named("size"), 0);
    }

    private Method named(String name) {
        return methods.stream().filter(m -> m.getName().equals(name)).findFirst().get();
    }

    private boolean someCall() throws Exception {
        Method m = methods.get(dice.nextInt(methods.size()));
        if (m.getName().equals("feed") || m.getName().equals("split")) {
            if (dice.nextInt(4) > 0) {
                m = named(dice.nextBoolean() ? "ticks" : "plan");
            }
        }
        if (m.getName().equals("begin") && dice.nextInt(3) > 0) {
            m = named("call");
        }
        Object[] args = new Object[m.getParameterCount()];
        for (int i = 0; i < args.length; i++) {
            args[i] = number(m.getName(), i);
        }
        return same(m, args) && same(named("trouble")) && same(named("where"));
    }

    private int number(String name, int i) {
        if (dice.nextInt(40) == 0) {
            int[] odd = {-1, Integer.MIN_VALUE, Integer.MAX_VALUE, 120, 121, 999, 1000, 200, 201, 5, 6, -10, 10};
            return odd[dice.nextInt(odd.length)];
        }
        switch (name + i) {
            case "ticks0": return 1 + dice.nextInt(dice.nextInt(8) == 0 ? 200 : 4);
            case "cost1", "plan1": return dice.nextInt(dice.nextBoolean() ? 6 : 40);
            case "charge1", "units0", "best0", "share0", "bound0", "margin0", "gap0", "greedy0", "worth0",
                "fewest0", "adopt0", "order0": return dice.nextInt(dice.nextBoolean() ? 122 : 30);
            case "under1", "bought1": return 1 + dice.nextInt(25);
            case "fee1": return dice.nextInt(21) - 10;
            case "resize2": return dice.nextInt(dice.nextBoolean() ? 101 : 8);
            case "venue1", "now0", "part1", "will0": return dice.nextInt(8);
            case "split0": return dice.nextInt(50);
            default: return dice.nextInt(6) - (dice.nextInt(20) == 0 ? 1 : 0);
        }
    }

    private static String answer(Object on, Method m, Object[] args) throws Exception {
        try {
            return String.valueOf(m.invoke(on, args));
        } catch (InvocationTargetException e) {
            if (e.getCause() instanceof NoSuchElementException && m.getName().equals("dry")) {
                return "throws";
            }
            throw e;
        }
    }

    private boolean same(Method m, Object... args) throws Exception {
        Method twin = Model.class.getDeclaredMethod(m.getName(), m.getParameterTypes());
        twin.setAccessible(true);
        String want = answer(model, twin, args);
        String got = answer(real, m, args);
        told.add(m.getName() + java.util.Arrays.toString(args) + " = " + got
            + (got.equals(want) ? "" : ", but by the model " + want));
        return got.equals(want);
    }
}
