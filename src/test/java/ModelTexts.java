import java.util.Random;

/** Random texts of a SPLIT, most of them without a FAULT. */
final class ModelTexts {
    private static final String[] NAMES = {"ax", "by", "plain", "lot", "zzzzzz", "a", "aa"};
    private static final String[] BITS = {"order", "venue", "level", "event", "ax", "0", "1", "999", "1000", "21",
        ";", "-", "plain", "fee", "longerr", "A", "limit", "#", "121", "", "300", "301"};

    private ModelTexts() {
    }

    static String text(Random dice) {
        StringBuilder t = new StringBuilder();
        int venues = 1 + dice.nextInt(dice.nextInt(30) == 0 ? 6 : 5);
        int lowest = 1 + dice.nextInt(20);
        t.append("order ").append(1 + dice.nextInt(dice.nextBoolean() ? 120 : 25));
        t.append(" limit ").append(lowest + dice.nextInt(14)).append(" life ").append(1 + dice.nextInt(5));
        int[] levels = new int[6];
        for (int v = 0; v < venues; v++) {
            t.append(";venue ").append(NAMES[v]).append(' ');
            t.append(new String[] {"plain", "tiers", "flat"}[dice.nextInt(3)]);
            t.append(" lot ").append(1 + dice.nextInt(dice.nextInt(3) == 0 ? 20 : 4));
            t.append(" fee ").append(dice.nextInt(4) == 0 ? "-" : "").append(dice.nextInt(dice.nextBoolean() ? 10 : 3));
            t.append(" least ").append(dice.nextInt(dice.nextBoolean() ? 300 : 12));
            t.append(" delay ").append(1 + dice.nextInt(dice.nextBoolean() ? 9 : 3));
        }
        for (int v = 0; v < venues; v++) {
            int price = lowest;
            int count = dice.nextInt(dice.nextInt(20) == 0 ? 8 : 5);
            for (int k = 0; k < count && t.length() < 780; k++) {
                price += dice.nextInt(4) + (k > 0 && dice.nextInt(30) > 0 ? 1 : 0);
                t.append(";level ").append(NAMES[v]).append(' ').append(price);
                t.append(' ').append(1 + dice.nextInt(dice.nextBoolean() ? 60 : 8));
                levels[v]++;
            }
        }
        int time = 1;
        int events = dice.nextInt(dice.nextInt(10) == 0 ? 12 : 6);
        for (int i = 0; i < events && t.length() < 870; i++) {
            int v = dice.nextInt(venues);
            if (levels[v] > 0 || dice.nextInt(30) == 0) {
                time += dice.nextInt(9) - (dice.nextInt(60) == 0 ? 1 : 0);
                t.append(";event ").append(time).append(' ').append(NAMES[v]).append(' ');
                t.append(dice.nextInt(levels[v] + (levels[v] == 0 || dice.nextInt(60) == 0 ? 1 : 0)));
                t.append(' ').append(dice.nextInt(dice.nextBoolean() ? 4 : 80));
            }
        }
        String text = t.length() > 900 ? t.substring(0, 900) : t.toString();
        return dice.nextInt(5) == 0 ? spoiled(text, dice) : text;
    }

    private static String spoiled(String text, Random dice) {
        String[] words = text.split("(?<=[ ;])|(?=;)", -1);
        int times = 1 + dice.nextInt(2);
        for (int i = 0; i < times; i++) {
            String bit = BITS[dice.nextInt(BITS.length)];
            int at = dice.nextInt(words.length);
            words[at] = dice.nextInt(3) == 0 ? words[at] + bit + " " : bit + (dice.nextInt(3) == 0 ? "" : " ");
        }
        String joined = String.join("", words);
        if (dice.nextInt(4) == 0) {
            joined = joined.substring(0, dice.nextInt(joined.length() + 1));
        }
        if (dice.nextInt(4) == 0) {
            joined = joined.replace(" ", "  ");
        }
        return joined.length() > 900 ? joined.substring(0, 900) : joined;
    }
}
