import java.util.ArrayList;
import java.util.List;
import java.util.Random;

/** Texts by chance, such as are taken and such as mostly are not. */
final class Texts {
    private static final String[] WORDS = {"plain", "bishop", "bride", "widow", "trip", "asked", "interest", "cover"};
    private static final int TAPE = 160;

    private Texts() { }

    static String good(Random random) {
        String text;
        do {
            int people = 1 + random.nextInt(4);
            List<String> lines = people(random, people);
            lines.addAll(events(random, people));
            text = String.join(random.nextInt(3) == 0 ? " " : "", lines);
        } while (text.length() > TAPE);
        return text;
    }

    /** Behind the others, of whom alone incidents and occasions tell, stands a plain one with 99 in hand. */
    static String withGiver(Random random) {
        String text;
        do {
            int people = 1 + random.nextInt(3);
            List<String> lines = people(random, people);
            lines.add("plain 99;");
            lines.addAll(events(random, people));
            text = String.join("", lines);
        } while (text.length() > TAPE);
        return text;
    }

    private static List<String> people(Random random, int people) {
        List<String> lines = new ArrayList<>();
        for (int p = 0; p < people; p++) {
            lines.add(WORDS[random.nextInt(4)] + " " + random.nextInt(random.nextInt(3) == 0 ? 100 : 12) + ";");
        }
        return lines;
    }

    private static List<String> events(Random random, int people) {
        List<String> lines = new ArrayList<>();
        for (int i = random.nextInt(7); i > 0; i--) {
            lines.add("trip " + random.nextInt(people) + " " + random.nextInt(10) + " " + random.nextInt(10) + " "
                + random.nextInt(10) + ";");
        }
        for (int k = random.nextInt(7); k > 0; k--) {
            lines.add("asked " + random.nextInt(people) + " " + random.nextInt(10) + " " + random.nextInt(31) + ";");
        }
        if (random.nextBoolean()) {
            lines.add("cover " + random.nextInt(random.nextBoolean() ? 100 : 30) + ";");
        }
        if (random.nextBoolean()) {
            lines.add("interest" + random.nextInt(10) + ";");
        }
        return lines;
    }

    static String faulty(Random random) {
        StringBuilder text = new StringBuilder(good(random));
        String signs = " ;;09 5az!A\t";
        for (int i = 1 + random.nextInt(3); i > 0; i--) {
            int at = random.nextInt(text.length());
            switch (random.nextInt(4)) {
                case 0 -> text.deleteCharAt(at);
                case 1 -> text.setCharAt(at, signs.charAt(random.nextInt(signs.length())));
                case 2 -> text.insert(at, signs.charAt(random.nextInt(signs.length())));
                default -> text.insert(text.indexOf(";", at) + 1,
                    WORDS[random.nextInt(8)] + " " + random.nextInt(12) + ";");
            }
        }
        return text.length() > TAPE ? text.substring(0, TAPE) : text.toString();
    }
}
