import java.util.Random;

/** Texts drawn from a source of chance: most are right, some are spoilt or too long. */
final class TextMaker {
    private static final String SIGNS = " \n;0123456789aoxz$\t\rA\u0000\u00ff";
    private static final String[] WORDS = {"carry", "office", "rate", "profit", "taxable", "deductible", "loss", "lose", ";", "0", "39", "99999"};

    private TextMaker() {
    }

    static String make(Random random, int sumBound) {
        StringBuilder text = new StringBuilder();
        text.append("carry").append(gap(random)).append(random.nextInt(4) == 0 ? random.nextInt(21) : random.nextInt(4)).append(';');
        int offices = 1 + random.nextInt(random.nextInt(12) == 0 ? 4 : 3);
        for (int k = 0; k < offices; k++) {
            text.append("office").append(gap(random)).append(random.nextInt(901)).append(';');
        }
        int most = random.nextInt(6) == 0 ? 640 : random.nextInt(560);
        int bound = random.nextInt(5) == 0 ? 20 : 39;
        while (text.length() < most) {
            String line = line(random, Math.min(3, offices), sumBound, bound);
            if (text.length() + line.length() > (most == 640 ? 640 : 600)) {
                break;
            }
            text.append(line);
        }
        if (most == 640) {
            pad(text, random);
        }
        if (random.nextInt(3) == 0) {
            spoil(text, random);
        }
        text.setLength(Math.min(640, text.length()));
        return text.toString();
    }

    private static String gap(Random random) {
        return random.nextInt(6) == 0 ? " \n " : random.nextBoolean() ? " " : "\n";
    }

    private static String line(Random random, int offices, int sumBound, int yearBound) {
        String[] words = {"rate", "profit", "profit", "taxable", "deductible", "deductible", "loss"};
        String word = words[random.nextInt(words.length)];
        StringBuilder line = new StringBuilder(word);
        line.append(gap(random)).append(random.nextInt(offices));
        int sum = 1 + random.nextInt(sumBound);
        int first = 1 + random.nextInt(random.nextBoolean() ? 6 : yearBound);
        if (word.equals("rate")) {
            line.append(gap(random)).append(random.nextInt(40)).append(gap(random)).append(random.nextInt(901));
        } else if (word.equals("profit")) {
            line.append(gap(random)).append(first - random.nextInt(2)).append(gap(random)).append(sum);
        } else if (word.equals("loss")) {
            line.append(gap(random)).append(sum).append(gap(random)).append(first);
        } else {
            int last = first + random.nextInt(random.nextBoolean() ? 40 - first : Math.min(4, 40 - first));
            line.append(gap(random)).append(sum).append(gap(random)).append(first).append(gap(random)).append(last);
        }
        return line.append(random.nextInt(9) == 0 ? " ;\n" : ";").toString();
    }

    private static void pad(StringBuilder text, Random random) {
        int size = 596 + random.nextInt(10);
        while (text.length() < size) {
            text.append(' ');
        }
        if (random.nextBoolean()) {
            text.append(WORDS[random.nextInt(WORDS.length)]);
        }
    }

    private static void spoil(StringBuilder text, Random random) {
        int place = random.nextInt(text.length());
        switch (random.nextInt(5)) {
            case 0:
                text.setCharAt(place, SIGNS.charAt(random.nextInt(SIGNS.length())));
                break;
            case 1:
                text.insert(place, SIGNS.charAt(random.nextInt(SIGNS.length())));
                break;
            case 2:
                text.deleteCharAt(place);
                break;
            case 3:
                text.insert(place, WORDS[random.nextInt(WORDS.length)]);
                break;
            default:
                text.setLength(place);
        }
    }
}
