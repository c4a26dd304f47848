import java.util.Random;

/** Texts by chance: whole ones, and ones with a sign put in, taken out or changed. */
final class RandomTexts {
    private static final String SIGNS = "sdflpwmcxver;y:?|&!()=<>+-*/[]vdpmrn0123456789 \t" + (char) 255;
    private final Random random;

    RandomTexts(Random random) {
        this.random = random;
    }

    String ride() {
        StringBuilder text = new StringBuilder();
        int length = 20;
        if (random.nextInt(4) > 0) {
            length = 5 + random.nextInt(26);
            text.append("sl").append(length);
            item(text, "p", 1, 5);
            item(text, "w", 1, 20);
            item(text, "m", 0, 9);
            item(text, "c", 0, 99);
        }
        int men = 1 + random.nextInt(6);
        for (int k = 0; k < men; k++) {
            text.append(text.length() > 0 ? ";d" : "d");
            item(text, "x", 0, length);
            item(text, "v", 0, 9);
            item(text, "e", 0, random.nextInt(3) == 0 ? 0 : 9);
            item(text, "r", 0, 9);
        }
        int fords = random.nextInt(6);
        int from = random.nextInt(3);
        for (int k = 0; k < fords && from <= length; k++) {
            text.append(";fx").append(from);
            item(text, "d", 0, 3);
            from += 1 + random.nextInt(6);
        }
        return blanks(text.toString());
    }

    private void item(StringBuilder text, String letter, int least, int most) {
        if (random.nextInt(4) > 0) {
            text.append(letter).append(least + random.nextInt(most - least + 1));
        }
    }

    String law() {
        for (int tries = 0; tries < 100; tries++) {
            StringBuilder text = new StringBuilder();
            int clauses = 1 + random.nextInt(4);
            for (int k = 0; k < clauses; k++) {
                text.append(k > 0 ? ";y:" : "y:");
                if (random.nextInt(3) > 0) {
                    condition(text, 0);
                    text.append('?');
                }
                sum(text, 0);
            }
            String law = blanks(text.toString());
            if (law.length() <= 240) {
                return law;
            }
        }
        return "y:v";
    }

    private void condition(StringBuilder text, int depth) {
        unit(text, depth);
        while (random.nextInt(3) == 0) {
            text.append("|&".charAt(random.nextInt(2)));
            unit(text, depth);
        }
    }

    private void unit(StringBuilder text, int depth) {
        int kind = random.nextInt(4);
        if (kind == 0 && depth < 6) {
            text.append('!');
            unit(text, depth + 1);
        } else if (kind == 1 && depth < 6) {
            text.append('(');
            condition(text, depth + 1);
            text.append(')');
        } else {
            sum(text, depth);
            text.append("=<>".charAt(random.nextInt(3)));
            sum(text, depth);
        }
    }

    private void sum(StringBuilder text, int depth) {
        atom(text, depth);
        while (random.nextInt(3) == 0) {
            text.append("+-*/".charAt(random.nextInt(4)));
            atom(text, depth);
        }
    }

    private void atom(StringBuilder text, int depth) {
        int kind = random.nextInt(8);
        if (kind == 0 && depth < 6) {
            text.append('[');
            sum(text, depth + 1);
            text.append(']');
        } else if (kind < 4) {
            text.append(random.nextInt(5) == 0 ? random.nextInt(10000) : random.nextInt(10));
        } else {
            text.append("vvddpmrn".charAt(random.nextInt(8)));
        }
    }

    private String blanks(String text) {
        if (random.nextInt(4) > 0) {
            return text;
        }
        StringBuilder out = new StringBuilder();
        for (int k = 0; k <= text.length(); k++) {
            boolean inNumber = k > 0 && k < text.length()
                && Character.isDigit(text.charAt(k)) && Character.isDigit(text.charAt(k - 1));
            if (!inNumber && random.nextInt(5) == 0) {
                out.append(' ');
            }
            if (k < text.length()) {
                out.append(text.charAt(k));
            }
        }
        return out.length() <= 240 ? out.toString() : text;
    }

    String broken(String text) {
        StringBuilder out = new StringBuilder(text);
        int changes = 1 + random.nextInt(2);
        for (int k = 0; k < changes && out.length() > 0; k++) {
            int at = random.nextInt(out.length());
            char sign = SIGNS.charAt(random.nextInt(SIGNS.length()));
            switch (random.nextInt(4)) {
                case 0: out.insert(at, sign); break;
                case 1: out.deleteCharAt(at); break;
                case 2: out.setCharAt(at, sign); break;
                default: out.setLength(at); break;
            }
        }
        if (out.length() > 240) {
            out.setLength(240);
        }
        return out.toString();
    }
}
