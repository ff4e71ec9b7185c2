import java.util.Random;

/** Random texts of rules, right ones and ones with something put in, taken out or changed. */
final class Texts {
    private static final String[] KINDS = {"house", "bride", "sad", "trouble", "farm", "lovell"};
    private static final String[] DEEDS = {"give", "hold", "send"};
    private static final String[] FACTS = {"night", "grief", "draws", "rain", "number"};
    private static final String[] ODD = {"(", ")", ";", "<", "=", ">", "not", "and", "or", "if", "hous", "houses", "12345",
        "00001", "9999", "0", " ", "A", "\t", "\n", "\u00e9", "\u0000", "give", "sad", "rain", "x"};
    private final Random chance;

    Texts(Random chance) {
        this.chance = chance;
    }

    private String one(String[] of) {
        return of[chance.nextInt(of.length)];
    }

    private String value() {
        if (chance.nextInt(3) > 0) {
            return one(FACTS);
        }
        return "" + chance.nextInt(chance.nextInt(5) == 0 ? 10000 : 10);
    }

    private String one(int open) {
        String nots = "";
        for (int i = chance.nextInt(6) - 3; i > 0; i--) {
            nots += "not ";
        }
        if (chance.nextInt(4) == 0 && open < 4) {
            return nots + "(" + any(open + 1) + ")";
        }
        String[] signs = {"<", "=", ">"};
        return nots + value() + one(signs) + value();
    }

    private String all(int open) {
        String s = one(open);
        while (chance.nextInt(4) == 0) {
            s += " and " + one(open);
        }
        return s;
    }

    private String any(int open) {
        String s = all(open);
        while (chance.nextInt(4) == 0) {
            s += " or " + all(open);
        }
        return s;
    }

    private String rule() {
        return one(KINDS) + (chance.nextInt(3) == 0 ? "" : " if " + any(0)) + " " + one(DEEDS) + ";";
    }

    String text() {
        StringBuilder s = new StringBuilder();
        int rules = 1 + chance.nextInt(chance.nextInt(4) == 0 ? 10 : 4);
        for (int i = 0; i < rules; i++) {
            String rule = chance.nextInt(6) == 0 ? one(KINDS) + " " + one(DEEDS) + ";" : rule();
            if (s.length() + rule.length() < 200) {
                s.append(rule);
            }
        }
        for (int i = chance.nextInt(4) - 1; i > 0 && s.length() > 0; i--) {
            int at = chance.nextInt(s.length());
            switch (chance.nextInt(3)) {
                case 0: s.insert(at, one(ODD)); break;
                case 1: s.deleteCharAt(at); break;
                default: s.setLength(at); break;
            }
        }
        return s.length() > 200 ? s.substring(0, 200) : s.toString();
    }
}
