import java.util.ArrayList;
import java.util.List;
import java.util.Random;

/** Makes texts of wholes, right ones and slightly wrong ones; the same seeds make the same texts. */
final class Texts {
    private final Random random;
    private int room;

    Texts(Random random) {
        this.random = random;
    }

    /** A text that mostly is right; a wrong one now and then. */
    String any() {
        String text = right();
        while (text.length() > 240) {
            text = right();
        }
        return random.nextInt(6) == 0 ? spoiled(text) : text;
    }

    String right() {
        room = 20 + random.nextInt(200);
        List<Integer> roles = new ArrayList<>();
        int count = 2 + random.nextInt(random.nextInt(3) == 0 ? 5 : 2);
        while (roles.size() < count) {
            int role = random.nextInt(6);
            if (!roles.contains(role)) {
                roles.add(role);
            }
        }
        boolean informing = random.nextInt(3) != 0;
        return whole(roles, new ArrayList<>(), new ArrayList<>(), 0, informing ? roles.get(0) : -1);
    }

    /** A text of the roles a and b alone. */
    String ofTwo() {
        room = 20 + random.nextInt(100);
        List<Integer> roles = new ArrayList<>(List.of(0, 1));
        return whole(roles, new ArrayList<>(), new ArrayList<>(), 0, -1);
    }

    /** The same text with another role in place of b. */
    static String withoutB(String text, char role) {
        StringBuilder other = new StringBuilder(text);
        for (int at = 0; at < text.length(); at++) {
            boolean stands = text.startsWith("b>", at) || at > 0 && text.startsWith(">b", at - 1);
            other.setCharAt(at, stands ? role : text.charAt(at));
        }
        return other.toString();
    }

    /** One to three bytes of a text are different, away, or more. */
    String spoiled(String text) {
        StringBuilder wrong = new StringBuilder(text);
        String signs = "abcdefxyz0123456789>{},:()| \n?lopend";
        for (int times = 1 + random.nextInt(3); times > 0 && wrong.length() > 0; times--) {
            int at = random.nextInt(wrong.length());
            char sign = signs.charAt(random.nextInt(signs.length()));
            switch (random.nextInt(4)) {
                case 0 -> wrong.deleteCharAt(at);
                case 1 -> wrong.setCharAt(at, sign);
                case 2 -> wrong.setLength(at);
                default -> wrong.insert(at, sign);
            }
        }
        wrong.setLength(Math.min(wrong.length(), 240));
        return wrong.toString();
    }

    /** Another text of the same kind: a kind, a leaf, or who sends is different at some places. */
    String variant(String text) {
        StringBuilder other = new StringBuilder(text);
        for (int times = 1 + random.nextInt(2); times > 0; times--) {
            int at = random.nextInt(other.length());
            int tries = 0;
            while (!isChangeable(other, at) && tries < 300) {
                at = (at + 1) % other.length();
                tries++;
            }
            change(other, at);
        }
        return other.length() <= 240 ? other.toString() : text;
    }

    private static boolean isChangeable(StringBuilder text, int at) {
        char sign = text.charAt(at);
        return sign >= '0' && sign <= '9' || sign == '}' || at >= 4 && text.substring(0, at + 1).endsWith(":end");
    }

    private void change(StringBuilder text, int at) {
        char sign = text.charAt(at);
        if (sign >= '0' && sign <= '9') {
            text.setCharAt(at, (char) ('0' + random.nextInt(10)));
        } else if (sign == '}') {
            text.insert(at, "," + random.nextInt(10) + ":end");
        } else if (sign == 'd' && at >= 4) {
            text.replace(at - 2, at + 1, random.nextBoolean() ? "x" : "a>b{" + random.nextInt(10) + ":end}");
        }
    }

    private String blank() {
        return random.nextInt(40) == 0 ? random.nextBoolean() ? " " : "\n" : "";
    }

    /** Names of loops that may be used stand in ready, others that are open in bare. */
    private String whole(List<Integer> roles, List<String> ready, List<String> bare, int open, int knower) {
        room -= 4;
        int what = random.nextInt(20);
        if (room < 10 || open > 10 || roles.size() < 2 || what == 0) {
            return blank() + leaf(ready);
        }
        if (what < 3 && roles.size() >= 4) {
            return beside(roles, open);
        }
        if (what < 7) {
            for (String name : new String[] {"x", "y", "z"}) {
                if (!ready.contains(name) && !bare.contains(name)) {
                    List<String> more = new ArrayList<>(bare);
                    more.add(name);
                    room -= 6;
                    return blank() + "loop " + name + " " + whole(roles, ready, more, open + 1, knower);
                }
            }
        }
        return letter(roles, ready, bare, open, knower);
    }

    private String leaf(List<String> ready) {
        if (!ready.isEmpty() && random.nextInt(3) != 0) {
            return ready.get(random.nextInt(ready.size()));
        }
        return "end";
    }

    private String beside(List<Integer> roles, int open) {
        int cut = 1 + random.nextInt(roles.size() - 1);
        int again = random.nextInt(12) == 0 ? cut - 1 : cut;
        List<Integer> left = new ArrayList<>(roles.subList(0, cut));
        List<Integer> right = new ArrayList<>(roles.subList(again, roles.size()));
        String text = "(" + whole(left, List.of(), List.of(), open + 1, left.get(0));
        return text + "|" + whole(right, List.of(), List.of(), open + 1, right.get(0)) + ")" + blank();
    }

    private String letter(List<Integer> roles, List<String> ready, List<String> bare, int open, int knower) {
        List<String> all = new ArrayList<>(ready);
        all.addAll(bare);
        boolean informing = knower >= 0 && roles.contains(knower);
        int from = informing ? knower : roles.get(random.nextInt(roles.size()));
        int to = from;
        while (to == from) {
            to = roles.get(random.nextInt(roles.size()));
        }
        StringBuilder text = new StringBuilder();
        text.append((char) ('a' + from)).append('>').append((char) ('a' + to)).append('{');
        int branches = random.nextInt(5) == 0 ? 3 : 1 + random.nextInt(2);
        int kind = random.nextInt(4);
        room -= 5 + 4 * branches;
        for (int branch = 0; branch < branches; branch++) {
            text.append(branch == 0 ? "" : ",").append(blank()).append(kind).append(':');
            text.append(whole(roles, all, List.of(), open + 1, informing ? to : -1));
            kind = (kind + 1 + random.nextInt(3)) % 10;
        }
        return text.append('}').append(blank()).toString();
    }
}
