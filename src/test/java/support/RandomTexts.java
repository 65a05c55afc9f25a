import java.util.Random;

/** Texts for traces, filters and speeds: mostly right ones, now and then with a sign changed. */
final class RandomTexts {
    private final Random random;

    RandomTexts(Random random) {
        this.random = random;
    }

    private int below(int n) {
        return random.nextInt(n);
    }

    /** A trace whose gaps keep near a step, with rounds in it. */
    String trace(int step, int most) {
        StringBuilder b = new StringBuilder();
        int parts = 1 + below(3);
        for (int i = 0; i < parts; i++) {
            items(b, step, 1 + below(3), 0);
        }
        return spoiled(cut(b, most));
    }

    private void items(StringBuilder b, int step, int many, int open) {
        for (int i = 0; i < many; i++) {
            if (open < 3 && below(4) == 0 || open == 3 && below(60) == 0) {
                b.append('(');
                items(b, step, 1 + below(2), open + 1);
                b.append(')').append((char) ('2' + below(open > 0 ? 2 : 4)));
            } else {
                b.append(gap(step)).append((char) ('a' + below(26)));
            }
        }
    }

    private int gap(int step) {
        switch (below(8)) {
            case 0: return 1 + below(999);
            case 1: return Math.max(1, Math.min(999, step * 2));
            case 2: return Math.max(1, Math.min(999, step / 2));
            case 3: return Math.max(1, Math.min(999, step + below(7) - 3));
            case 4: return Math.max(1, below(12));
            default: return Math.max(1, Math.min(999, step));
        }
    }

    String filters() {
        StringBuilder b = new StringBuilder();
        int steps = below(6) == 0 ? below(12) : below(4);
        for (int i = 0; i < steps; i++) {
            b.append(i == 0 ? "" : ";").append("abmkrwxy".charAt(below(8)));
            b.append(below(3) == 0 ? below(100) : below(12));
        }
        return spoiled(cut(b, 60));
    }

    String speeds() {
        StringBuilder b = new StringBuilder();
        int spans = below(6) == 0 ? below(12) : below(4);
        int tick = 0;
        for (int i = 0; i < spans; i++) {
            tick += below(10) == 0 ? 0 : below(400);
            b.append(i == 0 ? "" : ";").append(tick).append(':');
            b.append(below(20) == 0 ? below(6000) : 60 + below(500));
        }
        return spoiled(cut(b, 100));
    }

    private static String cut(StringBuilder b, int most) {
        return b.length() <= most ? b.toString() : b.substring(0, most);
    }

    private String spoiled(String text) {
        if (text.isEmpty() || below(5) != 0) {
            return text;
        }
        String signs = "()0123456789;:az~mkx";
        int place = below(text.length());
        char sign = below(8) == 0 ? (char) below(256) : signs.charAt(below(signs.length()));
        int rest = below(3) == 0 ? place : Math.min(text.length(), place + below(2));
        return text.substring(0, place) + sign + text.substring(rest);
    }
}
