import java.util.function.Supplier;

/** Tells all that a house answers, as a text: first by calls that change nothing, then by ones that do. */
final class Probe {
    private static final char[] KINDS = {'g', 'w', 'u', 'd', 's', 'c'};

    private Probe() {
    }

    static String all(Keyceremony house) {
        return seen(house) + changed(house);
    }

    static String answer(Supplier<Object> call) {
        try {
            return String.valueOf(call.get());
        } catch (RuntimeException e) {
            return "throws." + e.getClass().getSimpleName();
        }
    }

    static String seen(Keyceremony house) {
        StringBuilder text = new StringBuilder();
        for (int d = 0; d < 4; d++) {
            int device = d;
            for (char kind : KINDS) {
                add(text, () -> house.isPermitted(kind, device));
            }
            for (int k = 0; k < 24 && isKey(house, k); k++) {
                int key = k;
                add(text, () -> house.has(device, key));
                add(text, () -> house.canReach(key, device));
            }
        }
        for (int k = 0; k < 24 && isKey(house, k); k++) {
            int key = k;
            add(text, () -> house.flags(key));
            add(text, () -> house.stage(key));
            for (int p = 0; p < 8; p++) {
                int person = p;
                add(text, () -> house.card(person, key));
            }
        }
        for (int m = 0; m < 60 && isMessage(house, m); m++) {
            int message = m;
            add(text, () -> house.cipher(message));
        }
        text.append(figures(house));
        return text.toString();
    }

    static String figures(Keyceremony house) {
        StringBuilder text = new StringBuilder();
        add(text, house::acts);
        add(text, house::head);
        add(text, house::activeShare);
        add(text, house::meanCopies);
        add(text, house::isSound);
        return text.toString();
    }

    /** What is not seen shows in what the next acts answer: the day, places, rules, trust, destroyed copies. */
    static String changed(Keyceremony house) {
        StringBuilder text = new StringBuilder();
        for (char kind : KINDS) {
            add(text, () -> house.setRule(kind, 0, -1));
        }
        for (int k = 0; k < 24 && isKey(house, k); k++) {
            int key = k;
            add(text, () -> house.share(0, key, 2, 3));
            add(text, () -> house.card(0, key));
        }
        for (int d = 0; d < 4; d++) {
            int device = d;
            for (int p = 0; p < 60; p++) {
                int wrap = p;
                add(text, () -> house.unwrap(device, wrap));
            }
            for (int o = 0; o < 4; o++) {
                int other = o;
                add(text, () -> house.trust(device, other, true));
                add(text, () -> house.follow(device, other));
            }
        }
        for (int p = 0; p < 8; p++) {
            int person = p;
            add(text, () -> house.logIn(person, -1));
        }
        add(text, () -> house.generate(0, 1, 15, 1, 1));
        add(text, () -> house.encipher(0, 0, 0));
        add(text, () -> house.addPerson(0));
        add(text, house::addDevice);
        add(text, () -> house.advance(1));
        text.append(seen(house));
        return text.toString();
    }

    private static boolean isKey(Keyceremony house, int key) {
        return !answer(() -> house.flags(key)).startsWith("throws");
    }

    private static boolean isMessage(Keyceremony house, int message) {
        return !answer(() -> house.cipher(message)).startsWith("throws");
    }

    private static void add(StringBuilder text, Supplier<Object> call) {
        text.append(answer(call)).append(' ');
    }
}
