import java.util.ArrayList;
import java.util.List;

/**
 * Tells all that a house answers behind some calls, as a text. What no answer shows (the day, places, rules,
 * trust, destroyed copies, what is behind a key) shows in what later calls answer. Each part is asked of a
 * house of its own, made by the same calls, so that no house is used for more than 512 calls.
 */
final class Probe {
    private static final int MOST_CALLS = 512;
    private static final int DAYS_SEEN = 60;
    private static final int DAYS_A_HOUSE = 12;
    private static final char[] KINDS = {'g', 'w', 'u', 'd', 's', 'c'};
    private static final String ACTS = " generate derive rotate destroy zeroise follow wrap unwrap share recover ";

    private final List<Call> run;
    private final Call refused;
    private final StringBuilder text = new StringBuilder();
    private int devices = 0;
    private int persons = 0;
    private int keys = 0;
    private int wraps = 0;
    private int messages = 0;
    private int acts = 0;

    private Probe(List<Call> run, Call refused) {
        this.run = run;
        this.refused = refused;
    }

    /** The call that is refused may be null, for none. */
    static String behind(List<Call> run, Call refused) {
        Probe probe = new Probe(run, refused);
        probe.count();
        probe.seen();
        probe.seenOrThrown();
        probe.people();
        probe.time();
        probe.copies();
        probe.wrapsToCome();
        probe.cards();
        probe.keysBehind();
        probe.messagesBehind();
        return probe.text.toString();
    }

    /** What there is by the answers of the run; a refused call must not add to it. */
    private void count() {
        Keyceremony house = new Keyceremony();
        for (Call call : run) {
            String answer = call.on(house);
            acts += ACTS.contains(" " + call.name + " ") ? 1 : 0;
            switch (call.name) {
                case "addDevice" -> devices++;
                case "addPerson" -> persons++;
                case "generate", "derive", "rotate" -> keys = Math.max(keys, Integer.parseInt(answer) + 1);
                case "wrap" -> wraps++;
                case "encipher" -> messages++;
                default -> { }
            }
        }
    }

    private Keyceremony house() {
        Keyceremony house = new Keyceremony();
        for (Call call : run) {
            call.on(house);
        }
        if (refused != null) {
            refused.on(house);
        }
        return house;
    }

    /** One call less than there is room for in a run, as a refused call may stand before it. */
    private int room() {
        return Math.max(0, MOST_CALLS - 1 - run.size());
    }

    /** Questions that change nothing go to as many houses as it takes. */
    private void askAll(List<String> questions) {
        for (int from = 0; from < questions.size() && room() > 0; from += room()) {
            ask(questions.subList(from, Math.min(questions.size(), from + room())));
        }
    }

    /** Calls that build on each other go to one house, as far as there is room. */
    private void ask(List<String> questions) {
        Keyceremony house = house();
        for (String question : questions.subList(0, Math.min(questions.size(), room()))) {
            text.append(question).append(" = ").append(new Call(question).on(house)).append('\n');
        }
    }

    private static void add(List<String> questions, String form, Object... numbers) {
        questions.add(String.format(form, numbers));
    }

    private void seen() {
        List<String> questions = new ArrayList<>(List.of("acts()", "head()", "activeShare()", "meanCopies()", "isSound()"));
        for (int device = 0; device < devices; device++) {
            for (char kind : KINDS) {
                add(questions, "isPermitted(%c, %d)", kind, device);
            }
        }
        for (int key = 0; key < keys; key++) {
            add(questions, "flags(%d)", key);
            add(questions, "stage(%d)", key);
            for (int device = 0; device < devices; device++) {
                add(questions, "has(%d, %d)", device, key);
                add(questions, "canReach(%d, %d)", key, device);
            }
        }
        for (int message = 0; message < messages; message++) {
            add(questions, "cipher(%d)", message);
        }
        for (int act = 0; act < acts; act++) {
            add(questions, "actAt(%d)", act);
            add(questions, "personsAt(%d)", act);
        }
        askAll(questions);
    }

    /** Questions of which some throw, when all is well. */
    private void seenOrThrown() {
        List<String> questions = new ArrayList<>();
        for (int person = 0; person < persons; person++) {
            for (int key = 0; key < keys; key++) {
                add(questions, "card(%d, %d)", person, key);
            }
        }
        for (int device = 0; device < devices; device++) {
            for (int message = 0; message < messages; message++) {
                add(questions, "read(%d, %d)", device, message);
            }
        }
        add(questions, "flags(%d)", keys);
        add(questions, "cipher(%d)", messages);
        add(questions, "actAt(%d)", acts);
        add(questions, "isPermitted(g, %d)", devices);
        add(questions, "unwrap(0, %d)", wraps);
        askAll(questions);
    }

    private List<String> withoutRules() {
        List<String> questions = new ArrayList<>();
        for (char kind : KINDS) {
            add(questions, "setRule(%c, 0, -1)", kind);
        }
        return questions;
    }

    private static void permitted(List<String> questions) {
        for (char kind : KINDS) {
            add(questions, "isPermitted(%c, 0)", kind);
        }
    }

    /** Who is where, and the rules: each person alone at a device, then all of them, one after the other. */
    private void people() {
        List<String> questions = new ArrayList<>();
        for (int person = 0; person < persons; person++) {
            add(questions, "logIn(%d, -1)", person);
        }
        for (int person = 0; person < persons; person++) {
            add(questions, "logIn(%d, 0)", person);
            permitted(questions);
            add(questions, "logIn(%d, -1)", person);
        }
        for (int person = 0; person < persons; person++) {
            add(questions, "logIn(%d, 0)", person);
            permitted(questions);
        }
        ask(questions);
        roles();
        questions = withoutRules();
        for (int more = 0; more < 9; more++) {
            questions.add("addPerson(0)");
        }
        for (int more = 0; more < 5; more++) {
            questions.add("addDevice()");
        }
        for (int device = 0; device < 4; device++) {
            for (int other = 0; other < device; other++) {
                add(questions, "trust(%d, %d, true)", other, device);
            }
        }
        ask(questions);
    }

    private void roles() {
        List<String> questions = new ArrayList<>();
        for (int person = 0; person < persons; person++) {
            add(questions, "logIn(%d, -1)", person);
        }
        for (int person = 0; person < persons; person++) {
            add(questions, "logIn(%d, 0)", person);
            for (int role = 0; role < 3; role++) {
                add(questions, "setRule(g, 0, %d)", role);
                add(questions, "isPermitted(g, 0)");
            }
            add(questions, "logIn(%d, -1)", person);
        }
        ask(questions);
    }

    /** The stages of keys on each of the days to come, a house for each part of them. */
    private void stages(List<String> before, int many) {
        for (int first = 0; first < DAYS_SEEN; first += DAYS_A_HOUSE) {
            List<String> questions = new ArrayList<>(before);
            if (first > 0) {
                add(questions, "advance(%d)", first);
            }
            for (int days = 0; days < DAYS_A_HOUSE; days++) {
                for (int key = 0; key < many; key++) {
                    add(questions, "stage(%d)", key);
                }
                questions.add("advance(1)");
            }
            ask(questions);
        }
    }

    private void time() {
        ask(List.of("advance(500)"));
        stages(List.of(), keys);
    }

    private void held(List<String> questions) {
        for (int key = 0; key < keys; key++) {
            add(questions, "flags(%d)", key);
            for (int device = 0; device < devices; device++) {
                add(questions, "has(%d, %d)", device, key);
            }
        }
    }

    private void copies() {
        List<String> questions = withoutRules();
        for (int device = 0; device < devices; device++) {
            for (int wrap = 0; wrap < wraps; wrap++) {
                add(questions, "unwrap(%d, %d)", device, wrap);
            }
        }
        held(questions);
        ask(questions);
        questions = withoutRules();
        for (int device = 0; device < devices; device++) {
            for (int other = 0; other < devices; other++) {
                add(questions, "follow(%d, %d)", device, other);
            }
        }
        held(questions);
        for (int device = 0; device < devices; device++) {
            add(questions, "trust(%d, %d, true)", device, (device + 1) % devices);
            add(questions, "follow(%d, %d)", device, (device + 1) % devices);
            add(questions, "zeroise(%d)", device);
        }
        ask(questions);
    }

    private void wrapsToCome() {
        List<String> questions = withoutRules();
        for (int device = 0; device < devices; device++) {
            for (int by = 0; by < keys; by++) {
                for (int key = 0; key < keys; key++) {
                    add(questions, "wrap(%d, %d, %d)", device, by, key);
                }
            }
        }
        ask(questions);
    }

    private void cards() {
        List<String> questions = withoutRules();
        for (int device = 0; device < devices; device++) {
            for (int person = 0; person < persons; person++) {
                add(questions, "logIn(%d, %d)", person, device);
            }
            for (int key = 0; key < keys; key++) {
                add(questions, "recover(%d, %d)", device, key);
            }
        }
        held(questions);
        ask(questions);
        questions = withoutRules();
        questions.add("addPerson(0)");
        questions.add("addPerson(0)");
        for (int device = 0; device < devices; device++) {
            for (int key = 0; key < keys; key++) {
                add(questions, "share(%d, %d, 2, 3)", device, key);
                add(questions, "card(0, %d)", key);
            }
        }
        ask(questions);
    }

    private void keysBehind() {
        List<String> questions = withoutRules();
        for (int device = 0; device < devices; device++) {
            for (int key = 0; key < keys; key++) {
                add(questions, "rotate(%d, %d)", device, key);
            }
        }
        stages(questions, Math.min(24, 2 * keys));
        questions = withoutRules();
        for (int device = 0; device < devices; device++) {
            for (int key = 0; key < keys; key++) {
                add(questions, "derive(%d, %d, 0, 15)", device, key);
                add(questions, "derive(%d, %d, 7, 15)", device, key);
            }
        }
        ask(questions);
    }

    private void messagesBehind() {
        List<String> questions = new ArrayList<>();
        for (int device = 0; device < devices; device++) {
            for (int message = 0; message < messages; message++) {
                add(questions, "renew(%d, %d)", device, message);
                add(questions, "cipher(%d)", message);
            }
        }
        for (int device = 0; device < devices; device++) {
            for (int key = 0; key < keys; key++) {
                add(questions, "encipher(%d, %d, 1)", device, key);
            }
        }
        add(questions, "cipher(%d)", messages);
        add(questions, "cipher(%d)", messages + 1);
        ask(questions);
    }
}
