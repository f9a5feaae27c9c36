import java.util.TreeMap;
import java.util.function.Supplier;

/** Long runs of calls, drawn by a fixed rule, each answered by the class and by the model. */
public final class RandomRunsTest {
    private static final int RUNS = 600;
    private static final int CALLS = 512;
    private static final String KINDS = "gwudsc";
    private static final String[] METHODS = {
        "addDevice", "trust", "trust", "addPerson", "logIn", "logIn", "logIn", "setRule", "isPermitted", "generate",
        "generate", "generate", "derive", "derive", "derive", "rotate", "rotate", "tighten", "flags", "stage", "has",
        "destroy", "zeroise", "follow", "follow", "follow", "wrap", "wrap", "wrap", "wrap", "unwrap",
        "unwrap", "unwrap", "canReach", "canReach", "canReach", "share", "share", "card", "card", "falsify",
        "recover", "recover", "recover", "encipher", "encipher", "cipher", "read", "read", "renew", "renew",
        "advance", "advance", "acts", "actAt", "personsAt", "head", "activeShare", "meanCopies", "isSound",
    };

    private final TreeMap<String, Integer> answered = new TreeMap<>();
    private long state;
    private int kindOfRun;
    private Model model;

    private int draw(int least, int most) {
        state = state * 6364136223846793005L + 1442695040888963407L;
        return least >= most ? least : least + (int) ((state >>> 33) % (most - least + 1));
    }

    /** A number that is in range most times. */
    private int near(int least, int most) {
        int chance = draw(0, 59);
        return chance == 0 ? least - 1 : chance == 1 ? most + 1 : draw(least, most);
    }

    private int device() {
        return near(0, 2 + kindOfRun % 2);
    }

    private int key() {
        return near(0, model.keyCount() - 1);
    }

    private int wrapNumber() {
        return near(0, model.wrapCount() - 1);
    }

    private int message() {
        return near(0, model.messageCount() - 1);
    }

    private int act() {
        return near(0, model.acts() - 1);
    }

    private int person() {
        return near(0, draw(2, 7));
    }

    /** In half of the runs most persons gather at device 0. */
    private int place() {
        int chance = draw(0, 9);
        return chance == 0 ? -1 : kindOfRun % 2 == 0 && chance < 8 ? 0 : device();
    }

    private char kind() {
        return draw(0, 40) == 0 ? 'x' : KINDS.charAt(draw(0, 5));
    }

    private int flagSum() {
        return draw(0, 2) > 0 ? 15 : near(0, 15);
    }

    private int many() {
        return draw(0, 3) > 0 ? draw(0, 1) : near(0, 8);
    }

    private int role() {
        return draw(0, 1) == 0 ? -1 : near(-1, 2);
    }

    /** A third of the runs go slowly, so that keys are alive while there are many wraps and messages. */
    private int days() {
        return kindOfRun % 3 == 0 ? near(1, 5) : kindOfRun % 3 == 1 ? near(1, 30) : near(300, 500);
    }

    private int life() {
        return draw(0, 2) == 0 ? near(1, 40) : near(1, 500);
    }

    private void call(Keyceremony x, Model m, String method) {
        switch (method) {
            case "addDevice" -> same(method, x::addDevice, m::addDevice);
            case "trust" -> trust(x, m, device(), device(), draw(0, 4) > 0);
            case "addPerson" -> one(method, near(0, 2), x::addPerson, m::addPerson);
            case "logIn" -> two(method, person(), place(), x::logIn, m::logIn);
            case "setRule" -> setRule(x, m, kind(), many(), role());
            case "isPermitted" -> isPermitted(x, m, kind(), device());
            case "generate" -> generate(x, m, device(), near(1, 3), flagSum(), life());
            case "derive" -> derive(x, m, device(), key(), draw(0, 9) == 0 ? near(0, 99) : draw(0, 1));
            case "rotate" -> two(method, device(), key(), x::rotate, m::rotate);
            case "tighten" -> two(method, key(), flagSum(), x::tighten, m::tighten);
            case "flags" -> one(method, key(), x::flags, m::flags);
            case "stage" -> one(method, key(), x::stage, m::stage);
            case "has" -> two(method, device(), key(), x::has, m::has);
            case "destroy" -> two(method, draw(0, 1) == 0 ? 9 : device(), key(), x::destroy, m::destroy);
            case "zeroise" -> one(method, draw(0, 9) > 0 ? 9 : device(), x::zeroise, m::zeroise);
            case "follow" -> two(method, device(), device(), x::follow, m::follow);
            case "wrap" -> wrap(x, m, device(), key(), key());
            case "unwrap" -> two(method, device(), wrapNumber(), x::unwrap, m::unwrap);
            case "canReach" -> two(method, key(), device(), x::canReach, m::canReach);
            case "share" -> share(x, m, device(), key(), near(2, 4));
            case "card" -> two(method, person(), key(), x::card, m::card);
            case "falsify" -> falsify(x, m, person(), key(), near(0, 250));
            case "recover" -> two(method, device(), key(), x::recover, m::recover);
            case "encipher" -> encipher(x, m, device(), key(), near(0, 250));
            case "cipher" -> one(method, message(), x::cipher, m::cipher);
            case "read" -> two(method, device(), message(), x::read, m::read);
            case "renew" -> two(method, device(), message(), x::renew, m::renew);
            case "advance" -> one(method, days(), x::advance, m::advance);
            case "acts" -> same(method, x::acts, m::acts);
            case "actAt" -> one(method, act(), x::actAt, m::actAt);
            case "personsAt" -> one(method, act(), x::personsAt, m::personsAt);
            case "head" -> same(method, x::head, m::head);
            case "activeShare" -> same(method, x::activeShare, m::activeShare);
            case "meanCopies" -> same(method, x::meanCopies, m::meanCopies);
            default -> same(method, x::isSound, m::isSound);
        }
    }

    private interface One {
        Object of(int a);
    }

    private interface Two {
        Object of(int a, int b);
    }

    private void one(String method, int a, One got, One want) {
        same(method + "(" + a + ")", () -> got.of(a), () -> want.of(a));
    }

    private void two(String method, int a, int b, Two got, Two want) {
        same(method + "(" + a + ", " + b + ")", () -> got.of(a, b), () -> want.of(a, b));
    }

    private void trust(Keyceremony x, Model m, int a, int b, boolean isOn) {
        same("trust(" + a + ", " + b + ", " + isOn + ")", () -> x.trust(a, b, isOn), () -> m.trust(a, b, isOn));
    }

    private void setRule(Keyceremony x, Model m, char kind, int a, int b) {
        same("setRule(" + kind + ", " + a + ", " + b + ")", () -> x.setRule(kind, a, b), () -> m.setRule(kind, a, b));
    }

    private void isPermitted(Keyceremony x, Model m, char kind, int a) {
        same("isPermitted(" + kind + ", " + a + ")", () -> x.isPermitted(kind, a), () -> m.isPermitted(kind, a));
    }

    private void generate(Keyceremony x, Model m, int a, int b, int c, int d) {
        int e = life() - 1;
        same("generate(" + a + ", " + b + ", " + c + ", " + d + ", " + e + ")", () -> x.generate(a, b, c, d, e),
                () -> m.generate(a, b, c, d, e));
    }

    private void derive(Keyceremony x, Model m, int a, int b, int c) {
        int d = flagSum();
        same("derive(" + a + ", " + b + ", " + c + ", " + d + ")", () -> x.derive(a, b, c, d), () -> m.derive(a, b, c, d));
    }

    private void wrap(Keyceremony x, Model m, int a, int b, int c) {
        same("wrap(" + a + ", " + b + ", " + c + ")", () -> x.wrap(a, b, c), () -> m.wrap(a, b, c));
    }

    private void share(Keyceremony x, Model m, int a, int b, int c) {
        int d = draw(0, 2) == 0 ? near(0, 255) : 255 >> draw(0, 5);
        same("share(" + a + ", " + b + ", " + c + ", " + d + ")", () -> x.share(a, b, c, d), () -> m.share(a, b, c, d));
    }

    private void falsify(Keyceremony x, Model m, int a, int b, int c) {
        same("falsify(" + a + ", " + b + ", " + c + ")", () -> x.falsify(a, b, c), () -> m.falsify(a, b, c));
    }

    private void encipher(Keyceremony x, Model m, int a, int b, int c) {
        same("encipher(" + a + ", " + b + ", " + c + ")", () -> x.encipher(a, b, c), () -> m.encipher(a, b, c));
    }

    private void same(String call, Supplier<Object> got, Supplier<Object> want) {
        String answer = answer(got);
        Story.due(call, answer, answer(want));
        String method = call.indexOf('(') < 0 ? call : call.substring(0, call.indexOf('('));
        boolean isCounted = answer.startsWith("throws") || answer.equals("true") || answer.equals("false");
        answered.merge(method + (isCounted ? " " + answer : " answered"), 1, Integer::sum);
    }

    private static String answer(Supplier<Object> call) {
        try {
            return String.valueOf(call.get());
        } catch (RuntimeException e) {
            return "throws " + e.getClass().getSimpleName();
        }
    }

    private void run(int number) {
        state = number * 7919L + 17;
        kindOfRun = number;
        Keyceremony x = new Keyceremony();
        Model m = new Model();
        model = m;
        for (int first = 0; first < 3; first++) {
            call(x, m, "addDevice");
            call(x, m, "addPerson");
            call(x, m, "addPerson");
        }
        for (int calls = 9; calls < CALLS; calls++) {
            call(x, m, METHODS[draw(0, METHODS.length - 1)]);
        }
    }

    public static void main(String[] args) {
        RandomRunsTest test = new RandomRunsTest();
        for (int number = 0; number < RUNS; number++) {
            test.run(number);
        }
        if (args.length > 0) {
            test.answered.forEach((answer, times) -> System.out.println(answer + ": " + times));
        }
        Story.end("RandomRunsTest");
    }
}
