import java.math.BigInteger;
import java.util.ArrayList;
import java.util.HashSet;
import java.util.List;
import java.util.NoSuchElementException;
import java.util.Set;
import java.util.TreeMap;
import java.util.TreeSet;

/**
 * The document written a second time, by sets and lists and without thought of speed,
 * so that slips of the one writing show against the other.
 */
final class Model {
    private static final class Device {
        final Set<Integer> copies = new TreeSet<>();
        final Set<Integer> destroyed = new TreeSet<>();
    }

    private static final class Person {
        final int role;
        int place = -1;

        Person(int role) {
            this.role = role;
        }
    }

    private static final class Key {
        int strength;
        int flags;
        int life;
        int reading;
        int activeFrom;
        int restsFrom = -1;
        int secret;
        Key parent;
        int label;
        Key next;
        int number;
        int sharings;
        int needed = 99;
        TreeMap<Integer, Integer> cards = new TreeMap<>();

        char stage(int day) {
            int rests = restsFrom >= 0 ? restsFrom : activeFrom + life;
            return day < rests ? 'a' : day < rests + reading ? 'r' : 'x';
        }
    }

    private record Wrap(Key by, Key key, int flags) {
    }

    private static final class Message {
        Key key;
        int cipher;
    }

    private record Act(char kind, int device, int number, int persons, int day) {
    }

    private final List<Device> devices = new ArrayList<>();
    private final List<Person> persons = new ArrayList<>();
    private final List<Key> keys = new ArrayList<>();
    private final List<Wrap> wraps = new ArrayList<>();
    private final List<Message> messages = new ArrayList<>();
    private final List<Act> log = new ArrayList<>();
    private final Set<Set<Integer>> trusting = new HashSet<>();
    private final TreeMap<Character, int[]> rules = new TreeMap<>();
    private int day = 0;

    Model() {
        for (char kind : "gwudsc".toCharArray()) {
            rules.put(kind, new int[] {0, -1});
        }
    }

    int keyCount() {
        return keys.size();
    }

    int wrapCount() {
        return wraps.size();
    }

    int messageCount() {
        return messages.size();
    }

    private static void index(boolean isThere) {
        if (!isThere) {
            throw new IndexOutOfBoundsException();
        }
    }

    private static void argument(boolean isRight) {
        if (!isRight) {
            throw new IllegalArgumentException();
        }
    }

    private static void can(boolean isSo) {
        if (!isSo) {
            throw new UnsupportedOperationException();
        }
    }

    private static void state(boolean isRight) {
        if (!isRight) {
            throw new IllegalStateException();
        }
    }

    private static void element(boolean isThere) {
        if (!isThere) {
            throw new NoSuchElementException();
        }
    }

    private static boolean within(int number, int least, int most) {
        return number >= least && number <= most;
    }

    private boolean isDevice(int device) {
        return within(device, 0, devices.size() - 1);
    }

    private boolean isKey(int key) {
        return within(key, 0, keys.size() - 1);
    }

    private boolean isPerson(int person) {
        return within(person, 0, persons.size() - 1);
    }

    private List<Integer> there(int device) {
        List<Integer> found = new ArrayList<>();
        for (int p = 0; p < persons.size(); p++) {
            if (persons.get(p).place == device) {
                found.add(p);
            }
        }
        return found;
    }

    private boolean allows(char kind, int device) {
        int[] rule = rules.get(kind);
        boolean isRoleThere = rule[1] == -1 || there(device).stream().anyMatch(p -> persons.get(p).role == rule[1]);
        return there(device).size() >= rule[0] && isRoleThere;
    }

    private void tell(char kind, int device, int number) {
        int sum = there(device).stream().mapToInt(p -> 1 << p).sum();
        log.add(new Act(kind, device, number, sum, day));
    }

    int addDevice() {
        state(devices.size() < 4);
        devices.add(new Device());
        return devices.size() - 1;
    }

    boolean trust(int device, int other, boolean isOn) {
        index(isDevice(device) && isDevice(other));
        argument(device != other);
        Set<Integer> pair = Set.of(device, other);
        boolean before = trusting.contains(pair);
        if (isOn) {
            trusting.add(pair);
        } else {
            trusting.remove(pair);
        }
        return before;
    }

    int addPerson(int role) {
        argument(within(role, 0, 2));
        state(persons.size() < 8);
        persons.add(new Person(role));
        return persons.size() - 1;
    }

    int logIn(int person, int device) {
        index(isPerson(person) && (device == -1 || isDevice(device)));
        int before = persons.get(person).place;
        persons.get(person).place = device;
        return before;
    }

    int setRule(char kind, int many, int role) {
        argument(rules.containsKey(kind) && within(many, 0, 8) && within(role, -1, 2));
        return rules.put(kind, new int[] {many, role})[0];
    }

    boolean isPermitted(char kind, int device) {
        index(isDevice(device));
        argument(rules.containsKey(kind));
        return allows(kind, device);
    }

    private Key newKey(int device, int strength, int flags, int life, int reading) {
        Key key = new Key();
        key.number = keys.size();
        key.strength = strength;
        key.flags = flags;
        key.life = life;
        key.reading = reading;
        key.activeFrom = day;
        int n = key.number;
        key.secret = (7 * n * n + 13 * n + 5 * strength + 3 * device) % 251;
        keys.add(key);
        return key;
    }

    int generate(int device, int strength, int flags, int life, int reading) {
        index(isDevice(device));
        argument(within(strength, 1, 3) && within(flags, 0, 15) && within(life, 1, 500) && within(reading, 0, 500));
        state(allows('g', device) && keys.size() < 24);
        Key key = newKey(device, strength, flags, life, reading);
        devices.get(device).copies.add(key.number);
        tell('g', device, key.number);
        return key.number;
    }

    int derive(int device, int parent, int label, int flags) {
        index(isDevice(device) && isKey(parent));
        argument(within(label, 0, 99) && within(flags, 0, 15));
        Device at = devices.get(device);
        Key from = keys.get(parent);
        Key found = keys.stream().filter(k -> k.parent == from && k.label == label).findFirst().orElse(null);
        can(at.copies.contains(parent) && from.stage(day) == 'a');
        can(found == null || !at.destroyed.contains(found.number));
        state(allows('g', device) && keys.size() < 24);
        if (found == null) {
            int daysLeft = from.activeFrom + from.life - day;
            found = newKey(device, from.strength, flags & from.flags, daysLeft, from.reading);
            found.secret = (from.secret * (label + 2) + 31) % 251;
            found.parent = from;
            found.label = label;
        }
        at.copies.add(found.number);
        tell('g', device, found.number);
        return found.number;
    }

    int rotate(int device, int key) {
        index(isDevice(device) && isKey(key));
        Key old = keys.get(key);
        can(devices.get(device).copies.contains(key) && old.stage(day) == 'a' && old.next == null);
        state(allows('g', device) && keys.size() < 24);
        old.next = newKey(device, old.strength, old.flags, old.life, old.reading);
        old.restsFrom = day;
        devices.get(device).copies.add(old.next.number);
        tell('g', device, old.next.number);
        return old.next.number;
    }

    int tighten(int key, int flags) {
        index(isKey(key));
        argument(within(flags, 0, 15));
        return keys.get(key).flags &= flags;
    }

    int flags(int key) {
        index(isKey(key));
        return keys.get(key).flags;
    }

    char stage(int key) {
        index(isKey(key));
        return keys.get(key).stage(day);
    }

    boolean has(int device, int key) {
        index(isDevice(device) && isKey(key));
        return devices.get(device).copies.contains(key);
    }

    int destroy(int device, int key) {
        index(isDevice(device) && isKey(key));
        can(has(device, key));
        state(allows('d', device));
        devices.get(device).copies.remove(key);
        devices.get(device).destroyed.add(key);
        tell('d', device, key);
        return (int) devices.stream().filter(d -> d.copies.contains(key)).count();
    }

    int zeroise(int device) {
        index(isDevice(device));
        state(allows('d', device));
        int had = devices.get(device).copies.size();
        devices.set(device, new Device());
        tell('d', device, -1);
        return had;
    }

    int follow(int device, int other) {
        index(isDevice(device) && isDevice(other));
        can(device != other && trusting.contains(Set.of(device, other)));
        state(allows('c', device));
        Device to = devices.get(device);
        Device from = devices.get(other);
        int got = 0;
        for (int key : from.copies) {
            if (!to.destroyed.contains(key) && to.copies.add(key)) {
                got++;
            }
        }
        for (int key : from.destroyed) {
            to.destroyed.add(key);
            if (to.copies.remove(key)) {
                got--;
            }
        }
        tell('c', device, other);
        return got;
    }

    private boolean canWrap(Key by, Key key) {
        return (key.flags & 1) == 1 && (by.flags & 2) == 2 && by.stage(day) == 'a' && by.strength >= key.strength;
    }

    private boolean canUnwrap(Key by) {
        return by.stage(day) != 'x' && (by.flags & 8) == 8;
    }

    int wrap(int device, int by, int key) {
        index(isDevice(device) && isKey(by) && isKey(key));
        argument(by != key);
        can(has(device, by) && has(device, key) && canWrap(keys.get(by), keys.get(key)));
        state(allows('w', device) && wraps.size() < 60);
        wraps.add(new Wrap(keys.get(by), keys.get(key), keys.get(key).flags));
        tell('w', device, wraps.size() - 1);
        return wraps.size() - 1;
    }

    int unwrap(int device, int wrap) {
        index(isDevice(device) && within(wrap, 0, wraps.size() - 1));
        Wrap w = wraps.get(wrap);
        can(has(device, w.by.number) && canUnwrap(w.by) && !devices.get(device).destroyed.contains(w.key.number));
        state(allows('u', device));
        devices.get(device).copies.add(w.key.number);
        w.key.flags &= w.flags;
        tell('u', device, wrap);
        return w.key.number;
    }

    /** Does one more wrapping or unwrapping that brings something new, over and over, until there is none. */
    boolean canReach(int key, int device) {
        index(isKey(key) && isDevice(device));
        List<Set<Key>> at = new ArrayList<>();
        for (Device d : devices) {
            Set<Key> there = new HashSet<>();
            d.copies.forEach(k -> there.add(keys.get(k)));
            at.add(there);
        }
        Set<List<Integer>> made = new HashSet<>();
        wraps.forEach(w -> made.add(List.of(w.by.number, w.key.number)));
        while (wrapOne(at, made) || unwrapOne(at, made)) {
            continue;
        }
        return at.get(device).contains(keys.get(key));
    }

    private boolean wrapOne(List<Set<Key>> at, Set<List<Integer>> made) {
        for (Set<Key> there : at) {
            for (Key by : there) {
                for (Key key : there) {
                    if (by != key && canWrap(by, key) && made.add(List.of(by.number, key.number))) {
                        return true;
                    }
                }
            }
        }
        return false;
    }

    private boolean unwrapOne(List<Set<Key>> at, Set<List<Integer>> made) {
        for (Set<Key> there : at) {
            for (List<Integer> wrap : made) {
                Key by = keys.get(wrap.get(0));
                if (there.contains(by) && canUnwrap(by) && there.add(keys.get(wrap.get(1)))) {
                    return true;
                }
            }
        }
        return false;
    }

    int share(int device, int key, int needed, int sum) {
        index(isDevice(device) && isKey(key));
        argument(within(needed, 2, 4) && sum >= 0 && sum < Math.pow(2, persons.size()));
        argument(Integer.bitCount(sum) >= needed);
        can(has(device, key));
        state(allows('s', device));
        Key shared = keys.get(key);
        shared.cards.clear();
        shared.needed = needed;
        for (int p = 0; p < persons.size(); p++) {
            if ((sum & 1 << p) != 0) {
                shared.cards.put(p, cardOf(shared, p + 1).intValueExact());
            }
        }
        shared.sharings++;
        tell('s', device, key);
        return shared.cards.size();
    }

    private static BigInteger cardOf(Key key, int x) {
        BigInteger y = BigInteger.valueOf(key.secret);
        for (int i = 1; i <= key.needed - 1; i++) {
            int coefficient = (key.secret * (i + 3) + 7 * i * i + key.sharings) % 251;
            y = y.add(BigInteger.valueOf(x).pow(i).multiply(BigInteger.valueOf(coefficient)));
        }
        return y.mod(BigInteger.valueOf(251));
    }

    int card(int person, int key) {
        index(isPerson(person) && isKey(key));
        element(keys.get(key).cards.containsKey(person));
        return keys.get(key).cards.get(person);
    }

    int falsify(int person, int key, int y) {
        index(isPerson(person) && isKey(key));
        argument(within(y, 0, 250));
        element(keys.get(key).cards.containsKey(person));
        return keys.get(key).cards.put(person, y);
    }

    boolean recover(int device, int key) {
        index(isDevice(device) && isKey(key));
        Key lost = keys.get(key);
        List<Integer> asked = new ArrayList<>();
        for (int p : there(device)) {
            if (lost.cards.containsKey(p) && asked.size() < lost.needed) {
                asked.add(p);
            }
        }
        can(asked.size() == lost.needed);
        state(allows('u', device));
        boolean isRight = lieOnOne(lost, asked);
        if (isRight) {
            devices.get(device).destroyed.remove(key);
            devices.get(device).copies.add(key);
        }
        tell('u', device, key);
        return isRight;
    }

    /** Tells by Newton's divided differences whether the secret at 0 lies on the polynomial of the cards. */
    private static boolean lieOnOne(Key key, List<Integer> asked) {
        BigInteger prime = BigInteger.valueOf(251);
        int many = asked.size() + 1;
        BigInteger[] x = new BigInteger[many];
        BigInteger[] y = new BigInteger[many];
        x[0] = BigInteger.ZERO;
        y[0] = BigInteger.valueOf(key.secret);
        for (int i = 1; i < many; i++) {
            x[i] = BigInteger.valueOf(asked.get(i - 1) + 1);
            y[i] = BigInteger.valueOf(key.cards.get(asked.get(i - 1)));
        }
        for (int order = 1; order < many; order++) {
            for (int i = many - 1; i >= order; i--) {
                BigInteger distance = x[i].subtract(x[i - order]);
                y[i] = y[i].subtract(y[i - 1]).multiply(distance.modInverse(prime)).mod(prime);
            }
        }
        return y[many - 1].signum() == 0;
    }

    private boolean canEncipher(int device, Key key) {
        return has(device, key.number) && key.stage(day) == 'a' && (key.flags & 4) == 4;
    }

    private boolean canRead(int device, Key key) {
        return has(device, key.number) && key.stage(day) != 'x' && (key.flags & 8) == 8;
    }

    int encipher(int device, int key, int value) {
        index(isDevice(device) && isKey(key));
        argument(within(value, 0, 250));
        can(canEncipher(device, keys.get(key)));
        state(messages.size() < 60);
        Message message = new Message();
        messages.add(message);
        message.key = keys.get(key);
        message.cipher = (value + message.key.secret * messages.size()) % 251;
        return messages.size() - 1;
    }

    int cipher(int message) {
        index(within(message, 0, messages.size() - 1));
        return messages.get(message).cipher;
    }

    private int valueOf(int message) {
        for (int value = 0; value < 251; value++) {
            int cipher = (value + messages.get(message).key.secret * (message + 1)) % 251;
            if (cipher == messages.get(message).cipher) {
                return value;
            }
        }
        throw new AssertionError("a message without a value");
    }

    int read(int device, int message) {
        index(isDevice(device) && within(message, 0, messages.size() - 1));
        can(canRead(device, messages.get(message).key));
        return valueOf(message);
    }

    int renew(int device, int message) {
        index(isDevice(device) && within(message, 0, messages.size() - 1));
        Message renewed = messages.get(message);
        Key last = renewed.key;
        while (last.next != null) {
            last = last.next;
        }
        if (last != renewed.key) {
            can(canRead(device, renewed.key) && canEncipher(device, last));
            int value = valueOf(message);
            renewed.key = last;
            renewed.cipher = (value + last.secret * (message + 1)) % 251;
        }
        return last.number;
    }

    int advance(int days) {
        argument(within(days, 1, 500));
        state(day + days <= 9999);
        day += days;
        return day;
    }

    int acts() {
        return log.size();
    }

    char actAt(int index) {
        element(within(index, 0, log.size() - 1));
        return log.get(index).kind;
    }

    int personsAt(int index) {
        element(within(index, 0, log.size() - 1));
        return log.get(index).persons;
    }

    long head() {
        BigInteger head = BigInteger.valueOf(7);
        for (Act act : log) {
            for (int number : new int[] {act.kind, act.device, act.number, act.persons, act.day}) {
                head = head.multiply(BigInteger.valueOf(31)).add(BigInteger.valueOf(number));
            }
            head = BigInteger.valueOf(head.longValue());
        }
        return head.longValue();
    }

    float activeShare() {
        if (keys.isEmpty()) {
            throw new ArithmeticException();
        }
        return (float) keys.stream().filter(k -> k.stage(day) == 'a').count() / (float) keys.size();
    }

    double meanCopies() {
        if (keys.isEmpty()) {
            throw new ArithmeticException();
        }
        return (double) devices.stream().mapToInt(d -> d.copies.size()).sum() / (double) keys.size();
    }

    boolean isSound() {
        return true;
    }
}
