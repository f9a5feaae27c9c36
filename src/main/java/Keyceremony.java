import java.util.NoSuchElementException;

/** A house of keys: devices, persons in quorums, keys, wraps, cards, messages, and a log of all acts. */
public final class Keyceremony {
    private static final int NONE = -1;
    private static final int MOST_DEVICES = 4;
    private static final int MOST_PERSONS = 8;
    private static final int MOST_KEYS = 24;
    private static final int MOST_WRAPS = 60;
    private static final int MOST_MESSAGES = 60;
    /** An object is used for 512 calls, and a call does one act at most. */
    private static final int MOST_ACTS = 512;
    private static final int LAST_DAY = 9999;
    private static final int MOST_DAYS = 500;
    private static final int MOST_STRENGTH = 3;
    private static final int MOST_LABEL = 99;
    private static final int MOST_ROLE = 2;
    private static final int LEAST_NEEDED = 2;
    private static final int MOST_NEEDED = 4;
    /** Secrets, values and cards are numbers of the field of this prime. */
    private static final int PRIME = 251;

    private static final int MAY_LEAVE = 1;
    private static final int MAY_WRAP = 2;
    private static final int MAY_ENCIPHER = 4;
    private static final int MAY_DECIPHER = 8;
    private static final int ALL_FLAGS = 15;

    private static final String KINDS = "gwudsc";
    private static final int MANY_KINDS = 6;
    private static final char GENERATING = 'g';
    private static final char WRAPPING = 'w';
    private static final char UNWRAPPING = 'u';
    private static final char DESTROYING = 'd';
    private static final char SHARING = 's';
    private static final char FOLLOWING = 'c';

    private final Staff staff;
    private final Devices devices;
    private final Keys keys;
    private final Wraps wraps;
    private final Cards cards;
    private final Messages messages;
    private final Reach reach;
    private final Log log;
    private int day;

    public Keyceremony() {
        staff = new Staff();
        devices = new Devices();
        keys = new Keys();
        wraps = new Wraps();
        cards = new Cards();
        messages = new Messages();
        reach = new Reach();
        log = new Log();
        day = 0;
    }

    // ---- devices and persons

    public int addDevice() throws IllegalStateException {
        if (devices.count >= MOST_DEVICES) {
            throw new IllegalStateException("there are 4 devices");
        }
        devices.count++;
        return devices.count - 1;
    }

    public boolean trust(int device, int other, boolean isOn)
            throws IndexOutOfBoundsException, IllegalArgumentException {
        checkDevice(device);
        checkDevice(other);
        if (device == other) {
            throw new IllegalArgumentException("both devices are the same");
        }
        boolean before = devices.trustsEachOther(device, other);
        devices.setTrust(device, other, isOn);
        return before;
    }

    public int addPerson(int role) throws IllegalArgumentException, IllegalStateException {
        checkRange(role, 0, MOST_ROLE);
        if (staff.count >= MOST_PERSONS) {
            throw new IllegalStateException("there are 8 persons");
        }
        return staff.add(role);
    }

    public int logIn(int person, int device) throws IndexOutOfBoundsException {
        checkPerson(person);
        if (device != NONE) {
            checkDevice(device);
        }
        int before = staff.places[person];
        staff.places[person] = device;
        return before;
    }

    public int setRule(char kind, int many, int role) throws IllegalArgumentException {
        int rule = numberOf(kind);
        checkRange(many, 0, MOST_PERSONS);
        checkRange(role, NONE, MOST_ROLE);
        return staff.putRule(rule, many, role);
    }

    public boolean isPermitted(char kind, int device) throws IndexOutOfBoundsException, IllegalArgumentException {
        checkDevice(device);
        return staff.permits(numberOf(kind), device);
    }

    // ---- keys

    public int generate(int device, int strength, int flags, int life, int reading)
            throws IndexOutOfBoundsException, IllegalArgumentException, IllegalStateException {
        checkDevice(device);
        checkRange(strength, 1, MOST_STRENGTH);
        checkRange(flags, 0, ALL_FLAGS);
        checkRange(life, 1, MOST_DAYS);
        checkRange(reading, 0, MOST_DAYS);
        checkRule(GENERATING, device);
        checkRoomForKey();
        int key = keys.addGenerated(device, strength, flags, life, reading, day);
        devices.give(device, key);
        tell(GENERATING, device, key);
        return key;
    }

    public int derive(int device, int parent, int label, int flags)
            throws IndexOutOfBoundsException, IllegalArgumentException, UnsupportedOperationException,
            IllegalStateException {
        checkDevice(device);
        checkKey(parent);
        checkRange(label, 0, MOST_LABEL);
        checkRange(flags, 0, ALL_FLAGS);
        int known = keys.derivedFrom(parent, label);
        boolean isDestroyed = known != NONE && devices.remembersDestroying(device, known);
        if (!devices.holds(device, parent) || !keys.isActive(parent, day) || isDestroyed) {
            throw new UnsupportedOperationException("the device cannot derive this key");
        }
        checkRule(GENERATING, device);
        checkRoomForKey();
        int key = known != NONE ? known : keys.addDerived(parent, label, flags, day);
        devices.give(device, key);
        tell(GENERATING, device, key);
        return key;
    }

    public int rotate(int device, int key)
            throws IndexOutOfBoundsException, UnsupportedOperationException, IllegalStateException {
        checkDevice(device);
        checkKey(key);
        if (!devices.holds(device, key) || !keys.isActive(key, day) || keys.behind[key] != NONE) {
            throw new UnsupportedOperationException("the device cannot rotate this key");
        }
        checkRule(GENERATING, device);
        checkRoomForKey();
        int next = keys.addGenerated(device, keys.strength[key], keys.flags[key], keys.life[key],
                keys.reading[key], day);
        keys.putBehind(key, next, day);
        devices.give(device, next);
        tell(GENERATING, device, next);
        return next;
    }

    public int tighten(int key, int flags) throws IndexOutOfBoundsException, IllegalArgumentException {
        checkKey(key);
        checkRange(flags, 0, ALL_FLAGS);
        keys.flags[key] &= flags;
        return keys.flags[key];
    }

    public int flags(int key) throws IndexOutOfBoundsException {
        checkKey(key);
        return keys.flags[key];
    }

    public char stage(int key) throws IndexOutOfBoundsException {
        checkKey(key);
        if (keys.isActive(key, day)) {
            return 'a';
        }
        return keys.isExpired(key, day) ? 'x' : 'r';
    }

    public boolean has(int device, int key) throws IndexOutOfBoundsException {
        checkDevice(device);
        checkKey(key);
        return devices.holds(device, key);
    }

    public int destroy(int device, int key)
            throws IndexOutOfBoundsException, UnsupportedOperationException, IllegalStateException {
        checkDevice(device);
        checkKey(key);
        checkCopy(device, key);
        checkRule(DESTROYING, device);
        devices.takeForGood(device, 1 << key);
        tell(DESTROYING, device, key);
        return devices.copiesOf(key);
    }

    public int zeroise(int device) throws IndexOutOfBoundsException, IllegalStateException {
        checkDevice(device);
        checkRule(DESTROYING, device);
        int copies = Integer.bitCount(devices.copies[device]);
        devices.clear(device);
        tell(DESTROYING, device, NONE);
        return copies;
    }

    public int follow(int device, int other)
            throws IndexOutOfBoundsException, UnsupportedOperationException, IllegalStateException {
        checkDevice(device);
        checkDevice(other);
        if (!devices.trustsEachOther(device, other)) {
            throw new UnsupportedOperationException("the devices do not trust each other");
        }
        checkRule(FOLLOWING, device);
        int before = Integer.bitCount(devices.copies[device]);
        devices.makeLike(device, other);
        tell(FOLLOWING, device, other);
        return Integer.bitCount(devices.copies[device]) - before;
    }

    // ---- wraps and cards

    public int wrap(int device, int by, int key)
            throws IndexOutOfBoundsException, IllegalArgumentException, UnsupportedOperationException,
            IllegalStateException {
        checkDevice(device);
        checkKey(by);
        checkKey(key);
        if (by == key) {
            throw new IllegalArgumentException("both keys are the same");
        }
        checkCopy(device, by);
        checkCopy(device, key);
        if (!keys.canWrap(by, key, day)) {
            throw new UnsupportedOperationException("this key cannot be wrapped by the other one");
        }
        checkRule(WRAPPING, device);
        if (wraps.count >= MOST_WRAPS) {
            throw new IllegalStateException("there are 60 wraps");
        }
        int wrap = wraps.add(by, key, keys.flags[key]);
        tell(WRAPPING, device, wrap);
        return wrap;
    }

    public int unwrap(int device, int wrap)
            throws IndexOutOfBoundsException, UnsupportedOperationException, IllegalStateException {
        checkDevice(device);
        if (wrap < 0 || wrap >= wraps.count) {
            throw new IndexOutOfBoundsException("there is no such wrap");
        }
        int by = wraps.by[wrap];
        int key = wraps.key[wrap];
        checkCopy(device, by);
        if (!keys.canDecipher(by, day) || devices.remembersDestroying(device, key)) {
            throw new UnsupportedOperationException("the device cannot unwrap this");
        }
        checkRule(UNWRAPPING, device);
        devices.give(device, key);
        keys.flags[key] &= wraps.flags[wrap];
        tell(UNWRAPPING, device, wrap);
        return key;
    }

    public boolean canReach(int key, int device) throws IndexOutOfBoundsException {
        checkKey(key);
        checkDevice(device);
        reach.find(devices, keys, wraps, day);
        return isIn(reach.reached[device], key);
    }

    public int share(int device, int key, int needed, int persons)
            throws IndexOutOfBoundsException, IllegalArgumentException, UnsupportedOperationException,
            IllegalStateException {
        checkDevice(device);
        checkKey(key);
        checkRange(needed, LEAST_NEEDED, MOST_NEEDED);
        checkRange(persons, 0, (1 << staff.count) - 1);
        int many = Integer.bitCount(persons);
        if (many < needed) {
            throw new IllegalArgumentException("fewer persons than are needed");
        }
        checkCopy(device, key);
        checkRule(SHARING, device);
        cards.deal(key, keys.secret[key], needed, persons);
        tell(SHARING, device, key);
        return many;
    }

    public int card(int person, int key) throws IndexOutOfBoundsException, NoSuchElementException {
        checkPerson(person);
        checkKey(key);
        checkCard(person, key);
        return cards.told[key][person];
    }

    public int falsify(int person, int key, int y)
            throws IndexOutOfBoundsException, IllegalArgumentException, NoSuchElementException {
        checkPerson(person);
        checkKey(key);
        checkRange(y, 0, PRIME - 1);
        checkCard(person, key);
        int before = cards.told[key][person];
        cards.told[key][person] = y;
        return before;
    }

    public boolean recover(int device, int key)
            throws IndexOutOfBoundsException, UnsupportedOperationException, IllegalStateException {
        checkDevice(device);
        checkKey(key);
        int chosen = cards.lowestOf(key, staff.personsThere(device));
        if (chosen == 0) {
            throw new UnsupportedOperationException("there are too few cards");
        }
        checkRule(UNWRAPPING, device);
        boolean isRight = cards.valueAtZero(key, chosen) == keys.secret[key];
        if (isRight) {
            devices.giveBack(device, key);
        }
        tell(UNWRAPPING, device, key);
        return isRight;
    }

    // ---- messages

    public int encipher(int device, int key, int value)
            throws IndexOutOfBoundsException, IllegalArgumentException, UnsupportedOperationException,
            IllegalStateException {
        checkDevice(device);
        checkKey(key);
        checkRange(value, 0, PRIME - 1);
        checkEnciphering(device, key);
        if (messages.count >= MOST_MESSAGES) {
            throw new IllegalStateException("there are 60 messages");
        }
        int message = messages.count;
        messages.count++;
        messages.put(message, key, value, keys.secret[key]);
        return message;
    }

    public int cipher(int message) throws IndexOutOfBoundsException {
        checkMessage(message);
        return messages.cipher[message];
    }

    public int read(int device, int message) throws IndexOutOfBoundsException, UnsupportedOperationException {
        checkDevice(device);
        checkMessage(message);
        int key = messages.key[message];
        checkReading(device, key);
        return messages.plain(message, keys.secret[key]);
    }

    public int renew(int device, int message) throws IndexOutOfBoundsException, UnsupportedOperationException {
        checkDevice(device);
        checkMessage(message);
        int key = messages.key[message];
        int last = keys.lastBehind(key);
        if (last == key) {
            return key;
        }
        checkReading(device, key);
        checkEnciphering(device, last);
        int value = messages.plain(message, keys.secret[key]);
        messages.put(message, last, value, keys.secret[last]);
        return last;
    }

    // ---- time, the log and figures

    public int advance(int days) throws IllegalArgumentException, IllegalStateException {
        checkRange(days, 1, MOST_DAYS);
        if (day + days > LAST_DAY) {
            throw new IllegalStateException("the day would be greater than 9999");
        }
        day += days;
        return day;
    }

    public int acts() {
        return log.count;
    }

    public char actAt(int index) throws NoSuchElementException {
        checkAct(index);
        return log.kinds[index];
    }

    public int personsAt(int index) throws NoSuchElementException {
        checkAct(index);
        return log.persons[index];
    }

    public long head() {
        return log.head;
    }

    public float activeShare() throws ArithmeticException {
        if (keys.count <= 0) {
            throw new ArithmeticException("there are no keys");
        }
        return (float) keys.countActive(day) / (float) keys.count;
    }

    public double meanCopies() throws ArithmeticException {
        if (keys.count <= 0) {
            throw new ArithmeticException("there are no keys");
        }
        return (double) devices.allCopies() / (double) keys.count;
    }

    public boolean isSound() {
        reach.find(devices, keys, wraps, day);
        return keys.areFlagsSound() && messages.areSound(keys.secret) && log.headOfActs() == log.head
                && reach.holdsAllCopies(devices);
    }

    // ---- what calls have in common

    private void checkDevice(int device) {
        if (device < 0 || device >= devices.count) {
            throw new IndexOutOfBoundsException("there is no such device");
        }
    }

    private void checkPerson(int person) {
        if (person < 0 || person >= staff.count) {
            throw new IndexOutOfBoundsException("there is no such person");
        }
    }

    private void checkKey(int key) {
        if (key < 0 || key >= keys.count) {
            throw new IndexOutOfBoundsException("there is no such key");
        }
    }

    private void checkMessage(int message) {
        if (message < 0 || message >= messages.count) {
            throw new IndexOutOfBoundsException("there is no such message");
        }
    }

    private void checkAct(int index) {
        if (index < 0 || index >= log.count) {
            throw new NoSuchElementException("there is no such act");
        }
    }

    private void checkCard(int person, int key) {
        if (!isIn(cards.holders[key], person)) {
            throw new NoSuchElementException("the person has no card of the last sharing");
        }
    }

    private static int numberOf(char kind) {
        int number = KINDS.indexOf(kind);
        if (number < 0 || number >= MANY_KINDS) {
            throw new IllegalArgumentException("there is no such kind");
        }
        return number;
    }

    private static void checkRange(int number, int least, int most) {
        if (number < least || number > most) {
            throw new IllegalArgumentException("a number is out of range");
        }
    }

    private void checkCopy(int device, int key) {
        if (!devices.holds(device, key)) {
            throw new UnsupportedOperationException("the device has no copy");
        }
    }

    private void checkReading(int device, int key) {
        checkCopy(device, key);
        if (!keys.canDecipher(key, day)) {
            throw new UnsupportedOperationException("the key cannot decipher now");
        }
    }

    private void checkEnciphering(int device, int key) {
        checkCopy(device, key);
        if (!keys.isActive(key, day) || !keys.hasFlag(key, MAY_ENCIPHER)) {
            throw new UnsupportedOperationException("the key cannot encipher now");
        }
    }

    private void checkRule(char kind, int device) {
        if (!staff.permits(numberOf(kind), device)) {
            throw new IllegalStateException("the rule does not permit it");
        }
    }

    private void checkRoomForKey() {
        if (keys.count >= MOST_KEYS) {
            throw new IllegalStateException("there are 24 keys");
        }
    }

    private void tell(char kind, int device, int number) {
        log.add(kind, device, number, staff.personsThere(device), day);
    }

    /** Tells whether a number is in a set, which is held as a sum of 2 to the power of its numbers. */
    private static boolean isIn(int set, int number) {
        return (set >> number & 1) != 0;
    }

    /** The persons, where they are logged in, and the rules of the kinds of acts. */
    private static final class Staff {
        int count;
        final int[] roles;
        final int[] places;
        final int[] leastMany;
        final int[] roleAsked;

        Staff() {
            count = 0;
            roles = new int[MOST_PERSONS];
            places = new int[MOST_PERSONS];
            leastMany = new int[MANY_KINDS];
            roleAsked = new int[MANY_KINDS];
            for (int rule = 0; rule < MANY_KINDS; rule++) {
                roleAsked[rule] = NONE;
            }
        }

        int add(int role) {
            int person = count;
            roles[person] = role;
            places[person] = NONE;
            count++;
            return person;
        }

        int putRule(int rule, int many, int role) {
            int before = leastMany[rule];
            leastMany[rule] = many;
            roleAsked[rule] = role;
            return before;
        }

        int personsThere(int device) {
            int there = 0;
            for (int person = 0; person < count; person++) {
                if (places[person] == device) {
                    there |= 1 << person;
                }
            }
            return there;
        }

        boolean permits(int rule, int device) {
            int there = personsThere(device);
            if (Integer.bitCount(there) < leastMany[rule]) {
                return false;
            }
            return roleAsked[rule] == NONE || isOfOne(roleAsked[rule], there);
        }

        boolean isOfOne(int role, int there) {
            for (int person = 0; person < count; person++) {
                if (isIn(there, person) && roles[person] == role) {
                    return true;
                }
            }
            return false;
        }
    }

    /** The devices, each with sets of keys (its copies, and what it destroyed) and of devices that it trusts. */
    private static final class Devices {
        int count;
        final int[] copies;
        final int[] destroyed;
        final int[] trusted;

        Devices() {
            count = 0;
            copies = new int[MOST_DEVICES];
            destroyed = new int[MOST_DEVICES];
            trusted = new int[MOST_DEVICES];
        }

        boolean trustsEachOther(int device, int other) {
            return isIn(trusted[device], other);
        }

        void setTrust(int device, int other, boolean isOn) {
            if (isOn) {
                trusted[device] |= 1 << other;
                trusted[other] |= 1 << device;
            } else {
                trusted[device] &= ~(1 << other);
                trusted[other] &= ~(1 << device);
            }
        }

        boolean holds(int device, int key) {
            return isIn(copies[device], key);
        }

        boolean remembersDestroying(int device, int key) {
            return isIn(destroyed[device], key);
        }

        void give(int device, int key) {
            copies[device] |= 1 << key;
        }

        void giveBack(int device, int key) {
            destroyed[device] &= ~(1 << key);
            give(device, key);
        }

        void takeForGood(int device, int set) {
            copies[device] &= ~set;
            destroyed[device] |= set;
        }

        void clear(int device) {
            copies[device] = 0;
            destroyed[device] = 0;
        }

        void makeLike(int device, int other) {
            copies[device] |= copies[other] & ~destroyed[device];
            takeForGood(device, destroyed[other]);
        }

        int copiesOf(int key) {
            int many = 0;
            for (int device = 0; device < count; device++) {
                many += holds(device, key) ? 1 : 0;
            }
            return many;
        }

        int allCopies() {
            int many = 0;
            for (int device = 0; device < count; device++) {
                many += Integer.bitCount(copies[device]);
            }
            return many;
        }
    }

    /** The keys, a row for each of what they have. */
    private static final class Keys {
        int count;
        final int[] strength;
        final int[] flags;
        final int[] flagsMade;
        final int[] flagsOfParent;
        final int[] life;
        final int[] reading;
        final int[] activeUntil;
        final int[] readUntil;
        final int[] secret;
        final int[] parent;
        final int[] label;
        final int[] behind;

        Keys() {
            count = 0;
            strength = new int[MOST_KEYS];
            flags = new int[MOST_KEYS];
            flagsMade = new int[MOST_KEYS];
            flagsOfParent = new int[MOST_KEYS];
            life = new int[MOST_KEYS];
            reading = new int[MOST_KEYS];
            activeUntil = new int[MOST_KEYS];
            readUntil = new int[MOST_KEYS];
            secret = new int[MOST_KEYS];
            parent = new int[MOST_KEYS];
            label = new int[MOST_KEYS];
            behind = new int[MOST_KEYS];
        }

        int addGenerated(int device, int strengthNow, int flagsNow, int lifeNow, int readingNow, int day) {
            int key = addPlain(strengthNow, flagsNow, lifeNow, readingNow, day);
            secret[key] = (7 * key * key + 13 * key + 5 * strengthNow + 3 * device) % PRIME;
            return key;
        }

        int addDerived(int from, int labelNow, int flagsNow, int day) {
            int key = addPlain(strength[from], flagsNow & flags[from], activeUntil[from] - day, reading[from], day);
            secret[key] = (secret[from] * (labelNow + 2) + 31) % PRIME;
            parent[key] = from;
            label[key] = labelNow;
            flagsOfParent[key] = flags[from];
            return key;
        }

        int addPlain(int strengthNow, int flagsNow, int lifeNow, int readingNow, int day) {
            int key = count;
            strength[key] = strengthNow;
            flags[key] = flagsNow;
            flagsMade[key] = flagsNow;
            flagsOfParent[key] = ALL_FLAGS;
            life[key] = lifeNow;
            reading[key] = readingNow;
            activeUntil[key] = day + lifeNow;
            readUntil[key] = day + lifeNow + readingNow;
            parent[key] = NONE;
            label[key] = NONE;
            behind[key] = NONE;
            count++;
            return key;
        }

        void putBehind(int key, int next, int day) {
            behind[key] = next;
            activeUntil[key] = day;
            readUntil[key] = day + reading[key];
        }

        int derivedFrom(int from, int labelNow) {
            for (int key = 0; key < count; key++) {
                if (parent[key] == from && label[key] == labelNow) {
                    return key;
                }
            }
            return NONE;
        }

        int lastBehind(int key) {
            int last = key;
            for (int step = 0; step < MOST_KEYS && behind[last] != NONE; step++) {
                last = behind[last];
            }
            return last;
        }

        boolean isActive(int key, int day) {
            return day < activeUntil[key];
        }

        boolean isExpired(int key, int day) {
            return day >= readUntil[key];
        }

        boolean hasFlag(int key, int flag) {
            return (flags[key] & flag) != 0;
        }

        boolean canDecipher(int key, int day) {
            return !isExpired(key, day) && hasFlag(key, MAY_DECIPHER);
        }

        boolean canWrap(int by, int key, int day) {
            return hasFlag(key, MAY_LEAVE) && hasFlag(by, MAY_WRAP) && isActive(by, day)
                    && strength[by] >= strength[key];
        }

        int countActive(int day) {
            int many = 0;
            for (int key = 0; key < count; key++) {
                many += isActive(key, day) ? 1 : 0;
            }
            return many;
        }

        boolean areFlagsSound() {
            for (int key = 0; key < count; key++) {
                if ((flags[key] & ~(flagsMade[key] & flagsOfParent[key])) != 0) {
                    return false;
                }
            }
            return true;
        }
    }

    /** The wraps: which key wraps which one, and the flags that this had then. */
    private static final class Wraps {
        int count;
        final int[] by;
        final int[] key;
        final int[] flags;

        Wraps() {
            count = 0;
            by = new int[MOST_WRAPS];
            key = new int[MOST_WRAPS];
            flags = new int[MOST_WRAPS];
        }

        int add(int byNow, int keyNow, int flagsNow) {
            int wrap = count;
            by[wrap] = byNow;
            key[wrap] = keyNow;
            flags[wrap] = flagsNow;
            count++;
            return wrap;
        }
    }

    /** What keys would come to which devices by wrapping and unwrapping alone. */
    private static final class Reach {
        /** For each device the set of keys that reach it. */
        final int[] reached;
        /** For each wrapping key the set of keys that it wraps, or could wrap at some device. */
        final int[] wrapped;

        Reach() {
            reached = new int[MOST_DEVICES];
            wrapped = new int[MOST_KEYS];
        }

        void find(Devices devices, Keys keys, Wraps wraps, int day) {
            start(devices, wraps);
            boolean isMore = true;
            // A round that is not the last one brings a copy at least.
            for (int round = 0; isMore && round <= MOST_DEVICES * MOST_KEYS; round++) {
                wrapAll(devices, keys, day);
                isMore = unwrapAll(devices, keys, day);
            }
        }

        void start(Devices devices, Wraps wraps) {
            for (int device = 0; device < MOST_DEVICES; device++) {
                reached[device] = devices.copies[device];
            }
            for (int key = 0; key < MOST_KEYS; key++) {
                wrapped[key] = 0;
            }
            for (int wrap = 0; wrap < wraps.count; wrap++) {
                wrapped[wraps.by[wrap]] |= 1 << wraps.key[wrap];
            }
        }

        void wrapAll(Devices devices, Keys keys, int day) {
            for (int device = 0; device < devices.count; device++) {
                for (int by = 0; by < keys.count; by++) {
                    if (isIn(reached[device], by)) {
                        wrapAllBy(by, reached[device], keys, day);
                    }
                }
            }
        }

        void wrapAllBy(int by, int there, Keys keys, int day) {
            for (int key = 0; key < keys.count; key++) {
                if (key != by && isIn(there, key) && keys.canWrap(by, key, day)) {
                    wrapped[by] |= 1 << key;
                }
            }
        }

        boolean unwrapAll(Devices devices, Keys keys, int day) {
            boolean isMore = false;
            for (int device = 0; device < devices.count; device++) {
                for (int by = 0; by < keys.count; by++) {
                    boolean canUnwrap = isIn(reached[device], by) && keys.canDecipher(by, day);
                    if (canUnwrap && (wrapped[by] & ~reached[device]) != 0) {
                        reached[device] |= wrapped[by];
                        isMore = true;
                    }
                }
            }
            return isMore;
        }

        boolean holdsAllCopies(Devices devices) {
            for (int device = 0; device < devices.count; device++) {
                if ((devices.copies[device] & ~reached[device]) != 0) {
                    return false;
                }
            }
            return true;
        }
    }

    /** The cards of the last sharing of each key. */
    private static final class Cards {
        final int[] needed;
        final int[] sharings;
        /** For each key the set of persons that have a card. */
        final int[] holders;
        /** For each key and person the y of the card. */
        final int[][] told;

        Cards() {
            needed = new int[MOST_KEYS];
            sharings = new int[MOST_KEYS];
            holders = new int[MOST_KEYS];
            told = new int[MOST_KEYS][MOST_PERSONS];
        }

        void deal(int key, int secret, int neededNow, int persons) {
            needed[key] = neededNow;
            holders[key] = persons;
            for (int person = 0; person < MOST_PERSONS; person++) {
                told[key][person] = isIn(persons, person) ? valueAt(person + 1, key, secret) : 0;
            }
            sharings[key]++;
        }

        int valueAt(int x, int key, int secret) {
            int y = secret;
            int power = 1;
            for (int i = 1; i < needed[key]; i++) {
                int coefficient = (secret * (i + 3) + 7 * i * i + sharings[key]) % PRIME;
                power *= x;
                y += power * coefficient;
            }
            return y % PRIME;
        }

        /** The set of as many of these persons as are needed, or the empty one if too few have cards. */
        int lowestOf(int key, int persons) {
            int left = needed[key];
            int chosen = 0;
            for (int person = 0; person < MOST_PERSONS && left > 0; person++) {
                if (isIn(persons & holders[key], person)) {
                    chosen |= 1 << person;
                    left--;
                }
            }
            return left > 0 ? 0 : chosen;
        }

        /** Lagrange's sum at 0, for the polynomial through the cards of these persons. */
        int valueAtZero(int key, int persons) {
            int sum = 0;
            for (int person = 0; person < MOST_PERSONS; person++) {
                if (isIn(persons, person)) {
                    sum += told[key][person] * weight(person, persons);
                }
            }
            return sum % PRIME;
        }

        int weight(int person, int persons) {
            int product = 1;
            for (int other = 0; other < MOST_PERSONS; other++) {
                if (other != person && isIn(persons, other)) {
                    int quotient = (other + 1) * inverse(Math.floorMod(other - person, PRIME));
                    product = product * (quotient % PRIME) % PRIME;
                }
            }
            return product;
        }

        /** By Fermat, the power to the prime less 2 is the inverse. */
        static int inverse(int number) {
            int power = 1;
            for (int i = 0; i < PRIME - 2; i++) {
                power = power * number % PRIME;
            }
            return power;
        }
    }

    /** The messages, each with its value, against which it is checked. */
    private static final class Messages {
        int count;
        final int[] key;
        final int[] value;
        final int[] cipher;

        Messages() {
            count = 0;
            key = new int[MOST_MESSAGES];
            value = new int[MOST_MESSAGES];
            cipher = new int[MOST_MESSAGES];
        }

        void put(int message, int keyNow, int valueNow, int secret) {
            key[message] = keyNow;
            value[message] = valueNow;
            cipher[message] = (valueNow + secret * (message + 1)) % PRIME;
        }

        int plain(int message, int secret) {
            return Math.floorMod(cipher[message] - secret * (message + 1), PRIME);
        }

        boolean areSound(int[] secrets) {
            for (int message = 0; message < count; message++) {
                if (plain(message, secrets[key[message]]) != value[message]) {
                    return false;
                }
            }
            return true;
        }
    }

    /** The acts, and the head that tells all of them. */
    private static final class Log {
        int count;
        long head;
        final char[] kinds;
        final int[] devices;
        final int[] numbers;
        final int[] persons;
        final int[] days;

        Log() {
            count = 0;
            head = 7;
            kinds = new char[MOST_ACTS];
            devices = new int[MOST_ACTS];
            numbers = new int[MOST_ACTS];
            persons = new int[MOST_ACTS];
            days = new int[MOST_ACTS];
        }

        void add(char kind, int device, int number, int personsNow, int day) {
            // Only calls behind the 512th, whose answers are free, find the log full.
            if (count >= MOST_ACTS) {
                return;
            }
            kinds[count] = kind;
            devices[count] = device;
            numbers[count] = number;
            persons[count] = personsNow;
            days[count] = day;
            head = headBehind(head, count);
            count++;
        }

        long headBehind(long before, int index) {
            long next = before * 31 + kinds[index];
            next = next * 31 + devices[index];
            next = next * 31 + numbers[index];
            next = next * 31 + persons[index];
            return next * 31 + days[index];
        }

        long headOfActs() {
            long found = 7;
            for (int index = 0; index < count; index++) {
                found = headBehind(found, index);
            }
            return found;
        }
    }
}
