/** What the document tells by formulas, written anew. */
final class Formulas {
    private static final int PRIME = 251;

    private Formulas() {
    }

    static int generated(int number, int strength, int device) {
        return (7 * number * number + 13 * number + 5 * strength + 3 * device) % PRIME;
    }

    static int derived(int secretOfParent, int label) {
        return (secretOfParent * (label + 2) + 31) % PRIME;
    }

    static int cipher(int value, int secret, int message) {
        return (value + secret * (message + 1)) % PRIME;
    }

    static int card(int person, int secret, int needed, int sharedBefore) {
        int y = secret;
        for (int i = 1; i <= needed - 1; i++) {
            int coefficient = (secret * (i + 3) + 7 * i * i + sharedBefore) % PRIME;
            y += (int) Math.round(Math.pow(person + 1, i)) * coefficient;
        }
        return y % PRIME;
    }

    /** The head behind an act: its kind, the device, the number, the sum of the persons, and the day. */
    static long head(long before, char kind, int device, int number, int persons, int day) {
        long head = before;
        for (int told : new int[] {kind, device, number, persons, day}) {
            head = head * 31 + told;
        }
        return head;
    }
}
