/** Makes the words of CODE. */
final class Words {
    static final int END = word(48, 0, 0, 0, 0);

    private Words() {
    }

    static int word(int op, int d, int a, int b, int i) {
        return op << 26 | d << 22 | a << 18 | b << 14 | i & 0x3fff;
    }

    /** D is A op B. */
    static int two(int op, int d, int a, int b) {
        return word(op, d, a, b, 0);
    }

    /** D is A op I, by the number that the same op has with B. */
    static int with(int op, int d, int a, int i) {
        return word(op + 16, d, a, 0, i);
    }

    static int set(int d, int i) {
        return with(0, d, 0, i);
    }

    static int load(int d, int a, int i) {
        return word(32, d, a, 0, i);
    }

    static int store(int a, int b, int i) {
        return word(33, 0, a, b, i);
    }

    static int branch(int op, int a, int b, int i) {
        return word(op, 0, a, b, i);
    }

    static int jump(int d, int i) {
        return word(44, d, 0, 0, i);
    }

    static int jumpBy(int d, int a, int i) {
        return word(45, d, a, 0, i);
    }

    static int put(int a) {
        return word(49, 0, a, 0, 0);
    }

    /** A new object that has begun with these words of CODE from 0 on. */
    static StageHost host(int... words) {
        StageHost host = new StageHost();
        give(host, words);
        host.begin();
        return host;
    }

    static void give(StageHost host, int... words) {
        for (int k = 0; k < words.length; k++) {
            host.code(k, words[k]);
        }
    }
}
