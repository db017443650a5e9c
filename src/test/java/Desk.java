import java.nio.charset.StandardCharsets;

/** One object under test, spoken to in texts. It counts the calls, since nothing is promised behind the 512th. */
final class Desk {
    static final int MAX_CALLS = 512;
    /** Numbers that no call has a use for as an index or as a what. */
    static final int[] WRONG = {-1, Integer.MIN_VALUE, Integer.MAX_VALUE, 1000};
    private static int wrong = 0;

    private final String promise;
    private MailStore store = new MailStore();
    private int calls = 0;

    Desk(String promise) {
        this.promise = promise;
    }

    /** Ends a test: with exit code 1, if an answer was not the one that is due. */
    static void close() {
        System.out.println(wrong == 0 ? "all answers are as due" : wrong + " answers are not as due");
        if (wrong != 0) {
            System.exit(1);
        }
    }

    void renew() {
        store = new MailStore();
        calls = 0;
    }

    int calls() {
        return calls;
    }

    void due(String call, long got, long want) {
        due(call, Long.toString(got), Long.toString(want));
    }

    void due(String call, boolean got, boolean want) {
        due(call, Boolean.toString(got), Boolean.toString(want));
    }

    void due(String call, String got, String want) {
        if (!got.equals(want)) {
            wrong++;
            System.out.println(promise + ": " + call + " answered \"" + got + "\", due is \"" + want + "\"");
        }
    }

    private MailStore counted() {
        calls++;
        due("calls beyond " + MAX_CALLS, Math.max(0, calls - MAX_CALLS), 0);
        return store;
    }

    void feed(int a, int b, int c, int d, int e) {
        counted().feed(a, b, c, d, e);
    }

    int end(int n) {
        return counted().end(n);
    }

    boolean name() {
        return counted().name();
    }

    int write(int stamp) {
        return counted().write(stamp);
    }

    void rename() {
        counted().rename();
    }

    boolean delete() {
        return counted().delete();
    }

    int file(int what) {
        return counted().file(what);
    }

    int scan() {
        return counted().scan();
    }

    int told(int what) {
        return counted().told(what);
    }

    int mail(int mail, int what) {
        return counted().mail(mail, what);
    }

    int at(int mail, int what, int i, int k) {
        return counted().at(mail, what, i, k);
    }

    int place(int mail, int i) {
        return counted().place(mail, i);
    }

    int count(int what) {
        return counted().count(what);
    }

    private static int word(byte[] bytes, int from) {
        int word = 0;
        for (int i = from; i < from + 4; i++) {
            word = word << 8 | (i < bytes.length ? bytes[i] & 255 : 0);
        }
        return word;
    }

    void tape(String text) {
        byte[] bytes = text.getBytes(StandardCharsets.ISO_8859_1);
        for (int i = 0; i < bytes.length; i += 20) {
            feed(word(bytes, i), word(bytes, i + 4), word(bytes, i + 8), word(bytes, i + 12), word(bytes, i + 16));
            end(Math.min(20, bytes.length - i));
        }
    }

    boolean named(String name) {
        tape(name);
        return name();
    }

    int put(String name, String content, int stamp) {
        named(name);
        tape(content);
        return write(stamp);
    }

    boolean gone(String name) {
        named(name);
        return delete();
    }

    void move(String from, String to) {
        named(from);
        tape(to);
        rename();
    }

    /** The KEY (what = 0), the BYTES (1) or the NAME of the i-th PLACE (2) of a MAIL. */
    String bytes(int mail, int what, int i) {
        StringBuilder text = new StringBuilder();
        int value = at(mail, what, i, 0);
        while (value != MailStore.NONE) {
            text.append((char) value);
            value = at(mail, what, i, text.length());
        }
        return text.toString();
    }

    /** All that is told of the latest SCAN. */
    String told() {
        StringBuilder text = new StringBuilder();
        for (int what = 0; what < 9; what++) {
            text.append(what == 0 ? "" : " ").append(told(what));
        }
        return text.toString();
    }

    /** What a call of write, rename or delete throws. */
    String thrown(String call) {
        try {
            switch (call) {
                case "write" -> write(0);
                case "rename" -> rename();
                default -> delete();
            }
        } catch (IllegalStateException e) {
            return "state";
        } catch (IllegalArgumentException e) {
            return "argument";
        }
        return "nothing";
    }

    /** The messages of a box on a new object, each behind its length. */
    String cut(String content) {
        renew();
        put("a.mbox", content, 0);
        int messages = Math.max(0, file(2));
        due("scan reads as many as file(2) tells", scan(), messages);
        String[] found = new String[messages];
        int mails = count(1);
        for (int m = 0; m < mails; m++) {
            String text = mail(m, 2) + "[" + bytes(m, 1, 0) + "]";
            int places = mail(m, 0);
            for (int i = 0; i < places; i++) {
                found[place(m, i)] = text;
            }
        }
        return String.join("", found);
    }

    /** The KEY of a message's file on a new object. */
    String key(String content) {
        renew();
        put("cur/x", content, 0);
        scan();
        String key = bytes(0, 0, 0);
        due("length of the key of " + content, mail(0, 1), key.length());
        return key;
    }

    /** FLAGS as they are told: A the lowest bit. */
    static int bits(String letters) {
        int bits = 0;
        for (char c : letters.toCharArray()) {
            bits |= 1 << (c - 'A');
        }
        return bits;
    }
}
