import java.util.ArrayList;
import java.util.HashSet;
import java.util.List;
import java.util.Map;
import java.util.Random;
import java.util.Set;
import java.util.TreeMap;
import java.util.TreeSet;
import java.util.regex.Matcher;
import java.util.regex.Pattern;

/** Runs of chance calls, from fixed seeds, on the class and on a plain second writing of the document. */
public final class MailStoreAgainstModel {
    private static final int RUNS = 4000;
    private static final int CALLS = 512;
    /** Enough for one turn of a run, however long its texts are. */
    private static final int LAST_TURN = 150;
    private static final int[] ODD = {Integer.MIN_VALUE, Integer.MIN_VALUE + 1, -2, -1, 9, 20, 21, 40, 41, 399, 400, 401, 1 << 16,
        1 << 24, Integer.MAX_VALUE - 1, Integer.MAX_VALUE};
    private static final String[] NAMES = {"cur/a", "cur/a:2,S", "cur/a:2,FR", "cur/b:2,TDP", "new/a", "new/b:2,S",
        "m/cur/c:1,Q:2,SF", "m/new/c", "a.mbox", "b.mbox", "c.mbox", ".mbox", "tmp/a", "plain", "cur/.a", "cur/:a",
        "cur/a/b", "cur/ab", "cur/A", "x:2,D/cur/d:2,S", "no name", ""};
    private static final String[] PARTS = {"From a\n", "From \n", "\nFrom b\n", "\n\nFrom c\n", "\n", "\n\n", "x\n", "y\n",
        ">From d\n", ">>From e\n", "Message-ID: <k>\n", "message-id:<l>\n", "Message-ID: <m n>\n", "Message-ID: <k>\n\n",
        "Subject: <s>\n", "z", "Message-ID: k\n", "MESSAGE-ID: <kk> <k>\n", "\u00ff\u0000\n", "> >From \n"};

    private final Random random;
    private final int seed;
    private final MailStore x = new MailStore();
    private final Model model = new Model();
    private int calls = 0;
    private int wrong = 0;

    private MailStoreAgainstModel(int seed) {
        this.seed = seed;
        this.random = new Random(seed);
    }

    public static void main(String[] args) {
        int wrong = 0;
        long[] seen = new long[10];
        for (int seed = 1; seed <= RUNS && wrong == 0; seed++) {
            MailStoreAgainstModel run = new MailStoreAgainstModel(seed);
            run.go();
            wrong += run.wrong;
            for (int i = 0; i < 9; i++) {
                seen[i] += run.model.sums[i];
            }
            seen[9] += run.model.mails.size();
        }
        for (int i = 0; i < 10; i++) {
            if (seen[i] < RUNS / 2) {
                wrong++;
                System.out.println("the runs are too tame: kind " + i + " came " + seen[i] + " times");
            }
        }
        System.out.println(wrong == 0 ? "the class and the model agree" : "the class and the model differ");
        if (wrong != 0) {
            System.exit(1);
        }
    }

    private void go() {
        int fewNames = 2 + random.nextInt(NAMES.length - 1);
        while (calls < CALLS - LAST_TURN && wrong == 0) {
            switch (random.nextInt(10)) {
                case 0, 1, 2 -> {
                    take(NAMES[random.nextInt(fewNames)]);
                    due("name", x.name() ? 1 : 0, model.name() ? 1 : 0);
                    take(content());
                    writeBoth();
                }
                case 3 -> {
                    take(NAMES[random.nextInt(fewNames)]);
                    due("name", x.name() ? 1 : 0, model.name() ? 1 : 0);
                    if (random.nextBoolean()) {
                        deleteBoth();
                    }
                }
                case 4, 5 -> {
                    take(NAMES[random.nextInt(fewNames)]);
                    renameBoth();
                }
                case 6 -> {
                    int n = oddOr(random.nextInt(8) == 0 ? 21 : 1);
                    due("end " + n, x.end(n), model.end(n));
                }
                default -> {
                    due("scan", x.scan(), model.scan());
                    for (int asked = 0; asked < 4; asked++) {
                        int what = oddOr(9);
                        due("told " + what, x.told(what), what < 0 || what > 8 ? -1 : model.told[what]);
                    }
                }
            }
            if (random.nextInt(3) == 0) {
                askSome();
            }
        }
        while (calls <= CALLS - 5 && wrong == 0) {
            askSome();
        }
    }

    private String content() {
        StringBuilder text = new StringBuilder();
        boolean wild = random.nextInt(3) == 0;
        int parts = wild ? random.nextInt(9) : 1 + random.nextInt(3);
        boolean box = random.nextBoolean();
        for (int i = 0; i < parts; i++) {
            if (wild) {
                String part = PARTS[random.nextInt(PARTS.length)];
                text.append(random.nextInt(40) == 0 ? part.repeat(5) : part);
            } else if (box || i == 0) {
                text.append(box ? "From \n" : "").append(message()).append(box ? "\n" : "");
            }
        }
        return text.toString();
    }

    /** One of a few, so that the same ones come again in other files. */
    private String message() {
        int kind = random.nextInt(4);
        String head = kind == 0 ? "" : kind == 1 ? "Message-ID: <l>\n" : "Message-id:<k>\n";
        return head + "\n" + random.nextInt(3) + "\n";
    }

    private void take(String text) {
        for (int from = 0; from < text.length(); from += 20) {
            String part = text.substring(from, Math.min(text.length(), from + 20));
            int[] words = new int[5];
            for (int i = 0; i < part.length(); i++) {
                words[i / 4] |= part.charAt(i) << (24 - 8 * (i % 4));
            }
            x.feed(words[0], words[1], words[2], words[3], words[4]);
            calls++;
            model.ready = part + "\0".repeat(20 - part.length());
            due("end", x.end(part.length()), model.end(part.length()));
        }
    }

    private void writeBoth() {
        int stamp = random.nextInt(2);
        int got;
        try {
            got = x.write(stamp);
        } catch (IllegalStateException e) {
            got = -7;
        }
        due("write", got, model.write(stamp));
    }

    private void deleteBoth() {
        int got;
        try {
            got = x.delete() ? 1 : 0;
        } catch (IllegalStateException e) {
            got = -7;
        }
        due("delete", got, model.delete());
    }

    private void renameBoth() {
        int got = 0;
        try {
            x.rename();
        } catch (IllegalStateException e) {
            got = -7;
        } catch (IllegalArgumentException e) {
            got = -8;
        }
        due("rename", got, model.rename());
    }

    /** Five calls that change nothing. */
    private void askSome() {
        int what = oddOr(6);
        due("count " + what, x.count(what), model.count(what));
        due("file " + what, x.file(what), model.file(what));
        int m = oddOr(model.mails.size() + 1);
        due("mail " + m + " " + what, x.mail(m, what), model.mail(m, what));
        int i = oddOr(1 + Math.max(1, model.mail(m, 0)));
        due("place " + m + " " + i, x.place(m, i), model.place(m, i));
        int which = oddOr(3);
        int k = oddOr(which == 1 ? 1 + Math.max(0, model.mail(m, 2)) : 9);
        due("at " + m + " " + which + " " + i + " " + k, x.at(m, which, i, k), model.at(m, which, i, k));
    }

    /** One of 0 .. bound - 1, or now and then one that is mostly none of them. */
    private int oddOr(int bound) {
        return random.nextInt(12) == 0 ? ODD[random.nextInt(ODD.length)] : random.nextInt(bound);
    }

    private void due(String call, long got, long want) {
        calls++;
        if (calls > CALLS) {
            throw new IllegalStateException("behind the last call nothing is promised: LAST_TURN is too small");
        }
        if (got != want && wrong++ < 5) {
            System.out.println("seed " + seed + ", call " + calls + ": " + call + " answered " + got + ", due is " + want);
        }
    }

    private record Stored(String content, int stamp) { }

    private record Place(String name, int message) implements Comparable<Place> {
        @Override
        public int compareTo(Place other) {
            int names = name.compareTo(other.name);
            return names != 0 ? names : Integer.compare(message, other.message);
        }
    }

    private static final class Known {
        private String bytes;
        private String key;
        private int altered = 0;
        private final TreeSet<Place> places = new TreeSet<>();
    }

    /** The document over texts, maps and patterns, without a thought of speed. */
    private static final class Model {
        private static final Pattern KEY = Pattern.compile("(?i)^message-id:[^<\n]*<([^>\n]*)>");
        private String ready = "\0".repeat(20);
        private String tape = "";
        private String hand = null;
        private final TreeMap<String, Stored> files = new TreeMap<>();
        private TreeMap<String, Stored> last = new TreeMap<>();
        private final List<Known> mails = new ArrayList<>();
        private int[] told = new int[9];
        private final long[] sums = new long[9];

        int end(int n) {
            if (n < 0 || n > 20 || tape.length() + n > 400) {
                return -1;
            }
            tape += ready.substring(0, n);
            ready = "\0".repeat(20);
            return tape.length();
        }

        static boolean isName(String text) {
            return text.matches("[!-~]{1,40}");
        }

        boolean name() {
            hand = isName(tape) ? tape : null;
            tape = "";
            return hand != null;
        }

        int write(int stamp) {
            if (hand == null || files.size() == 40 && !files.containsKey(hand)) {
                return -7;
            }
            files.put(hand, new Stored(tape, stamp));
            tape = "";
            return files.size();
        }

        int rename() {
            if (hand == null || !files.containsKey(hand)) {
                return -7;
            }
            if (!isName(tape)) {
                return -8;
            }
            files.put(tape, files.remove(hand));
            hand = tape;
            tape = "";
            return 0;
        }

        int delete() {
            return hand == null ? -7 : files.remove(hand) != null ? 1 : 0;
        }

        static int sort(String name) {
            if (name.matches("(.*/)?(cur|new)/[^/.:][^/]*")) {
                return 1;
            }
            return name.matches("[^/]+\\.mbox") ? 2 : 0;
        }

        static int flags(String name) {
            int bits = 0;
            Matcher m = Pattern.compile("(?:.*/)?cur/[^/.:][^/]*?:2,([^/]*)").matcher(name);
            if (m.matches()) {
                for (char c : m.group(1).replaceAll("[^A-Z]", "").toCharArray()) {
                    bits |= 1 << (c - 'A');
                }
            }
            return bits;
        }

        static List<String> messages(String name, String content) {
            List<String> found = new ArrayList<>();
            if (sort(name) == 1) {
                found.add(content);
            }
            if (sort(name) != 2) {
                return found;
            }
            List<List<String>> cut = new ArrayList<>();
            String ahead = "\n";
            for (String line : content.split("(?<=\n)")) {
                if (line.startsWith("From ") && ahead.equals("\n")) {
                    cut.add(new ArrayList<>());
                } else if (!cut.isEmpty()) {
                    cut.get(cut.size() - 1).add(line);
                }
                ahead = line;
            }
            for (List<String> lines : cut) {
                if (!lines.isEmpty() && lines.get(lines.size() - 1).equals("\n")) {
                    lines.remove(lines.size() - 1);
                }
                StringBuilder text = new StringBuilder();
                for (String line : lines) {
                    text.append(line.replaceFirst("^>(>*From )", "$1"));
                }
                found.add(text.toString());
            }
            return found;
        }

        static String key(String bytes) {
            for (String line : bytes.split("(?<=\n)")) {
                if (line.equals("\n")) {
                    return "";
                }
                if (line.toLowerCase().startsWith("message-id:")) {
                    Matcher m = KEY.matcher(line);
                    return m.find() && m.group(1).matches("[^ ]{1,40}") ? m.group(1) : "";
                }
            }
            return "";
        }

        int scan() {
            told = new int[9];
            List<Set<String>> before = new ArrayList<>();
            for (Known m : mails) {
                Set<String> names = new HashSet<>();
                m.places.forEach(p -> names.add(p.name()));
                before.add(names);
            }
            Set<Integer> went = new HashSet<>();
            TreeMap<String, Stored> toRead = new TreeMap<>();
            TreeMap<String, Stored> now = new TreeMap<>();
            files.forEach((name, stored) -> {
                if (sort(name) != 0) {
                    now.put(name, stored);
                }
            });
            for (Map.Entry<String, Stored> old : last.entrySet()) {
                Stored there = now.get(old.getKey());
                int fate = there == null ? 0 : there.equals(old.getValue()) ? 3 : 1;
                told[fate]++;
                for (int m = 0; m < mails.size() && fate != 3; m++) {
                    if (mails.get(m).places.removeIf(p -> p.name().equals(old.getKey()))) {
                        went.add(m);
                    }
                }
                if (fate == 1) {
                    toRead.put(old.getKey(), there);
                }
            }
            for (String name : now.keySet()) {
                if (!last.containsKey(name)) {
                    told[2]++;
                    toRead.put(name, now.get(name));
                }
            }
            int read = 0;
            for (Map.Entry<String, Stored> entry : toRead.entrySet()) {
                int k = 0;
                for (String bytes : messages(entry.getKey(), entry.getValue().content())) {
                    recognise(bytes).places.add(new Place(entry.getKey(), k++));
                    read++;
                }
            }
            tell(before, went);
            last = now;
            return read;
        }

        private Known recognise(String bytes) {
            String key = key(bytes);
            for (Known m : mails) {
                if (m.key.equals(key) && m.bytes.equals(bytes)) {
                    return m;
                }
            }
            for (Known m : mails) {
                if (!key.isEmpty() && m.key.equals(key) && m.places.isEmpty()) {
                    m.bytes = bytes;
                    m.altered++;
                    told[5]++;
                    return m;
                }
            }
            Known m = new Known();
            m.bytes = bytes;
            m.key = key;
            mails.add(m);
            told[4]++;
            return m;
        }

        private void tell(List<Set<String>> before, Set<Integer> went) {
            for (int m = 0; m < before.size(); m++) {
                TreeSet<Place> places = mails.get(m).places;
                Set<String> names = before.get(m);
                if (went.contains(m)) {
                    told[7] += places.isEmpty() ? 1 : 0;
                    told[6] += !places.isEmpty() && places.stream().noneMatch(p -> names.contains(p.name())) ? 1 : 0;
                }
                told[8] += names.isEmpty() && !places.isEmpty() ? 1 : 0;
            }
            for (int i = 0; i < 9; i++) {
                sums[i] += told[i];
            }
        }

        int file(int what) {
            if (hand == null) {
                return -1;
            }
            Stored stored = files.get(hand);
            return switch (what) {
                case 0 -> sort(hand);
                case 1 -> stored == null ? -1 : stored.content().length();
                case 2 -> stored == null ? -1 : messages(hand, stored.content()).size();
                case 3 -> flags(hand);
                default -> -1;
            };
        }

        int mail(int number, int what) {
            if (number < 0 || number >= mails.size()) {
                return -1;
            }
            Known m = mails.get(number);
            int bits = 0;
            for (Place p : m.places) {
                bits |= flags(p.name());
            }
            int tags = m.places.isEmpty() || (bits >> 18 & 1) == 1 ? 0 : 1;
            for (int i = 0; i < 5; i++) {
                tags |= (bits >> ("FRTDP".charAt(i) - 'A') & 1) << (i + 1);
            }
            return switch (what) {
                case 0 -> m.places.size();
                case 1 -> m.key.length();
                case 2 -> m.bytes.length();
                case 3 -> bits;
                case 4 -> tags;
                case 5 -> m.altered;
                default -> -1;
            };
        }

        int at(int number, int what, int i, int k) {
            if (number < 0 || number >= mails.size()) {
                return -1;
            }
            Known m = mails.get(number);
            List<Place> places = new ArrayList<>(m.places);
            String text = switch (what) {
                case 0 -> m.key;
                case 1 -> m.bytes;
                case 2 -> i >= 0 && i < places.size() ? places.get(i).name() : "";
                default -> "";
            };
            return k >= 0 && k < text.length() ? text.charAt(k) : -1;
        }

        int place(int number, int i) {
            if (number < 0 || number >= mails.size() || i < 0 || i >= mails.get(number).places.size()) {
                return -1;
            }
            return new ArrayList<>(mails.get(number).places).get(i).message();
        }

        int count(int what) {
            int withPlace = 0;
            int places = 0;
            for (Known m : mails) {
                withPlace += m.places.isEmpty() ? 0 : 1;
                places += m.places.size();
            }
            return switch (what) {
                case 0 -> files.size();
                case 1 -> mails.size();
                case 2 -> withPlace;
                case 3 -> places;
                case 4 -> tape.length();
                default -> -1;
            };
        }
    }
}
