import java.util.ArrayList;
import java.util.Arrays;

/** Where mail lies: boxes and directories of files, and an archive that follows their messages. */
public final class MailStore {
    public static final int NONE = -1;

    private static final int MAX_READY = 20;
    private static final int MAX_CONTENT = 400;
    private static final int MAX_NAME = 40;
    private static final int MAX_KEY = 40;
    private static final int MAX_FILES = 40;
    private static final int LINE_FEED = 10;
    /** More than a file can have messages: a PLACE is told as its shelf times this and its message. */
    private static final int SHELF_ROOM = 1024;

    private static final int OTHER = 0;
    private static final int MESSAGE = 1;
    private static final int BOX = 2;

    private static final int GONE = 0;
    private static final int CHANGED = 1;
    private static final int NEW = 2;
    private static final int SAME = 3;
    private static final int NEW_MAILS = 4;
    private static final int ALTERED = 5;
    private static final int MOVED = 6;
    private static final int LOST = 7;
    private static final int FOUND = 8;
    private static final int TOLD_KINDS = 9;

    private final byte[] ready = new byte[MAX_READY];
    private final Text tape = new Text(MAX_CONTENT);
    private final Disk disk = new Disk();
    private final Archive archive = new Archive();
    private Title hand = null;

    public MailStore() {
    }

    public void feed(int a, int b, int c, int d, int e) {
        makeReady(0, a);
        makeReady(4, b);
        makeReady(8, c);
        makeReady(12, d);
        makeReady(16, e);
    }

    public int end(int n) {
        if (n < 0 || n > MAX_READY || tape.length + n > MAX_CONTENT) {
            return NONE;
        }
        for (int i = 0; i < n && i < ready.length; i++) {
            tape.append(ready[i]);
        }
        Arrays.fill(ready, (byte) 0);
        return tape.length;
    }

    public boolean name() {
        hand = Title.read(tape);
        tape.clear();
        return hand != null;
    }

    public int write(int stamp) throws IllegalStateException {
        Title title = hand;
        if (title == null || !disk.hasRoomFor(title)) {
            throw new IllegalStateException();
        }
        disk.put(new StoredFile(title, tape.copy(), stamp));
        tape.clear();
        return disk.files.size();
    }

    public void rename() throws IllegalArgumentException, IllegalStateException {
        StoredFile old = fileInHand();
        if (old == null) {
            throw new IllegalStateException();
        }
        Title title = Title.read(tape);
        if (title == null) {
            throw new IllegalArgumentException();
        }
        // The old name goes first, so that a file renamed to its own name is not lost.
        disk.remove(old.title);
        disk.put(new StoredFile(title, old.content, old.stamp));
        tape.clear();
        hand = title;
    }

    public boolean delete() throws IllegalStateException {
        Title title = hand;
        if (title == null) {
            throw new IllegalStateException();
        }
        return disk.remove(title);
    }

    public int file(int what) {
        Title title = hand;
        if (title == null) {
            return NONE;
        }
        StoredFile stored = fileInHand();
        switch (what) {
            case 0:
                return title.sort;
            case 1:
                return stored == null ? NONE : stored.content.length;
            case 2:
                return stored == null ? NONE : Cutter.messagesIn(stored);
            case 3:
                return title.flags;
            default:
                return NONE;
        }
    }

    public int scan() {
        int known = archive.mails.size();
        archive.beginScan();
        archive.judgeShelves(disk);
        int messages = 0;
        for (int i = 0; i < disk.files.size(); i++) {
            messages += archive.visit(disk.files.get(i));
        }
        archive.changeShelves();
        archive.tellOfMails(known);
        return messages;
    }

    public int told(int what) {
        return what >= 0 && what < TOLD_KINDS ? archive.tally[what] : NONE;
    }

    public int mail(int mail, int what) {
        Mail m = archive.mailOf(mail);
        if (m == null) {
            return NONE;
        }
        switch (what) {
            case 0:
                return m.places;
            case 1:
                return m.letter.keyLength;
            case 2:
                return m.letter.text.length;
            case 3:
                return archive.flagsOf(mail);
            case 4:
                return m.places == 0 ? 0 : tagsOf(archive.flagsOf(mail));
            case 5:
                return m.timesAltered;
            default:
                return NONE;
        }
    }

    public int at(int mail, int what, int i, int k) {
        Mail m = archive.mailOf(mail);
        if (m == null) {
            return NONE;
        }
        switch (what) {
            case 0:
                return m.letter.keyByte(k);
            case 1:
                return m.letter.text.get(k);
            case 2:
                return archive.titleByte(mail, i, k);
            default:
                return NONE;
        }
    }

    public int place(int mail, int i) {
        int spot = archive.spotOf(mail, i);
        return spot == NONE ? NONE : spot % SHELF_ROOM;
    }

    public int count(int what) {
        switch (what) {
            case 0:
                return disk.files.size();
            case 1:
                return archive.mails.size();
            case 2:
                return archive.mailsWithPlace();
            case 3:
                return archive.allPlaces();
            case 4:
                return tape.length;
            default:
                return NONE;
        }
    }

    private void makeReady(int from, int word) {
        for (int i = 0; i < 4 && from + i < ready.length; i++) {
            ready[from + i] = (byte) (word >> (24 - 8 * i));
        }
    }

    private StoredFile fileInHand() {
        Title title = hand;
        return title == null ? null : disk.find(title);
    }

    private static int flagBit(int letter) {
        return 1 << (letter - 'A');
    }

    private static int tagsOf(int flags) {
        int tags = (flags & flagBit('S')) == 0 ? 1 : 0;
        tags |= (flags & flagBit('F')) != 0 ? 2 : 0;
        tags |= (flags & flagBit('R')) != 0 ? 4 : 0;
        tags |= (flags & flagBit('T')) != 0 ? 8 : 0;
        tags |= (flags & flagBit('D')) != 0 ? 16 : 0;
        tags |= (flags & flagBit('P')) != 0 ? 32 : 0;
        return tags;
    }

    /** Bytes, read only behind a test of the index: where none is, get answers NONE. */
    private static final class Text {
        final byte[] row;
        int length = 0;

        Text(int room) {
            row = new byte[room > 0 ? room : 0];
        }

        int get(int k) {
            return k >= 0 && k < length && k < row.length ? row[k] & 255 : NONE;
        }

        void append(int value) {
            if (length >= 0 && length < row.length) {
                row[length] = (byte) value;
                length++;
            }
        }

        void clear() {
            length = 0;
        }

        Text copy() {
            Text twin = new Text(length);
            for (int i = 0; i < length; i++) {
                twin.append(get(i));
            }
            return twin;
        }

        boolean beginsLine(int k) {
            return k == 0 || get(k - 1) == LINE_FEED;
        }

        boolean isEmptyLine(int k) {
            return get(k) == LINE_FEED && (k == 0 || get(k - 1) == LINE_FEED);
        }

        /** The first place of a value in from .. to - 1, or NONE. */
        int find(int value, int from, int to) {
            for (int i = from; i < to && i < length; i++) {
                if (get(i) == value) {
                    return i;
                }
            }
            return NONE;
        }

        boolean hasWord(int from, String word) {
            for (int i = 0; i < word.length(); i++) {
                if (get(from + i) != word.charAt(i)) {
                    return false;
                }
            }
            return true;
        }

        /** As hasWord, whatever the case of the bytes; the word is in small letters. */
        boolean hasWordInAnyCase(int from, String word) {
            for (int i = 0; i < word.length(); i++) {
                int value = get(from + i);
                int small = value >= 'A' && value <= 'Z' ? value + 32 : value;
                if (small != word.charAt(i)) {
                    return false;
                }
            }
            return true;
        }

        boolean sameAs(Text other) {
            return length == other.length && samePart(0, other, 0, length);
        }

        boolean samePart(int from, Text other, int otherFrom, int size) {
            for (int i = 0; i < size; i++) {
                if (get(from + i) != other.get(otherFrom + i)) {
                    return false;
                }
            }
            return true;
        }

        /** Below 0, 0 or above 0; a text comes ahead of those that it begins, as get answers NONE there. */
        int order(Text other) {
            int size = Math.max(length, other.length);
            for (int i = 0; i < size; i++) {
                int difference = get(i) - other.get(i);
                if (difference != 0) {
                    return difference;
                }
            }
            return 0;
        }
    }

    /** A NAME, with what it tells of its file. */
    private static final class Title {
        private static final String BOX_ENDING = ".mbox";

        final Text text;
        final int sort;
        final int flags;

        Title(Text text) {
            int behind = lastSlash(text) + 1;
            this.text = text;
            this.sort = sortOf(text, behind);
            this.flags = sort == MESSAGE && isIn(text, behind, "cur") ? flagsFrom(text, behind) : 0;
        }

        /** The NAME that a text is, or null if it is none. */
        static Title read(Text text) {
            if (text.length < 1 || text.length > MAX_NAME) {
                return null;
            }
            for (int i = 0; i < text.length; i++) {
                if (text.get(i) < 33 || text.get(i) > 126) {
                    return null;
                }
            }
            return new Title(text.copy());
        }

        private static int lastSlash(Text text) {
            for (int i = text.length - 1; i >= 0; i--) {
                if (text.get(i) == '/') {
                    return i;
                }
            }
            return NONE;
        }

        private static int sortOf(Text text, int behind) {
            if (behind == 0) {
                int stem = text.length - BOX_ENDING.length();
                return stem > 0 && text.hasWord(stem, BOX_ENDING) ? BOX : OTHER;
            }
            boolean inFolder = isIn(text, behind, "cur") || isIn(text, behind, "new");
            int first = text.get(behind);
            return inFolder && first != NONE && first != '.' && first != ':' ? MESSAGE : OTHER;
        }

        /** Whether the directory whose slash stands just ahead of behind has this last part. */
        private static boolean isIn(Text text, int behind, String folder) {
            int from = behind - 1 - folder.length();
            return from >= 0 && text.hasWord(from, folder) && (from == 0 || text.get(from - 1) == '/');
        }

        private static int flagsFrom(Text text, int behind) {
            int found = 0;
            boolean open = false;
            for (int i = behind; i < text.length; i++) {
                int value = text.get(i);
                if (open && value >= 'A' && value <= 'Z') {
                    found |= flagBit(value);
                }
                open = open || text.hasWord(i, ":2,");
            }
            return found;
        }
    }

    /** A file; it never changes, so that the disk and the archive may share it. */
    private static final class StoredFile {
        final Title title;
        final Text content;
        final int stamp;

        StoredFile(Title title, Text content, int stamp) {
            this.title = title;
            this.content = content;
            this.stamp = stamp;
        }

        boolean isUnchanged(StoredFile other) {
            return stamp == other.stamp && content.sameAs(other.content);
        }
    }

    /** The files that are there, in the order of their NAMES. */
    private static final class Disk {
        final ArrayList<StoredFile> files = new ArrayList<>();

        StoredFile find(Title title) {
            int i = indexOf(title);
            return i >= 0 && i < files.size() ? files.get(i) : null;
        }

        boolean hasRoomFor(Title title) {
            return files.size() < MAX_FILES || indexOf(title) != NONE;
        }

        boolean remove(Title title) {
            int i = indexOf(title);
            if (i < 0 || i >= files.size()) {
                return false;
            }
            files.remove(i);
            return true;
        }

        void put(StoredFile stored) {
            remove(stored.title);
            int i = 0;
            while (i < files.size() && files.get(i).title.text.order(stored.title.text) < 0) {
                i++;
            }
            files.add(i, stored);
        }

        private int indexOf(Title title) {
            for (int i = 0; i < files.size(); i++) {
                if (files.get(i).title.text.sameAs(title.text)) {
                    return i;
                }
            }
            return NONE;
        }
    }

    /** A message's BYTES and where its KEY stands in them. */
    private static final class Letter {
        private static final String KEY_FIELD = "message-id:";

        final Text text;
        int keyFrom = 0;
        int keyLength = 0;

        Letter(Text text) {
            this.text = text;
        }

        Letter copy() {
            Letter twin = new Letter(text.copy());
            twin.keyFrom = keyFrom;
            twin.keyLength = keyLength;
            return twin;
        }

        int keyByte(int k) {
            return k >= 0 && k < keyLength ? text.get(keyFrom + k) : NONE;
        }

        boolean hasKeyOf(Letter other) {
            return keyLength == other.keyLength
                    && text.samePart(keyFrom, other.text, other.keyFrom, keyLength);
        }

        void findKey() {
            keyLength = 0;
            for (int i = 0; i < text.length && !text.isEmptyLine(i); i++) {
                if (text.beginsLine(i) && text.hasWordInAnyCase(i, KEY_FIELD)) {
                    readKey(i);
                    return;
                }
            }
        }

        private void readKey(int line) {
            int lineFeed = text.find(LINE_FEED, line, text.length);
            int lineEnd = lineFeed == NONE ? text.length : lineFeed;
            int open = text.find('<', line, lineEnd);
            int close = open == NONE ? NONE : text.find('>', open, lineEnd);
            int size = close - open - 1;
            if (close != NONE && size >= 1 && size <= MAX_KEY && text.find(' ', open, close) == NONE) {
                keyFrom = open + 1;
                keyLength = size;
            }
        }
    }

    /** Cuts files into their messages, one after the other in the same row. */
    private static final class Cutter {
        private static final String FROM = "From ";

        final Letter letter = new Letter(new Text(MAX_CONTENT));

        static int messagesIn(StoredFile stored) {
            if (stored.title.sort != BOX) {
                return stored.title.sort == MESSAGE ? 1 : 0;
            }
            int messages = 0;
            for (int i = 0; i < stored.content.length; i++) {
                messages += beginsMessage(stored.content, i) ? 1 : 0;
            }
            return messages;
        }

        /** Where a file's first message begins, its From line included. */
        static int firstIn(StoredFile stored) {
            return stored.title.sort == BOX ? nextFrom(stored.content, 0) : 0;
        }

        /** Takes the message that begins at start into the letter, and answers where the next begins. */
        int cut(StoredFile stored, int start) {
            Text content = stored.content;
            int next = content.length;
            letter.text.clear();
            if (stored.title.sort == BOX) {
                int fromEnd = content.find(LINE_FEED, start, content.length);
                int body = fromEnd == NONE ? content.length : fromEnd + 1;
                next = nextFrom(content, body);
                boolean endsEmpty = next > body && content.isEmptyLine(next - 1);
                takeUnquoted(content, body, endsEmpty ? next - 1 : next);
            } else {
                takeWhole(content);
            }
            letter.findKey();
            return next;
        }

        private void takeWhole(Text content) {
            for (int i = 0; i < content.length; i++) {
                letter.text.append(content.get(i));
            }
        }

        private void takeUnquoted(Text content, int body, int bodyEnd) {
            for (int i = body; i < bodyEnd; i++) {
                if (!isQuoteMark(content, i)) {
                    letter.text.append(content.get(i));
                }
            }
        }

        private static int nextFrom(Text content, int from) {
            for (int i = from; i < content.length; i++) {
                if (beginsMessage(content, i)) {
                    return i;
                }
            }
            return content.length;
        }

        private static boolean beginsMessage(Text content, int i) {
            return (i == 0 || content.isEmptyLine(i - 1)) && content.hasWord(i, FROM);
        }

        /** Whether the > at i is the first byte of a line that was a From line once. */
        private static boolean isQuoteMark(Text content, int i) {
            if (content.get(i) != '>' || !content.beginsLine(i)) {
                return false;
            }
            int behind = i;
            while (behind < content.length && content.get(behind) == '>') {
                behind++;
            }
            return content.hasWord(behind, FROM);
        }
    }

    /** A MAIL; what it was ahead of the SCAN that goes on is kept beside what it is. */
    private static final class Mail {
        Letter letter;
        int places = 0;
        int timesAltered = 0;
        int placesBefore = 0;
        boolean lostPlace = false;
        boolean keptName = false;

        Mail(Letter letter) {
            this.letter = letter;
        }

        void rememberPlaces() {
            placesBefore = places;
            lostPlace = false;
            keptName = false;
        }
    }

    /** A file as it was at the last SCAN, with the number of each message's MAIL. */
    private static final class Shelf {
        final StoredFile stored;
        final int[] numbers;
        int fate = NEW;

        Shelf(StoredFile stored, int messages) {
            this.stored = stored;
            this.numbers = new int[messages > 0 ? messages : 0];
        }

        boolean holds(int number) {
            for (int k = 0; k < numbers.length; k++) {
                if (numbers[k] == number) {
                    return true;
                }
            }
            return false;
        }
    }

    /** The MAILS and their PLACES, which are the shelves' numbers, in the order of the files' NAMES. */
    private static final class Archive {
        final ArrayList<Mail> mails = new ArrayList<>();
        final int[] tally = new int[TOLD_KINDS];
        private final Cutter cutter = new Cutter();
        private ArrayList<Shelf> shelves = new ArrayList<>();
        private ArrayList<Shelf> nextShelves = new ArrayList<>();

        Mail mailOf(int number) {
            return number >= 0 && number < mails.size() ? mails.get(number) : null;
        }

        int flagsOf(int number) {
            int flags = 0;
            for (int s = 0; s < shelves.size(); s++) {
                Shelf shelf = shelves.get(s);
                flags |= shelf.holds(number) ? shelf.stored.title.flags : 0;
            }
            return flags;
        }

        /** Where the i-th PLACE of a MAIL is, or NONE. */
        int spotOf(int number, int i) {
            int left = i;
            for (int s = 0; s < shelves.size() && left >= 0; s++) {
                int[] numbers = shelves.get(s).numbers;
                for (int k = 0; k < numbers.length; k++) {
                    left -= numbers[k] == number ? 1 : 0;
                    if (left < 0) {
                        return s * SHELF_ROOM + k;
                    }
                }
            }
            return NONE;
        }

        /** Byte k of the NAME of a MAIL's i-th PLACE, or NONE. */
        int titleByte(int number, int i, int k) {
            int spot = spotOf(number, i);
            int s = spot == NONE ? NONE : spot / SHELF_ROOM;
            return s >= 0 && s < shelves.size() ? shelves.get(s).stored.title.text.get(k) : NONE;
        }

        int mailsWithPlace() {
            int found = 0;
            for (int m = 0; m < mails.size(); m++) {
                found += mails.get(m).places > 0 ? 1 : 0;
            }
            return found;
        }

        int allPlaces() {
            int places = 0;
            for (int s = 0; s < shelves.size(); s++) {
                places += shelves.get(s).numbers.length;
            }
            return places;
        }

        void beginScan() {
            Arrays.fill(tally, 0);
            for (int m = 0; m < mails.size(); m++) {
                mails.get(m).rememberPlaces();
            }
        }

        /** Steps 1 and 2 of a SCAN, ahead of any reading: what a later file loses is free for an earlier one. */
        void judgeShelves(Disk disk) {
            for (int s = 0; s < shelves.size(); s++) {
                Shelf shelf = shelves.get(s);
                shelf.fate = fateOf(shelf.stored, disk.find(shelf.stored.title));
                tell(shelf.fate, true);
                if (shelf.fate == SAME) {
                    keepPlaces(shelf);
                } else {
                    takePlaces(shelf);
                }
            }
        }

        private static int fateOf(StoredFile before, StoredFile now) {
            if (now == null) {
                return GONE;
            }
            return before.isUnchanged(now) ? SAME : CHANGED;
        }

        private void keepPlaces(Shelf shelf) {
            for (int k = 0; k < shelf.numbers.length; k++) {
                Mail m = mailOf(shelf.numbers[k]);
                if (m != null) {
                    m.keptName = true;
                }
            }
        }

        private void takePlaces(Shelf shelf) {
            for (int k = 0; k < shelf.numbers.length; k++) {
                Mail m = mailOf(shelf.numbers[k]);
                if (m != null) {
                    m.places--;
                    m.lostPlace = true;
                }
            }
        }

        private void tell(int kind, boolean holds) {
            if (holds && kind >= 0 && kind < tally.length) {
                tally[kind]++;
            }
        }

        /** Step 3 of a SCAN for one file, by NAMES: answers how many messages were read there. */
        int visit(StoredFile stored) {
            if (stored.title.sort == OTHER) {
                return 0;
            }
            Shelf old = shelfOf(stored.title);
            if (old != null && old.fate == SAME) {
                nextShelves.add(old);
                return 0;
            }
            tell(NEW, old == null);
            Shelf shelf = new Shelf(stored, Cutter.messagesIn(stored));
            nextShelves.add(shelf);
            int start = Cutter.firstIn(stored);
            for (int k = 0; k < shelf.numbers.length; k++) {
                start = cutter.cut(stored, start);
                shelf.numbers[k] = recognise();
                givePlace(shelf.numbers[k], old);
            }
            return shelf.numbers.length;
        }

        /** One more PLACE, in a file which was old at the last SCAN (null: was not there). */
        private void givePlace(int number, Shelf old) {
            Mail m = mailOf(number);
            if (m != null) {
                m.places++;
                m.keptName = m.keptName || old != null && old.holds(number);
            }
        }

        /** From now on the files are as this SCAN saw them. */
        void changeShelves() {
            ArrayList<Shelf> old = shelves;
            shelves = nextShelves;
            nextShelves = old;
            nextShelves.clear();
        }

        private Shelf shelfOf(Title title) {
            for (int s = 0; s < shelves.size(); s++) {
                if (shelves.get(s).stored.title.text.sameAs(title.text)) {
                    return shelves.get(s);
                }
            }
            return null;
        }

        /** The number of the MAIL that the message in the cutter is. */
        private int recognise() {
            int number = withBytes();
            if (number != NONE) {
                return number;
            }
            Letter letter = cutter.letter.copy();
            number = letter.keyLength > 0 ? placelessWithKey() : NONE;
            Mail m = mailOf(number);
            if (m == null) {
                mails.add(new Mail(letter));
                tell(NEW_MAILS, true);
                return mails.size() - 1;
            }
            m.letter = letter;
            m.timesAltered++;
            tell(ALTERED, true);
            return number;
        }

        /** Who has these BYTES has this KEY too, or none if they have none: it stands in them. */
        private int withBytes() {
            for (int m = 0; m < mails.size(); m++) {
                if (mails.get(m).letter.text.sameAs(cutter.letter.text)) {
                    return m;
                }
            }
            return NONE;
        }

        private int placelessWithKey() {
            for (int m = 0; m < mails.size(); m++) {
                Mail candidate = mails.get(m);
                if (candidate.places == 0 && candidate.letter.hasKeyOf(cutter.letter)) {
                    return m;
                }
            }
            return NONE;
        }

        /** Step 4 of a SCAN, of the MAILS that were known ahead of it. */
        void tellOfMails(int known) {
            for (int i = 0; i < known && i < mails.size(); i++) {
                Mail m = mails.get(i);
                tell(MOVED, m.lostPlace && m.places > 0 && !m.keptName);
                tell(LOST, m.lostPlace && m.places == 0);
                tell(FOUND, m.placesBefore == 0 && m.places > 0);
            }
        }
    }
}
