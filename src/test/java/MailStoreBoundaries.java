import java.util.Arrays;

/** The sentences of the document that name a boundary case, in its order: each has a test that bears its words. */
public final class MailStoreBoundaries {
    private static final String KEYED = "Message-ID: <k>\n\n";

    private MailStoreBoundaries() {
    }

    public static void main(String[] args) {
        calls();
        files();
        messageNames();
        flags();
        boxNames();
        lines();
        messages();
        keys();
        scanOfFiles();
        scanOfMessages();
        scanOfMails();
        tags();
        newObject();
        feed();
        end();
        name();
        write();
        rename();
        delete();
        file();
        scan();
        told();
        mail();
        at();
        place();
        count();
        Desk.close();
    }

    // What it is

    private static void calls() {
        Desk t = new Desk("An object is used for at most 512 calls after it has been made");
        t.put("cur/x:2,S", "abc", 0);
        t.scan();
        t.tape("d.mbox");
        while (t.calls() < Desk.MAX_CALLS - 5) {
            t.due("end(0)", t.end(0), 6);
        }
        t.due("the 508th, name()", t.name(), true);
        t.due("the 509th, write(7)", t.write(7), 2);
        t.due("the 510th, scan()", t.scan(), 0);
        t.due("the 511th, told(2)", t.told(2), 1);
        t.due("the 512th, at(0, 1, 0, 2)", t.at(0, 1, 0, 2), 'c');
        t.due("calls", t.calls(), Desk.MAX_CALLS);
    }

    // Terms: files

    private static void files() {
        nameLengths();
        nameBytes();
        nameOrder();
        contentLengths();
        stamps();
        fortyFiles();
    }

    private static void nameLengths() {
        Desk t = new Desk("FILES have a NAME, 1 to 40 bytes");
        int[] lengths = {0, 1, 2, 39, 40, 41, 42, 255, 256, 257, 399, 400};
        for (int length : lengths) {
            t.renew();
            t.due("a NAME of " + length + " bytes", t.named("a".repeat(length)), length >= 1 && length <= 40);
        }
        t.renew();
        String name = "cur/" + "n".repeat(36);
        t.put(name, "x", 0);
        t.scan();
        t.due("all 40 bytes of a NAME", t.bytes(0, 2, 0), name);
    }

    private static void nameBytes() {
        Desk t = new Desk("a NAME, 1 to 40 bytes 33 .. 126");
        for (int value = 0; value < 256; value++) {
            String one = String.valueOf((char) value);
            boolean due = value >= 33 && value <= 126;
            t.renew();
            t.due("byte " + value + " alone", t.named(one), due);
            t.due("byte " + value + " first", t.named(one + "b".repeat(39)), due);
            t.due("byte " + value + " within", t.named("aa" + one + "bb"), due);
            t.due("byte " + value + " last", t.named("a".repeat(39) + one), due);
        }
    }

    private static void nameOrder() {
        Desk t = new Desk("names are in order byte by byte");
        String[] names = {"!/cur/x", "Z.mbox", "a.mbox", "a/cur/x", "aa.mbox", "cur/!", "cur/A", "cur/a", "cur/a!", "cur/aa",
            "cur/b", "cur/" + "z".repeat(35), "cur/" + "z".repeat(35) + "!", "cur/" + "z".repeat(36), "cur/~", "new/!",
            "~.mbox"};
        for (int i = names.length - 1; i >= 0; i--) {
            boolean box = names[i].endsWith(".mbox");
            t.put(names[i], (box ? "From \n" : "") + i, 0);
        }
        t.scan();
        for (int i = 0; i < names.length; i++) {
            t.due("at(" + i + ", 2, 0, ..)", t.bytes(i, 2, 0), names[i]);
        }
    }

    private static void contentLengths() {
        Desk t = new Desk("CONTENT, 0 to 400 bytes");
        t.put("cur/a", "", 0);
        t.due("file(1) of an empty one", t.file(1), 0);
        t.due("file(2) of an empty one", t.file(2), 1);
        t.due("scan() of an empty one", t.scan(), 1);
        t.due("mail(0, 2) of an empty one", t.mail(0, 2), 0);
        t.due("at(0, 1, 0, 0) of an empty one", t.at(0, 1, 0, 0), -1);
        t.put("cur/b", "", 0);
        t.due("scan() of two empty ones", t.scan(), 1);
        t.due("two empty ones are one MAIL", t.mail(0, 0), 2);
        String[] names = {"cur/full", "full.mbox"};
        for (String name : names) {
            StringBuilder content = new StringBuilder("From \n");
            while (content.length() < 400) {
                content.append((char) (11 + content.length() % 200));
            }
            boolean box = name.endsWith(".mbox");
            t.renew();
            t.put(name, content.toString(), 0);
            t.due("file(1) of a full one", t.file(1), 400);
            t.due("scan() of a full one", t.scan(), 1);
            t.due("mail(0, 2) of a full one", t.mail(0, 2), box ? 394 : 400);
            t.due("all bytes of a full one", t.bytes(0, 1, 0), content.substring(box ? 6 : 0));
        }
    }

    private static void stamps() {
        Desk t = new Desk("a STAMP (a number)");
        int[] stamps = {0, 1, -1, 255, 256, 257, 65536, 1 << 24, Integer.MAX_VALUE, Integer.MIN_VALUE, Integer.MIN_VALUE + 1};
        for (int before : stamps) {
            for (int now : stamps) {
                t.renew();
                t.put("cur/a", "x", before);
                t.scan();
                t.put("cur/a", "x", now);
                t.due("scan() behind STAMPS " + before + " and " + now, t.scan(), before == now ? 0 : 1);
                t.due("told(1)", t.told(1), before == now ? 0 : 1);
            }
        }
    }

    private static void fortyFiles() {
        Desk t = new Desk("At most 40 are there");
        for (int i = 1; i <= 40; i++) {
            t.due("write(0) of file " + i, t.put("cur/" + i, "x" + i, 0), i);
        }
        t.named("cur/41");
        t.due("write(0) of the 41st", t.thrown("write"), "state");
        t.due("count(0)", t.count(0), 40);
        t.due("scan() of all 40", t.scan(), 40);
        t.due("told(2)", t.told(2), 40);
        t.due("count(3)", t.count(3), 40);
        t.due("at(39, 2, 0, 4)", t.at(39, 2, 0, 4), '9');
    }

    // Terms: names of messages' files and boxes

    private static void sort(Desk t, int sort, String... names) {
        for (String name : names) {
            t.renew();
            t.named(name);
            t.due("file(0) of " + name, t.file(0), sort);
            t.tape("From \n\nFrom \n");
            t.write(0);
            t.due("file(0) of " + name + ", there", t.file(0), sort);
            t.due("file(2) of " + name, t.file(2), sort);
            t.due("scan() of " + name, t.scan(), sort);
        }
    }

    private static void messageNames() {
        Desk t = new Desk("that of a MESSAGE's file, if what stands ahead of the last / ends with cur or new");
        sort(t, 1, "cur/x", "new/x", "cur/cur", "new/new", "a/new/cur/x", "new/cur/x");
        sort(t, 0, "tmp/x", "Cur/x", "NEW/x", "ur/x", "cu/x", "nex/x", "curx/x", "cur/a/x", "cur//x", "/x", "/", "//", "cur", "new");
        t = new Desk("(alone, or behind a /)");
        sort(t, 1, "a/cur/x", "/cur/x", "//new/x", "acur/cur/x", "a/b/c/d/e/new/x");
        sort(t, 0, "acur/x", "a/bnew/x", ".cur/x", "-new/x", "curcur/x", "a/.cur/x");
        t = new Desk("and behind that / is at least one byte");
        sort(t, 0, "cur/", "new/", "a/cur/", "cur/cur/x/");
        sort(t, 1, "cur/!", "new/~", "a/cur/b", "cur/" + "x".repeat(36), "a".repeat(34) + "/cur/b");
        t = new Desk("none of them a dot at the beginning");
        sort(t, 0, "cur/.", "cur/..", "cur/.x", "new/.x", "cur/.x:2,S", "a/cur/.x");
        sort(t, 1, "cur/x.", "cur/x.y", "./cur/x", "new/-.x", ".a/new/x");
        t = new Desk("BASE: up to the first : (at least one byte; with a : first it is none)");
        sort(t, 0, "cur/:", "cur/:x", "cur/:2,S", "new/:2,", "cur/::", "cur/:.");
        sort(t, 1, "cur/x:", "cur/x::", "new/x:2,", "a:b/cur/x", ":/cur/x", "cur/x:y:z");
    }

    private static void flagsOf(Desk t, String name, String letters) {
        t.renew();
        t.named(name);
        t.due("file(3) of " + name, t.file(3), Desk.bits(letters));
        t.tape("From \nx");
        t.write(0);
        t.due("file(3) of " + name + ", there", t.file(3), Desk.bits(letters));
        if (t.scan() == 1) {
            t.due("mail(0, 3) in " + name, t.mail(0, 3), Desk.bits(letters));
        }
    }

    private static void flags() {
        Desk t = new Desk("FLAGS are the letters A .. Z");
        for (int value = 33; value <= 126; value++) {
            boolean letter = value >= 'A' && value <= 'Z';
            if (value != '/') {
                flagsOf(t, "cur/x:2," + (char) value, letter ? String.valueOf((char) value) : "");
            }
        }
        flagsOf(t, "cur/x:2,ABCDEFGHIJKLMNOPQRSTUVWXYZ", "ABCDEFGHIJKLMNOPQRSTUVWXYZ");
        flagsOf(t, "cur/x:2,AAAAAAAAAAAAAAAAAAAAAAAAAAAAAAAA", "A");
        flagsOf(t, "cur/x:2,@A[Z`a{z", "AZ");
        t = new Desk("behind the first \":2,\"");
        String[][] due = {{"cur/x", ""}, {"cur/x:", ""}, {"cur/x:2", ""}, {"cur/x:2,", ""}, {"cur/SF", ""}, {"cur/S:2,F", "F"},
            {"cur/x2,S", ""}, {"cur/x:,S", ""}, {"cur/x:2S", ""}, {"cur/x:1,S", ""}, {"cur/x:3,S", ""}, {"cur/x:22,S", ""},
            {"cur/x:1,S:2,T", "T"}, {"cur/x:2,S:2,T", "ST"}, {"cur/x:2,:2,T", "T"}, {"cur/x::2,S", "S"}, {"cur/x:2:2,S", "S"},
            {"D:2,T/cur/x", ""}, {"D:2,T/cur/x:2,S", "S"}, {"D:2,T/new/x", ""}};
        for (String[] row : due) {
            flagsOf(t, row[0], row[1]);
        }
        t = new Desk("(in new none count)");
        flagsOf(t, "new/x:2,S", "");
        flagsOf(t, "a/cur/new/x:2,FRST", "");
        flagsOf(t, "new/cur/x:2,S", "S");
    }

    private static void boxNames() {
        Desk t = new Desk("Without a / it is a BOX, if it ends with .mbox and has more bytes");
        sort(t, 2, "a.mbox", "..mbox", ".mbox.mbox", ":.mbox", "cur.mbox", "a".repeat(35) + ".mbox");
        sort(t, 0, ".mbox", "mbox", "ambox", "a.mbo", "a.mboxx", "a.mbox.", "a.Mbox", "a.MBOX", "x", "~");
        sort(t, 0, "/a.mbox", "a/b.mbox", "a.mbox/", "a.mbox/x", "tmp/a.mbox", "cur/.mbox");
        sort(t, 1, "cur/a.mbox", "a.mbox/new/x");
        flagsOf(t, "a:2,S.mbox", "");
        flagsOf(t, "x:2,S", "");
    }

    // Terms: how a box is cut

    private static void cuts(Desk t, String... contentsAndDue) {
        for (int i = 0; i < contentsAndDue.length; i += 2) {
            String content = contentsAndDue[i];
            t.due(content.replace("\n", "|"), t.cut(content), contentsAndDue[i + 1]);
        }
    }

    private static void lines() {
        Desk t = new Desk("LINES end with a byte 10 (the last one with the CONTENT)");
        cuts(t, "", "", "F", "", "From", "", "From ", "0[]", "From a", "0[]", "From a\n", "0[]", "From a\nb", "1[b]",
            "From a\nb\n", "2[b\n]", "From a\rb\nc", "1[c]", "From a\n\r\nb", "3[\r\nb]", "From a\n\nFrom ", "0[]0[]");
        t = new Desk("a line that begins with \"From \" begins a message, if it is the first one");
        cuts(t, "From \n1", "1[1]", "From\n1", "", "from a\n1", "", "FROM a\n1", "", " From a\n1", "", ">From a\n1", "",
            "Fromm a\n1", "", "From\ta\n1", "");
        cuts(t, "x\nFrom a\n1", "", "From a\nFrom b\n1", "8[From b\n1]", "x\nFrom a\n1\n\nFrom b\n2", "1[2]");
        t = new Desk("or the line ahead of it is empty (nothing but the 10)");
        cuts(t, "\nFrom a\n1", "1[1]", "\n\nFrom a\n1", "1[1]", "x\n\nFrom a\n1", "1[1]", "From a\n1\n\nFrom b\n2", "2[1\n]1[2]",
            " \nFrom a\n1", "", "\r\nFrom a\n1", "", "\0\nFrom a\n1", "", "From a\n1\n \nFrom b\n2", "12[1\n \nFrom b\n2]",
            "From a\n1\n\r\nFrom b\n", "11[1\n\r\nFrom b\n]", "From a\n1\n\n From b\n", "11[1\n\n From b\n]");
        t = new Desk("it is no part of it; what is ahead of the first is nothing");
        cuts(t, "From a b c\n", "0[]", "x\ny\n\nFrom a\n1", "1[1]", "x\n\nFrom a\n1\n\nFrom b\n2", "2[1\n]1[2]", "x\n\n", "");
        t = new Desk("a box of the most messages");
        cuts(t, "From \n\n".repeat(57), "0[]".repeat(57), "From \n\n".repeat(56) + "From ", "0[]".repeat(57));
    }

    private static void messages() {
        Desk t = new Desk("A message's lines are these up to the next such line, or the end");
        cuts(t, "From a\n1\n2\n3\n\nFrom b\n4\n5", "6[1\n2\n3\n]3[4\n5]", "From a\n1\n\n2\n\nFrom b", "5[1\n\n2\n]0[]",
            "From a\n1\nFrom x\n2\n\nFrom b\n3\n", "11[1\nFrom x\n2\n]2[3\n]");
        t = new Desk("without the last one if that is empty");
        cuts(t, "From a\n\n", "0[]", "From a\n\n\n", "1[\n]", "From a\n\n\n\n", "2[\n\n]", "From a\n1\n\n", "2[1\n]",
            "From a\n1\n\n\n", "3[1\n\n]", "From a\n1\n", "2[1\n]", "From a\n1\n ", "3[1\n ]", "From a\n1\n \n", "4[1\n \n]",
            "From a\n\n1", "2[\n1]", "From a\n\nFrom b\n1", "0[]1[1]", "From a\n\n\nFrom b\n1", "1[\n]1[1]",
            "From a\n1\n\n\nFrom b\n2\n\n\n", "3[1\n\n]3[2\n\n]");
        t = new Desk("of a line that begins with one or more > and then \"From \" the first > is nothing");
        cuts(t, "From a\n>From ", "5[From ]", "From a\n>From b\n", "7[From b\n]", "From a\n>>From b", "7[>From b]",
            "From a\n>>>>From b", "9[>>>From b]", "From a\n>From", "5[>From]", "From a\n>From\n", "6[>From\n]",
            "From a\n> From b", "8[> From b]", "From a\n>", "1[>]", "From a\n>>", "2[>>]", "From a\n>>x", "3[>>x]",
            "From a\n>from b", "7[>from b]", "From a\nx>From b", "8[x>From b]", "From a\n >From b", "8[ >From b]",
            "From a\n>x>From b", "9[>x>From b]", "From a\n>\n>From b", "8[>\nFrom b]", "From a\n1\n\n>From b\n2", "11[1\n\nFrom b\n2]",
            "From a\n>From b>From c", "13[From b>From c]", "From a>From b\n1", "1[1]", "From a\n>From b\n\nFrom c", "7[From b\n]0[]");
        String half = ">".repeat(388);
        cuts(t, "From \n" + half + "From ", "392[" + half.substring(1) + "From ]");
        t = new Desk("A MESSAGE's file has one message, its CONTENT");
        String[] contents = {"", "\n", "x\n\n", "From a\n1\n\nFrom b\n2\n\n", ">From a", "\n\n\n"};
        for (String content : contents) {
            t.renew();
            t.put("new/x", content, 0);
            t.due("file(2)", t.file(2), 1);
            t.due("scan()", t.scan(), 1);
            t.due("mail(0, 2)", t.mail(0, 2), content.length());
            t.due("its BYTES", t.bytes(0, 1, 0), content);
            t.due("place(0, 0)", t.place(0, 0), 0);
        }
    }

    // Terms: keys

    private static void keysAre(Desk t, String... contentsAndDue) {
        for (int i = 0; i < contentsAndDue.length; i += 2) {
            String content = contentsAndDue[i];
            t.due(content.replace("\n", "|"), t.key(content), contentsAndDue[i + 1]);
        }
    }

    private static void keys() {
        Desk t = new Desk("A message's KEY: what stands in its first line that begins with Message-ID:");
        keysAre(t, "Message-ID:<a>", "a", "Message-ID: <a>\nMessage-ID: <b>", "a", "X: <x>\nMessage-ID: <a>", "a",
            "Message-ID: a\nMessage-ID: <b>", "", "Message-ID:\n <a>", "", "Message-ID:", "", "Message-ID", "", "", "",
            "Message-ID <a>", "", " Message-ID: <a>", "", "X-Message-ID: <a>", "", "Message-ID : <a>", "", "Message_ID:<a>", "",
            "X: Message-ID: <a>", "", "Message-ID2: <a>", "");
        String field = "Message-ID:";
        for (int i = 0; i < field.length(); i++) {
            char next = (char) (field.charAt(i) + 1);
            keysAre(t, field.substring(0, i) + next + field.substring(i + 1) + "<a>", "");
        }
        keysAre(t, "x".repeat(385) + "\nMessage-ID:<a>", "a", "x".repeat(386) + "\nMessage-ID:<a", "");
        t = new Desk("(great or small letters)");
        keysAre(t, "message-id:<a>", "a", "MESSAGE-ID:<a>", "a", "mEsSaGe-iD:<A>", "A", "MESSAGE-ID:<a>\nMessage-ID:<b>", "a",
            "Message\rID:<a>", "", "Message-ID\u001a<a>", "", "message-id\u005a<a>", "", "\u006dessage-\u0049d:<a>", "a");
        t = new Desk("ahead of the first empty line");
        keysAre(t, "\nMessage-ID: <a>", "", "X: x\n\nMessage-ID: <a>", "", "X: x\n \nMessage-ID: <a>", "a",
            "X: x\n\r\nMessage-ID: <a>", "a", "Message-ID: <a>\n\n", "a", "Message-ID: <a>\n", "a", "\n", "");
        t = new Desk("between the first < there and the next >");
        keysAre(t, "Message-ID: <a> <b>", "a", "Message-ID: <a<b>", "a<b", "Message-ID: > <a>", "a", "Message-ID: <a>>", "a",
            "Message-ID: <<>", "<", "Message-ID: <a", "", "Message-ID: a>", "", "Message-ID: <", "", "Message-ID: >", "",
            "Message-ID: <a\n>", "", "Message-ID: \n<a>", "", "Message-ID: <a\nX: <b>", "", "Message-ID: b> c", "");
        keyLengths();
        t = new Desk("without spaces");
        keysAre(t, "Message-ID: <a b>", "", "Message-ID: < a>", "", "Message-ID: <a >", "", "Message-ID: < >", "",
            "Message-ID: <a b> <c>", "", "Message-ID: x y <a> z", "a", "Message-ID: <!>", "!", "Message-ID: <\u00ff\0>", "\u00ff\0");
        keylessByBytes();
    }

    private static void keyLengths() {
        Desk t = new Desk("if it is 1 to 40 bytes");
        String k39 = "k".repeat(39);
        keysAre(t, "Message-ID: <>", "", "Message-ID: <><a>", "", "Message-ID: <a>", "a", "Message-ID: <" + k39 + ">", k39,
            "Message-ID: <" + k39 + "0>", k39 + "0", "Message-ID: <" + k39 + "01>", "", "Message-ID: <" + k39.repeat(9) + ">", "");
        t.key("Message-ID: <" + k39 + "0>");
        t.put("cur/x", "Message-ID: <" + k39 + "1>", 0);
        t.scan();
        t.due("KEYS of 40 bytes that differ in the last: new", t.told(4), 1);
        t.put("cur/x", "Message-ID: <" + k39 + "0>+", 0);
        t.scan();
        t.due("the same one of 40 bytes: ALTERED", t.told(5), 1);
    }

    private static void keylessByBytes() {
        Desk t = new Desk("a message without it is known by its BYTES alone");
        String[] heads = {"", "Message-ID: <>\n\n", "Message-ID: <a b>\n\n", "Message-ID: <" + "k".repeat(41) + ">\n\n"};
        for (String head : heads) {
            t.renew();
            t.put("cur/x", head + "1", 0);
            t.scan();
            t.put("cur/x", head + "2", 0);
            t.scan();
            t.due("other BYTES: " + head, t.told(), "0 1 0 0 1 0 0 1 0");
            t.put("new/y", head + "1", 0);
            t.scan();
            t.due("the same BYTES: " + head, t.told(), "0 0 1 1 0 0 0 0 1");
        }
    }

    // Terms: what a scan does

    private static void scanOfFiles() {
        Desk t = new Desk("Files as they were at the last SCAN are GONE, if they are not there any more");
        t.put("cur/a", "1", 0);
        t.scan();
        t.gone("cur/a");
        t.due("told(0) ahead of the SCAN", t.told(0), 0);
        t.scan();
        t.due("one GONE", t.told(), "1 0 0 0 0 0 0 1 0");
        t.scan();
        t.due("GONE once", t.told(), "0 0 0 0 0 0 0 0 0");
        t.put("cur/b", "2", 0);
        t.gone("cur/b");
        t.scan();
        t.due("come and gone between two SCANS", t.told(), "0 0 0 0 0 0 0 0 0");
        changed();
        t = new Desk("(by NAMES; a file of no sort is passed over)");
        t.put("plain", "From \n1", 0);
        t.put("cur/.x", "1", 0);
        t.due("scan()", t.scan(), 0);
        t.due("not NEW", t.told(), "0 0 0 0 0 0 0 0 0");
        t.put("plain", "From \n2", 1);
        t.gone("cur/.x");
        t.scan();
        t.due("not CHANGED, GONE or SAME", t.told(), "0 0 0 0 0 0 0 0 0");
        t.move("plain", "a.mbox");
        t.due("scan() with a NAME of a sort", t.scan(), 1);
        t.due("is NEW", t.told(), "0 0 1 0 1 0 0 0 0");
        t.move("a.mbox", "plain");
        t.due("scan() with a NAME of none", t.scan(), 0);
        t.due("is GONE", t.told(), "1 0 0 0 0 0 0 1 0");
        t = new Desk("Files that were not there are NEW");
        t.put("a.mbox", "", 0);
        t.due("scan() of an empty box", t.scan(), 0);
        t.due("is NEW", t.told(), "0 0 1 0 0 0 0 0 0");
        t.gone("a.mbox");
        t.scan();
        t.put("a.mbox", "", 0);
        t.scan();
        t.due("back behind a SCAN: NEW", t.told(), "0 0 1 0 0 0 0 0 0");
    }

    private static void changed() {
        Desk t = new Desk("CHANGED, if their CONTENT or STAMP is another one, else SAME");
        String[][] pairs = {{"", ""}, {"", "x"}, {"x", ""}, {"x", "y"}, {"x", "xx"}, {"xx", "x"}, {"x\0", "x"}, {"\u00ff", "\u007f"},
            {"x".repeat(400), "x".repeat(400)}, {"x".repeat(400), "x".repeat(399) + "y"}, {"x".repeat(400), "y" + "x".repeat(399)}};
        for (String[] pair : pairs) {
            for (int stamp = 0; stamp < 2; stamp++) {
                boolean same = stamp == 0 && pair[0].equals(pair[1]);
                t.renew();
                t.put("a.mbox", pair[0], 0);
                t.scan();
                t.gone("a.mbox");
                t.put("a.mbox", pair[1], stamp);
                t.scan();
                t.due("CHANGED, stamp " + stamp, t.told(1), same ? 0 : 1);
                t.due("SAME, stamp " + stamp, t.told(3), same ? 1 : 0);
            }
        }
        t.renew();
        t.put("cur/a", "1", 0);
        t.scan();
        t.put("cur/a", "2", 5);
        t.put("cur/a", "1", 0);
        t.due("scan() of one that changed back", t.scan(), 0);
        t.due("is SAME", t.told(), "0 0 0 1 0 0 0 0 0");
    }

    private static void scanOfMessages() {
        placesGo();
        leastWithKeyAndBytes();
        leastWithKeyWithoutPlace();
        Desk t = new Desk("without KEY, the least without KEY and with these BYTES; else it is a new MAIL");
        t.put("a.mbox", "From \n1\n\nFrom \n1\n\nFrom \n2\n\nFrom \n", 0);
        t.due("scan()", t.scan(), 4);
        t.due("told", t.told(), "0 0 1 0 3 0 0 0 0");
        t.put("cur/x", "1", 0);
        t.put("cur/y", "1\n", 0);
        t.put("cur/z", "", 0);
        t.scan();
        t.due("told", t.told(), "0 0 3 1 1 0 0 0 0");
        t.due("PLACES of the first", t.mail(0, 0), 3);
        t.due("PLACES of the empty one", t.mail(2, 0), 2);
        t.due("PLACES of the new one", t.mail(3, 0), 1);
        t = new Desk("Its PLACE is one more of that MAIL's");
        t.put("a.mbox", "From \n\n".repeat(57), 0);
        t.scan();
        t.due("mail(0, 0)", t.mail(0, 0), 57);
        t.due("place(0, 56)", t.place(0, 56), 56);
        t.due("place(0, 57)", t.place(0, 57), -1);
    }

    private static void placesGo() {
        Desk t = new Desk("The PLACES of files that are GONE or CHANGED go");
        t.put("cur/z", KEYED + "1", 0);
        t.scan();
        t.gone("cur/z");
        t.put("cur/a", KEYED + "2", 0);
        t.scan();
        t.due("GONE: its MAIL is free ahead of any reading", t.told(), "1 0 1 0 0 1 1 0 0");
        t.put("cur/0", KEYED + "3", 0);
        t.put("cur/a", "other", 0);
        t.scan();
        t.due("CHANGED: its MAIL is free ahead of any reading", t.told(), "0 1 1 0 1 1 1 0 0");
        t.put("cur/b", KEYED + "4", 0);
        t.scan();
        t.due("SAME: its MAIL is not free", t.told(), "0 0 1 2 1 0 0 0 0");
        t.put("b.mbox", "From \n5\n\nFrom \n5\n\nFrom \n5", 0);
        t.scan();
        t.due("PLACES in a box", t.mail(3, 0) + t.mail(4, 0), 3);
        t.put("b.mbox", "From \n5", 0);
        t.scan();
        t.due("fewer PLACES in it", t.count(3), 4);
    }

    private static void leastWithKeyAndBytes() {
        Desk t = new Desk("each message, in order, is that MAIL (the least) which has its KEY and its BYTES");
        t.put("cur/a", KEYED + "1", 0);
        t.put("cur/b", KEYED + "2", 0);
        t.scan();
        t.gone("cur/a");
        t.gone("cur/b");
        t.scan();
        t.put("cur/c", KEYED + "2", 0);
        t.scan();
        t.due("its own ahead of a lesser one without PLACE", t.told(), "0 0 1 0 0 0 0 0 1");
        t.due("mail(1, 0)", t.mail(1, 0), 1);
        t.due("mail(0, 0)", t.mail(0, 0), 0);
        t.put("cur/d", KEYED + "2", 0);
        t.scan();
        t.due("with a PLACE too", t.mail(1, 0), 2);
        t.put("cur/e", KEYED + "3", 0);
        t.put("cur/f", KEYED + "1", 0);
        t.scan();
        t.due("in order: the first message takes it, the second finds other BYTES", t.told(), "0 0 2 2 1 1 0 0 1");
        t.due("BYTES of the lesser", t.bytes(0, 1, 0), KEYED + "3");
        t.due("BYTES of the new one", t.bytes(2, 1, 0), KEYED + "1");
    }

    private static void leastWithKeyWithoutPlace() {
        Desk t = new Desk("if it has a KEY, the least with this KEY that has no PLACE now (it is ALTERED)");
        t.put("a.mbox", "From \n" + KEYED + "1\n\nFrom \n" + KEYED + "2\n\nFrom \n" + KEYED + "3\n", 0);
        t.scan();
        t.due("three with one KEY", t.told(4), 3);
        t.put("a.mbox", "From \n" + KEYED + "1\n", 0);
        t.scan();
        t.due("two LOST", t.told(7), 2);
        t.put("cur/a", KEYED + "4", 0);
        t.scan();
        t.due("the least without PLACE", t.mail(1, 5), 1);
        t.due("its BYTES", t.bytes(1, 1, 0), KEYED + "4");
        t.due("not the one with a PLACE", t.mail(0, 5), 0);
        t.due("not the later one", t.mail(2, 5), 0);
        t.put("cur/b", KEYED + "5", 0);
        t.put("cur/c", KEYED + "6", 0);
        t.scan();
        t.due("the last one, then a new one", t.told(), "0 0 2 2 1 1 0 0 1");
        t.put("cur/d", "Message-ID: <K>\n\n1", 0);
        t.put("cur/e", "Message-ID: <kk>\n\n1", 0);
        t.scan();
        t.due("other KEYS are new", t.told(4), 2);
        t.renew();
        t.put("cur/a", "no key", 0);
        t.scan();
        t.put("cur/a", KEYED + "1", 0);
        t.scan();
        t.due("one without KEY is none with this KEY", t.told(), "0 1 0 0 1 0 0 1 0");
        t.put("cur/a", KEYED + "2", 0);
        t.scan();
        t.put("cur/a", KEYED + "1", 0);
        t.scan();
        t.due("ALTERED back counts again", t.mail(1, 5), 2);
    }

    private static void scanOfMails() {
        Desk t = new Desk("A MAIL whose PLACES went, which has PLACES now, but none in a file of a NAME in which it had one: MOVED");
        t.put("cur/a", "1", 0);
        t.put("cur/b", "1", 0);
        t.scan();
        t.move("cur/a", "cur/c");
        t.scan();
        t.due("one of two PLACES went, one stays", t.told(), "1 0 1 1 0 0 0 0 0");
        t.gone("cur/b");
        t.put("cur/c", "1", 1);
        t.scan();
        t.due("the other went, this one is read again", t.told(), "1 1 0 0 0 0 0 0 0");
        t.move("cur/c", "new/c");
        t.scan();
        t.due("all went, and another NAME has it", t.told(), "1 0 1 0 0 0 1 0 0");
        t.put("new/d", "1", 0);
        t.scan();
        t.due("none went", t.told(), "0 0 1 1 0 0 0 0 0");
        t.put("new/c", "2", 0);
        t.put("new/d", "3", 0);
        t.put("new/e", "1", 0);
        t.scan();
        t.due("both went in CHANGED files", t.told(), "0 2 1 0 2 0 1 0 0");
        t.put("new/c", "3", 0);
        t.put("new/d", "2", 0);
        t.scan();
        t.due("two that changed NAMES", t.told(), "0 2 0 1 0 0 2 0 0");
        t.renew();
        t.put("a.mbox", "From \n1\n\nFrom \n2\n", 0);
        t.scan();
        t.put("a.mbox", "From \n2\n\nFrom \n1\n", 0);
        t.scan();
        t.due("another message of the same NAME", t.told(), "0 1 0 0 0 0 0 0 0");
        lostAndFound();
    }

    private static void lostAndFound() {
        Desk t = new Desk("if it has none: LOST (it stays, and can be found again: then it is FOUND)");
        t.put("cur/a", "1", 0);
        t.put("cur/b", "1", 0);
        t.scan();
        t.gone("cur/a");
        t.scan();
        t.due("one of two PLACES went", t.told(7), 0);
        t.put("cur/b", "2", 0);
        t.scan();
        t.due("the last one went in a CHANGED file", t.told(), "0 1 0 0 1 0 0 1 0");
        t.due("it stays", t.mail(0, 2), 1);
        t.due("its BYTES stay", t.at(0, 1, 0, 0), '1');
        t.scan();
        t.due("LOST once", t.told(), "0 0 0 1 0 0 0 0 0");
        t.put("cur/a", "1", 0);
        t.scan();
        t.due("FOUND at its old NAME, not MOVED", t.told(), "0 0 1 1 0 0 0 0 1");
        t.scan();
        t.due("FOUND once", t.told(), "0 0 0 2 0 0 0 0 0");
        t.gone("cur/a");
        t.gone("cur/b");
        t.scan();
        t.due("all LOST", t.told(), "2 0 0 0 0 0 0 2 0");
        t.put("cur/c", "1", 0);
        t.scan();
        t.due("FOUND at another NAME, not MOVED", t.told(), "0 0 1 0 0 0 0 0 1");
        t.put("a.mbox", "From \n2\n\nFrom \n2\n\nFrom \n2", 0);
        t.scan();
        t.due("with BYTES that differ by a 10: one new, one FOUND", t.told(), "0 0 1 1 1 0 0 0 1");
    }

    private static void tags() {
        Desk t = new Desk("FLAGS of a MAIL: all of all its PLACES' files together");
        t.put("cur/a:2,A", "1", 0);
        t.put("cur/b:2,BZ", "1", 0);
        t.put("new/c:2,C", "1", 0);
        t.put("d:2,D.mbox", "From \n1", 0);
        t.put("cur/e:2,E", "2", 0);
        t.scan();
        t.due("mail(0, 3)", t.mail(0, 3), Desk.bits("ABZ"));
        t.due("mail(1, 3)", t.mail(1, 3), Desk.bits("E"));
        t = new Desk("TAGS by FLAGS: S none, without it unread; F flagged; R replied; T trashed; D draft; P passed");
        String tagged = "SFRTDP";
        for (char c = 'A'; c <= 'Z'; c++) {
            t.renew();
            t.put("cur/x:2," + c, "1", 0);
            t.scan();
            int bit = tagged.indexOf(c);
            t.due("TAGS of " + c, t.mail(0, 4), c == 'S' ? 0 : bit < 0 ? 1 : 1 | 1 << bit);
            t.move("cur/x:2," + c, "cur/x:2,S" + c);
            t.scan();
            t.due("TAGS of S" + c, t.mail(0, 4), c == 'S' || bit < 0 ? 0 : 1 << bit);
        }
        t.renew();
        t.put("cur/x:2,DFPRST", "1", 0);
        t.put("new/y:2,DFPRST", "2", 0);
        t.scan();
        t.due("all TAGS but unread", t.mail(0, 4), 62);
        t.due("unread alone", t.mail(1, 4), 1);
        t = new Desk("(without PLACES: none)");
        t.put("cur/a:2,FR", "1", 0);
        t.put("cur/b", "2", 0);
        t.scan();
        t.gone("cur/a:2,FR");
        t.gone("cur/b");
        t.scan();
        for (int m = 0; m < 2; m++) {
            t.due("mail(" + m + ", 4)", t.mail(m, 4), 0);
            t.due("mail(" + m + ", 3)", t.mail(m, 3), 0);
        }
    }

    // The promises

    private static void newObject() {
        Desk t = new Desk("1: No files, no MAILS, the tape is empty");
        for (int what = 0; what < 5; what++) {
            t.due("count(" + what + ")", t.count(what), 0);
        }
        t.due("file(0): no NAME in hand", t.file(0), -1);
        t.due("write", t.thrown("write"), "state");
        t.due("rename", t.thrown("rename"), "state");
        t.due("delete", t.thrown("delete"), "state");
        t.due("mail(0, 0)", t.mail(0, 0), -1);
        t.due("scan()", t.scan(), 0);
        t.named("cur/a");
        t.tape("1");
        t.write(0);
        t.scan();
        t.due("the first file is not known to another object", new MailStore().scan(), 0);
    }

    private static void bytesAre(Desk t, String call, int... due) {
        t.write(0);
        t.scan();
        int mail = t.count(1) - 1;
        int[] got = new int[due.length];
        for (int k = 0; k < due.length; k++) {
            got[k] = t.at(mail, 1, 0, k);
        }
        t.due(call, Arrays.toString(got), Arrays.toString(due));
        t.due(call + ", behind the last", t.at(mail, 1, 0, due.length), -1);
    }

    private static void feed() {
        Desk t = new Desk("2: Puts twenty bytes ready, those of a first, the highest of each first");
        t.named("cur/a");
        t.feed(0x00010203, 0x04050607, 0x08090A0B, 0x0C0D0E0F, 0x10111213);
        t.due("end(20)", t.end(20), 20);
        bytesAre(t, "all twenty", 0, 1, 2, 3, 4, 5, 6, 7, 8, 9, 10, 11, 12, 13, 14, 15, 16, 17, 18, 19);
        t.feed(Integer.MIN_VALUE, Integer.MAX_VALUE, -1, 0x80808080, -256);
        t.end(20);
        bytesAre(t, "with the highest bits", 128, 0, 0, 0, 127, 255, 255, 255, 255, 255, 255, 255, 128, 128, 128, 128, 255, 255, 255, 0);
        t.feed(-1, -1, -1, -1, -1);
        t.feed(0x01020304, 0x05060708, 0, 0, 0);
        t.end(10);
        bytesAre(t, "of the last feed", 1, 2, 3, 4, 5, 6, 7, 8, 0, 0);
        t.feed(0x01020304, 0, 0, 0, 0);
        t.due("feed alone brings nothing to the tape", t.count(4), 0);
        t = new Desk("2: (They are 0 at first, and behind each end() that answers a number.)");
        t.due("end(20) ahead of any feed", t.end(20), 20);
        t.due("20 bytes 0 are no NAME", t.name(), false);
        t.named("cur/a");
        t.end(3);
        bytesAre(t, "behind the first end", 0, 0, 0);
        t.feed(-1, -1, -1, -1, -1);
        t.end(0);
        t.end(20);
        bytesAre(t, "behind end(0)", new int[20]);
        t.feed(-1, -1, -1, -1, -1);
        t.end(1);
        t.end(20);
        bytesAre(t, "behind end(1)", 255, 0, 0, 0, 0, 0, 0, 0, 0, 0, 0, 0, 0, 0, 0, 0, 0, 0, 0, 0, 0);
        t.feed(0x01020304, 0, 0, 0, 0x05060708);
        t.end(21);
        t.end(-1);
        t.end(20);
        bytesAre(t, "behind an end() that answers NONE they stay", 1, 2, 3, 4, 0, 0, 0, 0, 0, 0, 0, 0, 0, 0, 0, 0, 5, 6, 7, 8);
    }

    private static void end() {
        Desk t = new Desk("3: The first n of the bytes that are ready come to the tape: how many it has");
        for (int n = 0; n <= 20; n++) {
            t.due("end(" + n + ")", t.end(n), n * (n + 1) / 2);
        }
        t.due("count(4)", t.count(4), 210);
        t = new Desk("3: NONE, and nothing comes, if n is not 0 .. 20");
        int[] none = {-1, 21, 22, -20, 256, 400, Integer.MIN_VALUE, Integer.MAX_VALUE, Integer.MIN_VALUE + 20, 1 << 16, 1 << 24};
        for (int n : none) {
            t.due("end(" + n + ")", t.end(n), -1);
            t.due("count(4)", t.count(4), 0);
        }
        t.tape("x".repeat(390));
        for (int n : none) {
            t.due("end(" + n + ") of 390", t.end(n), -1);
        }
        t.due("count(4)", t.count(4), 390);
        t = new Desk("3: or it would have more than 400");
        for (int n = 1; n <= 20; n++) {
            t.renew();
            t.tape("x".repeat(401 - n));
            t.due("end(" + n + ") of " + (401 - n), t.end(n), -1);
            t.due("count(4)", t.count(4), 401 - n);
            t.due("end(" + (n - 1) + ") of " + (401 - n), t.end(n - 1), 400);
            t.due("end(1) of 400", t.end(1), -1);
            t.due("end(0) of 400", t.end(0), 400);
        }
        t.renew();
        t.named("cur/a");
        t.tape("x".repeat(399));
        t.feed(0x797A0000, 0, 0, 0, 0);
        t.end(2);
        t.end(1);
        t.write(0);
        t.scan();
        t.due("what is ready stays behind NONE", t.at(0, 1, 0, 399), 'y');
    }

    private static void name() {
        Desk t = new Desk("4: The tape, which is empty then, is the NAME in hand: whether it is one");
        t.due("cur/a", t.named("cur/a"), true);
        t.due("count(4)", t.count(4), 0);
        t.due("file(0)", t.file(0), 1);
        t.due("a.mbox", t.named("a.mbox"), true);
        t.due("file(0)", t.file(0), 2);
        t = new Desk("4: (If it is none, none is in hand.)");
        String[] none = {"", " ", "cur/a b", "a".repeat(41), "cur/a\n", "\u0080", "x".repeat(400)};
        for (String text : none) {
            t.renew();
            t.put("cur/a", "x", 0);
            t.due("name() of " + text, t.named(text), false);
            t.due("count(4)", t.count(4), 0);
            t.due("file(0)", t.file(0), -1);
            t.due("write", t.thrown("write"), "state");
            t.due("rename", t.thrown("rename"), "state");
            t.due("delete", t.thrown("delete"), "state");
            t.due("count(0)", t.count(0), 1);
        }
    }

    private static void write() {
        Desk t = new Desk("5: The tape, which is empty then, is the CONTENT of the file: how many files there are");
        t.named("cur/a");
        t.tape("abc");
        t.due("write(0)", t.write(0), 1);
        t.due("count(4)", t.count(4), 0);
        t.due("file(1)", t.file(1), 3);
        t.due("write(0) of an empty tape, the NAME is in hand still", t.write(0), 1);
        t.due("file(1)", t.file(1), 0);
        t.due("write(0) of another", t.put("cur/b", "x".repeat(400), 0), 2);
        t.due("file(1)", t.file(1), 400);
        t = new Desk("5: IllegalStateException: no NAME is in hand (the tape stays)");
        t.tape("abc");
        t.due("write", t.thrown("write"), "state");
        t.due("count(4)", t.count(4), 3);
        t.due("count(0)", t.count(0), 0);
        t.due("the tape is a NAME still", t.name(), true);
        t = new Desk("5: IllegalStateException: it would be the 41st file (the tape stays)");
        for (int i = 1; i <= 40; i++) {
            t.put("cur/" + i, "", 0);
        }
        t.named("plain");
        t.tape("cur/7");
        t.due("write of the 41st", t.thrown("write"), "state");
        t.due("count(0)", t.count(0), 40);
        t.due("file(1)", t.file(1), -1);
        t.due("the NAME is in hand still", t.file(0), 0);
        t.due("count(4)", t.count(4), 5);
        t.due("the tape is a NAME still", t.name(), true);
        t.tape("again");
        t.due("write of one of the 40", t.write(0), 40);
        t.due("file(1)", t.file(1), 5);
        t.delete();
        t.named("plain");
        t.due("write of the 40th", t.write(0), 40);
    }

    private static void rename() {
        Desk t = new Desk("6: The file of the NAME in hand has the NAME on the tape from now on");
        t.put("cur/a", "abc", 3);
        t.scan();
        t.tape("cur/" + "b".repeat(36));
        t.rename();
        t.due("count(0)", t.count(0), 1);
        t.due("the old one", t.named("cur/a"), true);
        t.due("file(1)", t.file(1), -1);
        t.named("cur/" + "b".repeat(36));
        t.due("file(1)", t.file(1), 3);
        t.tape("cur/a");
        t.rename();
        t.due("and back, with CONTENT and STAMP: scan()", t.scan(), 0);
        t.due("told(3)", t.told(3), 1);
        t = new Desk("6: (a file that has that goes; the tape is empty then; it is in hand)");
        t.put("cur/b", "bb", 0);
        t.put("a.mbox", "a", 0);
        t.tape("cur/b");
        t.rename();
        t.due("count(0)", t.count(0), 1);
        t.due("count(4)", t.count(4), 0);
        t.due("file(0)", t.file(0), 1);
        t.due("file(1)", t.file(1), 1);
        t.tape("cur/b");
        t.rename();
        t.due("to its own NAME: count(0)", t.count(0), 1);
        t.due("to its own NAME: file(1)", t.file(1), 1);
        t.due("to its own NAME: count(4)", t.count(4), 0);
        renameRefused();
        t = new Desk("6: among 40 files there is room for a rename");
        for (int i = 1; i <= 40; i++) {
            t.put("cur/" + i, "", 0);
        }
        t.tape("new/1");
        t.due("rename", t.thrown("rename"), "nothing");
        t.due("count(0)", t.count(0), 40);
        t.tape("cur/1");
        t.due("rename over one of the 40", t.thrown("rename"), "nothing");
        t.due("count(0)", t.count(0), 39);
    }

    private static void renameRefused() {
        Desk t = new Desk("6: IllegalArgumentException: that is none");
        String[] none = {"", "a b", "a".repeat(41), "\u007f", "cur/a\n"};
        for (String text : none) {
            t.renew();
            t.put("cur/a", "x", 0);
            t.tape(text);
            t.due("rename to " + text, t.thrown("rename"), "argument");
            t.due("count(4)", t.count(4), text.length());
            t.due("file(1)", t.file(1), 1);
        }
        t = new Desk("6: IllegalStateException: no NAME is in hand, or it has no file. (This first.)");
        for (String text : new String[] {"", "a b", "a".repeat(41), "cur/b"}) {
            t.renew();
            t.tape(text);
            t.due("no NAME in hand, to " + text, t.thrown("rename"), "state");
            t.due("count(4)", t.count(4), text.length());
            t.name();
            t.put("cur/b", "b", 0);
            t.named("cur/a");
            t.tape(text);
            t.due("no file, to " + text, t.thrown("rename"), "state");
            t.due("count(4)", t.count(4), text.length());
            t.due("file(0)", t.file(0), 1);
            t.due("count(0)", t.count(0), 1);
            t.name();
            t.named("cur/b");
            t.due("the other file stays", t.file(1), 1);
        }
    }

    private static void delete() {
        Desk t = new Desk("7: The file of the NAME in hand goes: whether there was one");
        t.named("cur/a");
        t.due("delete() of none", t.delete(), false);
        t.put("cur/a", "1", 0);
        t.put("cur/b", "2", 0);
        t.tape("tape");
        t.due("delete()", t.delete(), true);
        t.due("count(0)", t.count(0), 1);
        t.due("delete() again", t.delete(), false);
        t.due("the NAME is in hand still", t.file(0), 1);
        t.due("the tape stays", t.count(4), 4);
        t.due("it can be written again", t.write(0), 2);
        t.due("delete()", t.gone("cur/a"), true);
        t.due("delete()", t.gone("cur/b"), true);
        t.due("count(0)", t.count(0), 0);
        t.due("delete() when no file is there", t.delete(), false);
        t = new Desk("7: IllegalStateException: no NAME is in hand");
        t.put("cur/a", "1", 0);
        t.tape("a b");
        t.name();
        t.tape("tape");
        t.due("delete", t.thrown("delete"), "state");
        t.due("count(0)", t.count(0), 1);
        t.due("count(4)", t.count(4), 4);
    }

    private static void file() {
        Desk t = new Desk("8: what = 0; by its NAME, there or not");
        String[] names = {"plain", "cur/a", "a.mbox"};
        for (int sort = 0; sort < 3; sort++) {
            t.renew();
            t.named(names[sort]);
            t.due("file(0) of " + names[sort], t.file(0), sort);
            t.write(0);
            t.due("file(0) of " + names[sort] + ", there", t.file(0), sort);
            t.delete();
            t.due("file(0) of " + names[sort] + ", gone", t.file(0), sort);
        }
        t = new Desk("8: how many bytes it has (1; NONE if it is not there), how many messages (2; NONE likewise; 0 of none)");
        for (int sort = 0; sort < 3; sort++) {
            t.renew();
            t.named(names[sort]);
            t.due("file(1) of " + names[sort], t.file(1), -1);
            t.due("file(2) of " + names[sort], t.file(2), -1);
            t.write(0);
            t.due("file(1) of " + names[sort] + ", empty", t.file(1), 0);
            t.due("file(2) of " + names[sort] + ", empty", t.file(2), sort == 1 ? 1 : 0);
            t.tape("From \n1\n\nFrom \n2\n\nFrom \n3\n");
            t.write(0);
            t.due("file(1) of " + names[sort], t.file(1), 26);
            t.due("file(2) of " + names[sort], t.file(2), sort == 0 ? 0 : sort == 1 ? 1 : 3);
            t.delete();
            t.due("file(1) of " + names[sort] + ", gone", t.file(1), -1);
            t.due("file(2) of " + names[sort] + ", gone", t.file(2), -1);
        }
        t = new Desk("8: NONE without a NAME in hand, or for another what");
        int[] others = {-1, 4, 5, Integer.MIN_VALUE, Integer.MAX_VALUE, 256, 1 << 16};
        t.put("cur/a:2,S", "x", 0);
        for (int what : others) {
            t.due("file(" + what + ")", t.file(what), -1);
        }
        t.name();
        for (int what = 0; what < 4; what++) {
            t.due("file(" + what + ") without a NAME", t.file(what), -1);
        }
        for (int what : others) {
            t.due("file(" + what + ") without a NAME", t.file(what), -1);
        }
    }

    private static void scan() {
        Desk t = new Desk("9: SCAN: how many messages were read");
        t.due("of no files", t.scan(), 0);
        t.put("a.mbox", "", 0);
        t.due("of an empty box", t.scan(), 0);
        t.put("a.mbox", "From \n1\n\nFrom \n1\n\nFrom \n1", 0);
        t.due("of three messages, two of one MAIL", t.scan(), 3);
        t.due("of SAME files", t.scan(), 0);
        t.put("cur/a", "", 0);
        t.due("of a NEW file alone", t.scan(), 1);
        t.named("a.mbox");
        t.tape("b.mbox");
        t.rename();
        t.due("of a file with another NAME", t.scan(), 3);
        t.gone("b.mbox");
        t.due("of a file that is GONE", t.scan(), 0);
        t.tape("tape");
        t.scan();
        t.due("the tape stays", t.count(4), 4);
        t.due("the NAME stays in hand", t.file(0), 2);
        t = new Desk("9: as many messages again and again, by renames");
        t.put("0.mbox", "From \n\n".repeat(57), 0);
        for (int i = 1; i < 40; i++) {
            t.tape(i + ".mbox");
            t.rename();
            t.due("scan()", t.scan(), 57);
            t.due("PLACES", t.mail(0, 0), 57);
        }
        t.due("one MAIL", t.count(1), 1);
    }

    private static void told() {
        Desk t = new Desk("10: 0 ahead of any");
        t.put("cur/a", "1", 0);
        t.put("cur/b", "1", 0);
        t.due("told", t.told(), "0 0 0 0 0 0 0 0 0");
        t.scan();
        t.due("told", t.told(), "0 0 2 0 1 0 0 0 0");
        t = new Desk("10: Of the latest SCAN");
        t.put("cur/a", "1", 0);
        t.scan();
        t.put("cur/b", "2", 0);
        t.gone("cur/a");
        t.due("told ahead of the next", t.told(), "0 0 1 0 1 0 0 0 0");
        t.scan();
        t.due("told behind it", t.told(), "1 0 1 0 1 0 0 1 0");
        t = new Desk("10: FOUND (8; those without PLACES ahead of it that have some now)");
        t.put("a.mbox", "From \n1\n\nFrom \n2\n\nFrom \n3\n", 0);
        t.scan();
        t.due("new ones are not FOUND", t.told(8), 0);
        t.put("a.mbox", "", 0);
        t.scan();
        t.put("a.mbox", "From \n1\n\nFrom \n1\n\nFrom \n4\n", 0);
        t.scan();
        t.due("FOUND once with two PLACES", t.told(), "0 1 0 0 1 0 0 0 1");
        t.put("cur/a", "1\n", 0);
        t.scan();
        t.due("one with PLACES is not FOUND", t.told(8), 0);
        t = new Desk("10: NONE for another what");
        int[] others = {-1, 9, 10, Integer.MIN_VALUE, Integer.MAX_VALUE, 256, 1 << 16};
        for (int what : others) {
            t.due("told(" + what + ") ahead of any", t.told(what), -1);
        }
        t.put("cur/a", "1", 0);
        t.scan();
        for (int what : others) {
            t.due("told(" + what + ")", t.told(what), -1);
        }
    }

    private static void mail() {
        Desk t = new Desk("11: how long its KEY is (1; 0 without)");
        t.put("cur/a", "Message-ID: <" + "k".repeat(40) + ">", 0);
        t.put("cur/b", "Message-ID: <" + "k".repeat(41) + ">", 0);
        t.put("cur/c", "", 0);
        t.scan();
        t.due("mail(0, 1)", t.mail(0, 1), 40);
        t.due("mail(1, 1)", t.mail(1, 1), 0);
        t.due("mail(2, 1)", t.mail(2, 1), 0);
        t.due("mail(2, 2)", t.mail(2, 2), 0);
        t = new Desk("11: how often it was ALTERED (5)");
        for (int i = 0; i < 40; i++) {
            t.put("cur/a", "Message-ID:<k>" + i, 0);
            t.scan();
            t.due("mail(0, 5)", t.mail(0, 5), i);
        }
        t.due("count(1)", t.count(1), 1);
        t = new Desk("11: NONE if there is none such, or for another what");
        int[] others = {-1, 6, 7, Integer.MIN_VALUE, Integer.MAX_VALUE, 256, 1 << 16};
        for (int what = 0; what < 6; what++) {
            t.due("mail(0, " + what + ") of none", t.mail(0, what), -1);
        }
        t.put("cur/a", "1", 0);
        t.scan();
        for (int what = 0; what < 6; what++) {
            t.due("mail(1, " + what + ")", t.mail(1, what), -1);
            t.due("mail(-1, " + what + ")", t.mail(-1, what), -1);
            t.due("mail(MIN, " + what + ")", t.mail(Integer.MIN_VALUE, what), -1);
            t.due("mail(MAX, " + what + ")", t.mail(Integer.MAX_VALUE, what), -1);
        }
        for (int what : others) {
            t.due("mail(0, " + what + ")", t.mail(0, what), -1);
            t.due("mail(1, " + what + ")", t.mail(1, what), -1);
        }
        t.gone("cur/a");
        t.scan();
        int[] lost = {0, 0, 1, 0, 0, 0};
        for (int what = 0; what < 6; what++) {
            t.due("mail(0, " + what + ") of a LOST one", t.mail(0, what), lost[what]);
        }
    }

    private static void at() {
        Desk t = new Desk("12: the NAME of its i-th PLACE, by NAMES, then messages");
        t.put("cur/b", "1\n", 0);
        t.put("a.mbox", "From \n1\n\nFrom \n2\n\nFrom \n1\n", 0);
        t.put("cur/a", "1\n", 0);
        t.scan();
        String[] names = {"a.mbox", "a.mbox", "cur/a", "cur/b"};
        for (int i = 0; i < names.length; i++) {
            t.due("at(0, 2, " + i + ", ..)", t.bytes(0, 2, i), names[i]);
        }
        t = new Desk("12: NONE if there is none such");
        t.put("cur/a", "Message-ID:<k>\n", 0);
        t.scan();
        t.due("the last byte of the KEY", t.at(0, 0, 0, 0), 'k');
        t.due("the last byte of the BYTES", t.at(0, 1, 0, 14), '\n');
        t.due("the last byte of the NAME", t.at(0, 2, 0, 4), 'a');
        int[] lengths = {1, 15, 5};
        int[] bad = {-1, Integer.MIN_VALUE, Integer.MAX_VALUE, Integer.MAX_VALUE - 10, 1 << 10, 1 << 16};
        for (int what = 0; what < 3; what++) {
            t.due("k behind the last, what = " + what, t.at(0, what, 0, lengths[what]), -1);
            t.due("MAIL 1, what = " + what, t.at(1, what, 0, 0), -1);
            for (int value : bad) {
                t.due("k = " + value + ", what = " + what, t.at(0, what, 0, value), -1);
                t.due("MAIL " + value + ", what = " + what, t.at(value, what, 0, 0), -1);
            }
        }
        t.due("i = 1", t.at(0, 2, 1, 0), -1);
        t.due("what = 3", t.at(0, 3, 0, 0), -1);
        for (int value : bad) {
            t.due("i = " + value, t.at(0, 2, value, 0), -1);
            t.due("what = " + value, t.at(0, value, 0, 0), -1);
        }
        t.put("cur/a", "1", 0);
        t.scan();
        t.due("a KEY of none", t.at(1, 0, 0, 0), -1);
        t.due("a PLACE of a LOST one", t.at(0, 2, 0, 0), -1);
        t.due("the KEY of a LOST one", t.at(0, 0, 0, 0), 'k');
    }

    private static void place() {
        Desk t = new Desk("13: Which message of its file a MAIL's i-th PLACE is");
        t.put("a.mbox", "From \n1\n\nFrom \n2\n\nFrom \n1\n\nFrom \n1\n", 0);
        t.put("b.mbox", "From \n2\n\nFrom \n1\n", 0);
        t.put("cur/a", "1\n", 0);
        t.scan();
        int[] due = {0, 2, 3, 1, 0};
        for (int i = 0; i < due.length; i++) {
            t.due("place(0, " + i + ")", t.place(0, i), due[i]);
        }
        t.due("place(1, 0)", t.place(1, 0), 1);
        t.due("place(1, 1)", t.place(1, 1), 0);
        t = new Desk("13: NONE if there is none such");
        t.due("place(0, 0) of none", t.place(0, 0), -1);
        t.put("a.mbox", "From \n1\n\nFrom \n1\n", 0);
        t.scan();
        t.due("place(0, 1)", t.place(0, 1), 1);
        int[] bad = {-1, 2, Integer.MIN_VALUE, Integer.MAX_VALUE, 1 << 10, 1 << 16};
        for (int value : bad) {
            t.due("place(0, " + value + ")", t.place(0, value), -1);
            t.due("place(" + value + ", 0)", t.place(value, 0), -1);
            t.due("place(" + value + ", " + value + ")", t.place(value, value), -1);
        }
        t.due("place(1, 0)", t.place(1, 0), -1);
        t.gone("a.mbox");
        t.due("place(0, 1) ahead of the SCAN", t.place(0, 1), 1);
        t.scan();
        t.due("place(0, 0) of a LOST one", t.place(0, 0), -1);
    }

    private static void count() {
        Desk t = new Desk("14: Files, MAILS, MAILS that have a PLACE, PLACES, bytes on the tape");
        t.put("a.mbox", "From \n1\n\nFrom \n1\n\nFrom \n2\n", 0);
        t.put("plain", "", 0);
        t.tape("x".repeat(400));
        countsAre(t, "ahead of a SCAN", 2, 0, 0, 0, 400);
        t.scan();
        countsAre(t, "behind it", 2, 2, 2, 3, 400);
        t.name();
        t.put("a.mbox", "From \n1\n", 0);
        countsAre(t, "ahead of the next", 2, 2, 2, 3, 0);
        t.scan();
        countsAre(t, "behind the next", 2, 2, 1, 1, 0);
        t.gone("a.mbox");
        t.gone("plain");
        t.scan();
        countsAre(t, "with no files", 0, 2, 0, 0, 0);
        t = new Desk("14: NONE for another what");
        int[] others = {-1, 5, 6, Integer.MIN_VALUE, Integer.MAX_VALUE, 256, 1 << 16};
        for (int what : others) {
            t.due("count(" + what + ")", t.count(what), -1);
        }
    }

    private static void countsAre(Desk t, String when, int... due) {
        for (int what = 0; what < due.length; what++) {
            t.due("count(" + what + ") " + when, t.count(what), due[what]);
        }
    }
}
