import java.lang.reflect.Constructor;
import java.lang.reflect.Field;
import java.lang.reflect.Method;
import java.lang.reflect.Modifier;
import java.nio.charset.StandardCharsets;
import java.util.Arrays;
import java.util.TreeSet;

/** The promises one by one: ordinary inputs, the edges that the document names, and wrong inputs. */
public final class MailStorePromises {
    private static final int[] WRONG = {-1, Integer.MIN_VALUE, Integer.MAX_VALUE, 1000};
    private static int wrong = 0;

    private MailStore x = new MailStore();
    private final String promise;

    private MailStorePromises(String promise) {
        this.promise = promise;
    }

    public static void main(String[] args) {
        face();
        newObject();
        feedAndEnd();
        names();
        writes();
        renames();
        deletes();
        sorts();
        flags();
        boxes();
        keys();
        scansOfFiles();
        scansOfMails();
        movedLostFound();
        altered();
        mailAndTags();
        places();
        counts();
        System.out.println(wrong == 0 ? "all promises hold" : wrong + " answers are not as due");
        if (wrong != 0) {
            System.exit(1);
        }
    }

    private void due(String call, long got, long want) {
        if (got != want) {
            wrong++;
            System.out.println(promise + ": " + call + " answered " + got + ", due is " + want);
        }
    }

    private void due(String call, String got, String want) {
        if (!got.equals(want)) {
            wrong++;
            System.out.println(promise + ": " + call + " answered \"" + got + "\", due is \"" + want + "\"");
        }
    }

    private static int word(byte[] bytes, int from) {
        int word = 0;
        for (int i = from; i < from + 4; i++) {
            word = word << 8 | (i < bytes.length ? bytes[i] & 255 : 0);
        }
        return word;
    }

    private void tape(String text) {
        byte[] bytes = text.getBytes(StandardCharsets.ISO_8859_1);
        for (int i = 0; i < bytes.length; i += 20) {
            x.feed(word(bytes, i), word(bytes, i + 4), word(bytes, i + 8), word(bytes, i + 12), word(bytes, i + 16));
            x.end(Math.min(20, bytes.length - i));
        }
    }

    private boolean named(String name) {
        tape(name);
        return x.name();
    }

    private int put(String name, String content, int stamp) {
        named(name);
        tape(content);
        return x.write(stamp);
    }

    private boolean gone(String name) {
        named(name);
        return x.delete();
    }

    private void move(String from, String to) {
        named(from);
        tape(to);
        x.rename();
    }

    private String bytes(int mail, int what, int i) {
        StringBuilder text = new StringBuilder();
        for (int k = 0; x.at(mail, what, i, k) != MailStore.NONE; k++) {
            text.append((char) x.at(mail, what, i, k));
        }
        return text.toString();
    }

    private String told() {
        StringBuilder text = new StringBuilder();
        for (int what = 0; what < 9; what++) {
            text.append(what == 0 ? "" : " ").append(x.told(what));
        }
        return text.toString();
    }

    private String thrown(String call) {
        try {
            switch (call) {
                case "write" -> x.write(0);
                case "rename" -> x.rename();
                default -> x.delete();
            }
        } catch (IllegalStateException e) {
            return "state";
        } catch (IllegalArgumentException e) {
            return "argument";
        }
        return "nothing";
    }

    private static void face() {
        MailStorePromises t = new MailStorePromises("the face");
        TreeSet<String> seen = new TreeSet<>();
        for (Method m : MailStore.class.getDeclaredMethods()) {
            if (!Modifier.isPrivate(m.getModifiers())) {
                seen.add(m.getReturnType() + " " + m.getName() + m.getParameterCount()
                        + " " + Modifier.toString(m.getModifiers()));
            }
        }
        for (Field f : MailStore.class.getDeclaredFields()) {
            if (!Modifier.isPrivate(f.getModifiers())) {
                seen.add(f.getName() + " " + Modifier.toString(f.getModifiers()));
            }
        }
        for (Constructor<?> c : MailStore.class.getDeclaredConstructors()) {
            seen.add("new" + c.getParameterCount() + " " + Modifier.toString(c.getModifiers()));
        }
        TreeSet<String> want = new TreeSet<>(Arrays.asList("NONE public static final", "new0 public",
                "void feed5 public", "int end1 public", "boolean name0 public", "int write1 public",
                "void rename0 public", "boolean delete0 public", "int file1 public", "int scan0 public",
                "int told1 public", "int mail2 public", "int at4 public", "int place2 public", "int count1 public"));
        t.due("members", seen.toString(), want.toString());
        t.due("NONE", MailStore.NONE, -1);
    }

    private static void newObject() {
        MailStorePromises t = new MailStorePromises("1 a new object");
        for (int what = 0; what < 5; what++) {
            t.due("count(" + what + ")", t.x.count(what), 0);
        }
        t.due("told", t.told(), "0 0 0 0 0 0 0 0 0");
        for (int what = 0; what < 4; what++) {
            t.due("file(" + what + ")", t.x.file(what), -1);
        }
        t.due("mail(0, 0)", t.x.mail(0, 0), -1);
        t.due("at(0, 0, 0, 0)", t.x.at(0, 0, 0, 0), -1);
        t.due("place(0, 0)", t.x.place(0, 0), -1);
        t.due("scan()", t.x.scan(), 0);
        t.due("told", t.told(), "0 0 0 0 0 0 0 0 0");
        t.due("name()", t.x.name() ? 1 : 0, 0);
    }

    private static void feedAndEnd() {
        MailStorePromises t = new MailStorePromises("2 feed and 3 end");
        t.due("end(-1)", t.x.end(-1), -1);
        t.due("end(21)", t.x.end(21), -1);
        t.due("end(MIN)", t.x.end(Integer.MIN_VALUE), -1);
        t.due("end(MAX)", t.x.end(Integer.MAX_VALUE), -1);
        t.due("end(0)", t.x.end(0), 0);
        t.named("cur/x");
        t.x.feed(0x80FF0102, 0x03040506, 0x0708090A, 0x0B0C0D0E, 0x0F101112);
        t.due("end(21) keeps what is ready", t.x.end(21), -1);
        t.due("end(20)", t.x.end(20), 20);
        t.due("end(3) of zeros", t.x.end(3), 23);
        t.x.feed(-1, 0, 0, 0, 0);
        t.x.feed(0x41424344, 0, 0, 0, 0);
        t.due("end(2)", t.x.end(2), 25);
        t.due("end(2) of zeros", t.x.end(2), 27);
        t.x.feed(-1, -1, -1, -1, -1);
        t.due("end(0)", t.x.end(0), 27);
        t.due("end(1) of zeros behind end(0)", t.x.end(1), 28);
        t.x.write(0);
        t.x.scan();
        int[] want = {128, 255, 1, 2, 3, 4, 5, 6, 7, 8, 9, 10, 11, 12, 13, 14, 15, 16, 17, 18, 0, 0, 0, 65, 66, 0, 0, 0};
        for (int k = 0; k < want.length; k++) {
            t.due("byte " + k, t.x.at(0, 1, 0, k), want[k]);
        }
        t.due("behind the last", t.x.at(0, 1, 0, 28), -1);
        t.full();
    }

    private void full() {
        x = new MailStore();
        for (int i = 1; i < 20; i++) {
            due("end(20)", x.end(20), 20 * i);
        }
        due("end(19)", x.end(19), 399);
        x.feed(0x2A2B2C2D, 0, 0, 0, 0);
        due("end(2) of 399", x.end(2), -1);
        due("count(4)", x.count(4), 399);
        due("end(1) of 399", x.end(1), 400);
        due("end(1) of 400", x.end(1), -1);
        due("end(0) of 400", x.end(0), 400);
        due("name() of 400", x.name() ? 1 : 0, 0);
        due("count(4)", x.count(4), 0);
    }

    private static void names() {
        MailStorePromises t = new MailStorePromises("4 name");
        t.due("empty", t.named("") ? 1 : 0, 0);
        t.due("!", t.named("!") ? 1 : 0, 1);
        t.due("~", t.named("~") ? 1 : 0, 1);
        t.due("space", t.named(" ") ? 1 : 0, 0);
        t.due("in hand behind none", t.x.file(0), -1);
        t.due("127", t.named("a\u007f") ? 1 : 0, 0);
        t.due("128", t.named("a\u0080") ? 1 : 0, 0);
        t.due("255", t.named("\u00ff") ? 1 : 0, 0);
        t.due("0", t.named("\0") ? 1 : 0, 0);
        t.due("40 bytes", t.named("a".repeat(40)) ? 1 : 0, 1);
        t.due("in hand", t.x.file(0), 0);
        t.due("41 bytes", t.named("a".repeat(41)) ? 1 : 0, 0);
        t.due("tape behind none", t.x.count(4), 0);
        t.due("in hand", t.x.file(0), -1);
        t.named("a");
        t.due("name() of an empty tape", t.x.name() ? 1 : 0, 0);
        t.due("in hand", t.x.file(0), -1);
    }

    private static void writes() {
        MailStorePromises t = new MailStorePromises("5 write");
        t.tape("abc");
        t.due("write without a name", t.thrown("write"), "state");
        t.due("tape stays", t.x.count(4), 3);
        t.x.name();
        t.due("write", t.x.write(Integer.MIN_VALUE), 1);
        t.due("length", t.x.file(1), 0);
        t.tape("12345");
        t.due("write again", t.x.write(0), 1);
        t.due("length", t.x.file(1), 5);
        t.due("tape", t.x.count(4), 0);
        for (int i = 2; i <= 40; i++) {
            t.due("file " + i, t.put("f" + i, "", i), i);
        }
        t.named("f41");
        t.tape("xy");
        t.due("the 41st", t.thrown("write"), "state");
        t.due("tape stays", t.x.count(4), 2);
        t.due("not there", t.x.file(1), -1);
        t.due("files", t.x.count(0), 40);
        t.x.name();
        t.due("a file that is there, at 40", t.put("f40", "new", 0), 40);
        t.due("length", t.x.file(1), 3);
        t.gone("f7");
        t.due("room again", t.put("f41", "", 0), 40);
    }

    private static void renames() {
        MailStorePromises t = new MailStorePromises("6 rename");
        t.tape("b");
        t.due("no name", t.thrown("rename"), "state");
        t.due("tape stays", t.x.count(4), 1);
        t.x.name();
        t.tape("c d");
        t.due("no file, and no name on the tape", t.thrown("rename"), "state");
        t.x.name();
        t.put("b", "bb", 7);
        t.tape("c d");
        t.due("no name on the tape", t.thrown("rename"), "argument");
        t.due("tape stays", t.x.count(4), 3);
        t.due("still in hand", t.x.file(1), 2);
        t.x.name();
        t.named("b");
        t.due("empty tape", t.thrown("rename"), "argument");
        t.tape("cur/d");
        t.due("rename", t.thrown("rename"), "nothing");
        t.due("tape", t.x.count(4), 0);
        t.due("the new one in hand", t.x.file(0), 1);
        t.due("its bytes", t.x.file(1), 2);
        t.named("b");
        t.due("the old one", t.x.file(1), -1);
        t.put("cur/e", "eeee", 7);
        t.tape("cur/d");
        t.x.rename();
        t.due("files behind a rename over another", t.x.count(0), 1);
        t.due("bytes", t.x.file(1), 4);
        t.tape("cur/d");
        t.x.rename();
        t.due("to its own name", t.x.file(1), 4);
        t.due("files", t.x.count(0), 1);
        t.due("scan", t.x.scan(), 1);
        t.move("cur/d", "cur/z");
        t.move("cur/z", "cur/d");
        t.due("scan of the same", t.x.scan(), 0);
        t.due("the stamp came along", t.told(), "0 0 0 1 0 0 0 0 0");
        for (int i = 1; i < 40; i++) {
            t.put("g" + i, "", 0);
        }
        t.tape("h");
        t.due("rename among 40", t.thrown("rename"), "nothing");
        t.due("files", t.x.count(0), 40);
    }

    private static void deletes() {
        MailStorePromises t = new MailStorePromises("7 delete");
        t.due("no name", t.thrown("delete"), "state");
        t.named("a");
        t.due("no file", t.x.delete() ? 1 : 0, 0);
        t.put("a", "1", 0);
        t.put("b", "22", 0);
        t.put("c", "333", 0);
        t.named("b");
        t.tape("xyz");
        t.due("delete", t.x.delete() ? 1 : 0, 1);
        t.due("tape stays", t.x.count(4), 3);
        t.due("again", t.x.delete() ? 1 : 0, 0);
        t.due("in hand still", t.x.file(0), 0);
        t.x.name();
        t.named("a");
        t.due("a", t.x.file(1), 1);
        t.named("c");
        t.due("c", t.x.file(1), 3);
        t.due("files", t.x.count(0), 2);
    }

    private static void sorts() {
        MailStorePromises t = new MailStorePromises("8 file, sorts");
        String[] messages = {"cur/x", "new/x", "m/cur/x", "/new/x", "a/b/cur/x..", "cur/x:",
            "cur/x:2,S", "cur/cur/x", "new/a.mbox", "cur/-", "m//cur/x"};
        String[] boxes = {"a.mbox", ".mbox.mbox", "cur.mbox", "..mbox", "a:2,S.mbox"};
        String[] others = {"cur", "x", "cur/", "/x", "cur/.x", "cur/:", "cur/:x", "xcur/y", "m/xnew/y", "Cur/x",
            "cur/x/y", "curx/y", "tmp/x", ".mbox", "mbox", "a.mbo", "a.mboxx", "a.MBOX", "/a.mbox", "x/a.mbox",
            "ambox", "ur/x", "m/ur/x", "cur//x"};
        t.each(messages, 1);
        t.each(boxes, 2);
        t.each(others, 0);
        for (int what : WRONG) {
            t.due("file(" + what + ")", t.x.file(what), -1);
        }
        t.due("file(4)", t.x.file(4), -1);
        t.named("x y");
        for (int what = -1; what < 5; what++) {
            t.due("file(" + what + ") without a name", t.x.file(what), -1);
        }
    }

    private void each(String[] names, int sort) {
        for (String name : names) {
            x = new MailStore();
            due(name, named(name) ? 1 : 0, 1);
            due(name + " file(0)", x.file(0), sort);
            due(name + " file(1) not there", x.file(1), -1);
            due(name + " file(2) not there", x.file(2), -1);
            tape("From \n\nFrom \n");
            x.write(0);
            due(name + " file(0) there", x.file(0), sort);
            due(name + " file(1)", x.file(1), 13);
            due(name + " file(2)", x.file(2), sort);
            due(name + " scan", x.scan(), sort);
        }
    }

    private static int bits(String letters) {
        int bits = 0;
        for (char c : letters.toCharArray()) {
            bits |= 1 << (c - 'A');
        }
        return bits;
    }

    private static void flags() {
        MailStorePromises t = new MailStorePromises("8 file, flags");
        String[][] due = {{"cur/x", ""}, {"cur/x:2,", ""}, {"cur/x:2,S", "S"}, {"cur/x:2,AZ", "AZ"},
            {"new/x:2,S", ""}, {"cur/x:1,S", ""}, {"cur/x:1,S:2,T", "T"}, {"cur/x:2,S:2,T", "ST"},
            {"cur/x:2,a-S_s[@F", "SF"}, {"cur/xS2,S", ""}, {"cur/x:2S", ""}, {"cur/x:2,SS", "S"},
            {"m/new/cur/x:2,D", "D"}, {"m/cur/new/x:2,D", ""}, {"a:2,T/cur/x", ""}, {"a:2,T/cur/x:2,S", "S"},
            {"cur/:2,S", ""}, {"a:2,S.mbox", ""}, {"tmp/x:2,S", ""}, {"cur/S:2,", ""}, {"cur/x::2,S", "S"}};
        for (String[] row : due) {
            t.named(row[0]);
            t.due(row[0], t.x.file(3), bits(row[1]));
        }
        t.put("cur/x:2,ABCDEFGHIJKLMNOPQRSTUVWXYZ", "", 0);
        t.due("all", t.x.file(3), (1 << 26) - 1);
    }

    /** The messages of a box, each behind its length. */
    private String cut(String content) {
        x = new MailStore();
        put("a.mbox", content, 0);
        int messages = x.file(2);
        due("scan reads as many as file(2) tells", x.scan(), messages);
        StringBuilder text = new StringBuilder();
        for (int k = 0; k < messages; k++) {
            for (int m = 0; m < x.count(1); m++) {
                for (int i = 0; i < x.mail(m, 0); i++) {
                    if (x.place(m, i) == k) {
                        text.append(x.mail(m, 2)).append("[").append(bytes(m, 1, 0)).append("]");
                    }
                }
            }
        }
        return text.toString();
    }

    private static void boxes() {
        MailStorePromises t = new MailStorePromises("9 scan, cutting of boxes");
        String[][] due = {{"", ""}, {"\n", ""}, {"x", ""}, {"From", ""}, {"From\n", ""}, {"from a\nb", ""},
            {"From ", "0[]"}, {"From \n", "0[]"}, {"From a\nb", "1[b]"}, {"From a\nb\n", "2[b\n]"},
            {"From a\nb\n\n", "2[b\n]"}, {"From a\nb\n\n\n", "3[b\n\n]"}, {"From a\n\n", "0[]"}, {"From a\n\n\n", "1[\n]"},
            {"From a\nb\nFrom c\nd", "10[b\nFrom c\nd]"}, {"From a\nFrom c\nd", "8[From c\nd]"},
            {"From a\nb\n\nFrom c\nd", "2[b\n]1[d]"}, {"From a\nb\n\n\nFrom c\nd\n", "3[b\n\n]2[d\n]"},
            {"From a\nb\n\nFrom ", "2[b\n]0[]"}, {"From a\nb\n\nFrom", "7[b\n\nFrom]"},
            {"\nFrom a\nb", "1[b]"}, {"x\nFrom a\nb", ""}, {"x\n\nFrom a\nb", "1[b]"}, {" \nFrom a\nb", ""},
            {"\r\nFrom a\nb", ""}, {"x\n\n From a\nb", ""}, {"From a\nb\n\n\nc", "5[b\n\n\nc]"},
            {"From a\n>From b\n", "7[From b\n]"}, {"From a\n>>From b\n", "8[>From b\n]"},
            {"From a\n>>>From ", "7[>>From ]"}, {"From a\n>from b\n", "8[>from b\n]"}, {"From a\n> From b", "8[> From b]"},
            {"From a\n>Fromb", "6[>Fromb]"}, {"From a\n>From", "5[>From]"}, {"From a\n>>", "2[>>]"},
            {"From a\nx>From b", "8[x>From b]"}, {"From a\n>x\n>From b\n>From c", "16[>x\nFrom b\nFrom c]"},
            {"From a\nb\n\n>From c\nd", "11[b\n\nFrom c\nd]"}, {"From a\n\nFrom b\n\nFrom c", "0[]0[]0[]"},
            {"From a\n>From b\n\nFrom c\n>From d", "7[From b\n]6[From d]"}};
        for (String[] row : due) {
            t.due(row[0].replace("\n", "|"), t.cut(row[0]), row[1]);
        }
        t.due("57 messages", t.cut("From \n\n".repeat(57)), "0[]".repeat(57));
        t.x = new MailStore();
        t.put("cur/x", "From a\n>From b\n\n", 0);
        t.due("a message's file", t.x.scan(), 1);
        t.due("is its content", t.bytes(0, 1, 0), "From a\n>From b\n\n");
    }

    private static void keys() {
        MailStorePromises t = new MailStorePromises("11 and 12, keys");
        String k40 = "k".repeat(40);
        String[][] due = {{"Message-ID: <a@b>\n\nx", "a@b"}, {"MESSAGE-id:<a>", "a"}, {"message-ID:<a>x>", "a"},
            {"x: y\nMessage-Id: z<a><b>\n", "a"}, {"Message-ID: <a<b>", "a<b"}, {"Message-ID: ><a>", "a"},
            {"\nMessage-ID: <a>", ""}, {"x\n\nMessage-ID: <a>", ""}, {"Message-ID: <>", ""}, {"Message-ID: <><a>", ""},
            {"Message-ID: <a b>", ""}, {"Message-ID: < a>", ""}, {"Message-ID: <a\tb>", "a\tb"}, {"Message-ID: <a", ""},
            {"Message-ID: a>", ""}, {"Message-ID: <a\n>", ""}, {"Message-ID:\n <a>", ""}, {"Message-ID <a>", ""},
            {" Message-ID: <a>", ""}, {"xMessage-ID: <a>", ""}, {"Message-ID: <" + k40 + ">", k40},
            {"Message-ID: <" + k40 + "k>", ""}, {"Message-ID: x\nMessage-ID: <a>", ""},
            {"Message-ID: <a>\nMessage-ID: <b>", "a"}, {"Message-ID:<\u00ff>", "\u00ff"}, {"", ""}, {"Message-ID:", ""},
            {"Message-ID:<a>", "a"}, {"Message-I\u0064:<a>", "a"}, {"Message\rID:<a>", ""}, {"Message-ID: \n<a>\n", ""}};
        for (String[] row : due) {
            t.x = new MailStore();
            t.put("cur/x", row[0], 0);
            t.x.scan();
            String call = row[0].replace("\n", "|");
            t.due(call, t.bytes(0, 0, 0), row[1]);
            t.due(call + " length", t.x.mail(0, 1), row[1].length());
            t.due(call + " behind", t.x.at(0, 0, 0, row[1].length()), -1);
            t.due(call + " ahead", t.x.at(0, 0, 0, -1), -1);
        }
        t.x = new MailStore();
        t.put("a.mbox", "Message-ID: <z>\n\nFrom a\n>From Message-ID: <y>\nMessage-ID: <x>\n\nFrom b\nq", 0);
        t.x.scan();
        t.due("in a box", t.bytes(0, 0, 0), "x");
        t.due("in a box, none", t.x.mail(1, 1), 0);
    }

    private static void scansOfFiles() {
        MailStorePromises t = new MailStorePromises("9 scan and 10 told, files");
        t.put("cur/a", "1", 0);
        t.put("cur/b", "2", 0);
        t.put("c.mbox", "From \n3", 0);
        t.put("none", "From \n3", 0);
        t.due("scan", t.x.scan(), 3);
        t.due("all new", t.told(), "0 0 3 0 3 0 0 0 0");
        t.due("scan again", t.x.scan(), 0);
        t.due("all same", t.told(), "0 0 0 3 0 0 0 0 0");
        t.put("cur/a", "1", 1);
        t.put("none", "other", 1);
        t.due("another stamp", t.x.scan(), 1);
        t.due("one changed", t.told(), "0 1 0 2 0 0 0 0 0");
        t.put("cur/a", "9", 1);
        t.due("another content", t.x.scan(), 1);
        t.due("one changed", t.told(), "0 1 0 2 1 0 0 1 0");
        t.gone("cur/a");
        t.put("cur/a", "9", 1);
        t.due("gone and back", t.x.scan(), 0);
        t.due("is the same", t.told(), "0 0 0 3 0 0 0 0 0");
        t.gone("cur/b");
        t.gone("none");
        t.due("gone", t.x.scan(), 0);
        t.due("one gone", t.told(), "1 0 0 2 0 0 0 1 0");
        t.due("and not again", t.x.scan() + t.x.told(0), 0);
        t.move("c.mbox", "plain");
        t.due("a box that is none any more", t.x.scan(), 0);
        t.due("is gone", t.told(), "1 0 0 1 0 0 0 1 0");
        t.move("plain", "d.mbox");
        t.due("a box again", t.x.scan(), 1);
        t.due("is new", t.told(), "0 0 1 1 0 0 0 0 1");
        for (int what : WRONG) {
            t.due("told(" + what + ")", t.x.told(what), -1);
        }
        t.due("told(9)", t.x.told(9), -1);
    }

    private static void scansOfMails() {
        MailStorePromises t = new MailStorePromises("9 scan, which mail it is");
        String k = "Message-ID: <k>\n\n";
        t.put("cur/b", k + "1", 0);
        t.put("cur/a", k + "2", 0);
        t.put("B.mbox", "From \nplain", 0);
        t.put("cur/aa", "plain", 0);
        t.due("scan", t.x.scan(), 4);
        t.due("mails", t.x.count(1), 3);
        t.due("B.mbox is first", t.bytes(0, 1, 0), "plain");
        t.due("cur/a is second", t.bytes(1, 1, 0), k + "2");
        t.due("cur/b is last", t.bytes(2, 1, 0), k + "1");
        t.due("one mail in a box and a file", t.x.mail(0, 0), 2);
        t.due("same key, other bytes, both with places", t.x.told(5), 0);
        t.put("cur/c", k + "1", 0);
        t.due("scan", t.x.scan(), 1);
        t.due("key and bytes", t.x.mail(2, 0), 2);
        t.put("cur/d", "plain.", 0);
        t.due("scan", t.x.scan(), 1);
        t.due("without key, other bytes", t.told(), "0 0 1 5 1 0 0 0 0");
        t.put("cur/e", "Message-ID: <K>\n\n1", 0);
        t.x.scan();
        t.due("keys are of great and small letters", t.x.count(1), 5);
        t.put("f.mbox", "From \n" + k + "7\n\nFrom \n" + k + "7\n\nFrom \n" + k + "8", 0);
        t.due("scan", t.x.scan(), 3);
        t.due("new ones in one box", t.told(), "0 0 1 7 2 0 0 0 0");
        t.due("twice in one box", t.x.mail(5, 0), 2);
        t.due("last one", t.x.mail(6, 0), 1);
    }

    private static void movedLostFound() {
        MailStorePromises t = new MailStorePromises("9 scan and 10 told, moved, lost and found");
        t.put("cur/a", "1", 0);
        t.put("x.mbox", "From \n2\n\nFrom \n3\n", 0);
        t.x.scan();
        t.move("cur/a", "new/a");
        t.x.scan();
        t.due("moved", t.told(), "1 0 1 1 0 0 1 0 0");
        t.put("new/b", "1", 0);
        t.gone("new/a");
        t.x.scan();
        t.due("moved by a copy", t.told(), "1 0 1 1 0 0 1 0 0");
        t.put("new/c", "1", 0);
        t.x.scan();
        t.due("copied", t.told(), "0 0 1 2 0 0 0 0 0");
        t.gone("new/b");
        t.x.scan();
        t.due("one of two places went", t.told(), "1 0 0 2 0 0 0 0 0");
        t.put("x.mbox", "From \n3\n\nFrom \n2\n", 0);
        t.due("scan", t.x.scan(), 2);
        t.due("other messages of the same file", t.told(), "0 1 0 1 0 0 0 0 0");
        t.put("x.mbox", "From \n3\n", 0);
        t.put("y.mbox", "From \n2\n", 0);
        t.x.scan();
        t.due("from a changed file to a new one", t.told(), "0 1 1 1 0 0 1 0 0");
        t.put("x.mbox", "", 0);
        t.x.scan();
        t.due("lost in a changed file", t.told(), "0 1 0 2 0 0 0 1 0");
        t.x.scan();
        t.due("lost once", t.told(), "0 0 0 3 0 0 0 0 0");
        t.put("x.mbox", "From \n3\n", 0);
        t.x.scan();
        t.due("found", t.told(), "0 1 0 2 0 0 0 0 1");
        t.gone("new/c");
        t.x.scan();
        t.due("lost", t.x.told(7), 1);
        t.due("places of a lost one", t.x.mail(0, 0), 0);
        t.due("bytes of a lost one", t.bytes(0, 1, 0), "1");
        t.put("cur/q", "1", 0);
        t.x.scan();
        t.due("found elsewhere is not moved", t.told(), "0 0 1 2 0 0 0 0 1");
    }

    private static void altered() {
        MailStorePromises t = new MailStorePromises("9 scan, altered");
        String k = "Message-ID: <k>\n\n";
        t.put("cur/a", k + "1", 0);
        t.x.scan();
        t.put("cur/a", k + "22", 0);
        t.x.scan();
        t.due("altered", t.told(), "0 1 0 0 0 1 0 0 0");
        t.due("bytes", t.bytes(0, 1, 0), k + "22");
        t.due("length", t.x.mail(0, 2), 19);
        t.due("how often", t.x.mail(0, 5), 1);
        t.put("cur/a", "X: y\nMESSAGE-ID:<k>\n\n3", 0);
        t.x.scan();
        t.due("how often", t.x.mail(0, 5), 2);
        t.due("key", t.bytes(0, 0, 0), "k");
        t.gone("cur/a");
        t.put("cur/b", k + "4", 0);
        t.x.scan();
        t.due("altered and moved", t.told(), "1 0 1 0 0 1 1 0 0");
        t.gone("cur/b");
        t.x.scan();
        t.put("cur/c", k + "5", 0);
        t.put("cur/d", k + "6", 0);
        t.x.scan();
        t.due("altered and found, and a new one", t.told(), "0 0 2 0 1 1 0 0 1");
        t.due("how often", t.x.mail(0, 5), 4);
        t.due("the new one", t.x.mail(1, 5), 0);
        t.put("cur/c", k + "6", 1);
        t.put("cur/d", k + "5", 1);
        t.x.scan();
        t.due("swapped: by bytes, so both moved", t.told(), "0 2 0 0 0 0 2 0 0");
        t.gone("cur/c");
        t.put("cur/b", k + "8", 0);
        t.x.scan();
        t.due("the least without a place", t.x.mail(1, 5), 1);
        t.gone("cur/b");
        t.x.scan();
        t.put("cur/e", "Message-ID: <j>\n\n8", 0);
        t.put("cur/f", "Message-ID: <kk>\n\n8", 0);
        t.x.scan();
        t.due("another key, and one that it begins", t.told(), "0 0 2 1 2 0 0 0 0");
        t.gone("cur/e");
        t.gone("cur/f");
        t.x.scan();
        t.put("cur/b", k + "8", 0);
        t.x.scan();
        t.due("found as it was", t.told(), "0 0 1 1 0 0 0 0 1");
        t.put("cur/b", "no key", 0);
        t.x.scan();
        t.due("never without a key", t.told(), "0 1 0 1 1 0 0 1 0");
    }

    private static void mailAndTags() {
        MailStorePromises t = new MailStorePromises("11 mail");
        t.put("cur/a:2,SF", "1", 0);
        t.put("cur/b:2,RTDP", "2", 0);
        t.put("c.mbox", "From \n3", 0);
        t.put("new/d:2,FRS", "4", 0);
        t.put("cur/e:2,ABZ", "5", 0);
        t.x.scan();
        String[] flags = {"", "FS", "RTDP", "ABZ", ""};
        int[] tags = {1, 2, 1 + 4 + 8 + 16 + 32, 1, 1};
        for (int m = 0; m < 5; m++) {
            t.due("flags of " + m, t.x.mail(m, 3), bits(flags[m]));
            t.due("tags of " + m, t.x.mail(m, 4), tags[m]);
        }
        t.put("cur/z:2,R", "1", 0);
        t.put("z.mbox", "From \n1", 0);
        t.x.scan();
        t.due("flags of all places", t.x.mail(1, 3), bits("FRS"));
        t.due("tags of all places", t.x.mail(1, 4), 6);
        t.move("cur/a:2,SF", "cur/a:2,T");
        t.due("ahead of the scan", t.x.mail(1, 3), bits("FRS"));
        t.x.scan();
        t.due("behind it", t.x.mail(1, 3), bits("RT"));
        t.gone("cur/b:2,RTDP");
        t.x.scan();
        t.due("flags of a lost one", t.x.mail(2, 3), 0);
        t.due("tags of a lost one", t.x.mail(2, 4), 0);
        t.due("places of a lost one", t.x.mail(2, 0), 0);
        for (int bad : WRONG) {
            t.due("mail(0, " + bad + ")", t.x.mail(0, bad), -1);
            t.due("mail(" + bad + ", 0)", t.x.mail(bad, 0), -1);
        }
        t.due("mail(0, 6)", t.x.mail(0, 6), -1);
        t.due("mail(5, 0)", t.x.mail(5, 0), -1);
    }

    private static void places() {
        MailStorePromises t = new MailStorePromises("12 at and 13 place");
        t.put("cur/b", "x\n", 0);
        t.put("cur/aa", "x\n", 0);
        t.put("cur/a", "x\n", 0);
        t.put("m.mbox", "From \ny\n\nFrom \nx\n\nFrom \ny\n\nFrom \nx\n", 0);
        t.put("cur/B", "x\n", 0);
        t.x.scan();
        String[] names = {"cur/B", "cur/a", "cur/aa", "cur/b", "m.mbox", "m.mbox"};
        int[] messages = {0, 0, 0, 0, 1, 3};
        for (int i = 0; i < names.length; i++) {
            t.due("name of place " + i, t.bytes(0, 2, i), names[i]);
            t.due("place(0, " + i + ")", t.x.place(0, i), messages[i]);
        }
        t.due("place(1, 0)", t.x.place(1, 0), 0);
        t.due("place(1, 1)", t.x.place(1, 1), 2);
        t.due("place(0, 6)", t.x.place(0, 6), -1);
        t.due("at(0, 2, 6, 0)", t.x.at(0, 2, 6, 0), -1);
        t.due("i counts for names alone", t.x.at(0, 1, -5, 0), 'x');
        for (int bad : WRONG) {
            t.due("place(0, " + bad + ")", t.x.place(0, bad), -1);
            t.due("place(" + bad + ", 0)", t.x.place(bad, 0), -1);
            t.due("at(" + bad + ", 1, 0, 0)", t.x.at(bad, 1, 0, 0), -1);
            t.due("at(0, " + bad + ", 0, 0)", t.x.at(0, bad, 0, 0), -1);
            t.due("at(0, 2, " + bad + ", 0)", t.x.at(0, 2, bad, 0), -1);
            t.due("at(0, 0, 0, " + bad + ")", t.x.at(0, 0, 0, bad), -1);
            t.due("at(0, 1, 0, " + bad + ")", t.x.at(0, 1, 0, bad), -1);
            t.due("at(0, 2, 0, " + bad + ")", t.x.at(0, 2, 0, bad), -1);
        }
        t.due("at(0, 3, 0, 0)", t.x.at(0, 3, 0, 0), -1);
        t.gone("cur/a");
        t.due("stays ahead of the scan", t.bytes(0, 2, 1), "cur/a");
        t.x.scan();
        t.due("goes with it", t.bytes(0, 2, 1), "cur/aa");
    }

    private static void counts() {
        MailStorePromises t = new MailStorePromises("14 count");
        t.put("cur/a", "1", 0);
        t.put("b.mbox", "From \n1\n\nFrom \n1\n\nFrom \n1", 0);
        t.put("none", "", 0);
        t.due("mails ahead of a scan", t.x.count(1), 0);
        t.x.scan();
        t.tape("12345");
        int[] want = {3, 2, 2, 4, 5};
        for (int what = 0; what < 5; what++) {
            t.due("count(" + what + ")", t.x.count(what), want[what]);
        }
        t.x.name();
        t.gone("b.mbox");
        t.due("places ahead of a scan", t.x.count(3), 4);
        t.x.scan();
        int[] then = {2, 2, 1, 1, 0};
        for (int what = 0; what < 5; what++) {
            t.due("count(" + what + ") then", t.x.count(what), then[what]);
        }
        for (int bad : WRONG) {
            t.due("count(" + bad + ")", t.x.count(bad), -1);
        }
        t.due("count(5)", t.x.count(5), -1);
    }
}
