import java.lang.reflect.Constructor;
import java.lang.reflect.Field;
import java.lang.reflect.Method;
import java.lang.reflect.Modifier;
import java.util.Arrays;
import java.util.TreeSet;

/** The promises one by one: ordinary inputs, the edges that the document names, and wrong inputs. */
public final class MailStorePromises {
    private MailStorePromises() {
    }

    public static void main(String[] args) {
        face();
        newObject();
        feedAndEnd();
        names();
        writes();
        renames();
        deletes();
        sorts();
        flags();
        boxes();
        keys();
        scansOfFiles();
        scansOfMails();
        movedLostFound();
        altered();
        mailAndTags();
        places();
        counts();
        Desk.close();
    }

    private static void face() {
        Desk t = new Desk("the face");
        TreeSet<String> seen = new TreeSet<>();
        for (Method m : MailStore.class.getDeclaredMethods()) {
            if (!Modifier.isPrivate(m.getModifiers())) {
                seen.add(m.getReturnType() + " " + m.getName() + m.getParameterCount()
                        + " " + Modifier.toString(m.getModifiers()));
            }
        }
        for (Field f : MailStore.class.getDeclaredFields()) {
            if (!Modifier.isPrivate(f.getModifiers())) {
                seen.add(f.getName() + " " + Modifier.toString(f.getModifiers()));
            }
        }
        for (Constructor<?> c : MailStore.class.getDeclaredConstructors()) {
            seen.add("new" + c.getParameterCount() + " " + Modifier.toString(c.getModifiers()));
        }
        TreeSet<String> want = new TreeSet<>(Arrays.asList("NONE public static final", "new0 public",
                "void feed5 public", "int end1 public", "boolean name0 public", "int write1 public",
                "void rename0 public", "boolean delete0 public", "int file1 public", "int scan0 public",
                "int told1 public", "int mail2 public", "int at4 public", "int place2 public", "int count1 public"));
        t.due("members", seen.toString(), want.toString());
        t.due("NONE", MailStore.NONE, -1);
    }

    private static void newObject() {
        Desk t = new Desk("1 a new object");
        for (int what = 0; what < 5; what++) {
            t.due("count(" + what + ")", t.count(what), 0);
        }
        t.due("told", t.told(), "0 0 0 0 0 0 0 0 0");
        for (int what = 0; what < 4; what++) {
            t.due("file(" + what + ")", t.file(what), -1);
        }
        t.due("mail(0, 0)", t.mail(0, 0), -1);
        t.due("at(0, 0, 0, 0)", t.at(0, 0, 0, 0), -1);
        t.due("place(0, 0)", t.place(0, 0), -1);
        t.due("scan()", t.scan(), 0);
        t.due("told", t.told(), "0 0 0 0 0 0 0 0 0");
        t.due("name()", t.name(), false);
    }

    private static void feedAndEnd() {
        Desk t = new Desk("2 feed and 3 end");
        t.due("end(-1)", t.end(-1), -1);
        t.due("end(21)", t.end(21), -1);
        t.due("end(MIN)", t.end(Integer.MIN_VALUE), -1);
        t.due("end(MAX)", t.end(Integer.MAX_VALUE), -1);
        t.due("end(0)", t.end(0), 0);
        t.named("cur/x");
        t.feed(0x80FF0102, 0x03040506, 0x0708090A, 0x0B0C0D0E, 0x0F101112);
        t.due("end(21) keeps what is ready", t.end(21), -1);
        t.due("end(20)", t.end(20), 20);
        t.due("end(3) of zeros", t.end(3), 23);
        t.feed(-1, 0, 0, 0, 0);
        t.feed(0x41424344, 0, 0, 0, 0);
        t.due("end(2)", t.end(2), 25);
        t.due("end(2) of zeros", t.end(2), 27);
        t.feed(-1, -1, -1, -1, -1);
        t.due("end(0)", t.end(0), 27);
        t.due("end(1) of zeros behind end(0)", t.end(1), 28);
        t.write(0);
        t.scan();
        int[] want = {128, 255, 1, 2, 3, 4, 5, 6, 7, 8, 9, 10, 11, 12, 13, 14, 15, 16, 17, 18, 0, 0, 0, 65, 66, 0, 0, 0};
        for (int k = 0; k < want.length; k++) {
            t.due("byte " + k, t.at(0, 1, 0, k), want[k]);
        }
        t.due("behind the last", t.at(0, 1, 0, 28), -1);
        full(t);
    }

    private static void full(Desk t) {
        t.renew();
        for (int i = 1; i < 20; i++) {
            t.due("end(20)", t.end(20), 20 * i);
        }
        t.due("end(19)", t.end(19), 399);
        t.feed(0x2A2B2C2D, 0, 0, 0, 0);
        t.due("end(2) of 399", t.end(2), -1);
        t.due("count(4)", t.count(4), 399);
        t.due("end(1) of 399", t.end(1), 400);
        t.due("end(1) of 400", t.end(1), -1);
        t.due("end(0) of 400", t.end(0), 400);
        t.due("name() of 400", t.name(), false);
        t.due("count(4)", t.count(4), 0);
    }

    private static void names() {
        Desk t = new Desk("4 name");
        t.due("empty", t.named(""), false);
        t.due("!", t.named("!"), true);
        t.due("~", t.named("~"), true);
        t.due("space", t.named(" "), false);
        t.due("in hand behind none", t.file(0), -1);
        t.due("127", t.named("a\u007f"), false);
        t.due("128", t.named("a\u0080"), false);
        t.due("255", t.named("\u00ff"), false);
        t.due("0", t.named("\0"), false);
        t.due("40 bytes", t.named("a".repeat(40)), true);
        t.due("in hand", t.file(0), 0);
        t.due("41 bytes", t.named("a".repeat(41)), false);
        t.due("tape behind none", t.count(4), 0);
        t.due("in hand", t.file(0), -1);
        t.named("a");
        t.due("name() of an empty tape", t.name(), false);
        t.due("in hand", t.file(0), -1);
    }

    private static void writes() {
        Desk t = new Desk("5 write");
        t.tape("abc");
        t.due("write without a name", t.thrown("write"), "state");
        t.due("tape stays", t.count(4), 3);
        t.name();
        t.due("write", t.write(Integer.MIN_VALUE), 1);
        t.due("length", t.file(1), 0);
        t.tape("12345");
        t.due("write again", t.write(0), 1);
        t.due("length", t.file(1), 5);
        t.due("tape", t.count(4), 0);
        for (int i = 2; i <= 40; i++) {
            t.due("file " + i, t.put("f" + i, "", i), i);
        }
        t.named("f41");
        t.tape("xy");
        t.due("the 41st", t.thrown("write"), "state");
        t.due("tape stays", t.count(4), 2);
        t.due("not there", t.file(1), -1);
        t.due("files", t.count(0), 40);
        t.name();
        t.due("a file that is there, at 40", t.put("f40", "new", 0), 40);
        t.due("length", t.file(1), 3);
        t.gone("f7");
        t.due("room again", t.put("f41", "", 0), 40);
    }

    private static void renames() {
        Desk t = new Desk("6 rename");
        t.tape("b");
        t.due("no name", t.thrown("rename"), "state");
        t.due("tape stays", t.count(4), 1);
        t.name();
        t.tape("c d");
        t.due("no file, and no name on the tape", t.thrown("rename"), "state");
        t.name();
        t.put("b", "bb", 7);
        t.tape("c d");
        t.due("no name on the tape", t.thrown("rename"), "argument");
        t.due("tape stays", t.count(4), 3);
        t.due("still in hand", t.file(1), 2);
        t.name();
        t.named("b");
        t.due("empty tape", t.thrown("rename"), "argument");
        t.tape("cur/d");
        t.due("rename", t.thrown("rename"), "nothing");
        t.due("tape", t.count(4), 0);
        t.due("the new one in hand", t.file(0), 1);
        t.due("its bytes", t.file(1), 2);
        t.named("b");
        t.due("the old one", t.file(1), -1);
        t.put("cur/e", "eeee", 7);
        t.tape("cur/d");
        t.rename();
        t.due("files behind a rename over another", t.count(0), 1);
        t.due("bytes", t.file(1), 4);
        t.tape("cur/d");
        t.rename();
        t.due("to its own name", t.file(1), 4);
        t.due("files", t.count(0), 1);
        t.due("scan", t.scan(), 1);
        t.move("cur/d", "cur/z");
        t.move("cur/z", "cur/d");
        t.due("scan of the same", t.scan(), 0);
        t.due("the stamp came along", t.told(), "0 0 0 1 0 0 0 0 0");
        for (int i = 1; i < 40; i++) {
            t.put("g" + i, "", 0);
        }
        t.tape("h");
        t.due("rename among 40", t.thrown("rename"), "nothing");
        t.due("files", t.count(0), 40);
    }

    private static void deletes() {
        Desk t = new Desk("7 delete");
        t.due("no name", t.thrown("delete"), "state");
        t.named("a");
        t.due("no file", t.delete(), false);
        t.put("a", "1", 0);
        t.put("b", "22", 0);
        t.put("c", "333", 0);
        t.named("b");
        t.tape("xyz");
        t.due("delete", t.delete(), true);
        t.due("tape stays", t.count(4), 3);
        t.due("again", t.delete(), false);
        t.due("in hand still", t.file(0), 0);
        t.name();
        t.named("a");
        t.due("a", t.file(1), 1);
        t.named("c");
        t.due("c", t.file(1), 3);
        t.due("files", t.count(0), 2);
    }

    private static void sorts() {
        Desk t = new Desk("8 file, sorts");
        String[] messages = {"cur/x", "new/x", "m/cur/x", "/new/x", "a/b/cur/x..", "cur/x:",
            "cur/x:2,S", "cur/cur/x", "new/a.mbox", "cur/-", "m//cur/x"};
        String[] boxes = {"a.mbox", ".mbox.mbox", "cur.mbox", "..mbox", "a:2,S.mbox"};
        String[] others = {"cur", "x", "cur/", "/x", "cur/.x", "cur/:", "cur/:x", "xcur/y", "m/xnew/y", "Cur/x",
            "cur/x/y", "curx/y", "tmp/x", ".mbox", "mbox", "a.mbo", "a.mboxx", "a.MBOX", "/a.mbox", "x/a.mbox",
            "ambox", "ur/x", "m/ur/x", "cur//x"};
        each(t, messages, 1);
        each(t, boxes, 2);
        each(t, others, 0);
        for (int what : Desk.WRONG) {
            t.due("file(" + what + ")", t.file(what), -1);
        }
        t.due("file(4)", t.file(4), -1);
        t.named("x y");
        for (int what = -1; what < 5; what++) {
            t.due("file(" + what + ") without a name", t.file(what), -1);
        }
    }

    private static void each(Desk t, String[] names, int sort) {
        for (String name : names) {
            t.renew();
            t.due(name, t.named(name), true);
            t.due(name + " file(0)", t.file(0), sort);
            t.due(name + " file(1) not there", t.file(1), -1);
            t.due(name + " file(2) not there", t.file(2), -1);
            t.tape("From \n\nFrom \n");
            t.write(0);
            t.due(name + " file(0) there", t.file(0), sort);
            t.due(name + " file(1)", t.file(1), 13);
            t.due(name + " file(2)", t.file(2), sort);
            t.due(name + " scan", t.scan(), sort);
        }
    }

    private static void flags() {
        Desk t = new Desk("8 file, flags");
        String[][] due = {{"cur/x", ""}, {"cur/x:2,", ""}, {"cur/x:2,S", "S"}, {"cur/x:2,AZ", "AZ"},
            {"new/x:2,S", ""}, {"cur/x:1,S", ""}, {"cur/x:1,S:2,T", "T"}, {"cur/x:2,S:2,T", "ST"},
            {"cur/x:2,a-S_s[@F", "SF"}, {"cur/xS2,S", ""}, {"cur/x:2S", ""}, {"cur/x:2,SS", "S"},
            {"m/new/cur/x:2,D", "D"}, {"m/cur/new/x:2,D", ""}, {"a:2,T/cur/x", ""}, {"a:2,T/cur/x:2,S", "S"},
            {"cur/:2,S", ""}, {"a:2,S.mbox", ""}, {"tmp/x:2,S", ""}, {"cur/S:2,", ""}, {"cur/x::2,S", "S"}};
        for (String[] row : due) {
            t.named(row[0]);
            t.due(row[0], t.file(3), Desk.bits(row[1]));
        }
        t.put("cur/x:2,ABCDEFGHIJKLMNOPQRSTUVWXYZ", "", 0);
        t.due("all", t.file(3), (1 << 26) - 1);
    }

    private static void boxes() {
        Desk t = new Desk("9 scan, cutting of boxes");
        String[][] due = {{"", ""}, {"\n", ""}, {"x", ""}, {"From", ""}, {"From\n", ""}, {"from a\nb", ""},
            {"From ", "0[]"}, {"From \n", "0[]"}, {"From a\nb", "1[b]"}, {"From a\nb\n", "2[b\n]"},
            {"From a\nb\n\n", "2[b\n]"}, {"From a\nb\n\n\n", "3[b\n\n]"}, {"From a\n\n", "0[]"}, {"From a\n\n\n", "1[\n]"},
            {"From a\nb\nFrom c\nd", "10[b\nFrom c\nd]"}, {"From a\nFrom c\nd", "8[From c\nd]"},
            {"From a\nb\n\nFrom c\nd", "2[b\n]1[d]"}, {"From a\nb\n\n\nFrom c\nd\n", "3[b\n\n]2[d\n]"},
            {"From a\nb\n\nFrom ", "2[b\n]0[]"}, {"From a\nb\n\nFrom", "7[b\n\nFrom]"},
            {"\nFrom a\nb", "1[b]"}, {"x\nFrom a\nb", ""}, {"x\n\nFrom a\nb", "1[b]"}, {" \nFrom a\nb", ""},
            {"\r\nFrom a\nb", ""}, {"x\n\n From a\nb", ""}, {"From a\nb\n\n\nc", "5[b\n\n\nc]"},
            {"From a\n>From b\n", "7[From b\n]"}, {"From a\n>>From b\n", "8[>From b\n]"},
            {"From a\n>>>From ", "7[>>From ]"}, {"From a\n>from b\n", "8[>from b\n]"}, {"From a\n> From b", "8[> From b]"},
            {"From a\n>Fromb", "6[>Fromb]"}, {"From a\n>From", "5[>From]"}, {"From a\n>>", "2[>>]"},
            {"From a\nx>From b", "8[x>From b]"}, {"From a\n>x\n>From b\n>From c", "16[>x\nFrom b\nFrom c]"},
            {"From a\nb\n\n>From c\nd", "11[b\n\nFrom c\nd]"}, {"From a\n\nFrom b\n\nFrom c", "0[]0[]0[]"},
            {"From a\n>From b\n\nFrom c\n>From d", "7[From b\n]6[From d]"}};
        for (String[] row : due) {
            t.due(row[0].replace("\n", "|"), t.cut(row[0]), row[1]);
        }
        t.due("57 messages", t.cut("From \n\n".repeat(57)), "0[]".repeat(57));
        t.renew();
        t.put("cur/x", "From a\n>From b\n\n", 0);
        t.due("a message's file", t.scan(), 1);
        t.due("is its content", t.bytes(0, 1, 0), "From a\n>From b\n\n");
    }

    private static void keys() {
        Desk t = new Desk("11 and 12, keys");
        String k40 = "k".repeat(40);
        String[][] due = {{"Message-ID: <a@b>\n\nx", "a@b"}, {"MESSAGE-id:<a>", "a"}, {"message-ID:<a>x>", "a"},
            {"x: y\nMessage-Id: z<a><b>\n", "a"}, {"Message-ID: <a<b>", "a<b"}, {"Message-ID: ><a>", "a"},
            {"\nMessage-ID: <a>", ""}, {"x\n\nMessage-ID: <a>", ""}, {"Message-ID: <>", ""}, {"Message-ID: <><a>", ""},
            {"Message-ID: <a b>", ""}, {"Message-ID: < a>", ""}, {"Message-ID: <a\tb>", "a\tb"}, {"Message-ID: <a", ""},
            {"Message-ID: a>", ""}, {"Message-ID: <a\n>", ""}, {"Message-ID:\n <a>", ""}, {"Message-ID <a>", ""},
            {" Message-ID: <a>", ""}, {"xMessage-ID: <a>", ""}, {"Message-ID: <" + k40 + ">", k40},
            {"Message-ID: <" + k40 + "k>", ""}, {"Message-ID: x\nMessage-ID: <a>", ""},
            {"Message-ID: <a>\nMessage-ID: <b>", "a"}, {"Message-ID:<\u00ff>", "\u00ff"}, {"", ""}, {"Message-ID:", ""},
            {"Message-ID:<a>", "a"}, {"Message-I\u0064:<a>", "a"}, {"Message\rID:<a>", ""}, {"Message-ID: \n<a>\n", ""}};
        for (String[] row : due) {
            t.renew();
            t.put("cur/x", row[0], 0);
            t.scan();
            String call = row[0].replace("\n", "|");
            t.due(call, t.bytes(0, 0, 0), row[1]);
            t.due(call + " length", t.mail(0, 1), row[1].length());
            t.due(call + " behind", t.at(0, 0, 0, row[1].length()), -1);
            t.due(call + " ahead", t.at(0, 0, 0, -1), -1);
        }
        t.renew();
        t.put("a.mbox", "Message-ID: <z>\n\nFrom a\n>From Message-ID: <y>\nMessage-ID: <x>\n\nFrom b\nq", 0);
        t.scan();
        t.due("in a box", t.bytes(0, 0, 0), "x");
        t.due("in a box, none", t.mail(1, 1), 0);
    }

    private static void scansOfFiles() {
        Desk t = new Desk("9 scan and 10 told, files");
        t.put("cur/a", "1", 0);
        t.put("cur/b", "2", 0);
        t.put("c.mbox", "From \n3", 0);
        t.put("none", "From \n3", 0);
        t.due("scan", t.scan(), 3);
        t.due("all new", t.told(), "0 0 3 0 3 0 0 0 0");
        t.due("scan again", t.scan(), 0);
        t.due("all same", t.told(), "0 0 0 3 0 0 0 0 0");
        t.put("cur/a", "1", 1);
        t.put("none", "other", 1);
        t.due("another stamp", t.scan(), 1);
        t.due("one changed", t.told(), "0 1 0 2 0 0 0 0 0");
        t.put("cur/a", "9", 1);
        t.due("another content", t.scan(), 1);
        t.due("one changed", t.told(), "0 1 0 2 1 0 0 1 0");
        t.gone("cur/a");
        t.put("cur/a", "9", 1);
        t.due("gone and back", t.scan(), 0);
        t.due("is the same", t.told(), "0 0 0 3 0 0 0 0 0");
        t.gone("cur/b");
        t.gone("none");
        t.due("gone", t.scan(), 0);
        t.due("one gone", t.told(), "1 0 0 2 0 0 0 1 0");
        t.due("and not again", t.scan() + t.told(0), 0);
        t.move("c.mbox", "plain");
        t.due("a box that is none any more", t.scan(), 0);
        t.due("is gone", t.told(), "1 0 0 1 0 0 0 1 0");
        t.move("plain", "d.mbox");
        t.due("a box again", t.scan(), 1);
        t.due("is new", t.told(), "0 0 1 1 0 0 0 0 1");
        for (int what : Desk.WRONG) {
            t.due("told(" + what + ")", t.told(what), -1);
        }
        t.due("told(9)", t.told(9), -1);
    }

    private static void scansOfMails() {
        Desk t = new Desk("9 scan, which mail it is");
        String k = "Message-ID: <k>\n\n";
        t.put("cur/b", k + "1", 0);
        t.put("cur/a", k + "2", 0);
        t.put("B.mbox", "From \nplain", 0);
        t.put("cur/aa", "plain", 0);
        t.due("scan", t.scan(), 4);
        t.due("mails", t.count(1), 3);
        t.due("B.mbox is first", t.bytes(0, 1, 0), "plain");
        t.due("cur/a is second", t.bytes(1, 1, 0), k + "2");
        t.due("cur/b is last", t.bytes(2, 1, 0), k + "1");
        t.due("one mail in a box and a file", t.mail(0, 0), 2);
        t.due("same key, other bytes, both with places", t.told(5), 0);
        t.put("cur/c", k + "1", 0);
        t.due("scan", t.scan(), 1);
        t.due("key and bytes", t.mail(2, 0), 2);
        t.put("cur/d", "plain.", 0);
        t.due("scan", t.scan(), 1);
        t.due("without key, other bytes", t.told(), "0 0 1 5 1 0 0 0 0");
        t.put("cur/e", "Message-ID: <K>\n\n1", 0);
        t.scan();
        t.due("keys are of great and small letters", t.count(1), 5);
        t.put("f.mbox", "From \n" + k + "7\n\nFrom \n" + k + "7\n\nFrom \n" + k + "8", 0);
        t.due("scan", t.scan(), 3);
        t.due("new ones in one box", t.told(), "0 0 1 7 2 0 0 0 0");
        t.due("twice in one box", t.mail(5, 0), 2);
        t.due("last one", t.mail(6, 0), 1);
    }

    private static void movedLostFound() {
        Desk t = new Desk("9 scan and 10 told, moved, lost and found");
        t.put("cur/a", "1", 0);
        t.put("x.mbox", "From \n2\n\nFrom \n3\n", 0);
        t.scan();
        t.move("cur/a", "new/a");
        t.scan();
        t.due("moved", t.told(), "1 0 1 1 0 0 1 0 0");
        t.put("new/b", "1", 0);
        t.gone("new/a");
        t.scan();
        t.due("moved by a copy", t.told(), "1 0 1 1 0 0 1 0 0");
        t.put("new/c", "1", 0);
        t.scan();
        t.due("copied", t.told(), "0 0 1 2 0 0 0 0 0");
        t.gone("new/b");
        t.scan();
        t.due("one of two places went", t.told(), "1 0 0 2 0 0 0 0 0");
        t.put("x.mbox", "From \n3\n\nFrom \n2\n", 0);
        t.due("scan", t.scan(), 2);
        t.due("other messages of the same file", t.told(), "0 1 0 1 0 0 0 0 0");
        t.put("x.mbox", "From \n3\n", 0);
        t.put("y.mbox", "From \n2\n", 0);
        t.scan();
        t.due("from a changed file to a new one", t.told(), "0 1 1 1 0 0 1 0 0");
        t.put("x.mbox", "", 0);
        t.scan();
        t.due("lost in a changed file", t.told(), "0 1 0 2 0 0 0 1 0");
        t.scan();
        t.due("lost once", t.told(), "0 0 0 3 0 0 0 0 0");
        t.put("x.mbox", "From \n3\n", 0);
        t.scan();
        t.due("found", t.told(), "0 1 0 2 0 0 0 0 1");
        t.gone("new/c");
        t.scan();
        t.due("lost", t.told(7), 1);
        t.due("places of a lost one", t.mail(0, 0), 0);
        t.due("bytes of a lost one", t.bytes(0, 1, 0), "1");
        t.put("cur/q", "1", 0);
        t.scan();
        t.due("found elsewhere is not moved", t.told(), "0 0 1 2 0 0 0 0 1");
    }

    private static void altered() {
        Desk t = new Desk("9 scan, altered");
        String k = "Message-ID: <k>\n\n";
        t.put("cur/a", k + "1", 0);
        t.scan();
        t.put("cur/a", k + "22", 0);
        t.scan();
        t.due("altered", t.told(), "0 1 0 0 0 1 0 0 0");
        t.due("bytes", t.bytes(0, 1, 0), k + "22");
        t.due("length", t.mail(0, 2), 19);
        t.due("how often", t.mail(0, 5), 1);
        t.put("cur/a", "X: y\nMESSAGE-ID:<k>\n\n3", 0);
        t.scan();
        t.due("how often", t.mail(0, 5), 2);
        t.due("key", t.bytes(0, 0, 0), "k");
        t.gone("cur/a");
        t.put("cur/b", k + "4", 0);
        t.scan();
        t.due("altered and moved", t.told(), "1 0 1 0 0 1 1 0 0");
        t.gone("cur/b");
        t.scan();
        t.put("cur/c", k + "5", 0);
        t.put("cur/d", k + "6", 0);
        t.scan();
        t.due("altered and found, and a new one", t.told(), "0 0 2 0 1 1 0 0 1");
        t.due("how often", t.mail(0, 5), 4);
        t.due("the new one", t.mail(1, 5), 0);
        t.put("cur/c", k + "6", 1);
        t.put("cur/d", k + "5", 1);
        t.scan();
        t.due("swapped: by bytes, so both moved", t.told(), "0 2 0 0 0 0 2 0 0");
        t.gone("cur/c");
        t.put("cur/b", k + "8", 0);
        t.scan();
        t.due("the least without a place", t.mail(1, 5), 1);
        t.gone("cur/b");
        t.scan();
        t.put("cur/e", "Message-ID: <j>\n\n8", 0);
        t.put("cur/f", "Message-ID: <kk>\n\n8", 0);
        t.scan();
        t.due("another key, and one that it begins", t.told(), "0 0 2 1 2 0 0 0 0");
        t.gone("cur/e");
        t.gone("cur/f");
        t.scan();
        t.put("cur/b", k + "8", 0);
        t.scan();
        t.due("found as it was", t.told(), "0 0 1 1 0 0 0 0 1");
        t.put("cur/b", "no key", 0);
        t.scan();
        t.due("never without a key", t.told(), "0 1 0 1 1 0 0 1 0");
    }

    private static void mailAndTags() {
        Desk t = new Desk("11 mail");
        t.put("cur/a:2,SF", "1", 0);
        t.put("cur/b:2,RTDP", "2", 0);
        t.put("c.mbox", "From \n3", 0);
        t.put("new/d:2,FRS", "4", 0);
        t.put("cur/e:2,ABZ", "5", 0);
        t.scan();
        String[] flags = {"", "FS", "RTDP", "ABZ", ""};
        int[] tags = {1, 2, 1 + 4 + 8 + 16 + 32, 1, 1};
        for (int m = 0; m < 5; m++) {
            t.due("flags of " + m, t.mail(m, 3), Desk.bits(flags[m]));
            t.due("tags of " + m, t.mail(m, 4), tags[m]);
        }
        t.put("cur/z:2,R", "1", 0);
        t.put("z.mbox", "From \n1", 0);
        t.scan();
        t.due("flags of all places", t.mail(1, 3), Desk.bits("FRS"));
        t.due("tags of all places", t.mail(1, 4), 6);
        t.move("cur/a:2,SF", "cur/a:2,T");
        t.due("ahead of the scan", t.mail(1, 3), Desk.bits("FRS"));
        t.scan();
        t.due("behind it", t.mail(1, 3), Desk.bits("RT"));
        t.gone("cur/b:2,RTDP");
        t.scan();
        t.due("flags of a lost one", t.mail(2, 3), 0);
        t.due("tags of a lost one", t.mail(2, 4), 0);
        t.due("places of a lost one", t.mail(2, 0), 0);
        for (int bad : Desk.WRONG) {
            t.due("mail(0, " + bad + ")", t.mail(0, bad), -1);
            t.due("mail(" + bad + ", 0)", t.mail(bad, 0), -1);
        }
        t.due("mail(0, 6)", t.mail(0, 6), -1);
        t.due("mail(5, 0)", t.mail(5, 0), -1);
    }

    private static void places() {
        Desk t = new Desk("12 at and 13 place");
        t.put("cur/b", "x\n", 0);
        t.put("cur/aa", "x\n", 0);
        t.put("cur/a", "x\n", 0);
        t.put("m.mbox", "From \ny\n\nFrom \nx\n\nFrom \ny\n\nFrom \nx\n", 0);
        t.put("cur/B", "x\n", 0);
        t.scan();
        String[] names = {"cur/B", "cur/a", "cur/aa", "cur/b", "m.mbox", "m.mbox"};
        int[] messages = {0, 0, 0, 0, 1, 3};
        for (int i = 0; i < names.length; i++) {
            t.due("name of place " + i, t.bytes(0, 2, i), names[i]);
            t.due("place(0, " + i + ")", t.place(0, i), messages[i]);
        }
        t.due("place(1, 0)", t.place(1, 0), 0);
        t.due("place(1, 1)", t.place(1, 1), 2);
        t.due("place(0, 6)", t.place(0, 6), -1);
        t.due("at(0, 2, 6, 0)", t.at(0, 2, 6, 0), -1);
        t.due("i counts for names alone", t.at(0, 1, -5, 0), 'x');
        for (int bad : Desk.WRONG) {
            t.due("place(0, " + bad + ")", t.place(0, bad), -1);
            t.due("place(" + bad + ", 0)", t.place(bad, 0), -1);
            t.due("at(" + bad + ", 1, 0, 0)", t.at(bad, 1, 0, 0), -1);
            t.due("at(0, " + bad + ", 0, 0)", t.at(0, bad, 0, 0), -1);
            t.due("at(0, 2, " + bad + ", 0)", t.at(0, 2, bad, 0), -1);
            t.due("at(0, 0, 0, " + bad + ")", t.at(0, 0, 0, bad), -1);
            t.due("at(0, 1, 0, " + bad + ")", t.at(0, 1, 0, bad), -1);
            t.due("at(0, 2, 0, " + bad + ")", t.at(0, 2, 0, bad), -1);
        }
        t.due("at(0, 3, 0, 0)", t.at(0, 3, 0, 0), -1);
        t.gone("cur/a");
        t.due("stays ahead of the scan", t.bytes(0, 2, 1), "cur/a");
        t.scan();
        t.due("goes with it", t.bytes(0, 2, 1), "cur/aa");
    }

    private static void counts() {
        Desk t = new Desk("14 count");
        t.put("cur/a", "1", 0);
        t.put("b.mbox", "From \n1\n\nFrom \n1\n\nFrom \n1", 0);
        t.put("none", "", 0);
        t.due("mails ahead of a scan", t.count(1), 0);
        t.scan();
        t.tape("12345");
        int[] want = {3, 2, 2, 4, 5};
        for (int what = 0; what < 5; what++) {
            t.due("count(" + what + ")", t.count(what), want[what]);
        }
        t.name();
        t.gone("b.mbox");
        t.due("places ahead of a scan", t.count(3), 4);
        t.scan();
        int[] then = {2, 2, 1, 1, 0};
        for (int what = 0; what < 5; what++) {
            t.due("count(" + what + ") then", t.count(what), then[what]);
        }
        for (int bad : Desk.WRONG) {
            t.due("count(" + bad + ")", t.count(bad), -1);
        }
        t.due("count(5)", t.count(5), -1);
    }
}
