import java.io.ByteArrayOutputStream;
import java.util.Arrays;

/** Talks to one object by frames, and sees to it that no test rests on more than 512 calls. */
final class Client {
    private static final int MOST_CALLS = 512;
    static final long DIR = Message.DIRECTORY + 7;

    private final MountYard yard = new MountYard();
    private int calls = 0;

    /** An object whose talk is begun, with handle 1 at the root. */
    static Client attached() {
        Client made = new Client();
        made.done(Message.begin(160, "9P2000"));
        made.done(Message.attach(1));
        return made;
    }

    MountYard yard() {
        calls++;
        if (calls == MOST_CALLS + 1) {
            Check.fail("a test made more than 512 calls on one object");
        }
        return yard;
    }

    void feed(byte[] bytes) {
        for (int from = 0; from < bytes.length; from += 8) {
            int count = Math.min(8, bytes.length - from);
            long word = 0;
            for (int i = 0; i < count; i++) {
                word |= (bytes[from + i] & 255L) << 8 * i;
            }
            yard().feed(word, count);
        }
    }

    /** Frames fed together take fewer calls. */
    void feed(Message... messages) {
        ByteArrayOutputStream all = new ByteArrayOutputStream();
        for (Message message : messages) {
            all.writeBytes(message.frame());
        }
        feed(all.toByteArray());
    }

    private int serve(Message message) {
        feed(message.frame());
        return yard().serve();
    }

    private byte[] takeReply() {
        byte[] reply = new byte[yard().size(true)];
        for (int i = 0; i < reply.length; i++) {
            reply[i] = (byte) yard().out(i);
        }
        Check.is("drop of all", yard().drop(reply.length));
        return reply;
    }

    /** The message is done; what the reply holds is not looked at, for that costs many calls. */
    void done(Message message) {
        int type = message.frame()[4] & 255;
        Check.same("reply to " + hex(message.frame()), serve(message), type + 1);
        Check.is("drop of all", yard().drop(yard().size(true)));
    }

    /** The message is done, and the reply is this body with the frame's own type and tag. */
    void reply(Message message, Message due) {
        byte[] asked = message.frame();
        byte[] whole = dueFrame(asked, (asked[4] & 255) + 1, due);
        Check.same("reply to " + hex(asked), serve(message), (asked[4] & 255) + 1);
        Check.same("reply to " + hex(asked), hex(takeReply()), hex(whole));
    }

    void error(Message message, char letter) {
        byte[] asked = message.frame();
        byte[] whole = dueFrame(asked, 107, new Message().string(String.valueOf(letter)));
        Check.same("reply to " + hex(asked), serve(message), 107);
        Check.same("reply to " + hex(asked), hex(takeReply()), hex(whole));
    }

    private static byte[] dueFrame(byte[] asked, int type, Message due) {
        int tag = asked[5] & 255 | (asked[6] & 255) << 8;
        byte[] body = due.body();
        byte[] head = Message.of(type).tag(tag).frame();
        byte[] whole = Arrays.copyOf(head, head.length + body.length);
        whole[0] = (byte) whole.length;
        System.arraycopy(body, 0, whole, head.length, body.length);
        return whole;
    }

    /** Makes a file in the directory to which the names lead, by way of handle 99. */
    void make(String name, long mode, String... names) {
        done(Message.walk(1, 99, names));
        done(Message.create(99, name, mode, 0));
        done(Message.close(99));
    }

    void remove(String... names) {
        done(Message.walk(1, 99, names));
        done(Message.remove(99));
    }

    void text(String text) {
        yard().clear();
        for (int from = 0; from < text.length(); from += 8) {
            String part = text.substring(from, Math.min(text.length(), from + 8));
            Check.is("type of " + part, yard().type(word(part), part.length()));
        }
    }

    static long word(String part) {
        long word = 0;
        for (int i = 0; i < part.length(); i++) {
            word |= (part.charAt(i) & 255L) << 8 * i;
        }
        return word;
    }

    void about(int file, int... parts) {
        for (int part = 0; part < parts.length; part++) {
            Check.same("about(" + file + ", " + part + ")", yard().about(file, part), parts[part]);
        }
    }

    void data(int file, String due) {
        for (int i = 0; i < due.length(); i++) {
            Check.same("data(" + file + ", " + i + ")", yard().data(file, i), due.charAt(i));
        }
        Check.throwing("data(" + file + ", " + due.length() + ")", IndexOutOfBoundsException.class,
                () -> yard().data(file, due.length()));
    }

    /** All files of the list to which the text's path A leads. */
    void members(int process, int... due) {
        for (int k = 0; k < due.length; k++) {
            Check.same("member(" + process + ", " + k + ")", yard().member(process, k), due[k]);
        }
        Check.throwing("member(" + process + ", " + due.length + ")",
                IndexOutOfBoundsException.class, () -> yard().member(process, due.length));
    }

    void membersOf(String path, int process, int... due) {
        text(path);
        members(process, due);
    }

    private static String hex(byte[] bytes) {
        StringBuilder made = new StringBuilder();
        for (byte one : bytes) {
            made.append(String.format("%02x ", one & 255));
        }
        return made.toString();
    }
}
