import java.io.ByteArrayOutputStream;

/** Builds frames, and the bodies that are due in replies, piece by piece. */
final class Message {
    static final long NO_HANDLE = 4294967295L;
    static final long DIRECTORY = 2147483648L;

    private final ByteArrayOutputStream body = new ByteArrayOutputStream();
    private int type;
    private int tag = 1;

    static Message of(int type) {
        Message made = new Message();
        made.type = type;
        return made;
    }

    Message tag(int number) {
        tag = number;
        return this;
    }

    Message number(long value, int bytes) {
        for (int i = 0; i < bytes; i++) {
            body.write((int) (value >>> 8 * i) & 255);
        }
        return this;
    }

    Message string(String text) {
        number(text.length(), 2);
        return letters(text);
    }

    Message letters(String text) {
        for (char letter : text.toCharArray()) {
            body.write(letter);
        }
        return this;
    }

    Message qid(boolean directory, long version, long file) {
        return number(directory ? 128 : 0, 1).number(version, 4).number(file, 8);
    }

    Message stat(boolean directory, long version, long file, int rights, int length, String name) {
        number(27 + name.length(), 2).qid(directory, version, file);
        return number(rights + (directory ? DIRECTORY : 0), 4).number(length, 8).string(name);
    }

    byte[] body() {
        return body.toByteArray();
    }

    byte[] frame() {
        Message whole = new Message().number(7 + body.size(), 4).number(type, 1).number(tag, 2);
        whole.body.writeBytes(body());
        return whole.body();
    }

    static Message begin(long most, String version) {
        return of(100).tag(65535).number(most, 4).string(version);
    }

    static Message attach(long handle) {
        return of(104).number(handle, 4).number(NO_HANDLE, 4).string("").string("");
    }

    static Message walk(long handle, long target, String... names) {
        Message made = of(110).number(handle, 4).number(target, 4).number(names.length, 2);
        for (String name : names) {
            made.string(name);
        }
        return made;
    }

    static Message open(long handle, int way) {
        return of(112).number(handle, 4).number(way, 1);
    }

    static Message create(long handle, String name, long mode, int way) {
        return of(114).number(handle, 4).string(name).number(mode, 4).number(way, 1);
    }

    static Message read(long handle, long place, long count) {
        return of(116).number(handle, 4).number(place, 8).number(count, 4);
    }

    static Message write(long handle, long place, String text) {
        return of(118).number(handle, 4).number(place, 8).number(text.length(), 4).letters(text);
    }

    static Message close(long handle) {
        return of(120).number(handle, 4);
    }

    static Message remove(long handle) {
        return of(122).number(handle, 4);
    }

    static Message stat(long handle) {
        return of(124).number(handle, 4);
    }
}
