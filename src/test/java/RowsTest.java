import java.util.NoSuchElementException;

/** Promises 2 (feed), 3 (serve), 4 (size), 5 (out) and 6 (drop). */
public final class RowsTest {
    public static void main(String[] args) {
        feedCountsBytes();
        feedKeepsOrder();
        serveWaitsForTheFrame();
        serveTakesOneFrame();
        serveBreaks();
        breakForgetsTheTalk();
        serveNeedsRoomInOut();
        outAndDrop();
        Check.end();
    }

    private static void feedCountsBytes() {
        Yard yard = new Yard();
        for (int n : new int[] {0, 9, -1, Integer.MAX_VALUE, Integer.MIN_VALUE}) {
            Check.throwing("feed " + n, IllegalArgumentException.class, () -> yard.feed(1, n));
        }
        Check.same("size", yard.size(false), 0);
        yard.feed(-1, 1);
        Check.same("size", yard.size(false), 1);
        for (int i = 0; i < 39; i++) {
            yard.feed(-1, 8);
        }
        Check.same("size", yard.size(false), 313);
        Check.throwing("feed over", UnsupportedOperationException.class, () -> yard.feed(1, 8));
        Check.throwing("feed 9 over", IllegalArgumentException.class, () -> yard.feed(1, 9));
        Check.same("size", yard.size(false), 313);
        yard.feed(1, 7);
        Check.same("size", yard.size(false), 320);
        Check.same("size of OUT", yard.size(true), 0);
        Check.throwing("feed when full", UnsupportedOperationException.class,
                () -> yard.feed(1, 1));
        Check.throwing("feed none when full", IllegalArgumentException.class,
                () -> yard.feed(1, 0));
    }

    private static void feedKeepsOrder() {
        Yard yard = new Yard();
        yard.feed(0xffffffffffffff07L, 1);
        yard.feed(0, 3);
        yard.feed(0xfffffffffffa9963L, 3);
        Check.same("serve", yard.serve(), 107);
        int[] due = {10, 0, 0, 0, 107, 0x99, 0xfa, 1, 0, 'f'};
        for (int i = 0; i < due.length; i++) {
            Check.same("out " + i, yard.out(i), due[i]);
        }
    }

    private static void serveWaitsForTheFrame() {
        Yard yard = new Yard();
        yard.feed(9, 3);
        Check.throwing("serve of 3 bytes", NoSuchElementException.class, yard::serve);
        yard.feed(0, 1);
        Check.throwing("serve of 4 bytes", NoSuchElementException.class, yard::serve);
        yard.feed(0x6c, 4);
        Check.throwing("serve of 8 bytes", NoSuchElementException.class, yard::serve);
        Check.same("size", yard.size(false), 8);
        yard.feed(0, 1);
        Check.same("serve", yard.serve(), 107);
        Check.same("size", yard.size(false), 0);
    }

    private static void serveTakesOneFrame() {
        Client client = new Client();
        client.feed(Message.begin(160, "9P2000").frame());
        client.feed(Message.attach(5).frame());
        client.feed(new byte[] {9});
        Check.same("serve", client.yard().serve(), 101);
        Check.same("size", client.yard().size(false), 20);
        Check.same("handles", client.yard().handles(), 0);
        Check.same("serve", client.yard().serve(), 105);
        Check.same("size", client.yard().size(false), 1);
        Check.same("size of OUT", client.yard().size(true), 19 + 20);
        Check.throwing("serve", NoSuchElementException.class, () -> client.yard().serve());
    }

    private static void serveBreaks() {
        long[] sizes = {0, 6, 161, 1L << 31, 4294967295L, 263};
        for (long size : sizes) {
            Yard yard = new Yard();
            yard.feed(size, 4);
            yard.feed(1, 3);
            Check.same("serve of size " + size, yard.serve(), 0);
            Check.same("size", yard.size(false), 0);
            Check.same("size of OUT", yard.size(true), 0);
        }
        Yard least = new Yard();
        least.feed(7, 7);
        Check.same("serve of size 7", least.serve(), 107);
        Yard most = new Yard();
        most.feed(160, 4);
        Check.throwing("serve of size 160", NoSuchElementException.class, most::serve);
        for (int i = 0; i < 19; i++) {
            most.feed(0, 8);
        }
        most.feed(0, 4);
        Check.same("serve of size 160", most.serve(), 107);
    }

    private static void breakForgetsTheTalk() {
        Client client = new Client();
        client.done(Message.begin(100, "9P2000"));
        client.done(Message.attach(1));
        client.make("a", 7);
        client.feed(Message.stat(1).frame());
        Check.same("serve", client.yard().serve(), 125);
        client.yard().feed(101, 8);
        client.yard().feed(0, 8);
        Check.same("serve of a size above M", client.yard().serve(), 0);
        Check.same("handles", client.yard().handles(), 0);
        Check.same("size", client.yard().size(false), 0);
        Check.same("size of OUT", client.yard().size(true), 36);
        Check.same("files", client.yard().files(), 2);
        Check.is("drop", client.yard().drop(36));
        client.error(Message.stat(1), 'v');
        client.yard().feed(160, 4);
        Check.throwing("serve with M 160 again", NoSuchElementException.class,
                () -> client.yard().serve());
    }

    private static void serveNeedsRoomInOut() {
        Yard yard = new Yard();
        for (int i = 0; i < 24; i++) {
            yard.feed(7, 7);
            Check.same("serve", yard.serve(), 107);
        }
        Check.same("size of OUT", yard.size(true), 240);
        yard.feed(7, 7);
        Check.same("serve at 240", yard.serve(), 107);
        Check.same("size of OUT", yard.size(true), 250);
        Check.throwing("serve at 250", UnsupportedOperationException.class, yard::serve);
        yard.feed(0, 4);
        Check.throwing("serve at 250", UnsupportedOperationException.class, yard::serve);
        Check.same("size", yard.size(false), 4);
        Check.is("drop", yard.drop(9));
        Check.throwing("serve at 241", UnsupportedOperationException.class, yard::serve);
        Check.is("drop", yard.drop(1));
        Check.same("serve at 240", yard.serve(), 0);
    }

    private static void outAndDrop() {
        Client client = new Client();
        Yard yard = client.yard();
        Check.throwing("out of none", IndexOutOfBoundsException.class, () -> yard.out(0));
        Check.is("drop of none", yard.drop(0));
        Check.is("drop of what is not", !yard.drop(1));
        yard.feed(0x000001_63_00000007L, 7);
        yard.serve();
        yard.feed(0x0000ff_63_00000007L, 7);
        yard.serve();
        Check.is("drop of -1", !yard.drop(-1));
        Check.is("drop of 21", !yard.drop(21));
        Check.is("drop of most", !yard.drop(Integer.MAX_VALUE));
        Check.is("drop of least", !yard.drop(Integer.MIN_VALUE));
        Check.same("size of OUT", yard.size(true), 20);
        Check.same("tag", yard.out(5), 1);
        Check.same("tag of the second", yard.out(15), 255);
        Check.is("drop", yard.drop(3));
        Check.same("size of OUT", yard.size(true), 17);
        Check.same("out 0", yard.out(0), 0);
        Check.same("out 1", yard.out(1), 107);
        Check.same("out 12", yard.out(12), 255);
        Check.same("out 16", yard.out(16), 'f');
        for (int i : new int[] {17, -1, Integer.MAX_VALUE, Integer.MIN_VALUE}) {
            Check.throwing("out " + i, IndexOutOfBoundsException.class, () -> yard.out(i));
        }
        Check.is("drop of all", yard.drop(17));
        Check.same("size of OUT", yard.size(true), 0);
    }
}
