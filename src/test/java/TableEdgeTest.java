import java.util.NoSuchElementException;

/** The edges of processes and their tables: terms and promises 15 to 17. */
public final class TableEdgeTest {
    private static final int[] NO_PROCESSES = {-1, 4, 5, Integer.MAX_VALUE, Integer.MIN_VALUE};

    public static void main(String[] args) {
        Check.sentence("PROCESSES 0 .. 3 have each a TABLE", TableEdgeTest::processes);
        Check.sentence("for at most 4 files, the KEYS", TableEdgeTest::fourKeys);
        Check.sentence("a LIST of 1 to 4 files", TableEdgeTest::fourFiles);
        Check.sentence("Two processes may have one table together; at first each one has its own,"
                + " empty.", TableEdgeTest::ownAtFirst);
        Check.sentence("U(f) is the list of f, if f is a key, without those that are gone",
                TableEdgeTest::withoutTheGone);
        Check.sentence("else f alone, if it is not gone (perhaps nothing is left)",
                TableEdgeTest::alone);
        Check.sentence("Let a be the list to which path A leads, b the last file come to on path B,"
                + " both for the process.", TableEdgeTest::listAndLast);
        Check.sentence("how 0: the list of b becomes a; 1: a and behind it U(b); 2: U(b) and behind"
                + " it a", TableEdgeTest::how);
        Check.sentence("(a file that both have stands in it twice)", TableEdgeTest::twice);
        Check.sentence("(b becomes a key if it was none.)", TableEdgeTest::becomesAKey);
        Check.sentence("Answers how many files the list has then.", TableEdgeTest::howManyFiles);
        Check.sentence("IllegalArgumentException when there is no such process, or how is not"
                + " 0 .. 2", TableEdgeTest::bindArguments);
        Check.sentence("NoSuchElementException when path A or B is not found, or a is empty",
                TableEdgeTest::bindNotFound);
        Check.sentence("IllegalStateException when not all of a and b are directories (how 0: or"
                + " all plain)", TableEdgeTest::bindKinds);
        Check.sentence("UnsupportedOperationException when the list would have more than 4 files,"
                + " or there would be more than 4 keys.", TableEdgeTest::bindLimits);
        Check.sentence("where several exceptions that it names fit, it is the first (bind)",
                TableEdgeTest::bindOrder);
        Check.sentence("The last file come to on path A for the process is a key no more. Answers"
                + " how many keys are left.", TableEdgeTest::unbind);
        Check.sentence("IllegalArgumentException when there is no such process;"
                + " NoSuchElementException when path A is not found, or that file is no key.",
                TableEdgeTest::unbindRefuses);
        Check.sentence("The process to gets a table: the one that from has, together with it"
                + " (share)", TableEdgeTest::forkShares);
        Check.sentence("or one of its own, the same for now.", TableEdgeTest::forkCopies);
        Check.sentence("Two processes may have one table together", TableEdgeTest::whoShares);
        Check.sentence("False when there is no such process, or both are one.",
                TableEdgeTest::forkRefuses);
        Check.end();
    }

    /** Root 0, directories a 1, b 2, c 3, d 4, e 5, plain f 6, plain x 7, plain a/x 8. */
    private static Client tree() {
        Client client = Client.attached();
        for (String name : new String[] {"a", "b", "c", "d", "e"}) {
            client.make(name, Client.DIR);
        }
        client.make("f", 7);
        client.make("x", 7);
        client.make("x", 7, "a");
        return client;
    }

    private static void processes() {
        Client client = tree();
        for (int process = 0; process < 4; process++) {
            Client tried = client.again();
            tried.bind("a b", process, 0, 1);
            for (int other = 0; other < 4; other++) {
                tried.membersOf("b", other, other == process ? 1 : 2);
            }
            tried.unbind("b", process, 0);
        }
    }

    private static Client withKeys(int keys) {
        Client client = tree();
        for (int i = 0; i < keys; i++) {
            client.bind("a " + "bcde".charAt(i), 0, 1, 2);
        }
        return client;
    }

    private static void fourKeys() {
        Client three = withKeys(3);
        three.bind("a e", 0, 0, 1);
        three.unbind("e", 0, 3);
        Client four = withKeys(4);
        for (String b : new String[] {"", "a", "f"}) {
            four.text((b.equals("f") ? "x " : "a ") + b);
            for (int how = 0; how < (b.equals("f") ? 1 : 3); how++) {
                int way = how;
                four.refused("bind of a fifth key", UnsupportedOperationException.class,
                        yard -> yard.bind(0, way));
            }
            Check.same("bind for another process", four.again().yard().bind(1, 0), 1);
        }
        for (String key : new String[] {"b", "c", "d", "e"}) {
            Client tried = four.again();
            tried.bind("a " + key, 0, 1, 3);
            tried.unbind(key, 0, 3);
            tried.bind("a ", 0, 0, 1);
        }
    }

    private static void fourFiles() {
        Client client = tree();
        client.bind("a b", 0, 0, 1);
        client.membersOf("b", 0, 1);
        client.bind("c b", 0, 2, 2);
        client.bind("d b", 0, 2, 3);
        client.membersOf("b", 0, 1, 3, 4);
        Client four = client.again();
        four.bind("e b", 0, 2, 4);
        four.membersOf("b", 0, 1, 3, 4, 5);
        for (int how = 1; how < 3; how++) {
            int way = how;
            four.text("a b");
            four.refused("bind of a fifth", UnsupportedOperationException.class,
                    yard -> yard.bind(0, way));
            four.text("b c");
            four.refused("bind of four and one", UnsupportedOperationException.class,
                    yard -> yard.bind(0, way));
            four.text("b b");
            four.refused("bind of four and four", UnsupportedOperationException.class,
                    yard -> yard.bind(0, way));
            client.text("b b");
            client.refused("bind of three and three", UnsupportedOperationException.class,
                    yard -> yard.bind(0, way));
            client.again().bind("b c", 0, way, 4);
        }
        four.again().bind("b c", 0, 0, 4);
        four.again().bind("a b", 0, 0, 1);
    }

    private static void ownAtFirst() {
        Client client = tree();
        for (int process = 0; process < 4; process++) {
            for (String path : new String[] {"", "a", "f"}) {
                int asked = process;
                client.text(path);
                client.refused("unbind at first", NoSuchElementException.class,
                        yard -> yard.unbind(asked));
            }
        }
        for (int process = 0; process < 4; process++) {
            client.bind("a b", process, 0, 1);
            client.bind("a c", process, 0, 1);
        }
        for (int process = 0; process < 4; process++) {
            client.unbind("b", process, 1);
        }
    }

    private static void withoutTheGone() {
        Client client = tree();
        client.bind("c b", 0, 2, 2);
        client.bind("d b", 0, 2, 3);
        client.bind("e b", 0, 2, 4);
        client.membersOf("b", 0, 2, 3, 4, 5);
        client.remove("d");
        client.membersOf("b", 0, 2, 3, 5);
        Client more = client.again();
        more.bind("a b", 0, 2, 4);
        more.membersOf("b", 0, 2, 3, 5, 1);
        Client copied = client.again();
        copied.bind("b a", 0, 1, 4);
        copied.membersOf("a", 0, 2, 3, 5, 1);
        client.remove("c");
        client.membersOf("b", 0, 2, 5);
        client.remove("b");
        client.text("b");
        client.refused("look", NoSuchElementException.class, yard -> yard.look(0));
        lastOfTheListGone();
    }

    private static void lastOfTheListGone() {
        Client client = tree();
        client.bind("c b", 0, 0, 1);
        client.remove("c");
        client.membersOf("b", 0);
        client.refused("look", NoSuchElementException.class, yard -> yard.look(0));
        client.text("b b");
        for (int how = 0; how < 3; how++) {
            int way = how;
            client.refused("bind of nothing", NoSuchElementException.class,
                    yard -> yard.bind(0, way));
        }
        client.again().bind("a b", 0, 1, 1);
        client.again().bind("a b", 0, 2, 1);
        client.membersOf("b", 1, 2);
        client.unbind("b", 0, 0);
        client.membersOf("b", 0, 2);
        Client again = tree();
        again.bind("c b", 0, 0, 1);
        again.remove("c");
        again.make("c", Client.DIR);
        again.membersOf("b", 0);
        again.membersOf("c", 0, 9);
    }

    private static void alone() {
        Client client = tree();
        client.bind("a b", 0, 0, 1);
        client.membersOf("a", 0, 1);
        client.membersOf("f", 0, 6);
        client.membersOf("", 0, 0);
        client.bind("c a", 0, 0, 1);
        client.membersOf("b", 0, 1);
        client.membersOf("a", 0, 3);
        client.bind("a d", 0, 0, 1);
        client.membersOf("d", 0, 3);
    }

    private static void listAndLast() {
        Client client = tree();
        client.bind("c a", 1, 1, 2);
        client.membersOf("a", 1, 3, 1);
        Client whole = client.again();
        whole.bind("a b", 1, 0, 2);
        whole.membersOf("b", 1, 3, 1);
        whole.membersOf("b", 0, 2);
        Client other = client.again();
        other.bind("a b", 0, 0, 1);
        other.membersOf("b", 0, 1);
        Client last = client.again();
        last.bind("d a", 1, 0, 1);
        last.membersOf("a", 1, 4);
        last.membersOf("c", 1, 3);
        Client through = client.again();
        through.bind("f a/x", 1, 0, 1);
        through.membersOf("a/x", 1, 6);
        through.unbind("a", 1, 1);
        through.membersOf("a/x", 1, 6);
        through.membersOf("a/x", 0, 8);
    }

    private static void how() {
        Client client = tree();
        client.bind("c a", 0, 2, 2);
        client.bind("d b", 0, 2, 2);
        client.membersOf("a", 0, 1, 3);
        client.membersOf("b", 0, 2, 4);
        int[][] due = {{1, 3}, {1, 3, 2, 4}, {2, 4, 1, 3}};
        for (int how = 0; how < 3; how++) {
            Client tried = client.again();
            tried.bind("a b", 0, how, due[how].length);
            tried.membersOf("b", 0, due[how]);
            tried.membersOf("a", 0, 1, 3);
            tried.unbind("b", 0, 1);
            tried.membersOf("b", 0, 2);
        }
        Client fresh = tree();
        int[][] alone = {{1}, {1, 2}, {2, 1}};
        for (int how = 0; how < 3; how++) {
            Client tried = fresh.again();
            tried.bind("a b", 0, how, alone[how].length);
            tried.membersOf("b", 0, alone[how]);
        }
    }

    private static void twice() {
        Client client = tree();
        client.bind("a a", 0, 1, 2);
        client.membersOf("a", 0, 1, 1);
        client.bind("a a", 0, 2, 4);
        client.membersOf("a", 0, 1, 1, 1, 1);
        client.bind("a b", 0, 0, 4);
        client.membersOf("b", 0, 1, 1, 1, 1);
        Client other = tree();
        other.bind("a b", 0, 1, 2);
        other.bind("a b", 0, 2, 3);
        other.membersOf("b", 0, 1, 2, 1);
    }

    private static void becomesAKey() {
        Client client = tree();
        client.bind("a a", 0, 0, 1);
        client.membersOf("a", 0, 1);
        Client again = client.again();
        again.bind("b a", 0, 0, 1);
        again.unbind("a", 0, 0);
        client.bind("b b", 0, 0, 1);
        client.unbind("a", 0, 1);
        client.unbind("b", 0, 0);
        Client gone = tree();
        gone.bind("a b", 0, 0, 1);
        gone.bind("a c", 0, 0, 1);
        gone.remove("b");
        gone.unbind("c", 0, 1);
        Client full = withKeys(4);
        full.remove("b");
        full.text("a ");
        full.refused("bind of a fifth key, one gone", UnsupportedOperationException.class,
                yard -> yard.bind(0, 0));
    }

    private static void howManyFiles() {
        Client client = tree();
        client.bind("a b", 0, 0, 1);
        client.bind("c b", 0, 1, 2);
        client.bind("d b", 0, 2, 3);
        client.bind("e b", 0, 1, 4);
        client.membersOf("b", 0, 5, 3, 1, 4);
        client.remove("e");
        client.bind("e/../c b", 0, 1, 4);
        client.membersOf("b", 0, 3, 3, 1, 4);
        client.bind("b c", 0, 0, 4);
        client.bind("f x", 0, 0, 1);
    }

    private static void bindArguments() {
        Client client = tree();
        for (String text : new String[] {"a b", "no no", "f a"}) {
            client.text(text);
            for (int process : NO_PROCESSES) {
                for (int how : new int[] {-1, 0, 1, 2, 3}) {
                    client.refused("bind", IllegalArgumentException.class,
                            yard -> yard.bind(process, how));
                }
            }
            for (int how : new int[] {-1, 3, 4, Integer.MAX_VALUE, Integer.MIN_VALUE}) {
                client.refused("bind", IllegalArgumentException.class,
                        yard -> yard.bind(0, how));
                client.refused("bind", IllegalArgumentException.class,
                        yard -> yard.bind(3, how));
            }
        }
        for (int how = 0; how < 3; how++) {
            client.again().bind("a b", 0, how, how == 0 ? 1 : 2);
            client.again().bind("a b", 3, how, how == 0 ? 1 : 2);
        }
    }

    private static void bindNotFound() {
        Client client = tree();
        client.bind("e d", 0, 0, 1);
        client.remove("e");
        for (String text : new String[] {"no a", "a no", "no no", "d a", "d d", "d no", "a d/x",
            "d/x a", "f/x a", "a f/x", "abcde a", "a abcde", "a b c"}) {
            client.text(text);
            for (int how = 0; how < 3; how++) {
                int way = how;
                client.refused("bind of '" + text + "'", NoSuchElementException.class,
                        yard -> yard.bind(0, way));
            }
        }
        client.again().bind("a d", 0, 0, 1);
        client.again().bind("a d", 0, 1, 1);
        client.again().bind("d d", 1, 1, 2);
    }

    private static void bindKinds() {
        Client client = tree();
        client.bind("c b", 0, 2, 2);
        for (String text : new String[] {"f a", "a f", "b f", "a/x c", " f", "f ", "f b"}) {
            client.text(text);
            for (int how = 0; how < 3; how++) {
                int way = how;
                client.refused("bind of '" + text + "'", IllegalStateException.class,
                        yard -> yard.bind(0, way));
            }
        }
        for (String text : new String[] {"f x", "f f", "a/x f"}) {
            client.text(text);
            client.refused("bind of plain ones", IllegalStateException.class,
                    yard -> yard.bind(0, 1));
            client.refused("bind of plain ones", IllegalStateException.class,
                    yard -> yard.bind(0, 2));
        }
        client.bind("a/x f", 0, 0, 1);
        client.membersOf("f", 0, 8);
        client.bind("f x", 0, 0, 1);
        client.membersOf("x", 0, 8);
    }

    private static void bindLimits() {
        Client client = withKeys(4);
        client.text("a ");
        client.refused("a fifth key", UnsupportedOperationException.class,
                yard -> yard.bind(0, 0));
        client.text("b b");
        Check.same("four files", client.again().yard().bind(0, 1), 4);
        client.bind("a b", 0, 1, 3);
        client.text("c b");
        client.refused("five files", UnsupportedOperationException.class,
                yard -> yard.bind(0, 1));
        client.refused("five files", UnsupportedOperationException.class,
                yard -> yard.bind(0, 2));
        client.text("b ");
        client.refused("a fifth key, four files", UnsupportedOperationException.class,
                yard -> yard.bind(0, 1));
        client.bind("d b", 0, 0, 2);
    }

    private static void bindOrder() {
        Client client = withKeys(4);
        client.bind("b b", 0, 1, 4);
        client.text("b f");
        client.refused("kinds before limits", IllegalStateException.class,
                yard -> yard.bind(0, 1));
        client.refused("kinds before limits", IllegalStateException.class,
                yard -> yard.bind(0, 0));
        client.text("f b");
        client.refused("kinds before limits", IllegalStateException.class,
                yard -> yard.bind(0, 1));
        client.text("f no");
        client.refused("paths before kinds", NoSuchElementException.class,
                yard -> yard.bind(0, 1));
        client.text("no f");
        client.refused("paths before kinds", NoSuchElementException.class,
                yard -> yard.bind(0, 1));
        client.text("b no");
        client.refused("paths before limits", NoSuchElementException.class,
                yard -> yard.bind(0, 1));
        client.text("b f");
        client.refused("arguments before kinds", IllegalArgumentException.class,
                yard -> yard.bind(0, 3));
        client.text("b b");
        client.refused("arguments before limits", IllegalArgumentException.class,
                yard -> yard.bind(-1, 1));
        client.text("no no");
        client.refused("arguments before paths", IllegalArgumentException.class,
                yard -> yard.bind(4, 1));
        emptyBeforeKinds();
    }

    private static void emptyBeforeKinds() {
        Client client = tree();
        client.bind("e d", 0, 0, 1);
        client.remove("e");
        client.text("d f");
        client.refused("an empty list before kinds", NoSuchElementException.class,
                yard -> yard.bind(0, 0));
    }

    private static void unbind() {
        Client client = withKeys(4);
        int left = 4;
        for (String key : new String[] {"c", "b", "e", "d"}) {
            left--;
            client.unbind(key, 0, left);
            client.membersOf(key, 0, "abcde".indexOf(key) + 1);
            client.refused("unbind again", NoSuchElementException.class, yard -> yard.unbind(0));
            for (String other : new String[] {"b", "c", "d", "e"}) {
                Client tried = client.again();
                tried.text(other);
                int first = tried.yard().look(0);
                Check.is("list of " + other, first == 1 || first == "abcde".indexOf(other) + 1);
            }
        }
        Client order = withKeys(4);
        order.unbind("b", 0, 3);
        order.membersOf("b", 0, 2);
        order.membersOf("c", 0, 1, 3);
        order.membersOf("d", 0, 1, 4);
        order.membersOf("e", 0, 1, 5);
        order.bind("a b", 0, 0, 1);
        order.text("a ");
        order.refused("bind of a fifth key", UnsupportedOperationException.class,
                yard -> yard.bind(0, 0));
        Client root = tree();
        root.bind("a ", 0, 0, 1);
        root.unbind("x/..", 0, 0);
        root.membersOf("", 0, 0);
    }

    private static void unbindRefuses() {
        Client client = withKeys(2);
        for (String path : new String[] {"b", "no"}) {
            client.text(path);
            for (int process : NO_PROCESSES) {
                client.refused("unbind", IllegalArgumentException.class,
                        yard -> yard.unbind(process));
            }
        }
        for (String path : new String[] {"no", "b/no", "a", "", "f", "d", "abcde"}) {
            client.text(path);
            client.refused("unbind of '" + path + "'", NoSuchElementException.class,
                    yard -> yard.unbind(0));
        }
        client.text("b");
        client.refused("unbind for another", NoSuchElementException.class,
                yard -> yard.unbind(1));
        client.text("b no");
        Check.same("unbind of path A", client.yard().unbind(0), 1);
    }

    private static void forkShares() {
        for (int from = 0; from < 4; from++) {
            for (int to = 0; to < 4; to++) {
                if (from == to) {
                    continue;
                }
                Client client = tree();
                client.bind("a b", from, 0, 1);
                client.bind("a c", to, 0, 1);
                Check.is("fork", client.yard().fork(from, to, true));
                client.membersOf("b", to, 1);
                client.membersOf("c", to, 3);
                client.bind("d b", to, 2, 2);
                client.membersOf("b", from, 1, 4);
                client.unbind("b", from, 0);
                client.membersOf("b", to, 2);
                Client again = client.again();
                Check.is("fork again", again.yard().fork(from, to, true));
                client.like("fork of a table that is shared", again);
                Check.is("fork back", again.yard().fork(to, from, true));
                client.like("fork of a table that is shared", again);
            }
        }
    }

    private static void forkCopies() {
        for (int from = 0; from < 4; from++) {
            for (int to = 0; to < 4; to++) {
                if (from == to) {
                    continue;
                }
                Client client = tree();
                client.bind("a b", from, 1, 2);
                client.bind("a c", to, 0, 1);
                Check.is("fork", client.yard().fork(from, to, false));
                client.membersOf("b", to, 1, 2);
                client.membersOf("c", to, 3);
                client.bind("d b", to, 2, 3);
                client.membersOf("b", from, 1, 2);
                client.bind("e b", from, 0, 1);
                client.membersOf("b", to, 1, 2, 4);
                client.unbind("b", from, 0);
                client.membersOf("b", to, 1, 2, 4);
            }
        }
        fullTables();
        sharedTables();
    }

    private static void fullTables() {
        Client client = withKeys(4);
        client.bind("b b", 0, 1, 4);
        for (int to = 1; to < 4; to++) {
            Check.is("fork", client.yard().fork(0, to, false));
        }
        for (int process = 0; process < 4; process++) {
            client.membersOf("b", process, 1, 2, 1, 2);
            client.membersOf("e", process, 1, 5);
            client.unbind("c", process, 3);
        }
    }

    /** A table that two have goes on for the one that stays when the other gets its own. */
    private static void sharedTables() {
        Client client = withKeys(1);
        Check.is("fork", client.yard().fork(0, 1, true));
        Check.is("fork", client.yard().fork(1, 2, true));
        Check.is("fork", client.yard().fork(0, 1, false));
        client.bind("c b", 1, 0, 1);
        client.membersOf("b", 0, 1, 2);
        client.membersOf("b", 1, 3);
        client.membersOf("b", 2, 1, 2);
        client.unbind("b", 2, 0);
        client.membersOf("b", 0, 2);
        client.membersOf("b", 1, 3);
        Check.is("fork", client.yard().fork(3, 0, false));
        client.bind("d b", 0, 0, 1);
        client.membersOf("b", 3, 2);
        client.membersOf("b", 2, 2);
    }

    /** Every three forks: who has one table together, and that none has another's. */
    private static void whoShares() {
        for (int kinds = 0; kinds < 8 * 12 * 12 * 12; kinds++) {
            Yard yard = new Yard();
            int[] tables = {0, 1, 2, 3};
            int left = kinds / 8;
            for (int step = 0; step < 3; step++) {
                int from = left % 12 / 3;
                int to = (from + 1 + left % 3) % 4;
                boolean share = (kinds >> step & 1) == 1;
                left /= 12;
                Check.is("fork", yard.fork(from, to, share));
                tables[to] = share ? tables[from] : 4 + step;
            }
            for (int binding = 0; binding < 4; binding++) {
                sharers(yard, tables, binding);
            }
        }
    }

    /** A key made for one process is there for those that have the table together, and no more. */
    private static void sharers(Yard yard, int[] tables, int binding) {
        Check.same("bind of the root to itself", yard.bind(binding, 1), 2);
        for (int process = 0; process < 4; process++) {
            boolean joined;
            try {
                joined = yard.member(process, 1) == 0;
            } catch (IndexOutOfBoundsException e) {
                joined = false;
            }
            Check.is("process " + process + " has the table of " + binding + " or not",
                    joined == (tables[process] == tables[binding]));
        }
        Check.same("unbind", yard.unbind(binding), 0);
    }

    private static void forkRefuses() {
        Client client = withKeys(1);
        client.bind("c d", 3, 0, 1);
        for (int one = 0; one < 4; one++) {
            int same = one;
            client.refused("fork", yard -> yard.fork(same, same, true));
            client.refused("fork", yard -> yard.fork(same, same, false));
            for (int none : NO_PROCESSES) {
                client.refused("fork", yard -> yard.fork(same, none, true));
                client.refused("fork", yard -> yard.fork(same, none, false));
                client.refused("fork", yard -> yard.fork(none, same, true));
                client.refused("fork", yard -> yard.fork(none, same, false));
                client.refused("fork", yard -> yard.fork(none, none, false));
            }
        }
        client.refused("fork", yard -> yard.fork(-1, 4, true));
    }
}
