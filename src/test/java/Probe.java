import java.util.ArrayList;
import java.util.List;
import java.util.function.Function;

/**
 * All that can be seen of an object by its calls, to tell whether another one is in the same state.
 * It looks at new objects brought to that state, since looking takes calls, and some of them change
 * what is looked at.
 */
final class Probe {
    /** So many calls a refused attempt may take more than what it is compared with. */
    private static final int TRIAL = 60;
    private static final long[] HANDLES = {0, 1, 2, 3, 4, 5, 6, 7, 8, 9, 99, 2147483648L,
        4294967294L, Message.NO_HANDLE};
    private static final long[] SIZES = {63, 64, 65, 70, 71, 100, 101, 159, 160, 161};
    private static final int[] PLACES = {29, 30, 31, 59, 61, 94};
    private static final String[] PATHS = {"", "a", "b", "c", "d", "e", "f", "x", "a/a", "a/d",
        "a/x", "b/x", "c/x", "d/x", "a/d/x"};

    private record Look(int calls, boolean alone, Function<Yard, String> at) {}

    private final List<Yard.Step> history;
    private final List<List<Look>> groups = new ArrayList<>();
    private final List<List<String>> seen = new ArrayList<>();
    private Yard current = null;

    Probe(List<Yard.Step> calls) {
        history = calls;
        for (Look look : all()) {
            see(look);
        }
    }

    int calls() {
        return history.size();
    }

    void compare(String what, List<Yard.Step> other) {
        for (int i = 0; i < groups.size(); i++) {
            Yard yard = Yard.after(other);
            for (int j = 0; j < groups.get(i).size(); j++) {
                String got = groups.get(i).get(j).at.apply(yard);
                String due = seen.get(i).get(j);
                if (!got.equals(due)) {
                    Check.fail("behind " + what + " is seen " + got + ", due is " + due);
                    return;
                }
            }
        }
    }

    private void see(Look look) {
        boolean full = current != null && current.calls() + look.calls + TRIAL > Yard.MOST_CALLS;
        if (current == null || look.alone || full) {
            current = Yard.after(history);
            groups.add(new ArrayList<>());
            seen.add(new ArrayList<>());
        }
        groups.get(groups.size() - 1).add(look);
        seen.get(seen.size() - 1).add(look.at.apply(current));
    }

    private static List<Look> all() {
        List<Look> looks = new ArrayList<>();
        looks.add(new Look(4, true, Probe::counts));
        looks.add(new Look(24, false, Probe::lists));
        for (int file = 0; file < 40; file++) {
            int number = file;
            looks.add(new Look(30, false, yard -> file(yard, number)));
        }
        for (int from = 0; from < 400; from += 50) {
            int first = from;
            looks.add(new Look(50, false, yard -> bytes(yard, first, 50)));
        }
        addProcesses(looks);
        addTalk(looks);
        return looks;
    }

    private static void addProcesses(List<Look> looks) {
        looks.add(new Look(65, true, Probe::roomOfText));
        looks.add(new Look(1, true, yard -> answer(() -> yard.bind(3, 0))));
        for (String path : PATHS) {
            looks.add(new Look(22, false, yard -> listsAt(yard, path)));
        }
        for (int i = 0; i < PATHS.length; i++) {
            String path = PATHS[i];
            looks.add(new Look(6, i == 0, yard -> unbinds(yard, path)));
        }
        for (int process = 0; process < 4; process++) {
            int binding = process;
            looks.add(new Look(6, true, yard -> sharers(yard, binding)));
        }
    }

    private static void addTalk(List<Look> looks) {
        looks.add(new Look(60, true, Probe::frames));
        looks.add(new Look(60, true,
                yard -> exchange(yard, Message.of(108).tag(7).number(9, 2))));
        addListings(looks);
        for (long size : SIZES) {
            looks.add(new Look(2, true, yard -> sized(yard, size)));
        }
        for (long handle : HANDLES) {
            looks.add(new Look(55, handle == 0, yard -> exchange(yard, Message.stat(handle))));
        }
        for (long handle : HANDLES) {
            Message read = Message.read(handle, 0, 33);
            Message write = Message.write(handle, 0, "");
            looks.add(new Look(55, handle == 0, yard -> exchange(yard, read)));
            looks.add(new Look(30, false, yard -> exchange(yard, write)));
        }
    }

    /** Each place alone: a read at a wrong one, too, might change where the listing is. */
    private static void addListings(List<Look> looks) {
        for (int handle = 1; handle < 3; handle++) {
            for (int place : PLACES) {
                Message read = Message.read(handle, place, 33);
                looks.add(new Look(55, true, yard -> exchange(yard, read)));
            }
        }
    }

    private interface Call {
        long make();
    }

    private static String answer(Call call) {
        try {
            return Long.toString(call.make());
        } catch (RuntimeException e) {
            return e.getClass().getSimpleName();
        }
    }

    private static String counts(Yard yard) {
        return "IN " + yard.size(false) + ", OUT " + yard.size(true) + ", handles "
                + yard.handles() + ", files " + yard.files();
    }

    private static String lists(Yard yard) {
        StringBuilder made = new StringBuilder("path A: ");
        for (int process = 0; process < 4; process++) {
            int asked = process;
            made.append(answer(() -> yard.look(asked))).append(' ');
            made.append(members(yard, process));
        }
        return made.toString();
    }

    /** The list to which path A leads, as far as four files and the end of it. */
    private static String members(Yard yard, int process) {
        StringBuilder made = new StringBuilder();
        for (int k = 0; k < 5; k++) {
            int asked = k;
            String got = answer(() -> yard.member(process, asked));
            made.append(got).append(' ');
            if (got.endsWith("Exception")) {
                break;
            }
        }
        return made.toString();
    }

    private static String file(Yard yard, int file) {
        StringBuilder made = new StringBuilder("file " + file + ": ");
        for (int part = 0; part < 5; part++) {
            int asked = part;
            String got = answer(() -> yard.about(file, asked));
            made.append(got).append(' ');
            if (got.endsWith("Exception")) {
                return made.toString();
            }
        }
        for (int i = 0; i < 25; i++) {
            int asked = i;
            String got = answer(() -> yard.data(file, asked));
            made.append(got).append(' ');
            if (got.endsWith("Exception")) {
                break;
            }
        }
        return made.toString();
    }

    private static String bytes(Yard yard, int from, int count) {
        StringBuilder made = new StringBuilder("OUT from " + from + ": ");
        for (int i = from; i < from + count; i++) {
            int asked = i;
            String got = answer(() -> yard.out(asked));
            made.append(got).append(' ');
            if (got.endsWith("Exception")) {
                break;
            }
        }
        return made.toString();
    }

    private static String roomOfText(Yard yard) {
        int room = 0;
        while (room < 61 && yard.type('/', 1)) {
            room++;
        }
        return "room for " + room + " characters, then " + answer(() -> yard.look(0));
    }

    private static void type(Yard yard, String path) {
        yard.clear();
        if (!path.isEmpty()) {
            yard.type(Client.word(path), path.length());
        }
    }

    private static String listsAt(Yard yard, String path) {
        type(yard, path);
        StringBuilder made = new StringBuilder("at '" + path + "': ");
        for (int process = 0; process < 4; process++) {
            made.append(members(yard, process));
        }
        return made.toString();
    }

    private static String unbinds(Yard yard, String path) {
        type(yard, path);
        StringBuilder made = new StringBuilder("unbind at '" + path + "': ");
        for (int process = 0; process < 4; process++) {
            int asked = process;
            made.append(answer(() -> yard.unbind(asked))).append(' ');
        }
        return made.toString();
    }

    /** A key made for one process can be taken away by those that share its table. */
    private static String sharers(Yard yard, int binding) {
        yard.clear();
        StringBuilder made = new StringBuilder("bind for " + binding + ": ");
        made.append(answer(() -> yard.bind(binding, 0))).append(", unbind: ");
        for (int i = 1; i < 5; i++) {
            int asked = (binding + i) % 4;
            made.append(answer(() -> yard.unbind(asked))).append(' ');
        }
        return made.toString();
    }

    private static String frames(Yard yard) {
        StringBuilder made = new StringBuilder("frames in IN: ");
        for (int i = 0; i < 4; i++) {
            yard.drop(yard.size(true));
            String got = answer(yard::serve);
            made.append(got).append(' ');
            if (got.endsWith("Exception")) {
                break;
            }
            made.append(bytes(yard, 0, 11));
        }
        return made.toString();
    }

    /** Whether a frame may have this size; IN may be too full to hear of it. */
    private static String sized(Yard yard, long size) {
        String fed = answer(() -> {
            yard.feed(size, 4);
            return 0;
        });
        return "size " + size + ": " + fed + " " + answer(yard::serve);
    }

    private static String exchange(Yard yard, Message message) {
        yard.drop(yard.size(true));
        String fed = answer(() -> {
            Client.feed(yard, message.frame());
            return 0;
        });
        return "reply " + fed + " " + answer(yard::serve) + ": " + bytes(yard, 0, 46);
    }
}
