import java.util.ArrayList;
import java.util.List;
import java.util.NoSuchElementException;

/** A program and a model that get the same calls; what they answer must be the same. */
final class Pair {
    static final int MOST_CALLS = 512;

    interface Ask {
        long answer();
    }

    interface Do {
        void run();
    }

    final TapeSealer program = new TapeSealer();
    final Model model = new Model();
    final List<String> calls = new ArrayList<>();
    int wrong;
    /** Calls that were not made, since the object's promises end with the 512th. */
    int beyond;

    boolean isUsedUp() {
        return calls.size() >= MOST_CALLS;
    }

    String put(int word, int n) {
        return both("put(" + word + ", " + n + ")",
                () -> program.put(word, n) ? 1 : 0, () -> model.put(word, n) ? 1 : 0);
    }

    String epoch() {
        return both("epoch()", program::epoch, model::epoch);
    }

    String create(int salt) {
        return both("create(" + salt + ")", () -> program.create(salt), () -> model.create(salt));
    }

    String append() {
        return both("append()", program::append, model::append);
    }

    String finish() {
        return both("finish()", program::finish, model::finish);
    }

    String read(int file, int from, int len) {
        return both("read(" + file + ", " + from + ", " + len + ")",
                () -> program.read(file, from, len), () -> model.read(file, from, len));
    }

    String output(int i) {
        return both("output(" + i + ")", () -> program.output(i), () -> model.output(i));
    }

    String verify(int file) {
        return both("verify(" + file + ")", () -> program.verify(file), () -> model.verify(file));
    }

    String rewrap(int file) {
        return both("rewrap(" + file + ")",
                () -> program.rewrap(file) ? 1 : 0, () -> model.rewrap(file) ? 1 : 0);
    }

    String dropEpoch(int e) {
        return bothDo("dropEpoch(" + e + ")", () -> program.dropEpoch(e), () -> model.dropEpoch(e));
    }

    String delete(int file) {
        return bothDo("delete(" + file + ")", () -> program.delete(file), () -> model.delete(file));
    }

    String scrub(int group) {
        return both("scrub(" + group + ")", () -> program.scrub(group), () -> model.scrub(group));
    }

    String damage(int block, int i, int mask) {
        return bothDo("damage(" + block + ", " + i + ", " + mask + ")",
                () -> program.damage(block, i, mask), () -> model.damage(block, i, mask));
    }

    String spoil(int block) {
        return bothDo("spoil(" + block + ")", () -> program.spoil(block), () -> model.spoil(block));
    }

    String stopAfter(int n) {
        return bothDo("stopAfter(" + n + ")", () -> program.stopAfter(n), () -> model.stopAfter(n));
    }

    String mount() {
        return both("mount()", program::mount, model::mount);
    }

    String file(int file, int what) {
        return both("file(" + file + ", " + what + ")",
                () -> program.file(file, what), () -> model.file(file, what));
    }

    String block(int block, int i) {
        return both("block(" + block + ", " + i + ")",
                () -> program.block(block, i), () -> model.block(block, i));
    }

    String state(int what) {
        return both("state(" + what + ")", () -> program.state(what), () -> model.state(what));
    }

    private String bothDo(String call, Do first, Do second) {
        return both(call, () -> {
            first.run();
            return 0;
        }, () -> {
            second.run();
            return 0;
        });
    }

    private String both(String call, Ask first, Ask second) {
        if (isUsedUp()) {
            beyond++;
            return "none";
        }
        String got = answer(first);
        String due = answer(second);
        calls.add(call + " -> " + got);
        if (!got.equals(due)) {
            wrong++;
            System.out.println(String.join("\n", calls));
            System.out.println("due is " + due);
        }
        return got;
    }

    static String answer(Ask ask) {
        try {
            return Long.toString(ask.answer());
        } catch (IllegalStateException | IllegalArgumentException | IndexOutOfBoundsException
                | UnsupportedOperationException | NoSuchElementException e) {
            return e.getClass().getSimpleName();
        }
    }
}
