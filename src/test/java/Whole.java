import java.util.ArrayList;
import java.util.List;

/**
 * All that an object tells of itself, call by call: two objects that tell the same here are the same. What is typed,
 * SHEETS, IMAGES and THE LETTERS are told by using them, so the object is used up (by some 400 calls at the most).
 */
final class Whole {
    private static final int BYTES_MOST = 12, CELLS_MOST = 40;

    private final Object x;
    private final List<String> told = new ArrayList<>();

    private Whole(Object x) {
        this.x = x;
    }

    static List<String> of(Object x) {
        Whole whole = new Whole(x);
        whole.askAll();
        whole.useTyped();
        for (int k = 0; k < 4; k++) whole.useSheet(k);
        for (int i = 0; i < 2; i++) whole.useImage(i);
        whole.ask("text");
        whole.askAll();
        return whole.told;
    }

    /** What can be asked without changing anything. */
    static List<String> asked(Object x) {
        Whole whole = new Whole(x);
        whole.askAll();
        return whole.told;
    }

    static void same(String what, List<String> got, List<String> due) {
        int i = 0;
        while (i < got.size() && i < due.size() && got.get(i).equals(due.get(i))) i++;
        boolean isSame = i == got.size() && i == due.size();
        String first = isSame ? "" : ", but " + (i < got.size() ? got.get(i) : "less") + " where "
            + (i < due.size() ? due.get(i) : "nothing") + " is due";
        Due.holds(what + first, isSame);
    }

    private int ask(String call, long... numbers) {
        int answer = Calls.ask(x, call, numbers);
        told.add(Calls.told(call, numbers) + " = " + answer);
        return answer;
    }

    private void askEach(String call, int count) {
        for (int what = 0; what < count; what++) ask(call, what);
    }

    private void askAll() {
        ask("fault");
        ask("torn");
        askEach("rule", 9);
        askEach("now", 6);
        askEach("count", 7);
        askEach("state", 3);
        askEach("fits", 3);
        int blocks = Calls.ask(x, "count", 0);
        for (int b = 0; b < blocks; b++) askBlock(b);
    }

    private void askBlock(int b) {
        ask("block", b, 0);
        int bytes = ask("block", b, 2);
        for (int i = 0; bytes > 0 && i <= bytes; i++) ask("column", b, i);
    }

    /** What is typed is seen when it is written. */
    private void useTyped() {
        if (ask("write", 0) >= 0) askBlock(0);
    }

    /** CELLS are typed one by one; their lane is that of which the machine takes them. */
    private void useSheet(int k) {
        for (int lane = 0; lane < 3; lane++) {
            boolean goesOn = true;
            for (int i = 0; goesOn && i <= CELLS_MOST; i++) {
                if (Calls.ask(x, "now", 4) == BYTES_MOST) useTyped();
                ask("read", k, lane, i, 1);
                goesOn = ask("torn") == 0;
            }
        }
        useTyped();
    }

    private void useImage(int i) {
        if (ask("back", i) < 0) return;
        askAll();
        useTyped();
    }
}
