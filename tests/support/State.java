import java.util.ArrayList;
import java.util.List;

/** All that an object holds, told by its calls; the object is used up by them. */
final class State {
    private static final int NONE = -4, INDEX = -13;
    private final DeedTortoise x;
    private final List<Long> told = new ArrayList<>();

    private State(DeedTortoise x) {
        this.x = x;
    }

    static List<Long> of(DeedTortoise x) {
        State state = new State(x);
        state.valley();
        state.past();
        if (state.tell(x.restore()) != NONE) {
            state.valley();
            state.past();
        }
        state.tape();
        for (int s = 0; s < 4; s++) {
            state.sheet(s);
        }
        return state.told;
    }

    private long tell(long answer) {
        told.add(answer);
        return answer;
    }

    private void valley() {
        for (int f = 0; f < 7; f++) {
            for (int what = 0; what < 3; what++) {
                tell(x.of(f, what));
            }
        }
        for (int what : new int[] {0, 1, 2, 6}) {
            tell(x.count(what));
        }
        for (int c = 0; c < x.count(0); c++) {
            for (int what = 0; what < 3; what++) {
                tell(x.at(c, what));
            }
        }
        int draw = x.seed(0);
        tell(draw);
        x.seed(draw);
    }

    private void past() {
        for (int k = 0; k < 10 && tell(x.undo()) != NONE; k++) {
            for (int what = 1; what <= 4; what++) {
                tell(x.count(what));
            }
            tell(x.seed(0));
        }
    }

    /** What is on the tape shows by how long it is and which valley it becomes. */
    private void tape() {
        tell(x.type(' '));
        tell(x.valley());
        valley();
    }

    /** Items show by the fields from which they could be seen; an index below 0 tells the lane and takes none. */
    private void sheet(int s) {
        for (int lane = 0; lane < 4; lane++) {
            if (tell(x.item(s, lane, -1, 0)) == INDEX) {
                for (int i = 0; i < 25 && tell(x.seen(s, lane, i, 1, 2)) != INDEX;) {
                    i++;
                }
            }
        }
        tell(x.drop(s));
    }
}
