/**
 * What later calls answer: two objects that do not answer alike by these calls are not alike. Objects that
 * are looked at have had up to some hundred calls, so that all stay within the 512 that the document promises.
 */
final class Later {
    private final ArmSignals x;
    private final StringBuilder answers = new StringBuilder();

    private Later(ArmSignals x) {
        this.x = x;
    }

    /** All answers as one text; the object is of no use then. */
    static String of(ArmSignals x) {
        Later later = new Later(x);
        later.look();
        later.undone();
        later.image();
        later.tape();
        later.sheets();
        return later.answers.toString();
    }

    private void put(long answer) {
        answers.append(answer).append(' ');
    }

    private void look() {
        answers.append(Due.all(x)).append(' ');
        put(x.count(5));
        put(Due.draw(x));
        for (int what = 0; what < 4; what++) {
            put(x.least(what));
        }
        for (int i = 0; x.arm(i, 0) >= 0; i += 3) {
            put(x.arm(i, 0));
        }
        for (int what = 0; what < 3; what++) {
            put(x.nearest(what));
            put(x.slips(what));
        }
        put(x.brief(0));
        put(x.brief(1));
        put(x.still(0, 3, 0));
    }

    private void undone() {
        answers.append("undone ");
        int more = x.undo();
        for (int i = 0; i < 6 && more >= 0; i++) {
            put(more);
            glance();
            more = x.undo();
        }
        put(more);
    }

    /** What tells most of a state, by few calls. */
    private void glance() {
        for (int what = 0; what < 5; what++) {
            put(x.count(what));
        }
        put(x.said(-1, x.count(0) - 1));
        put(x.brief(0));
        put(x.slips(1));
        put(Due.draw(x));
    }

    private void image() {
        answers.append("image ");
        put(x.restore());
        answers.append(Due.all(x)).append(' ');
        put(Due.draw(x));
        undone();
    }

    private void tape() {
        answers.append("tape ");
        put(x.type(' '));
        put(x.read());
        answers.append(Due.all(x)).append(' ');
    }

    /** Which LANE, by a film of no SIGNS; the items, by the WORDS that are nearest; how many, by drop. */
    private void sheets() {
        answers.append("sheets ");
        int[] lanes = {-1, -1, -1, -1};
        Due.text(x, "a,b,c,d,e,f:");
        for (int s = 0; s < 4; s++) {
            for (int lane = 0; lane < 4; lane++) {
                int answer = x.film(s, lane, 0);
                put(answer);
                lanes[s] = answer == 0 ? lane : lanes[s];
            }
            items(s, lanes[s]);
        }
        Due.text(x, "h,a,n,g,o,w:");
        for (int s = 0; s < 4; s++) {
            items(s, lanes[s]);
            put(x.drop(s));
        }
    }

    private void items(int s, int lane) {
        int word = x.seen(s, lane, 0, 1);
        for (int i = 1; lane >= 0 && i < 24; i++) {
            put(word);
            word = x.seen(s, lane, i, 1);
            if (word == ArmSignals.INDEX) {
                break;
            }
        }
    }
}
