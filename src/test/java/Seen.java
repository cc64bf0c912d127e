/**
 * All that can be seen of an object, as one text: how it is, how it was ahead of each thing that may
 * be UNDONE, what its IMAGES have, and what its text tells. The object is used up by it.
 */
final class Seen {
    private final QuarterTurns x;
    private final StringBuilder rows = new StringBuilder();

    private Seen(QuarterTurns x) {
        this.x = x;
    }

    static String of(QuarterTurns x) {
        Seen seen = new Seen(x);
        seen.row("trace", x.trace());
        seen.asItIsMade();
        seen.asItLies("now");
        for (int left = x.undo(); left >= 0; left = x.undo()) {
            seen.asItLies("undone, " + left + " left");
        }
        for (int image = 0; image < 2; image++) {
            seen.row("back " + image, x.back(image));
            seen.asItLies("image " + image);
        }
        seen.row("bed", x.bed());
        seen.asItIsMade();
        seen.asItLies("told anew");
        seen.row("clear", x.clear());
        return seen.rows.toString();
    }

    private void row(String what, long... answers) {
        rows.append(what).append(':');
        for (long answer : answers) {
            rows.append(' ').append(answer);
        }
        rows.append('\n');
    }

    private void asItIsMade() {
        for (int what = 0; what < 6; what++) {
            row("count " + what, x.count(what));
        }
        for (int w = 0; w < x.count(2); w++) {
            row("way " + w, x.lie(w, 0), x.lie(w, 1), x.lie(w, 2));
        }
    }

    private void asItLies(String when) {
        row(when, x.now(0), x.now(1), x.now(2), x.now(3), x.now(4), x.now(5), x.now(6));
        for (int w = 0; w < x.count(2); w++) {
            row("worn " + w, x.lie(w, 3));
        }
        row("which", x.which());
    }
}
