/** Promise 1: a new object has nothing. */
public final class NewObjectTest {
    public static void main(String[] args) {
        VanShows x = new VanShows();
        int[] counts = {0, 0, 0, 0, 0, 0, 0, 0, 600, 5, 0};
        for (int what = 0; what < counts.length; what++) {
            Check.due("count(" + what + ")", x.count(what), counts[what]);
        }
        Check.due("terms(1) of an empty tape", x.terms(1), -2);
        Check.due("fault(0)", x.fault(0), 0);
        Check.due("fault(1)", x.fault(1), -1);
        Check.due("rounded(0)", x.rounded(0), Integer.MIN_VALUE);
        Check.due("van(0)", x.van(0), -1);
        Check.due("like(0, 0, 1)", x.like(0, 0, 1), false);
        Check.due("broken(0, 0)", x.broken(0, 0), false);
        Check.due("road(0, 1, 1, 0)", x.road(0, 1, 1, 0), -1);
        Check.due("print(0, 0, 10, 0, 0, 0, 0)", x.print(0, 0, 10, 0, 0, 0, 0), -1);
        Check.due("entry(0, 0, 0, 0)", x.entry(0, 0, 0, 0), -1);
        Check.due("hand(0, 0, 0)", x.hand(0, 0, 0), -1);
        Check.due("report(0, 0, 0)", x.report(0, 0, 0), -1);
        Check.due("strike(0)", x.strike(0), -1);
        Check.due("ends(0, 1)", x.ends(0, 1), 0);
        Check.due("ends(1, 1)", x.ends(1, 1), -1);
        for (int what = 0; what < 5; what++) {
            Check.due("run(255, " + what + ")", x.run(255, what), 0);
        }
        Check.due("expected(1)", x.expected(1), 0);
        Check.due("expected(3)", x.expected(3), 1);
        VanShows other = new VanShows();
        Check.due("village of one", x.village(1, 1, 0, 0), 0);
        Check.due("is none of the other", other.count(0), 0);
        Check.end();
    }
}
