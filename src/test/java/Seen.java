/** All that can be seen of an object: two that were dealt with alike show the same. */
final class Seen {
    private final FortyJars x;
    private final StringBuilder told = new StringBuilder();

    private Seen(FortyJars x) {
        this.x = x;
    }

    /** It takes the object's readings back, one by one, so it is the last that is asked of it. */
    static String of(FortyJars x) {
        Seen seen = new Seen(x);
        seen.counts();
        seen.cells();
        seen.men();
        seen.orders();
        seen.sheets();
        seen.readings();
        return seen.told.toString();
    }

    private void tell(String what, long answer) {
        told.append(what).append('=').append(answer).append(' ');
    }

    private void counts() {
        for (int what = 0; what < 6; what++) tell("many" + what, x.many(what));
        tell("trace", x.trace());
    }

    private void cells() {
        for (int c = 0; c < x.many(0); c++) {
            tell("inside" + c, x.inside(c));
            tell("ears" + c, x.ears(c));
            tell("far" + c, x.far(0, c));
        }
    }

    private void men() {
        for (int m = 0; m < x.many(1); m++) {
            for (int what = 0; what < 5; what++) tell("man" + m + "," + what, x.ofMan(m, what));
            tell("without" + m, x.without(m));
        }
    }

    private void orders() {
        for (int k = 0; k <= x.many(1); k++) tell("quiet" + k, x.quiet(k));
        tell("stuck", x.stuck());
        tell("soonest", x.soonest());
        tell("most", x.most());
    }

    private void sheets() {
        for (int k = 0; k < 4; k++) {
            for (int lane = 0; lane < 3; lane++) {
                long number = 0;
                for (int i = 0; number != FortyJars.LOST; i++) {
                    number = x.cell(k, i, lane);
                    tell("cell" + k + "," + i + "," + lane, number);
                }
                tell("fault", x.fault());
            }
        }
    }

    private void readings() {
        tell("holds", x.holds());
        while (x.many(5) > 0) {
            for (int m = 0; m < x.many(1); m++) {
                tell("hearing" + m, x.hearing(m));
                tell("kinds" + m, x.kinds(m));
            }
            tell("back", x.back(1));
            tell("holds", x.holds());
        }
    }
}
