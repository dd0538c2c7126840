import java.util.function.ToLongFunction;

/**
 * "In mind": who asks changes nothing, neither what there is nor what another one is answered.
 * Each question is asked behind each other one, of a country made anew.
 */
public final class AskingTest {
    private static HillsLieDown country() {
        HillsLieDown x = Check.slowCountry();
        Check.rowOf(x, 0, Check.BYTES, 6, 6, 6);
        Check.rowOf(x, 1, Check.SHORTS, 10, 18, 3, 1);
        Check.rowOf(x, 2, Check.BYTES, 3);
        Check.rowOf(x, 3, Check.INTS, 0, 0);
        return x;
    }

    /** One who stays and one who goes, and on SHELVES what is so by their least AGES. */
    private static HillsLieDown otherCountry() {
        HillsLieDown x = new HillsLieDown();
        Check.bring(x, Check.TWIN, 0, 0, 3);
        Check.bring(x, Check.AUNT, 6, 120, 11);
        x.turns(1, 1);
        Check.rowOf(x, 0, Check.BYTES, 4, -128, 4);
        Check.rowOf(x, 1, Check.SHORTS, 5, 5, 5, 4);
        Check.rowOf(x, 2, Check.BYTES, 17, 17);
        Check.rowOf(x, 3, Check.INTS, 3, 3);
        return x;
    }

    public static void main(String[] args) {
        ToLongFunction<?>[] all = questions();
        for (int scene = 0; scene < 2; scene++) {
            long[] alone = new long[all.length];
            String seen = Check.seen(scene == 0 ? country() : otherCountry());
            for (int i = 0; i < all.length; i++) {
                alone[i] = ask(all[i], scene == 0 ? country() : otherCountry());
            }
            for (int first = 0; first < all.length; first++) {
                for (int i = 0; i < all.length; i++) {
                    HillsLieDown x = scene == 0 ? country() : otherCountry();
                    Check.due("question " + first + " alone", ask(all[first], x), alone[first]);
                    Check.due("question " + i + " behind " + first, ask(all[i], x), alone[i]);
                    Check.same("nothing changes by " + first + " and " + i, Check.seen(x), seen);
                }
            }
        }
        Check.end("AskingTest");
    }

    @SuppressWarnings("unchecked")
    private static long ask(ToLongFunction<?> question, HillsLieDown x) {
        return ((ToLongFunction<HillsLieDown>) question).applyAsLong(x);
    }

    private static ToLongFunction<HillsLieDown> of(ToLongFunction<HillsLieDown> question) {
        return question;
    }

    private static ToLongFunction<?>[] questions() {
        return new ToLongFunction<?>[] {
            of(x -> x.water(-1)), of(x -> x.water(3)), of(x -> x.lakes()), of(x -> x.steepest(1)),
            of(x -> x.steepest(2)), of(x -> x.behind(0, 60)), of(x -> x.behind(1, 7)), of(x -> x.groundThen(6, 60)),
            of(x -> x.groundThen(-1, 30)), of(x -> x.arrives(0, 6)), of(x -> x.arrives(1, 2)), of(x -> x.stuck(0)),
            of(x -> x.stuck(1)), of(x -> x.goes(0, 0)), of(x -> x.goes(1, 4)), of(x -> x.far(0, 1)),
            of(x -> x.far(1, 0)), of(x -> x.company(0, 13)), of(x -> x.company(1, 4)), of(x -> x.hire(0, 12, 0)),
            of(x -> x.hire(1, 4, 1)), of(x -> x.sit(0, 0)), of(x -> x.sit(1, 1)), of(x -> x.apart(0)),
            of(x -> x.apart(1)), of(x -> x.keeps()), of(x -> x.even()), of(x -> x.order(0)), of(x -> x.order(1)),
            of(x -> x.ages(0, 0, 0)), of(x -> x.ages(0, 0, 1)), of(x -> x.ages(1, 1, 0)), of(x -> x.whatIs(0, 0, 0)),
            of(x -> x.whatIs(0, 0, 1)), of(x -> x.whatIs(1, 1, 0)),
            of(x -> x.ages(3, 1, 0)), of(x -> x.ages(3, 1, 1)), of(x -> x.whatIs(3, 1, 0)), of(x -> x.whatIs(3, 1, 1)), of(x -> x.two(0, 1)), of(x -> x.two(1, 0)),
            of(x -> x.fog(0, 13, 7, 3, 0)), of(x -> x.fog(1, 9, 5, 2, 1)), of(x -> x.mean(0)), of(x -> x.forged(0)),
            of(x -> x.forged(1)), of(x -> x.judge(2)), of(x -> x.judge(0)), of(x -> x.countries(20, 7, 0)),
            of(x -> x.countries(3, -7, 1)), of(x -> x.count(3)), of(x -> x.count(5)), of(x -> x.rise(13))};
    }
}
