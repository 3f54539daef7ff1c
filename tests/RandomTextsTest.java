/** Promises 6 and 8: many texts, sound and broken, against the model. */
public final class RandomTextsTest {
    private static final Check CHECK = new Check("RandomTextsTest");

    public static void main(String[] args) {
        Dice dice = new Dice(6);
        RandomTexts texts = new RandomTexts(dice);
        int sound = 0;
        for (int i = 0; i < 30_000 && CHECK.isClean(); i++) {
            String text = dice.oneIn(3) ? texts.sound() : texts.perhapsBroken();
            if (text.length() > 160) {
                text = text.substring(0, 160);
            }
            EveryNinth x = new EveryNinth();
            int fault = ModelText.faultOf(text);
            int want = fault < 0 ? 1 : -100 - fault;
            CHECK.due("text() of '" + text + "'", Check.read(x, text), want);
            if (fault < 0) {
                sound++;
                tells(dice, x, text);
            }
        }
        CHECK.holds("some are sound, some are not", sound > 5_000 && sound < 25_000);
        CHECK.end();
    }

    /** One day on which the first thing comes alone, behind a rest, and one on which both come. */
    private static void tells(Dice dice, EveryNinth x, String text) {
        int number = dice.below(10);
        int period = dice.between(2, 60);
        int begin = dice.below(58);
        x.thing(0, number, period * 100 + begin);
        x.thing(0, 9, 6059);
        x.force(1);
        ModelText model = ModelText.of(text);
        int alone = clamp(model.tells(0, begin, 0, 1, period, begin, number));
        CHECK.due("day(" + begin + ", 1) by '" + text + "'", x.day(begin, 1), alone);
        x.set(3, 0, 59);
        int crowd = clamp(model.tells(1, 59, 0, 2, 0, 59, 0));
        int one = clamp(model.tells(0, 59, 0, 2, period, 59, number));
        int other = clamp(model.tells(0, 59, 1, 2, 60, 59, 9));
        CHECK.due("day(59, 1) by '" + text + "'", x.day(59, 1), crowd + one + other);
    }

    private static int clamp(int v) {
        return Math.max(0, Math.min(99, v));
    }
}
