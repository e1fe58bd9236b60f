import java.util.Random;

/** Random texts, right and spoilt, each fault and its place held against Model's. */
public final class RandomTextsTest {
    private static final int TEXTS = 15000;

    public static void main(String[] args) {
        Random random = new Random(20261118);
        RandomTexts texts = new RandomTexts(random);
        int wrong = 0;
        int[] seen = new int[6];
        for (int i = 0; i < TEXTS && wrong < 5; i++) {
            String text = texts.right();
            text = i % 8 == 0 ? text : texts.spoilt(text);
            SaintTheft real = new SaintTheft();
            Model model = new Model();
            int[] w = Texts.words(text);
            for (int k = 0; k < w.length; k += 5) {
                real.feed(w[k], w[k + 1], w[k + 2], w[k + 3], w[k + 4]);
                model.feed(w[k], w[k + 1], w[k + 2], w[k + 3], w[k + 4]);
            }
            real.back(w.length * 4 - text.length());
            model.back(w.length * 4 - text.length());
            int fault = model.read();
            seen[fault]++;
            int got = real.read();
            if (got != fault || real.place() != model.place()) {
                wrong++;
                System.out.println(text + "\nanswered " + got + " at " + real.place() + ", due is " + fault + " at "
                        + model.place());
            }
        }
        for (int fault = 0; fault < seen.length; fault++) {
            if (seen[fault] < 50) {
                wrong++;
                System.out.println("only " + seen[fault] + " texts had fault " + fault);
            }
        }
        System.out.println(wrong == 0 ? TEXTS + " random texts agree" : wrong + " are not as due");
        if (wrong != 0) {
            System.exit(1);
        }
    }
}
