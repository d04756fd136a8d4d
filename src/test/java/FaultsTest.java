import java.util.Random;

/** FAULTS of very many texts, right and wrong, against the model's. */
public final class FaultsTest {
    /** Each takes some 16 calls, and an object is good for 512. */
    private static final int TEXTS_AN_OBJECT = 30;

    public static void main(String[] args) {
        Random r = new Random(11);
        Texts texts = new Texts(r);
        GuiltySleep x = new GuiltySleep();
        int[] right = new int[3];
        for (int i = 0; i < 60000; i++) {
            if (i % TEXTS_AN_OBJECT == 0) {
                x = new GuiltySleep();
            }
            int sort = i % 3;
            String text = sort == 0 ? texts.town(8, 9) : sort == 1 ? texts.law() : texts.watch(8);
            if (text.length() > 240) {
                continue;
            }
            if (r.nextInt(4) > 0) {
                text = texts.spoilt(text);
            }
            Model m = new Model();
            m.tape = text;
            Check.tape(x, text);
            for (int ask = 0; ask < 3; ask++) {
                int got = x.fault(ask);
                right[ask] += got == -1 ? 1 : 0;
                Check.due("fault(" + ask + ") of '" + text + "'", got, m.fault(ask));
            }
        }
        System.out.println("right towns " + right[0] + ", laws " + right[1] + ", watches " + right[2]);
        Check.due("enough right ones", right[0] > 3000 && right[1] > 3000 && right[2] > 3000, true);
        Check.end("FaultsTest");
    }
}
