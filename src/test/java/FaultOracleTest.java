import java.util.Random;

/** Promise 4 on texts by chance, against the oracle. */
public final class FaultOracleTest {
    public static void main(String[] args) {
        Check check = new Check("FaultOracleTest");
        Random random = new Random(41);
        RandomTexts texts = new RandomTexts(random);
        int whole = 0;
        GallopDispatch x = new GallopDispatch();
        for (int k = 0; k < 6000; k++) {
            if (k % 100 == 0) {
                x = new GallopDispatch();
            }
            String text = k % 2 == 0 ? texts.ride() : texts.law();
            if (k % 2 == 1 && text.length() > 90) {
                continue;
            }
            if (random.nextInt(4) > 0) {
                text = texts.broken(text);
            }
            int ride = TextOracle.rideFault(text);
            int law = TextOracle.lawFault(text);
            whole += ride == -1 || law == -1 ? 1 : 0;
            check.due("fault(0) of '" + text + "'", Check.faultOf(x, text, 0), ride);
            check.due("fault(1) of '" + text + "'", Check.faultOf(x, text, 1), law);
        }
        check.due("some are whole, " + whole, whole > 1000, true);
        check.end();
    }
}
