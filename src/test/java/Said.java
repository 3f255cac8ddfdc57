import java.math.BigInteger;
import java.util.ArrayList;
import java.util.List;

/** What a person says in a night, by the document's words, reckoned apart from the class. */
final class Said {
    private Said() {
    }

    static int draw(int person, int z, int night) {
        BigInteger x = times(7919, z).add(times(6151, person)).add(times(4253, night)).add(BigInteger.ONE);
        return x.multiply(x).mod(BigInteger.valueOf(65521)).divide(BigInteger.valueOf(8)).intValueExact();
    }

    private static BigInteger times(int a, int b) {
        return BigInteger.valueOf(a).multiply(BigInteger.valueOf(b));
    }

    /** The thing's bit; 0 if he says none. */
    static int bit(int known, int talks, int person, int z, int night) {
        List<Integer> things = new ArrayList<>();
        for (int t = 0; t < 7; t++) {
            if ((known & 1 << t) != 0) {
                things.add(t);
            }
        }
        int draw = draw(person, z, night);
        if (things.isEmpty() || draw % 10 >= talks) {
            return 0;
        }
        return 1 << things.get(draw / 10 % things.size());
    }
}
