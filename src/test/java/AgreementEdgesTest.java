import java.math.BigInteger;
import java.util.Random;

/**
 * Promise 12: what is agreed is the least number modulo 2^255 - 19. Random keys never lead near its edges, so the other's
 * public key is reckoned back from the number that is wanted.
 */
public final class AgreementEdgesTest {
    private static final Checks checks = new Checks();
    private static final BigInteger ONE = BigInteger.ONE;
    private static final BigInteger P = ONE.shiftLeft(255).subtract(BigInteger.valueOf(19));
    /** The prime orders of points on the curve and on its twist. */
    private static final BigInteger CURVE = ONE.shiftLeft(252).add(new BigInteger("27742317777372353535851937790883648493"));
    private static final BigInteger TWIST = ONE.shiftLeft(253).subtract(new BigInteger("55484635554744707071703875581767296995"));

    public static void main(String[] args) {
        Random random = new Random(2);
        int[] places = {0, 26, 51, 77, 102, 128, 153, 179, 204, 230, 254, 255};
        for (int place : places) {
            for (int i = 0; i < 60; i++) {
                BigInteger near = ONE.shiftLeft(place);
                wanted(random, near.add(BigInteger.valueOf(i)).mod(P));
                wanted(random, near.subtract(BigInteger.valueOf(i)).mod(P));
                wanted(random, near.add(BigInteger.valueOf(i)).negate().mod(P));
            }
        }
        checks.end("AgreementEdgesTest");
    }

    /** x and z of n times a point, by the document's steps. */
    private static BigInteger[] ladder(BigInteger n, BigInteger u) {
        BigInteger x2 = ONE, z2 = BigInteger.ZERO, x3 = u, z3 = ONE;
        for (int i = 254; i >= 0; i--) {
            boolean bit = n.testBit(i);
            BigInteger p = bit ? x3 : x2, q = bit ? z3 : z2, r = bit ? x2 : x3, s = bit ? z2 : z3;
            BigInteger a = p.add(q), b = p.subtract(q), c = r.add(s), d = r.subtract(s);
            BigInteger aa = a.multiply(a).mod(P), bb = b.multiply(b).mod(P), e = aa.subtract(bb);
            BigInteger da = d.multiply(a), cb = c.multiply(b);
            r = da.add(cb).pow(2).mod(P);
            s = u.multiply(da.subtract(cb).pow(2)).mod(P);
            p = aa.multiply(bb).mod(P);
            q = e.multiply(aa.add(e.multiply(BigInteger.valueOf(121665)))).mod(P);
            x2 = bit ? r : p;
            z2 = bit ? s : q;
            x3 = bit ? p : r;
            z3 = bit ? q : s;
        }
        return new BigInteger[] {x2, z2};
    }

    /** Only points of prime order can be reckoned back; the others are passed over. */
    private static void wanted(Random random, BigInteger u) {
        for (BigInteger order : new BigInteger[] {CURVE, TWIST}) {
            if (u.signum() != 0 && ladder(order, u)[1].signum() == 0) {
                back(random, u, order);
                return;
            }
        }
    }

    private static void back(Random random, BigInteger u, BigInteger order) {
        BigInteger key = new BigInteger(255, random).setBit(254).shiftRight(3).shiftLeft(3);
        BigInteger[] from = ladder(key.modInverse(order), u);
        BigInteger other = from[0].multiply(from[1].modInverse(P)).mod(P);
        Sealer x = new Sealer();
        x.fill(0, Checks.hex(Model.littleBytes(key, 32)));
        x.fill(1, Checks.hex(Model.littleBytes(other, 32)));
        checks.due("agree on " + u, x.agree(2, 0, 1), 32);
        byte[] want = Model.littleBytes(u, 32);
        for (int i = 0; i < 32; i++) {
            checks.due("byte " + i + " of " + u, x.at(2, i), want[i] & 255);
        }
    }
}
