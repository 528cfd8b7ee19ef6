import java.math.BigInteger;

/**
 * The hash of digest(), put together of the looks in numbers without bounds, and cut to 64 bits at the
 * end. It takes some 300 calls of the 512 that an object has.
 */
final class Hash {
    private BigInteger hash = BigInteger.valueOf(3821);

    private Hash() {
    }

    static long of(RibbonBalloons x, boolean kept, String buffer) {
        Hash of = new Hash();
        for (int what = 0; what <= 14; what++) {
            of.add(x.count(what));
        }
        for (int b = 0; b <= 7; b++) {
            of.addBalloon(x, b);
        }
        for (int r = 0; r <= 6; r++) {
            of.addRibbon(x, r);
        }
        for (int rank = 0; rank < x.count(13); rank++) {
            for (int what = 0; what <= 2; what++) {
                of.add(x.noted(rank, what));
            }
        }
        of.add(x.stopped(0));
        of.add(x.stopped(1));
        of.add(x.snapsIn());
        of.add(x.bestBag());
        of.add(Double.doubleToLongBits(x.meanHeight()));
        of.add(Float.floatToIntBits(x.lostShare()));
        of.add(kept ? 1 : 0);
        of.add(buffer.length());
        for (int at = 0; at < buffer.length(); at++) {
            of.add(buffer.charAt(at));
        }
        return of.hash.longValue();
    }

    private void addBalloon(RibbonBalloons x, int b) {
        for (int what = 0; what <= 11; what++) {
            add(x.balloon(b, what));
        }
        for (int deed = 0; deed <= 3; deed++) {
            add(x.why(b, deed));
        }
        for (int what = 0; what <= 2; what++) {
            add(x.ifDropped(b, what));
        }
        add(x.landsIn(b));
    }

    private void addRibbon(RibbonBalloons x, int r) {
        for (int what = 0; what <= 4; what++) {
            add(x.ribbon(r, what));
        }
        add(x.why(r, 4));
        add(x.why(r, 5));
    }

    private void add(long value) {
        hash = hash.multiply(BigInteger.valueOf(31)).add(BigInteger.valueOf(value));
    }
}
