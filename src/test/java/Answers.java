/** One number for all that an object answers, the futures of its places included. */
final class Answers {
    private Answers() {
    }

    static long of(RiverNames x) {
        long sum = x.digest();
        sum = sum * 37 + Double.doubleToLongBits(x.meanMouth());
        for (int place = 0; place < x.places(); place++) {
            sum = sum * 37 + x.yearsUntilRenamed(place);
            sum = sum * 37 + x.renamedByDelta(place);
            for (int years = 1; years <= 50; years += 7) {
                sum = sum * 37 + x.nameIn(place, years);
            }
        }
        return sum;
    }
}
