import java.util.Arrays;
import java.util.NoSuchElementException;

/**
 * A herd book: animals with their sires and dams, exact kinship and inbreeding, shares of founders,
 * lines of descent, and lists of matings with the least kinship.
 */
public final class HerdKinship {
    public static final int NONE = -1;

    private static final int MOST_ANIMALS = 24;
    private static final int MALE = 0;
    private static final int FEMALE = 1;
    private static final int LAST_YEAR = 60;
    private static final int MOST_COWS = 5;
    private static final int MOST_LIMIT = 8;

    private final Pedigree pedigree;
    private final BestList search;
    private final int[] sexes;
    private final int[] years;
    private final boolean[] alive;
    private final int[] listedBulls;
    private boolean hasList;

    public HerdKinship() {
        pedigree = new Pedigree();
        search = new BestList();
        sexes = new int[MOST_ANIMALS];
        years = new int[MOST_ANIMALS];
        alive = new boolean[MOST_ANIMALS];
        listedBulls = new int[MOST_ANIMALS];
        Arrays.fill(listedBulls, NONE);
        hasList = false;
    }

    public int enter(int sire, int dam, int sex, int year)
            throws IllegalArgumentException, NoSuchElementException, UnsupportedOperationException, IllegalStateException {
        if ((sex != MALE && sex != FEMALE) || year < 0 || year > LAST_YEAR) {
            throw new IllegalArgumentException("sex or year");
        }
        requireAnimalOrNone(sire);
        requireAnimalOrNone(dam);
        requireFitParents(sire, dam, year);
        if (pedigree.size() >= MOST_ANIMALS) {
            throw new IllegalStateException("the book is full");
        }
        int a = pedigree.append(sire, dam);
        sexes[a] = sex;
        years[a] = year;
        alive[a] = true;
        return a;
    }

    public int correct(int a, int sire, int dam)
            throws NoSuchElementException, UnsupportedOperationException {
        requireAnimal(a);
        requireAnimalOrNone(sire);
        requireAnimalOrNone(dam);
        requireFitParents(sire, dam, years[a]);
        if (sire >= a || dam >= a) {
            throw new UnsupportedOperationException("a parent has a number that is not less");
        }
        return pedigree.replaceParents(a, sire, dam);
    }

    public int cull(int a) throws NoSuchElementException, IllegalStateException {
        requireAnimal(a);
        if (!alive[a]) {
            throw new IllegalStateException("it does not live");
        }
        alive[a] = false;
        return countLiving();
    }

    public int of(int a, int what) throws NoSuchElementException, IndexOutOfBoundsException {
        requireAnimal(a);
        switch (what) {
            case 0:
                return pedigree.sireOf(a);
            case 1:
                return pedigree.damOf(a);
            case 2:
                return sexes[a];
            case 3:
                return years[a];
            case 4:
                return alive[a] ? 1 : 0;
            case 5:
                return pedigree.depthOf(a);
            default:
                throw new IndexOutOfBoundsException("no such what");
        }
    }

    public int animals() {
        return pedigree.size();
    }

    public long kinship(int a, int b) throws NoSuchElementException {
        requireAnimal(a);
        requireAnimal(b);
        return pedigree.kinOf(a, b);
    }

    public long inbreeding(int a) throws NoSuchElementException {
        requireAnimal(a);
        return pedigree.inbreedingOf(a);
    }

    public long calf(int a, int b) throws NoSuchElementException {
        requireAnimal(a);
        requireAnimal(b);
        return pedigree.kinOf(a, b);
    }

    public long share(int founder, int a)
            throws NoSuchElementException, UnsupportedOperationException {
        requireAnimal(founder);
        requireAnimal(a);
        requireFounder(founder);
        return pedigree.shareOf(founder, a);
    }

    public long unknown(int a) throws NoSuchElementException {
        requireAnimal(a);
        return pedigree.unknownIn(a);
    }

    public long inHerd(int founder) throws NoSuchElementException, UnsupportedOperationException {
        requireAnimal(founder);
        requireFounder(founder);
        long sum = 0;
        for (int a = 0; a < pedigree.size(); a++) {
            if (alive[a]) {
                sum += pedigree.shareOf(founder, a);
            }
        }
        return sum;
    }

    public long herd() {
        long sum = 0;
        for (int b = 0; b < pedigree.size(); b++) {
            if (alive[b]) {
                sum += kinWithLivingUpTo(b);
            }
        }
        return sum;
    }

    public int ancestors(int a) throws NoSuchElementException {
        requireAnimal(a);
        return pedigree.forebearsOf(a);
    }

    public int descendants(int a) throws NoSuchElementException {
        requireAnimal(a);
        return pedigree.progenyOf(a);
    }

    public int lines(int ancestor, int a) throws NoSuchElementException {
        requireAnimal(ancestor);
        requireAnimal(a);
        return pedigree.linesDown(ancestor, a);
    }

    public int nearest(int a, int b) throws NoSuchElementException {
        requireAnimal(a);
        requireAnimal(b);
        return pedigree.nearestCommon(a, b);
    }

    public int closest(int a) throws NoSuchElementException {
        requireAnimal(a);
        int best = NONE;
        for (int b = 0; b < pedigree.size(); b++) {
            if (b != a && alive[b] && (best == NONE || pedigree.kinOf(a, b) > pedigree.kinOf(a, best))) {
                best = b;
            }
        }
        return best;
    }

    public int bestBull(int cow) throws NoSuchElementException {
        requireAnimal(cow);
        int best = NONE;
        for (int b = 0; b < pedigree.size(); b++) {
            if (isLiving(b, MALE) && (best == NONE || pedigree.kinOf(cow, b) < pedigree.kinOf(cow, best))) {
                best = b;
            }
        }
        return best;
    }

    public long plan(int cows, int limit, long most)
            throws IllegalArgumentException, NoSuchElementException, UnsupportedOperationException {
        if (limit < 1 || limit > MOST_LIMIT || Integer.bitCount(cows) > MOST_COWS || most < 0) {
            throw new IllegalArgumentException("limit, number of cows or most");
        }
        if (cows >>> pedigree.size() != 0) {
            throw new NoSuchElementException("a bit of the set is no animal");
        }
        requireLivingFemales(cows);
        search.begin(cows, limit, most);
        for (int b = 0; b < pedigree.size(); b++) {
            if (isLiving(b, MALE)) {
                search.offer(b, pedigree);
            }
        }
        keepList();
        return search.leastSum();
    }

    public int bull(int cow) throws NoSuchElementException {
        requireAnimal(cow);
        return listedBulls[cow];
    }

    public long planned() {
        if (!hasList) {
            return NONE;
        }
        long sum = 0;
        for (int cow = 0; cow < pedigree.size(); cow++) {
            sum += pedigree.kinOf(cow, listedBulls[cow]);
        }
        return sum;
    }

    private boolean isAnimal(int a) {
        return a >= 0 && a < pedigree.size();
    }

    private boolean isLiving(int a, int sex) {
        return alive[a] && sexes[a] == sex;
    }

    private boolean isFitParent(int parent, int sex, int childYear) {
        return parent == NONE || (sexes[parent] == sex && years[parent] < childYear);
    }

    private void requireAnimal(int a) {
        if (!isAnimal(a)) {
            throw new NoSuchElementException("no such animal");
        }
    }

    private void requireAnimalOrNone(int a) {
        if (a != NONE) {
            requireAnimal(a);
        }
    }

    private void requireFitParents(int sire, int dam, int childYear) {
        if (!isFitParent(sire, MALE, childYear) || !isFitParent(dam, FEMALE, childYear)) {
            throw new UnsupportedOperationException("a parent has the wrong sex or year");
        }
    }

    private void requireFounder(int a) {
        if (!pedigree.isFounder(a)) {
            throw new UnsupportedOperationException("no founder");
        }
    }

    private void requireLivingFemales(int set) {
        for (int a = 0; a < pedigree.size(); a++) {
            if ((set >> a & 1) != 0 && !isLiving(a, FEMALE)) {
                throw new UnsupportedOperationException("one is no living female");
            }
        }
    }

    private int countLiving() {
        int living = 0;
        for (int a = 0; a < pedigree.size(); a++) {
            if (alive[a]) {
                living++;
            }
        }
        return living;
    }

    private long kinWithLivingUpTo(int b) {
        long sum = 0;
        for (int a = 0; a <= b; a++) {
            if (alive[a]) {
                sum += pedigree.kinOf(a, b);
            }
        }
        return sum;
    }

    private void keepList() {
        Arrays.fill(listedBulls, NONE);
        hasList = search.leastSum() != NONE;
        if (hasList) {
            search.writeBulls(listedBulls);
        }
    }

    /**
     * The parents of all animals and what follows from them. Parents have lesser numbers than their
     * children, so every row can be worked out in one pass from the least number up, and kinship is
     * halved at most 24 times: no part of the 2^50 is ever lost.
     */
    private static final class Pedigree {
        private static final long ONE = 1L << 50;

        private int size;
        private final int[] sires;
        private final int[] dams;
        private final int[] depths;
        private final int[] forebears;
        private final long[][] kin;
        private final long[] inbred;
        private final long[] shares;
        private final int[] lineCounts;

        Pedigree() {
            size = 0;
            sires = new int[MOST_ANIMALS];
            dams = new int[MOST_ANIMALS];
            depths = new int[MOST_ANIMALS];
            forebears = new int[MOST_ANIMALS];
            kin = new long[MOST_ANIMALS][MOST_ANIMALS];
            inbred = new long[MOST_ANIMALS];
            shares = new long[MOST_ANIMALS];
            lineCounts = new int[MOST_ANIMALS];
        }

        int size() {
            return size;
        }

        int append(int sire, int dam) {
            int a = size;
            size++;
            sires[a] = sire;
            dams[a] = dam;
            renew(a);
            return a;
        }

        /** Answers how many animals have another inbreeding now. */
        int replaceParents(int a, int sire, int dam) {
            sires[a] = sire;
            dams[a] = dam;
            int changed = 0;
            for (int i = a; i < size; i++) {
                long before = inbred[i];
                renew(i);
                if (inbred[i] != before) {
                    changed++;
                }
            }
            return changed;
        }

        int sireOf(int a) {
            return sires[a];
        }

        int damOf(int a) {
            return dams[a];
        }

        int depthOf(int a) {
            return depths[a];
        }

        boolean isFounder(int a) {
            return sires[a] == NONE && dams[a] == NONE;
        }

        long kinOf(int a, int b) {
            return a == NONE || b == NONE ? 0 : kin[a][b];
        }

        long inbreedingOf(int a) {
            return inbred[a];
        }

        long shareOf(int founder, int a) {
            for (int i = founder; i <= a; i++) {
                shares[i] = i == founder ? ONE : (shareUpTo(founder, sires[i]) + shareUpTo(founder, dams[i])) / 2;
            }
            return shareUpTo(founder, a);
        }

        long unknownIn(int a) {
            long lacking = ONE;
            for (int i = 0; i <= a; i++) {
                if (isFounder(i)) {
                    lacking -= shareOf(i, a);
                }
            }
            return lacking;
        }

        int forebearsOf(int a) {
            return forebears[a];
        }

        int progenyOf(int a) {
            int set = 0;
            for (int i = a + 1; i < size; i++) {
                if ((forebears[i] >> a & 1) != 0) {
                    set |= 1 << i;
                }
            }
            return set;
        }

        int linesDown(int ancestor, int a) {
            for (int i = ancestor; i <= a; i++) {
                lineCounts[i] = i == ancestor ? 1 : linesUpTo(ancestor, sires[i]) + linesUpTo(ancestor, dams[i]);
            }
            return linesUpTo(ancestor, a);
        }

        int nearestCommon(int a, int b) {
            int common = withForebears(a) & withForebears(b);
            int nearest = common;
            for (int i = 0; i < size; i++) {
                if ((common >> i & 1) != 0) {
                    nearest &= ~forebears[i];
                }
            }
            return nearest;
        }

        private void renew(int a) {
            int sire = sires[a];
            int dam = dams[a];
            depths[a] = isFounder(a) ? 0 : 1 + Math.max(depthOrZero(sire), depthOrZero(dam));
            forebears[a] = withForebears(sire) | withForebears(dam);
            for (int b = 0; b < a; b++) {
                long half = (kinOf(sire, b) + kinOf(dam, b)) / 2;
                kin[a][b] = half;
                kin[b][a] = half;
            }
            inbred[a] = kinOf(sire, dam);
            kin[a][a] = (ONE + inbred[a]) / 2;
        }

        private int depthOrZero(int a) {
            return a == NONE ? 0 : depths[a];
        }

        private int withForebears(int a) {
            return a == NONE ? 0 : forebears[a] | 1 << a;
        }

        // Nobody with a lesser number than the founder (NONE is less, too) descends from it, and the
        // row still holds an earlier call's answers there.
        private long shareUpTo(int founder, int a) {
            return a < founder ? 0 : shares[a];
        }

        private int linesUpTo(int ancestor, int a) {
            return a < ancestor ? 0 : lineCounts[a];
        }
    }

    /**
     * Finds the best list of matings. The bulls are taken one after another; for every subset of the
     * cows the best list with the bulls taken so far is kept, so that each new bull has only to
     * choose the cows that he serves. A subset has bit p for the cow with the p-th least number.
     */
    private static final class BestList {
        private static final int SUBSETS = 1 << MOST_COWS;
        private static final int BITS_PER_BULL = 5;
        private static final int BULL_MASK = (1 << BITS_PER_BULL) - 1;

        private final int[] cows;
        private int cowCount;
        private int limit;
        private long most;
        private final long[] sums;
        // The bulls of a subset's list, the least cow's in the highest bits: of two lists for the same
        // subset the one with the lesser number is the one that the document prefers.
        private final int[] codes;
        private final long[] servedSums;
        private final int[] servedCodes;

        BestList() {
            cows = new int[MOST_COWS];
            cowCount = 0;
            limit = 0;
            most = 0;
            sums = new long[SUBSETS];
            codes = new int[SUBSETS];
            servedSums = new long[SUBSETS];
            servedCodes = new int[SUBSETS];
        }

        void begin(int set, int cowsPerBull, long mostKinship) {
            cowCount = 0;
            for (int a = 0; a < MOST_ANIMALS && cowCount < MOST_COWS; a++) {
                if ((set >> a & 1) != 0) {
                    cows[cowCount] = a;
                    cowCount++;
                }
            }
            limit = cowsPerBull;
            most = mostKinship;
            Arrays.fill(sums, NONE);
            sums[0] = 0;
            codes[0] = 0;
        }

        void offer(int bull, Pedigree pedigree) {
            weighServices(bull, pedigree);
            // From the greatest subset down: the lesser ones must still be without this bull.
            for (int subset = allCows(); subset > 0; subset--) {
                improve(subset);
            }
        }

        /** NONE when there is no list. */
        long leastSum() {
            return sums[allCows()];
        }

        void writeBulls(int[] bullOfCow) {
            int code = codes[allCows()];
            for (int place = 0; place < cowCount; place++) {
                bullOfCow[cows[place]] = code >> shiftOf(place) & BULL_MASK;
            }
        }

        private int allCows() {
            return (1 << cowCount) - 1;
        }

        private static int shiftOf(int place) {
            return BITS_PER_BULL * (MOST_COWS - 1 - place);
        }

        private void weighServices(int bull, Pedigree pedigree) {
            for (int subset = 0; subset <= allCows(); subset++) {
                servedSums[subset] = Integer.bitCount(subset) > limit ? NONE : sumOfKin(subset, bull, pedigree);
                servedCodes[subset] = codeOf(subset, bull);
            }
        }

        private long sumOfKin(int subset, int bull, Pedigree pedigree) {
            long sum = 0;
            for (int place = 0; place < cowCount; place++) {
                if ((subset >> place & 1) != 0) {
                    long kin = pedigree.kinOf(cows[place], bull);
                    if (kin > most) {
                        return NONE;
                    }
                    sum += kin;
                }
            }
            return sum;
        }

        private void improve(int subset) {
            for (int part = 1; part <= subset; part++) {
                int rest = subset & ~part;
                if ((part & ~subset) == 0 && servedSums[part] != NONE && sums[rest] != NONE) {
                    keepBetter(subset, sums[rest] + servedSums[part], codes[rest] | servedCodes[part]);
                }
            }
        }

        private int codeOf(int subset, int bull) {
            int code = 0;
            for (int place = 0; place < cowCount; place++) {
                if ((subset >> place & 1) != 0) {
                    code |= bull << shiftOf(place);
                }
            }
            return code;
        }

        private void keepBetter(int subset, long sum, int code) {
            boolean better = sums[subset] == NONE || sum < sums[subset] || (sum == sums[subset] && code < codes[subset]);
            if (better) {
                sums[subset] = sum;
                codes[subset] = code;
            }
        }
    }
}
