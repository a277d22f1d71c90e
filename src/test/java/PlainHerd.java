import java.util.ArrayList;
import java.util.Arrays;
import java.util.HashMap;
import java.util.List;
import java.util.Map;
import java.util.NoSuchElementException;

/**
 * The document's words, put down as plainly and slowly as they stand: everything is worked out by
 * recursion from the parents, and the best list by trying every list. The program is held against it.
 */
final class PlainHerd {
    static final int NONE = -1;
    static final long ONE = 1L << 50;

    private static final class Animal {
        int sire;
        int dam;
        int sex;
        int year;
        boolean lives = true;
    }

    private final List<Animal> book = new ArrayList<>();
    private final long[] known = new long[24 * 24];
    private Map<Integer, Integer> list = null;
    private Map<Integer, Integer> bestList;
    private long bestSum;

    PlainHerd() {
        forgetKinships();
    }

    int enter(int sire, int dam, int sex, int year) {
        if (sex < 0 || sex > 1 || year < 0 || year > 60) {
            throw new IllegalArgumentException();
        }
        findParent(sire);
        findParent(dam);
        checkParent(sire, 0, year);
        checkParent(dam, 1, year);
        if (book.size() == 24) {
            throw new IllegalStateException();
        }
        Animal x = new Animal();
        x.sire = sire;
        x.dam = dam;
        x.sex = sex;
        x.year = year;
        book.add(x);
        return book.size() - 1;
    }

    int correct(int a, int sire, int dam) {
        Animal x = find(a);
        findParent(sire);
        findParent(dam);
        checkParent(sire, 0, x.year);
        checkParent(dam, 1, x.year);
        if (sire >= a || dam >= a) {
            throw new UnsupportedOperationException();
        }
        List<Long> before = allInbreeding();
        x.sire = sire;
        x.dam = dam;
        forgetKinships();
        List<Long> after = allInbreeding();
        int changed = 0;
        for (int i = 0; i < before.size(); i++) {
            changed += before.get(i).equals(after.get(i)) ? 0 : 1;
        }
        return changed;
    }

    int cull(int a) {
        Animal x = find(a);
        if (!x.lives) {
            throw new IllegalStateException();
        }
        x.lives = false;
        int living = 0;
        for (Animal y : book) {
            living += y.lives ? 1 : 0;
        }
        return living;
    }

    int of(int a, int what) {
        Animal x = find(a);
        switch (what) {
            case 0: return x.sire;
            case 1: return x.dam;
            case 2: return x.sex;
            case 3: return x.year;
            case 4: return x.lives ? 1 : 0;
            case 5: return depth(a);
            default: throw new IndexOutOfBoundsException();
        }
    }

    int animals() {
        return book.size();
    }

    long kinship(int a, int b) {
        find(a);
        find(b);
        return kin(a, b);
    }

    long inbreeding(int a) {
        find(a);
        return inbred(a);
    }

    long calf(int a, int b) {
        return kinship(a, b);
    }

    long share(int founder, int a) {
        find(founder);
        find(a);
        checkFounder(founder);
        return part(founder, a);
    }

    long unknown(int a) {
        find(a);
        return missing(a);
    }

    long inHerd(int founder) {
        find(founder);
        checkFounder(founder);
        long sum = 0;
        for (int i = 0; i < book.size(); i++) {
            sum += book.get(i).lives ? part(founder, i) : 0;
        }
        return sum;
    }

    long herd() {
        long sum = 0;
        for (int i = 0; i < book.size(); i++) {
            for (int j = i; j < book.size(); j++) {
                sum += book.get(i).lives && book.get(j).lives ? kin(i, j) : 0;
            }
        }
        return sum;
    }

    int ancestors(int a) {
        find(a);
        int set = 0;
        for (int i = 0; i < book.size(); i++) {
            set |= isAncestor(i, a) ? 1 << i : 0;
        }
        return set;
    }

    int descendants(int a) {
        find(a);
        int set = 0;
        for (int i = 0; i < book.size(); i++) {
            set |= isAncestor(a, i) ? 1 << i : 0;
        }
        return set;
    }

    int lines(int ancestor, int a) {
        find(ancestor);
        find(a);
        return countLines(ancestor, a);
    }

    int nearest(int a, int b) {
        find(a);
        find(b);
        int common = 0;
        for (int i = 0; i < book.size(); i++) {
            common |= isCommon(i, a, b) ? 1 << i : 0;
        }
        int set = 0;
        for (int i = 0; i < book.size(); i++) {
            boolean near = (common & 1 << i) != 0;
            for (int j = 0; j < book.size() && near; j++) {
                near = (common & 1 << j) == 0 || !isAncestor(i, j);
            }
            set |= near ? 1 << i : 0;
        }
        return set;
    }

    int closest(int a) {
        find(a);
        long greatest = -1;
        int best = NONE;
        for (int i = 0; i < book.size(); i++) {
            if (i != a && book.get(i).lives && kin(a, i) > greatest) {
                greatest = kin(a, i);
                best = i;
            }
        }
        return best;
    }

    int bestBull(int cow) {
        find(cow);
        long least = Long.MAX_VALUE;
        int best = NONE;
        for (int i = 0; i < book.size(); i++) {
            if (book.get(i).lives && book.get(i).sex == 0 && kin(cow, i) < least) {
                least = kin(cow, i);
                best = i;
            }
        }
        return best;
    }

    long plan(int cows, int limit, long most) {
        List<Integer> chosen = new ArrayList<>();
        for (int i = 0; i < 32; i++) {
            if ((cows & 1 << i) != 0) {
                chosen.add(i);
            }
        }
        if (limit < 1 || limit > 8 || chosen.size() > 5 || most < 0) {
            throw new IllegalArgumentException();
        }
        for (int cow : chosen) {
            find(cow);
        }
        for (int cow : chosen) {
            if (book.get(cow).sex != 1 || !book.get(cow).lives) {
                throw new UnsupportedOperationException();
            }
        }
        bestList = null;
        bestSum = NONE;
        tryBulls(chosen, new ArrayList<>(), 0, limit, most);
        list = bestList;
        return bestSum;
    }

    int bull(int cow) {
        find(cow);
        return list == null ? NONE : list.getOrDefault(cow, NONE);
    }

    long planned() {
        if (list == null) {
            return NONE;
        }
        long sum = 0;
        for (Map.Entry<Integer, Integer> pair : list.entrySet()) {
            sum += kin(pair.getKey(), pair.getValue());
        }
        return sum;
    }

    // Bulls are tried with the least number first, so the first list with a sum is the preferred one.
    private void tryBulls(List<Integer> cows, List<Integer> bulls, long sum, int limit, long most) {
        if (bestList != null && sum >= bestSum) {
            return;
        }
        if (bulls.size() == cows.size()) {
            bestSum = sum;
            bestList = new HashMap<>();
            for (int i = 0; i < cows.size(); i++) {
                bestList.put(cows.get(i), bulls.get(i));
            }
            return;
        }
        int cow = cows.get(bulls.size());
        for (int b = 0; b < book.size(); b++) {
            int used = 0;
            for (int other : bulls) {
                used += other == b ? 1 : 0;
            }
            if (book.get(b).lives && book.get(b).sex == 0 && used < limit && kin(cow, b) <= most) {
                bulls.add(b);
                tryBulls(cows, bulls, sum + kin(cow, b), limit, most);
                bulls.remove(bulls.size() - 1);
            }
        }
    }

    private Animal find(int a) {
        if (a < 0 || a >= book.size()) {
            throw new NoSuchElementException();
        }
        return book.get(a);
    }

    private void findParent(int a) {
        if (a != NONE) {
            find(a);
        }
    }

    private void checkParent(int parent, int sex, int year) {
        if (parent != NONE && (book.get(parent).sex != sex || book.get(parent).year >= year)) {
            throw new UnsupportedOperationException();
        }
    }

    private void checkFounder(int a) {
        if (book.get(a).sire != NONE || book.get(a).dam != NONE) {
            throw new UnsupportedOperationException();
        }
    }

    private List<Long> allInbreeding() {
        List<Long> all = new ArrayList<>();
        for (int i = 0; i < book.size(); i++) {
            all.add(inbred(i));
        }
        return all;
    }

    private static long halve(long parts) {
        if (parts % 2 != 0) {
            throw new AssertionError("a part is lost");
        }
        return parts / 2;
    }

    private long inbred(int a) {
        return kin(book.get(a).sire, book.get(a).dam);
    }

    private long kin(int a, int b) {
        if (a == NONE || b == NONE) {
            return 0;
        }
        int pair = 24 * Math.max(a, b) + Math.min(a, b);
        if (known[pair] == NONE) {
            known[pair] = kinByWords(Math.max(a, b), Math.min(a, b));
        }
        return known[pair];
    }

    private void forgetKinships() {
        Arrays.fill(known, NONE);
    }

    private long kinByWords(int greater, int other) {
        if (greater == other) {
            return halve(ONE + inbred(greater));
        }
        return halve(kin(other, book.get(greater).sire) + kin(other, book.get(greater).dam));
    }

    private int depth(int a) {
        Animal x = book.get(a);
        int ofSire = x.sire == NONE ? -1 : depth(x.sire);
        int ofDam = x.dam == NONE ? -1 : depth(x.dam);
        return 1 + Math.max(ofSire, ofDam);
    }

    private long part(int founder, int a) {
        if (a == NONE) {
            return 0;
        }
        return a == founder ? ONE : halve(part(founder, book.get(a).sire) + part(founder, book.get(a).dam));
    }

    private long missing(int a) {
        if (a == NONE) {
            return ONE;
        }
        Animal x = book.get(a);
        return x.sire == NONE && x.dam == NONE ? 0 : halve(missing(x.sire) + missing(x.dam));
    }

    private boolean isAncestor(int a, int of) {
        if (of <= a) {
            return false;
        }
        int sire = book.get(of).sire;
        int dam = book.get(of).dam;
        return (sire != NONE && (sire == a || isAncestor(a, sire))) || (dam != NONE && (dam == a || isAncestor(a, dam)));
    }

    private boolean isCommon(int c, int a, int b) {
        return (c == a || isAncestor(c, a)) && (c == b || isAncestor(c, b));
    }

    private int countLines(int from, int to) {
        if (to == NONE) {
            return 0;
        }
        return from == to ? 1 : countLines(from, book.get(to).sire) + countLines(from, book.get(to).dam);
    }
}
