import java.util.ArrayList;
import java.util.List;
import java.util.TreeMap;

/**
 * The document once more, as slowly and as literally as it is written, to compare the class with.
 * Nothing here is shared with the class, so that one mistake is not made twice.
 */
final class Model {
    static final class Echo {
        final int moment;
        final int loudness;

        Echo(int moment, int loudness) {
            this.moment = moment;
            this.loudness = loudness;
        }
    }

    static final class Hall {
        final List<int[]> surfaces = new ArrayList<>();
        int damping;
        int dust = 0;
        int[] standard = null;
        int daysLeft = 0;

        void noCertificate() {
            standard = null;
            daysLeft = 0;
        }
    }

    final List<Hall> halls = new ArrayList<>();
    final List<int[]> standards = new ArrayList<>();
    int day = 0;
    int inspections = 0;

    private static void index(boolean good) {
        if (!good) throw new IndexOutOfBoundsException();
    }

    private static void argument(boolean good) {
        if (!good) throw new IllegalArgumentException();
    }

    private static void state(boolean good) {
        if (!good) throw new IllegalStateException();
    }

    private Hall hall(int number) {
        index(number >= 0 && number < halls.size());
        return halls.get(number);
    }

    private int[] standard(int number) {
        index(number >= 0 && number < standards.size());
        return standards.get(number);
    }

    private int[] surface(int hall, int number) {
        Hall h = hall(hall);
        index(number >= 0 && number < h.surfaces.size());
        return h.surfaces.get(number);
    }

    static int hardness(int asBuilt, int dust) {
        int hard = asBuilt - dust / 5;
        return hard < 0 ? 0 : hard;
    }

    static List<Echo> echoesOf(Hall h, int click, int damping, int dust) {
        List<Echo> all = new ArrayList<>();
        for (int[] s : h.surfaces) {
            int hard = hardness(s[1], dust);
            int came = click;
            int moment = 6 * s[0];
            while (true) {
                int back = came * hard / 100;
                back = back * (100 - damping) / 100;
                if (back == 0 || moment > 3000) break;
                all.add(new Echo(moment, back));
                came = back;
                moment += 6 * s[0];
            }
        }
        return all;
    }

    static boolean allowed(List<Echo> echoes, int[] s) {
        int loud = 0;
        for (Echo e : echoes) {
            if (e.moment < s[0] || e.moment > s[3]) return false;
            if (e.loudness >= s[1]) loud++;
        }
        return loud <= s[2];
    }

    private static boolean meets(Hall h, int[] s, int damping, int dust) {
        return allowed(echoesOf(h, 1000, damping, dust), s);
    }

    private static boolean meets(Hall h, int[] s) {
        return meets(h, s, h.damping, h.dust);
    }

    int addHall(int damping) {
        argument(damping >= 0 && damping <= 90);
        state(halls.size() < 8);
        Hall h = new Hall();
        h.damping = damping;
        halls.add(h);
        return halls.size() - 1;
    }

    int addSurface(int hall, int distance, int hardness) {
        Hall h = hall(hall);
        argument(distance >= 1 && distance <= 60 && hardness >= 0 && hardness <= 99);
        state(h.surfaces.size() < 6);
        h.surfaces.add(new int[] {distance, hardness});
        h.noCertificate();
        return h.surfaces.size() - 1;
    }

    int moveSurface(int hall, int surface, int distance) {
        int[] s = surface(hall, surface);
        argument(distance >= 1 && distance <= 60);
        int before = s[0];
        s[0] = distance;
        halls.get(hall).noCertificate();
        return before;
    }

    int setDamping(int hall, int damping) {
        Hall h = hall(hall);
        argument(damping >= 0 && damping <= 90);
        int before = h.damping;
        h.damping = damping;
        h.noCertificate();
        return before;
    }

    int clean(int hall) {
        Hall h = hall(hall);
        int before = h.dust;
        h.dust = 0;
        return before;
    }

    int addStandard(int earliest, int limit, int most, int latest, int days) {
        argument(earliest >= 0 && earliest <= 500);
        argument(limit >= 1 && limit <= 1000);
        argument(most >= 0 && most <= 99);
        argument(latest >= 0 && latest <= 3000);
        argument(days >= 1 && days <= 100);
        state(standards.size() < 5);
        standards.add(new int[] {earliest, limit, most, latest, days});
        return standards.size() - 1;
    }

    boolean inspect(int hall, int standard) {
        Hall h = hall(hall);
        int[] s = standard(standard);
        inspections++;
        boolean met = meets(h, s);
        if (met) {
            h.standard = s;
            h.daysLeft = s[4];
        } else if (h.standard == s) {
            h.noCertificate();
        }
        return met;
    }

    int revoke(int hall) {
        Hall h = hall(hall);
        state(h.standard != null);
        int left = h.daysLeft;
        h.noCertificate();
        return left;
    }

    int passDays(int days) {
        argument(days >= 1 && days <= 100);
        for (int i = 0; i < days; i++) {
            day++;
            for (Hall h : halls) {
                if (h.dust < 100) h.dust++;
                if (h.standard != null) {
                    h.daysLeft--;
                    if (h.daysLeft == 0) h.noCertificate();
                }
            }
        }
        return certifiedHalls();
    }

    int surfacesOf(int hall) {
        return hall(hall).surfaces.size();
    }

    int distanceOf(int hall, int surface) {
        return surface(hall, surface)[0];
    }

    int hardnessOf(int hall, int surface) {
        return hardness(surface(hall, surface)[1], halls.get(hall).dust);
    }

    int dampingOf(int hall) {
        return hall(hall).damping;
    }

    int dustOf(int hall) {
        return hall(hall).dust;
    }

    private List<Echo> heard(int hall, int loudness) {
        Hall h = hall(hall);
        argument(loudness >= 1 && loudness <= 1000);
        return echoesOf(h, loudness, h.damping, h.dust);
    }

    int echoes(int hall, int loudness) {
        return heard(hall, loudness).size();
    }

    int loudEchoes(int hall, int loudness, int than) {
        List<Echo> all = heard(hall, loudness);
        argument(than >= 1 && than <= 1000);
        int count = 0;
        for (Echo e : all) {
            if (e.loudness >= than) count++;
        }
        return count;
    }

    private static TreeMap<Integer, Integer> byMoment(List<Echo> all) {
        TreeMap<Integer, Integer> map = new TreeMap<>();
        for (Echo e : all) map.merge(e.moment, e.loudness, Integer::sum);
        return map;
    }

    int firstEcho(int hall, int loudness) {
        TreeMap<Integer, Integer> map = byMoment(heard(hall, loudness));
        return map.isEmpty() ? -1 : map.firstKey();
    }

    int lastEcho(int hall, int loudness) {
        TreeMap<Integer, Integer> map = byMoment(heard(hall, loudness));
        return map.isEmpty() ? -1 : map.lastKey();
    }

    int loudnessAt(int hall, int loudness, int moment) {
        List<Echo> all = heard(hall, loudness);
        argument(moment >= 0 && moment <= 3000);
        return byMoment(all).getOrDefault(moment, 0);
    }

    int loudestMoment(int hall, int loudness) {
        TreeMap<Integer, Integer> map = byMoment(heard(hall, loudness));
        int best = 0;
        int moment = -1;
        for (Integer at : map.keySet()) {
            if (map.get(at) > best) {
                best = map.get(at);
                moment = at;
            }
        }
        return moment;
    }

    boolean meets(int hall, int standard) {
        Hall h = hall(hall);
        return meets(h, standard(standard));
    }

    int hallsMeeting(int standard) {
        int[] s = standard(standard);
        int count = 0;
        for (Hall h : halls) {
            if (meets(h, s)) count++;
        }
        return count;
    }

    boolean isCertified(int hall) {
        return hall(hall).standard != null;
    }

    int certifiedBy(int hall) {
        Hall h = hall(hall);
        state(h.standard != null);
        return standards.indexOf(h.standard);
    }

    int daysLeft(int hall) {
        return hall(hall).daysLeft;
    }

    int certifiedHalls() {
        int count = 0;
        for (Hall h : halls) {
            if (h.standard != null) count++;
        }
        return count;
    }

    boolean meetsWithDamping(int hall, int standard, int damping) {
        Hall h = hall(hall);
        int[] s = standard(standard);
        argument(damping >= 0 && damping <= 90);
        return meets(h, s, damping, h.dust);
    }

    int leastDamping(int hall, int standard) {
        Hall h = hall(hall);
        int[] s = standard(standard);
        for (int damping = 0; damping <= 90; damping++) {
            if (meets(h, s, damping, h.dust)) return damping;
        }
        return -1;
    }

    int daysUntilMet(int hall, int standard) {
        Hall h = hall(hall);
        int[] s = standard(standard);
        int dust = h.dust;
        for (int days = 0; days <= 100; days++) {
            if (meets(h, s, h.damping, dust)) return days;
            if (dust < 100) dust++;
        }
        return -1;
    }

    int easiestHall(int standard) {
        standard(standard);
        int best = -1;
        int bestDamping = 91;
        for (int hall = 0; hall < halls.size(); hall++) {
            int least = leastDamping(hall, standard);
            if (least != -1 && least < bestDamping) {
                best = hall;
                bestDamping = least;
            }
        }
        return best;
    }

    double meanDamping() {
        int sum = 0;
        for (Hall h : halls) sum += h.damping;
        return halls.isEmpty() ? 0.0 : (double) sum / halls.size();
    }

    long digest() {
        List<Long> numbers = new ArrayList<>();
        numbers.add((long) halls.size());
        numbers.add((long) standards.size());
        numbers.add((long) day);
        numbers.add((long) inspections);
        numbers.add((long) certifiedHalls());
        for (int hall = 0; hall < halls.size(); hall++) {
            numbers.add((long) surfacesOf(hall));
            numbers.add((long) dampingOf(hall));
            numbers.add((long) dustOf(hall));
            numbers.add((long) (isCertified(hall) ? certifiedBy(hall) : -1));
            numbers.add((long) daysLeft(hall));
            for (int surface = 0; surface < surfacesOf(hall); surface++) {
                numbers.add((long) distanceOf(hall, surface));
                numbers.add((long) hardnessOf(hall, surface));
            }
        }
        for (int hall = 0; hall < halls.size(); hall++) {
            numbers.add((long) echoes(hall, 1000));
            numbers.add((long) firstEcho(hall, 1000));
            numbers.add((long) lastEcho(hall, 1000));
            numbers.add((long) loudestMoment(hall, 1000));
            for (int standard = 0; standard < standards.size(); standard++) {
                numbers.add(meets(hall, standard) ? 1L : 0L);
            }
        }
        long d = 1871;
        for (long x : numbers) d = d * 31 + x;
        return d;
    }
}
