import java.util.Arrays;

/** A bureau of standards for echoes. */
public final class EchoBureau {
    private static final int MOST_HALLS = 8;
    private static final int MOST_SURFACES = 6;
    private static final int MOST_STANDARDS = 5;

    private static final int MOST_DAMPING = 90;
    private static final int MOST_DUST = 100;
    private static final int DUST_A_DEGREE = 5;
    private static final int NEAREST = 1;
    private static final int FARTHEST = 60;
    private static final int HARDEST = 99;
    private static final int WHOLE = 100;

    private static final int SOFTEST_CLICK = 1;
    private static final int LOUDEST_CLICK = 1000;
    private static final int STANDARD_CLICK = 1000;
    private static final int LAST_MOMENT = 3000;
    private static final int TIME_A_DISTANCE = 6;
    private static final int MOST_IN_A_ROW = LAST_MOMENT / TIME_A_DISTANCE;

    private static final int MOST_EARLIEST = 500;
    private static final int MOST_ECHOES_ALLOWED = 99;
    private static final int MOST_DAYS = 100;
    private static final int LONGEST_WAIT = 100;

    private static final int NONE = -1;
    private static final long DIGEST_START = 1871L;
    private static final long DIGEST_FACTOR = 31L;

    private final Hall[] hallRow = new Hall[MOST_HALLS];
    private final Standard[] standardRow = new Standard[MOST_STANDARDS];
    private int hallCount;
    private int standardCount;
    private int today;
    private int inspectionCount;

    // Kept and used again by every question, so that no call about echoes makes an object.
    private final Tally tally = new Tally();
    private final Loudnesses loudnesses = new Loudnesses();

    public EchoBureau() {
    }

    // ---- halls

    public int addHall(int damping) throws IllegalArgumentException, IllegalStateException {
        checkDamping(damping);
        if (hallCount >= hallRow.length) {
            throw new IllegalStateException("no room for another hall");
        }
        int number = hallCount;
        hallRow[number] = new Hall(damping);
        hallCount++;
        return number;
    }

    public int addSurface(int hall, int distance, int hardness)
            throws IndexOutOfBoundsException, IllegalArgumentException, IllegalStateException {
        Hall place = findHall(hall);
        checkDistance(distance);
        if (!isWithin(hardness, 0, HARDEST)) {
            throw new IllegalArgumentException("no such hardness");
        }
        if (place.isFull()) {
            throw new IllegalStateException("no room for another surface");
        }
        place.loseCertificate();
        return place.build(new Surface(distance, hardness));
    }

    public int moveSurface(int hall, int surface, int distance)
            throws IndexOutOfBoundsException, IllegalArgumentException {
        Hall place = findHall(hall);
        Surface moved = findSurface(place, surface);
        checkDistance(distance);
        int before = moved.distance;
        moved.distance = distance;
        place.loseCertificate();
        return before;
    }

    public int setDamping(int hall, int damping) throws IndexOutOfBoundsException, IllegalArgumentException {
        Hall place = findHall(hall);
        checkDamping(damping);
        int before = place.damping;
        place.damping = damping;
        place.loseCertificate();
        return before;
    }

    public int clean(int hall) throws IndexOutOfBoundsException {
        Hall place = findHall(hall);
        int before = place.dust;
        place.dust = 0;
        return before;
    }

    // ---- standards and certificates

    public int addStandard(int earliest, int limit, int most, int latest, int days)
            throws IllegalArgumentException, IllegalStateException {
        boolean isProper = isWithin(earliest, 0, MOST_EARLIEST)
                && isWithin(limit, SOFTEST_CLICK, LOUDEST_CLICK)
                && isWithin(most, 0, MOST_ECHOES_ALLOWED)
                && isWithin(latest, 0, LAST_MOMENT)
                && isWithin(days, 1, MOST_DAYS);
        if (!isProper) {
            throw new IllegalArgumentException("no such standard can be");
        }
        if (standardCount >= standardRow.length) {
            throw new IllegalStateException("no room for another standard");
        }
        int number = standardCount;
        standardRow[number] = new Standard(earliest, limit, most, latest, days);
        standardCount++;
        return number;
    }

    public boolean inspect(int hall, int standard) throws IndexOutOfBoundsException {
        Hall place = findHall(hall);
        Standard asked = findStandard(standard);
        inspectionCount++;
        boolean isMet = meetsNow(place, asked);
        if (isMet) {
            place.takeCertificate(standard, asked.days);
        } else if (place.certificate == standard) {
            place.loseCertificate();
        }
        return isMet;
    }

    public int revoke(int hall) throws IndexOutOfBoundsException, IllegalStateException {
        Hall place = findHall(hall);
        checkCertificate(place);
        int left = place.certificateDays;
        place.loseCertificate();
        return left;
    }

    public int passDays(int days) throws IllegalArgumentException {
        if (!isWithin(days, 1, MOST_DAYS)) {
            throw new IllegalArgumentException("no such number of days can go by");
        }
        for (Hall place : hallRow) {
            if (place != null) {
                place.growOlder(days);
            }
        }
        today += days;
        return countCertified();
    }

    // ---- what halls are

    public int surfacesOf(int hall) throws IndexOutOfBoundsException {
        return findHall(hall).surfaceCount;
    }

    public int distanceOf(int hall, int surface) throws IndexOutOfBoundsException {
        return findSurface(findHall(hall), surface).distance;
    }

    public int hardnessOf(int hall, int surface) throws IndexOutOfBoundsException {
        Hall place = findHall(hall);
        return findSurface(place, surface).hardnessUnder(place.dust);
    }

    public int dampingOf(int hall) throws IndexOutOfBoundsException {
        return findHall(hall).damping;
    }

    public int dustOf(int hall) throws IndexOutOfBoundsException {
        return findHall(hall).dust;
    }

    // ---- echoes of a click

    public int echoes(int hall, int loudness) throws IndexOutOfBoundsException, IllegalArgumentException {
        return tallyOfClick(hall, loudness).count;
    }

    public int loudEchoes(int hall, int loudness, int than)
            throws IndexOutOfBoundsException, IllegalArgumentException {
        Hall place = findHall(hall);
        checkLoudness(loudness);
        checkLoudness(than);
        return tallyOf(place, loudness, than).loudCount;
    }

    public int firstEcho(int hall, int loudness) throws IndexOutOfBoundsException, IllegalArgumentException {
        return tallyOfClick(hall, loudness).first;
    }

    public int lastEcho(int hall, int loudness) throws IndexOutOfBoundsException, IllegalArgumentException {
        return tallyOfClick(hall, loudness).last;
    }

    public int loudnessAt(int hall, int loudness, int moment)
            throws IndexOutOfBoundsException, IllegalArgumentException {
        Hall place = findHall(hall);
        checkLoudness(loudness);
        if (!isWithin(moment, 0, LAST_MOMENT)) {
            throw new IllegalArgumentException("no such moment");
        }
        return loudnessesOf(place, loudness).addedAt(moment);
    }

    public int loudestMoment(int hall, int loudness) throws IndexOutOfBoundsException, IllegalArgumentException {
        Hall place = findHall(hall);
        checkLoudness(loudness);
        return loudnessesOf(place, loudness).momentOfMost();
    }

    // ---- standards met

    public boolean meets(int hall, int standard) throws IndexOutOfBoundsException {
        Hall place = findHall(hall);
        return meetsNow(place, findStandard(standard));
    }

    public int hallsMeeting(int standard) throws IndexOutOfBoundsException {
        Standard asked = findStandard(standard);
        int count = 0;
        for (Hall place : hallRow) {
            if (place != null && meetsNow(place, asked)) {
                count++;
            }
        }
        return count;
    }

    public boolean isCertified(int hall) throws IndexOutOfBoundsException {
        return findHall(hall).hasCertificate();
    }

    public int certifiedBy(int hall) throws IndexOutOfBoundsException, IllegalStateException {
        Hall place = findHall(hall);
        checkCertificate(place);
        return place.certificate;
    }

    public int daysLeft(int hall) throws IndexOutOfBoundsException {
        return findHall(hall).certificateDays;
    }

    // ---- the bureau

    public int halls() {
        return hallCount;
    }

    public int standards() {
        return standardCount;
    }

    public int day() {
        return today;
    }

    public int inspections() {
        return inspectionCount;
    }

    public int certifiedHalls() {
        return countCertified();
    }

    // ---- what would be

    public boolean meetsWithDamping(int hall, int standard, int damping)
            throws IndexOutOfBoundsException, IllegalArgumentException {
        Hall place = findHall(hall);
        Standard asked = findStandard(standard);
        checkDamping(damping);
        return wouldMeet(place, asked, damping, place.dust);
    }

    public int leastDamping(int hall, int standard) throws IndexOutOfBoundsException {
        Hall place = findHall(hall);
        Standard asked = findStandard(standard);
        for (int damping = 0; damping <= MOST_DAMPING; damping++) {
            if (wouldMeet(place, asked, damping, place.dust)) {
                return damping;
            }
        }
        return NONE;
    }

    public int daysUntilMet(int hall, int standard) throws IndexOutOfBoundsException {
        Hall place = findHall(hall);
        Standard asked = findStandard(standard);
        for (int days = 0; days <= LONGEST_WAIT; days++) {
            if (wouldMeet(place, asked, place.damping, place.dustBehind(days))) {
                return days;
            }
        }
        return NONE;
    }

    public int easiestHall(int standard) throws IndexOutOfBoundsException {
        Standard asked = findStandard(standard);
        // By damping first and by hall then: the first hall found is the one to answer.
        for (int damping = 0; damping <= MOST_DAMPING; damping++) {
            for (int number = 0; number < hallRow.length; number++) {
                Hall place = hallRow[number];
                if (place != null && wouldMeet(place, asked, damping, place.dust)) {
                    return number;
                }
            }
        }
        return NONE;
    }

    public double meanDamping() {
        if (hallCount <= 0) {
            return 0.0;
        }
        int sum = 0;
        for (Hall place : hallRow) {
            if (place != null) {
                sum += place.damping;
            }
        }
        return (double) sum / (double) hallCount;
    }

    public long digest() {
        long d = DIGEST_START;
        d = mix(d, hallCount);
        d = mix(d, standardCount);
        d = mix(d, today);
        d = mix(d, inspectionCount);
        d = mix(d, countCertified());
        for (Hall place : hallRow) {
            if (place != null) {
                d = mixHall(d, place);
            }
        }
        for (Hall place : hallRow) {
            if (place != null) {
                d = mixEchoes(d, place);
            }
        }
        return d;
    }

    // ---- what the calls share

    private static long mix(long d, int x) {
        return d * DIGEST_FACTOR + x;
    }

    private static long mixHall(long start, Hall place) {
        long d = start;
        d = mix(d, place.surfaceCount);
        d = mix(d, place.damping);
        d = mix(d, place.dust);
        d = mix(d, place.certificate);
        d = mix(d, place.certificateDays);
        for (Surface surface : place.surfaces) {
            if (surface != null) {
                d = mix(d, surface.distance);
                d = mix(d, surface.hardnessUnder(place.dust));
            }
        }
        return d;
    }

    private long mixEchoes(long start, Hall place) {
        long d = start;
        Tally heard = tallyOf(place, STANDARD_CLICK, SOFTEST_CLICK);
        d = mix(d, heard.count);
        d = mix(d, heard.first);
        d = mix(d, heard.last);
        d = mix(d, loudnessesOf(place, STANDARD_CLICK).momentOfMost());
        for (Standard standard : standardRow) {
            if (standard != null) {
                d = mix(d, meetsNow(place, standard) ? 1 : 0);
            }
        }
        return d;
    }

    private static boolean isWithin(int value, int least, int greatest) {
        return value >= least && value <= greatest;
    }

    private static void checkDamping(int damping) {
        if (!isWithin(damping, 0, MOST_DAMPING)) {
            throw new IllegalArgumentException("no such damping");
        }
    }

    private static void checkDistance(int distance) {
        if (!isWithin(distance, NEAREST, FARTHEST)) {
            throw new IllegalArgumentException("no such distance");
        }
    }

    private static void checkLoudness(int loudness) {
        if (!isWithin(loudness, SOFTEST_CLICK, LOUDEST_CLICK)) {
            throw new IllegalArgumentException("no such loudness");
        }
    }

    private static void checkCertificate(Hall place) {
        if (!place.hasCertificate()) {
            throw new IllegalStateException("the hall has no certificate");
        }
    }

    private Hall findHall(int number) {
        if (number < 0 || number >= hallRow.length) {
            throw new IndexOutOfBoundsException("no such hall");
        }
        Hall found = hallRow[number];
        if (found == null) {
            throw new IndexOutOfBoundsException("no such hall yet");
        }
        return found;
    }

    private Standard findStandard(int number) {
        if (number < 0 || number >= standardRow.length) {
            throw new IndexOutOfBoundsException("no such standard");
        }
        Standard found = standardRow[number];
        if (found == null) {
            throw new IndexOutOfBoundsException("no such standard yet");
        }
        return found;
    }

    private static Surface findSurface(Hall place, int number) {
        if (number < 0 || number >= place.surfaces.length) {
            throw new IndexOutOfBoundsException("no such surface");
        }
        Surface found = place.surfaces[number];
        if (found == null) {
            throw new IndexOutOfBoundsException("no such surface yet");
        }
        return found;
    }

    private int countCertified() {
        int count = 0;
        for (Hall place : hallRow) {
            if (place != null && place.hasCertificate()) {
                count++;
            }
        }
        return count;
    }

    private Tally tallyOfClick(int hall, int loudness) {
        Hall place = findHall(hall);
        checkLoudness(loudness);
        return tallyOf(place, loudness, SOFTEST_CLICK);
    }

    private Tally tallyOf(Hall place, int click, int limit) {
        tally.begin(limit);
        place.throwBack(click, place.damping, place.dust, tally);
        return tally;
    }

    private Loudnesses loudnessesOf(Hall place, int click) {
        loudnesses.begin();
        place.throwBack(click, place.damping, place.dust, loudnesses);
        return loudnesses;
    }

    private boolean meetsNow(Hall place, Standard standard) {
        return wouldMeet(place, standard, place.damping, place.dust);
    }

    private boolean wouldMeet(Hall place, Standard standard, int damping, int dust) {
        tally.begin(standard.limit);
        place.throwBack(STANDARD_CLICK, damping, dust, tally);
        return standard.allows(tally);
    }

    private static final class Hall {
        private final Surface[] surfaces = new Surface[MOST_SURFACES];
        private int surfaceCount;
        private int damping;
        private int dust;
        private int certificate = NONE;
        private int certificateDays;

        private Hall(int damping) {
            this.damping = damping;
        }

        private boolean isFull() {
            return surfaceCount >= surfaces.length;
        }

        private int build(Surface surface) {
            int number = surfaceCount;
            if (number >= 0 && number < surfaces.length) {
                surfaces[number] = surface;
                surfaceCount++;
            }
            return number;
        }

        private boolean hasCertificate() {
            return certificate != NONE;
        }

        private void takeCertificate(int standard, int days) {
            certificate = standard;
            certificateDays = days;
        }

        private void loseCertificate() {
            certificate = NONE;
            certificateDays = 0;
        }

        private int dustBehind(int days) {
            return Math.min(MOST_DUST, dust + days);
        }

        private void growOlder(int days) {
            dust = dustBehind(days);
            if (certificateDays > days) {
                certificateDays -= days;
            } else {
                loseCertificate();
            }
        }

        private void throwBack(int click, int dampingThen, int dustThen, Listener listener) {
            for (Surface surface : surfaces) {
                if (surface != null) {
                    surface.throwRow(click, dampingThen, dustThen, listener);
                }
            }
        }
    }

    private static final class Surface {
        private final int hardnessAsBuilt;
        private int distance;

        private Surface(int distance, int hardness) {
            this.distance = distance;
            this.hardnessAsBuilt = hardness;
        }

        private int hardnessUnder(int dust) {
            return Math.max(0, hardnessAsBuilt - dust / DUST_A_DEGREE);
        }

        private void throwRow(int click, int damping, int dust, Listener listener) {
            int hardness = hardnessUnder(dust);
            int loudness = click;
            for (int echo = 1; echo <= MOST_IN_A_ROW; echo++) {
                int moment = echo * TIME_A_DISTANCE * distance;
                loudness = loudness * hardness / WHOLE * (WHOLE - damping) / WHOLE;
                if (loudness <= 0 || moment > LAST_MOMENT) {
                    return;
                }
                listener.hear(moment, loudness);
            }
        }
    }

    private static final class Standard {
        private final int earliest;
        private final int limit;
        private final int most;
        private final int latest;
        private final int days;

        private Standard(int earliest, int limit, int most, int latest, int days) {
            this.earliest = earliest;
            this.limit = limit;
            this.most = most;
            this.latest = latest;
            this.days = days;
        }

        private boolean allows(Tally heard) {
            if (heard.count == 0) {
                return true;
            }
            return heard.first >= earliest && heard.last <= latest && heard.loudCount <= most;
        }
    }

    private interface Listener {
        void hear(int moment, int loudness);
    }

    private static final class Tally implements Listener {
        private int limit;
        private int count;
        private int loudCount;
        private int first;
        private int last;

        private void begin(int newLimit) {
            limit = newLimit;
            count = 0;
            loudCount = 0;
            first = NONE;
            last = NONE;
        }

        public void hear(int moment, int loudness) {
            count++;
            if (loudness >= limit) {
                loudCount++;
            }
            if (first == NONE || moment < first) {
                first = moment;
            }
            if (moment > last) {
                last = moment;
            }
        }
    }

    private static final class Loudnesses implements Listener {
        // Echoes come at multiples of TIME_A_DISTANCE alone, so a row of these moments is enough.
        private final int[] added = new int[MOST_IN_A_ROW + 1];

        private void begin() {
            Arrays.fill(added, 0);
        }

        public void hear(int moment, int loudness) {
            int place = moment / TIME_A_DISTANCE;
            if (place >= 0 && place < added.length) {
                added[place] += loudness;
            }
        }

        private int addedAt(int moment) {
            int place = moment / TIME_A_DISTANCE;
            boolean canCome = moment % TIME_A_DISTANCE == 0 && place >= 0 && place < added.length;
            return canCome ? added[place] : 0;
        }

        private int momentOfMost() {
            int most = 0;
            int moment = NONE;
            for (int place = 0; place < added.length; place++) {
                if (added[place] > most) {
                    most = added[place];
                    moment = place * TIME_A_DISTANCE;
                }
            }
            return moment;
        }
    }
}
