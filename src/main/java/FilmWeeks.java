import java.util.Arrays;

/**
 * The office of a festival of films. The words in capitals in the comments are those of DOC.md.
 * All rows are made with the object and used again: no call makes an object or an array.
 */
public final class FilmWeeks {
    public static final int NONE = -1;

    private static final int WRONG_NUMBER = -1;
    private static final int NO_SUCH = -2;
    private static final int BARRED = -3;
    private static final int TWICE = -4;
    private static final int NO_ROOM = -5;
    private static final int NOTHING = -6;

    private static final int MINUTES = 14400;
    private static final int DAY = 1440;
    private static final int TOWNS = 5;
    private static final int HALLS = 4;
    private static final int FILMS = 20;
    private static final int SHOWINGS = 60;

    private static final int FIRST = 1;
    private static final int LATE = 2;

    private static final int COME_FROM = -40;
    private static final int COME_TO = 10;
    private static final int COME_MINUTES = 51;
    private static final int STEPPED_TO = 400;

    private static final int JURORS = 10;
    private static final int VOTES = 5;
    private static final int LAST_KNOWN = 100000;
    private static final int SAW = 0;
    private static final int KIN = 1;

    private final Halls halls;
    private final Films films;
    private final Showings showings;
    private final Bars bars;
    private final Worths worths;
    private final Lateness lateness;
    private final Jury jury;
    private final Rules standing;
    private final Reader reader;
    private final Award award;
    private int refusedBy;

    public FilmWeeks() {
        halls = new Halls();
        films = new Films();
        showings = new Showings();
        bars = new Bars(halls, films, showings);
        worths = new Worths(halls, films, showings, bars);
        lateness = new Lateness(halls, films, showings);
        jury = new Jury();
        standing = new Rules();
        reader = new Reader();
        award = new Award(films, jury, standing);
        refusedBy = 0;
    }

    public int hall(int town, int seats, int clear, int formats) {
        if (!isTown(town) || !within(seats, 1, 2000) || !within(clear, 0, 120) || !within(formats, 1, 15)) {
            return told(WRONG_NUMBER);
        }
        return told(halls.add(town, seats, clear, formats));
    }

    public int film(int minutes, int format, int fame) {
        if (!within(minutes, 1, 300) || !within(format, 0, 3) || !within(fame, 0, 1000)) {
            return told(WRONG_NUMBER);
        }
        return told(films.add(minutes, format, fame));
    }

    public int way(int a, int b, int minutes) {
        if (!isTown(a) || !isTown(b) || a == b || !within(minutes, 0, 2000)) {
            return told(WRONG_NUMBER);
        }
        halls.setWay(a, b, minutes);
        return told(0);
    }

    public int guest(int film, int from, int to) {
        boolean none = from == NONE && to == NONE;
        if (!none && (!isMinute(from) || !isMinute(to) || from > to)) {
            return told(WRONG_NUMBER);
        }
        if (!films.has(film)) {
            return told(NO_SUCH);
        }
        films.setGuest(film, from, to);
        return told(0);
    }

    public int bar(int film, int before, int most, int beside) {
        boolean besideItself = beside != NONE && beside == film;
        if (!isMinute(before) || !within(most, 0, Films.WITHOUT_MOST) || besideItself) {
            return told(WRONG_NUMBER);
        }
        if (!films.has(film) || (beside != NONE && !films.has(beside))) {
            return told(NO_SUCH);
        }
        films.setBars(film, before, most, beside);
        return told(0);
    }

    public int why(int film, int hall, int begin, int sort) {
        return reasonAgainst(film, hall, begin, sort);
    }

    public int put(int film, int hall, int begin, int sort) {
        int reason = reasonAgainst(film, hall, begin, sort);
        if (reason < 0) {
            return told(reason);
        }
        if (reason > 0) {
            return told(BARRED);
        }
        return told(showings.add(film, hall, begin, begin + films.minutes[film], sort));
    }

    public int take(int showing) {
        if (!showings.has(showing)) {
            return told(NO_SUCH);
        }
        showings.there[showing] = false;
        return told(0);
    }

    public int of(int showing, int what) {
        if (!showings.has(showing)) {
            return NONE;
        }
        switch (what) {
            case 0:
                return showings.film[showing];
            case 1:
                return showings.hall[showing];
            case 2:
                return showings.begin[showing];
            case 3:
                return showings.sort[showing];
            case 4:
                return showings.ending[showing];
            case 5:
                return worths.crowdOf(showing);
            case 6:
                return worths.worthOf(showing);
            case 7:
                lateness.reckon();
                return lateness.trueBegin[showing];
            case 8:
                lateness.reckon();
                return lateness.trueEnd[showing];
            default:
                return NONE;
        }
    }

    public int part(int hour, int part) {
        if (!within(hour, 0, 23) || !within(part, 0, 300)) {
            return told(WRONG_NUMBER);
        }
        worths.parts[hour] = part;
        return told(0);
    }

    public int grid() {
        return worths.sum();
    }

    public int hour(int minute) {
        if (!isMinute(minute)) {
            return told(WRONG_NUMBER);
        }
        return told(worths.addHour(minute));
    }

    public int better() {
        return worths.improve();
    }

    public int come(int showing, int m, int people) {
        if (!within(m, COME_FROM, COME_TO) || !within(people, 0, 1000)) {
            return told(WRONG_NUMBER);
        }
        if (!showings.has(showing)) {
            return told(NO_SUCH);
        }
        showings.comers[showing * COME_MINUTES + m - COME_FROM] = people;
        return told(0);
    }

    public int doors(int many) {
        if (!within(many, 1, 500)) {
            return told(WRONG_NUMBER);
        }
        int before = lateness.doorsLet;
        lateness.doorsLet = many;
        return told(before);
    }

    public int delay(int showing, int minutes) {
        if (!within(minutes, 0, 300)) {
            return told(WRONG_NUMBER);
        }
        if (!showings.has(showing)) {
            return told(NO_SUCH);
        }
        showings.delays[showing] = minutes;
        return told(0);
    }

    public int queue(int showing, int m, int what) {
        if (!within(m, COME_FROM, STEPPED_TO) || !within(what, 0, 2) || !showings.has(showing)) {
            return NONE;
        }
        lateness.reckon();
        lateness.step(showing, m);
        if (what == 0) {
            return lateness.inside;
        }
        return what == 1 ? lateness.outside : lateness.inside + lateness.outside;
    }

    public int juror(int age) {
        if (!within(age, 0, 120)) {
            return told(WRONG_NUMBER);
        }
        return told(jury.add(age));
    }

    public int vote(int juror, int film) {
        if (!jury.has(juror) || !films.has(film)) {
            return told(NO_SUCH);
        }
        return told(jury.addVote(juror, film));
    }

    public int clear(int juror) {
        if (!jury.has(juror)) {
            return told(NO_SUCH);
        }
        int before = jury.votesOf[juror];
        jury.votesOf[juror] = 0;
        return told(before);
    }

    public int row(int sort, int juror, int film, int known) {
        if (!within(sort, SAW, KIN) || !isKnown(known)) {
            return told(WRONG_NUMBER);
        }
        if (!jury.has(juror) || !films.has(film)) {
            return told(NO_SUCH);
        }
        return told(jury.addRow(sort, juror, film, known));
    }

    public int feed(int a, int b, int c, int d, int e) {
        if (!reader.hasRoom(20)) {
            return NONE;
        }
        reader.append(a);
        reader.append(b);
        reader.append(c);
        reader.append(d);
        reader.append(e);
        return reader.length;
    }

    public int end(int n) {
        if (!within(n, 0, reader.length)) {
            return NONE;
        }
        reader.length = n;
        return n;
    }

    public int rules() {
        boolean good = reader.read();
        reader.length = 0;
        if (!good) {
            return told(NOTHING);
        }
        standing.become(reader.draft);
        return told(0);
    }

    public int fault() {
        return reader.faultAt;
    }

    public int counts(int juror, int film, int known) {
        if (!isKnown(known)) {
            return WRONG_NUMBER;
        }
        if (!jury.has(juror) || !films.has(film)) {
            return NO_SUCH;
        }
        if (!standing.stand) {
            return NOTHING;
        }
        return jury.votesFor(juror, film) && jury.passes(standing, juror, film, known) ? 1 : 0;
    }

    public int prize(int known) {
        if (!isKnown(known)) {
            return told(WRONG_NUMBER);
        }
        if (!standing.stand) {
            return told(NOTHING);
        }
        int film = award.decide(known);
        return told(film == NONE ? NOTHING : film);
    }

    public int round(int k, int film) {
        if (k == NONE) {
            return award.rounds;
        }
        return award.sumIn(k, film);
    }

    public int count(int what) {
        switch (what) {
            case 0:
                return halls.many;
            case 1:
                return films.many;
            case 2:
                return showings.manyThere();
            case 3:
                return showings.ever;
            case 4:
                return jury.many;
            case 5:
                return jury.rows;
            case 6:
                return worths.hours;
            case 7:
                return reader.length;
            case 8:
                return standing.stand ? standing.numbers : NONE;
            default:
                return NONE;
        }
    }

    public int status() {
        return refusedBy;
    }

    private int told(int answer) {
        refusedBy = Math.min(answer, 0);
        return answer;
    }

    private int reasonAgainst(int film, int hall, int begin, int sort) {
        if (!isMinute(begin) || !within(sort, 0, LATE)) {
            return WRONG_NUMBER;
        }
        if (!films.has(film) || !halls.has(hall)) {
            return NO_SUCH;
        }
        return bars.reason(film, hall, begin, sort, NONE);
    }

    private static boolean within(int number, int least, int most) {
        return number >= least && number <= most;
    }

    private static boolean isTown(int town) {
        return within(town, 0, TOWNS - 1);
    }

    private static boolean isMinute(int minute) {
        return within(minute, 0, MINUTES - 1);
    }

    private static boolean isKnown(int known) {
        return within(known, 0, LAST_KNOWN);
    }

    /** HALLS, and the WAYS between their TOWNS. */
    private static final class Halls {
        final int[] town = new int[HALLS];
        final int[] seats = new int[HALLS];
        final int[] clearing = new int[HALLS];
        final int[] formats = new int[HALLS];
        final int[] ways = new int[TOWNS * TOWNS];
        int many = 0;

        boolean has(int hall) {
            return hall >= 0 && hall < many;
        }

        int add(int itsTown, int itsSeats, int itsClearing, int itsFormats) {
            if (many >= HALLS) {
                return NO_ROOM;
            }
            town[many] = itsTown;
            seats[many] = itsSeats;
            clearing[many] = itsClearing;
            formats[many] = itsFormats;
            many++;
            return many - 1;
        }

        void setWay(int a, int b, int minutes) {
            ways[a * TOWNS + b] = minutes;
            ways[b * TOWNS + a] = minutes;
        }

        int wayBetween(int hall, int other) {
            return ways[town[hall] * TOWNS + town[other]];
        }

        boolean inOneTown(int hall, int other) {
            return town[hall] == town[other];
        }
    }

    /** FILMS with their GUESTS and BARS. */
    private static final class Films {
        static final int WITHOUT_MOST = 60;

        final int[] minutes = new int[FILMS];
        final int[] format = new int[FILMS];
        final int[] fame = new int[FILMS];
        final int[] guestFrom = new int[FILMS];
        final int[] guestTo = new int[FILMS];
        final int[] notBefore = new int[FILMS];
        final int[] atMost = new int[FILMS];
        final int[] notBeside = new int[FILMS];
        int many = 0;

        boolean has(int film) {
            return film >= 0 && film < many;
        }

        int add(int itsMinutes, int itsFormat, int itsFame) {
            if (many >= FILMS) {
                return NO_ROOM;
            }
            minutes[many] = itsMinutes;
            format[many] = itsFormat;
            fame[many] = itsFame;
            setGuest(many, NONE, NONE);
            setBars(many, 0, WITHOUT_MOST, NONE);
            many++;
            return many - 1;
        }

        void setGuest(int film, int from, int to) {
            guestFrom[film] = from;
            guestTo[film] = to;
        }

        void setBars(int film, int before, int most, int beside) {
            notBefore[film] = before;
            atMost[film] = most;
            notBeside[film] = beside;
        }

        boolean guestStays(int film, int begin, int ending) {
            return guestFrom[film] != NONE && guestFrom[film] <= begin && guestTo[film] >= ending;
        }

        // Without this BAR a sixty-first showing is not barred: there is no room for it.
        boolean isBarredAtMost(int film) {
            return atMost[film] != WITHOUT_MOST;
        }

        boolean barOneAnother(int film, int other) {
            return notBeside[film] == other || notBeside[other] == film;
        }
    }

    /** SHOWINGS as told, those taken out too, and who comes to them. */
    private static final class Showings {
        final int[] film = new int[SHOWINGS];
        final int[] hall = new int[SHOWINGS];
        final int[] begin = new int[SHOWINGS];
        final int[] ending = new int[SHOWINGS];
        final int[] sort = new int[SHOWINGS];
        final int[] delays = new int[SHOWINGS];
        final boolean[] there = new boolean[SHOWINGS];
        final int[] comers = new int[SHOWINGS * COME_MINUTES];
        int ever = 0;

        boolean has(int showing) {
            return showing >= 0 && showing < ever && there[showing];
        }

        int add(int itsFilm, int itsHall, int itsBegin, int itsEnding, int itsSort) {
            if (ever >= SHOWINGS) {
                return NO_ROOM;
            }
            film[ever] = itsFilm;
            hall[ever] = itsHall;
            begin[ever] = itsBegin;
            ending[ever] = itsEnding;
            sort[ever] = itsSort;
            there[ever] = true;
            ever++;
            return ever - 1;
        }

        void move(int showing, int toHall, int toBegin) {
            int lasts = ending[showing] - begin[showing];
            hall[showing] = toHall;
            begin[showing] = toBegin;
            ending[showing] = toBegin + lasts;
        }

        boolean runsWithin(int showing, int from, int to) {
            return begin[showing] < to && ending[showing] > from;
        }

        int manyThere() {
            int sum = 0;
            for (int s = 0; s < ever; s++) {
                if (there[s]) {
                    sum++;
                }
            }
            return sum;
        }
    }

    /** WHY a showing can't be; the showing "except" counts as taken out. */
    private static final class Bars {
        final Halls halls;
        final Films films;
        final Showings showings;

        Bars(Halls theHalls, Films theFilms, Showings theShowings) {
            halls = theHalls;
            films = theFilms;
            showings = theShowings;
        }

        int reason(int film, int hall, int begin, int sort, int except) {
            int ending = begin + films.minutes[film];
            if (ending > MINUTES) {
                return 1;
            }
            if ((halls.formats[hall] >> films.format[film] & 1) == 0) {
                return 2;
            }
            if (isHallTaken(hall, begin, ending, except)) {
                return 3;
            }
            if (isPrintAway(film, hall, begin, ending, except)) {
                return 4;
            }
            if (sort == FIRST && !films.guestStays(film, begin, ending)) {
                return 5;
            }
            if (sort == LATE && !isLateHour(begin)) {
                return 6;
            }
            if (begin < films.notBefore[film]) {
                return 7;
            }
            if (films.isBarredAtMost(film) && manyOf(film, except) >= films.atMost[film]) {
                return 8;
            }
            return isBesideBarred(film, hall, begin, ending, except) ? 9 : 0;
        }

        private boolean isHallTaken(int hall, int begin, int ending, int except) {
            int clearing = halls.clearing[hall];
            for (int s = 0; s < showings.ever; s++) {
                if (s != except && showings.there[s] && showings.hall[s] == hall
                        && showings.begin[s] < ending + clearing && showings.ending[s] + clearing > begin) {
                    return true;
                }
            }
            return false;
        }

        private boolean isPrintAway(int film, int hall, int begin, int ending, int except) {
            for (int s = 0; s < showings.ever; s++) {
                if (s == except || !showings.there[s] || showings.film[s] != film) {
                    continue;
                }
                int way = halls.wayBetween(hall, showings.hall[s]);
                boolean behind = begin > showings.begin[s] && begin >= showings.ending[s] + way;
                boolean ahead = begin < showings.begin[s] && showings.begin[s] >= ending + way;
                if (!behind && !ahead) {
                    return true;
                }
            }
            return false;
        }

        private static boolean isLateHour(int begin) {
            int minute = begin % DAY;
            return minute >= 1320 || minute < 120;
        }

        private int manyOf(int film, int except) {
            int sum = 0;
            for (int s = 0; s < showings.ever; s++) {
                if (s != except && showings.there[s] && showings.film[s] == film) {
                    sum++;
                }
            }
            return sum;
        }

        private boolean isBesideBarred(int film, int hall, int begin, int ending, int except) {
            for (int s = 0; s < showings.ever; s++) {
                if (s != except && showings.there[s] && films.barOneAnother(film, showings.film[s])
                        && halls.inOneTown(hall, showings.hall[s]) && showings.runsWithin(s, begin, ending)) {
                    return true;
                }
            }
            return false;
        }
    }

    /** CROWD, WORTH, GRID, and BETTER by HOURS. */
    private static final class Worths {
        static final int MOST_HOURS = 10;
        static final int MOST_CHANGES = 40;

        final Halls halls;
        final Films films;
        final Showings showings;
        final Bars bars;
        final int[] parts = new int[24];
        final int[] hourList = new int[MOST_HOURS];
        // How many run beside each showing: all of them, and all but the one that is tried elsewhere.
        final int[] beside = new int[SHOWINGS];
        final int[] besideWithout = new int[SHOWINGS];
        int hours = 0;
        int bestGrid;
        int bestShowing;
        int bestHall;
        int bestBegin;

        Worths(Halls theHalls, Films theFilms, Showings theShowings, Bars theBars) {
            halls = theHalls;
            films = theFilms;
            showings = theShowings;
            bars = theBars;
            Arrays.fill(parts, 100);
        }

        int addHour(int minute) {
            if (hours >= MOST_HOURS) {
                return NO_ROOM;
            }
            hourList[hours] = minute;
            hours++;
            return hours;
        }

        int crowdOf(int showing) {
            return crowd(showing, manyBeside(showing));
        }

        int worthOf(int showing) {
            return worth(showing, manyBeside(showing));
        }

        int sum() {
            int sum = 0;
            for (int s = 0; s < showings.ever; s++) {
                if (showings.there[s]) {
                    sum += worthOf(s);
                }
            }
            return sum;
        }

        int improve() {
            int changes = 0;
            while (changes < MOST_CHANGES && findBestChange()) {
                showings.move(bestShowing, bestHall, bestBegin);
                changes++;
            }
            hours = 0;
            return changes;
        }

        private boolean findBestChange() {
            countBeside();
            bestShowing = NONE;
            for (int s = 0; s < showings.ever; s++) {
                if (!showings.there[s]) {
                    continue;
                }
                int rest = gridWithout(s);
                for (int hall = 0; hall < halls.many; hall++) {
                    for (int i = 0; i <= hours; i++) {
                        tryAt(s, hall, i < hours ? hourList[i] : showings.begin[s], rest);
                    }
                }
            }
            return bestShowing != NONE;
        }

        private void countBeside() {
            bestGrid = 0;
            for (int s = 0; s < showings.ever; s++) {
                if (showings.there[s]) {
                    beside[s] = manyBeside(s);
                    bestGrid += worth(s, beside[s]);
                }
            }
        }

        private int gridWithout(int showing) {
            int rest = 0;
            for (int s = 0; s < showings.ever; s++) {
                if (s != showing && showings.there[s]) {
                    besideWithout[s] = runBeside(s, showing) ? beside[s] - 1 : beside[s];
                    rest += worth(s, besideWithout[s]);
                }
            }
            return rest;
        }

        private void tryAt(int showing, int hall, int begin, int rest) {
            int film = showings.film[showing];
            int alone = share(film, begin, 0);
            // WHY is dear: it is only asked where GRID could become the greatest yet.
            if (rest + Math.min(alone, halls.seats[hall]) <= bestGrid) {
                return;
            }
            int others = 0;
            int value = rest;
            int ending = begin + films.minutes[film];
            for (int s = 0; s < showings.ever; s++) {
                if (s != showing && showings.there[s] && halls.inOneTown(hall, showings.hall[s])
                        && showings.runsWithin(s, begin, ending)) {
                    others++;
                    value += worth(s, besideWithout[s] + 1) - worth(s, besideWithout[s]);
                }
            }
            value += Math.min(share(film, begin, others), halls.seats[hall]);
            if (value > bestGrid && bars.reason(film, hall, begin, showings.sort[showing], showing) == 0) {
                bestGrid = value;
                bestShowing = showing;
                bestHall = hall;
                bestBegin = begin;
            }
        }

        private int manyBeside(int showing) {
            int sum = 0;
            for (int s = 0; s < showings.ever; s++) {
                if (s != showing && showings.there[s] && runBeside(s, showing)) {
                    sum++;
                }
            }
            return sum;
        }

        private boolean runBeside(int showing, int other) {
            return halls.inOneTown(showings.hall[showing], showings.hall[other])
                    && showings.runsWithin(showing, showings.begin[other], showings.ending[other]);
        }

        private int crowd(int showing, int others) {
            return share(showings.film[showing], showings.begin[showing], others);
        }

        private int worth(int showing, int others) {
            return Math.min(crowd(showing, others), halls.seats[showings.hall[showing]]);
        }

        private int share(int film, int begin, int others) {
            int alone = films.fame[film] * parts[begin % DAY / 60] / 100;
            return others > 0 ? alone / (1 + others) : alone;
        }
    }

    /** TRUE beginnings and ENDS, and the STEPPED QUEUE. */
    private static final class Lateness {
        static final int DOORS_AHEAD = 30;
        static final int DOORS_BEHIND = 10;

        final Halls halls;
        final Films films;
        final Showings showings;
        final int[] order = new int[SHOWINGS];
        final int[] trueBegin = new int[SHOWINGS];
        final int[] trueEnd = new int[SHOWINGS];
        int doorsLet = 50;
        int inside;
        int outside;

        Lateness(Halls theHalls, Films theFilms, Showings theShowings) {
            halls = theHalls;
            films = theFilms;
            showings = theShowings;
        }

        /** Earlier ones first: each then finds the TRUE ENDS that it waits for. */
        void reckon() {
            int many = sortByBegin();
            for (int i = 0; i < many; i++) {
                int showing = order[i];
                int free = Math.max(hallFree(i), printFree(i));
                int begin = Math.max(showings.begin[showing], free);
                trueBegin[showing] = begin;
                trueEnd[showing] = begin + films.minutes[showings.film[showing]] + showings.delays[showing];
            }
        }

        private int sortByBegin() {
            int many = 0;
            for (int s = 0; s < showings.ever; s++) {
                if (showings.there[s]) {
                    int place = many;
                    while (place > 0 && showings.begin[order[place - 1]] > showings.begin[s]) {
                        order[place] = order[place - 1];
                        place--;
                    }
                    order[place] = s;
                    many++;
                }
            }
            return many;
        }

        /** No two in one HALL begin alike (WHY 3), so the first one found on the way back is the one ahead. */
        private int hallFree(int place) {
            int hall = showings.hall[order[place]];
            for (int i = place - 1; i >= 0; i--) {
                int ahead = order[i];
                if (showings.hall[ahead] == hall) {
                    return trueEnd[ahead] + halls.clearing[hall];
                }
            }
            return 0;
        }

        /** No two of one FILM begin alike (WHY 4). The WAY is from the one ahead alone: that is where the PRINT is. */
        private int printFree(int place) {
            int showing = order[place];
            for (int i = place - 1; i >= 0; i--) {
                int ahead = order[i];
                if (showings.film[ahead] == showings.film[showing]) {
                    return trueEnd[ahead] + halls.wayBetween(showings.hall[ahead], showings.hall[showing]);
                }
            }
            return 0;
        }

        /** Needs reckon() ahead of it; leaves who is inside and outside behind minute "last". */
        void step(int showing, int last) {
            int late = trueBegin[showing] - showings.begin[showing];
            int seats = halls.seats[showings.hall[showing]];
            inside = 0;
            outside = 0;
            for (int m = COME_FROM; m <= last; m++) {
                if (m <= COME_TO) {
                    outside += showings.comers[showing * COME_MINUTES + m - COME_FROM];
                }
                if (m >= late - DOORS_AHEAD && m <= late + DOORS_BEHIND) {
                    int go = Math.min(Math.min(doorsLet, outside), seats - inside);
                    inside += go;
                    outside -= go;
                }
            }
        }
    }

    /** Jurors, VOTES, and the ROWS of SAW and KIN. */
    private static final class Jury {
        static final int MOST_ROWS = 100;

        final int[] age = new int[JURORS];
        final int[] votesOf = new int[JURORS];
        final int[] votes = new int[JURORS * VOTES];
        final int[] rowSort = new int[MOST_ROWS];
        final int[] rowJuror = new int[MOST_ROWS];
        final int[] rowFilm = new int[MOST_ROWS];
        final int[] rowKnown = new int[MOST_ROWS];
        int many = 0;
        int rows = 0;

        boolean has(int juror) {
            return juror >= 0 && juror < many;
        }

        int add(int itsAge) {
            if (many >= JURORS) {
                return NO_ROOM;
            }
            age[many] = itsAge;
            many++;
            return many - 1;
        }

        int addVote(int juror, int film) {
            if (votesFor(juror, film)) {
                return TWICE;
            }
            if (votesOf[juror] >= VOTES) {
                return NO_ROOM;
            }
            votes[juror * VOTES + votesOf[juror]] = film;
            votesOf[juror]++;
            return votesOf[juror];
        }

        boolean votesFor(int juror, int film) {
            for (int i = 0; i < votesOf[juror]; i++) {
                if (votes[juror * VOTES + i] == film) {
                    return true;
                }
            }
            return false;
        }

        int addRow(int sort, int juror, int film, int known) {
            if (rows >= MOST_ROWS) {
                return NO_ROOM;
            }
            rowSort[rows] = sort;
            rowJuror[rows] = juror;
            rowFilm[rows] = film;
            rowKnown[rows] = known;
            rows++;
            return rows;
        }

        boolean passes(Rules rules, int juror, int film, int known) {
            return rules.holds(hasRow(SAW, juror, film, known), hasRow(KIN, juror, film, known), age[juror]);
        }

        private boolean hasRow(int sort, int juror, int film, int known) {
            for (int i = 0; i < rows; i++) {
                if (rowSort[i] == sort && rowJuror[i] == juror && rowFilm[i] == film && rowKnown[i] <= known) {
                    return true;
                }
            }
            return false;
        }
    }

    /** RULES: COND with each operator behind what it joins, the NUMBERS of points, TIE. */
    private static final class Rules {
        static final int MOST_NUMBERS = 5;
        static final int MOST_STEPS = 300;
        static final int IS_SAW = 0;
        static final int IS_KIN = 1;
        static final int NOT = 2;
        static final int AND = 3;
        static final int OR = 4;
        // "old" and its NUMBER are one step: this and the NUMBER.
        static final int OLD = 5;
        static final int BY_FILM = 0;
        static final int BY_FAME = 1;
        static final int BY_FIRST = 2;

        final int[] steps = new int[MOST_STEPS];
        final int[] points = new int[MOST_NUMBERS];
        boolean stand = false;
        int manySteps = 0;
        // 0 of rounds, since points have at least one.
        int numbers = 0;
        int tie = BY_FILM;

        void empty() {
            manySteps = 0;
            numbers = 0;
            tie = BY_FILM;
        }

        void addStep(int step) {
            if (manySteps < MOST_STEPS) {
                steps[manySteps] = step;
                manySteps++;
            }
        }

        boolean addNumber(int number) {
            if (numbers >= MOST_NUMBERS) {
                return false;
            }
            points[numbers] = number;
            numbers++;
            return true;
        }

        void become(Rules other) {
            System.arraycopy(other.steps, 0, steps, 0, MOST_STEPS);
            System.arraycopy(other.points, 0, points, 0, MOST_NUMBERS);
            manySteps = other.manySteps;
            numbers = other.numbers;
            tie = other.tie;
            stand = true;
        }

        int pointsAt(int place) {
            return place >= 0 && place < numbers ? points[place] : 0;
        }

        /** The pile is the bits of a number: nine levels with two open sides each are far below 64. */
        boolean holds(boolean saw, boolean kin, int age) {
            long pile = 0;
            for (int i = 0; i < manySteps; i++) {
                int step = steps[i];
                if (step == NOT) {
                    pile ^= 1;
                } else if (step == AND || step == OR) {
                    long right = pile & 1;
                    long left = pile >> 1;
                    pile = step == AND ? left & (right | ~1L) : left | right;
                } else {
                    boolean is = step == IS_SAW ? saw : step == IS_KIN ? kin : age >= step - OLD;
                    pile = pile << 1 | (is ? 1 : 0);
                }
            }
            return (pile & 1) == 1;
        }
    }

    /** The TAPE, and how its TEXT is read as RULES. */
    private static final class Reader {
        static final int MOST_BYTES = 300;
        static final int MOST_DEPTH = 8;
        static final int MOST_NUMBER = 1000;

        final int[] tape = new int[MOST_BYTES];
        final Rules draft = new Rules();
        int length = 0;
        int faultAt = NONE;
        // The TOKEN at hand: where it begins, where the next one may, its NUMBER (NONE of others).
        private int at;
        private int next;
        private int number;

        boolean hasRoom(int bytes) {
            return length + bytes <= MOST_BYTES;
        }

        void append(int four) {
            for (int shift = 24; shift >= 0; shift -= 8) {
                if (length < MOST_BYTES) {
                    tape[length] = four >>> shift & 255;
                    length++;
                }
            }
        }

        /** Nothing is read past a TOKEN that can't go on: the one at hand is then the FAULT. */
        boolean read() {
            draft.empty();
            next = 0;
            advance();
            boolean good = takeWord("count") && takeCond(0) && takeByte(';') && takeManner()
                    && takeByte(';') && takeWord("tie") && takeTie() && at >= length;
            faultAt = good ? NONE : at;
            return good;
        }

        private boolean takeManner() {
            if (takeWord("rounds")) {
                return true;
            }
            if (!takeWord("points") || !takePoints()) {
                return false;
            }
            for (int i = 1; i < Rules.MOST_NUMBERS && number != NONE; i++) {
                if (!takePoints()) {
                    return false;
                }
            }
            return true;
        }

        private boolean takePoints() {
            int points = number;
            return takeNumber() && draft.addNumber(points);
        }

        private boolean takeTie() {
            if (takeWord("fame")) {
                draft.tie = Rules.BY_FAME;
                return true;
            }
            if (takeWord("first")) {
                draft.tie = Rules.BY_FIRST;
                return true;
            }
            return takeWord("film");
        }

        private boolean takeCond(int depth) {
            boolean good = takeAnd(depth);
            for (int i = 0; i < MOST_BYTES && good && takeWord("or"); i++) {
                good = takeAnd(depth);
                draft.addStep(Rules.OR);
            }
            return good;
        }

        private boolean takeAnd(int depth) {
            boolean good = takeNot(depth);
            for (int i = 0; i < MOST_BYTES && good && takeWord("and"); i++) {
                good = takeNot(depth);
                draft.addStep(Rules.AND);
            }
            return good;
        }

        private boolean takeNot(int depth) {
            if (depth < MOST_DEPTH && takeWord("not")) {
                boolean good = takeNot(depth + 1);
                draft.addStep(Rules.NOT);
                return good;
            }
            if (depth < MOST_DEPTH && takeByte('(')) {
                return takeCond(depth + 1) && takeByte(')');
            }
            return takeAsked();
        }

        private boolean takeAsked() {
            if (takeWord("saw")) {
                draft.addStep(Rules.IS_SAW);
                return true;
            }
            if (takeWord("kin")) {
                draft.addStep(Rules.IS_KIN);
                return true;
            }
            if (!takeWord("old")) {
                return false;
            }
            int years = number;
            if (!takeNumber()) {
                return false;
            }
            draft.addStep(Rules.OLD + years);
            return true;
        }

        private boolean takeNumber() {
            if (number == NONE || number > MOST_NUMBER) {
                return false;
            }
            advance();
            return true;
        }

        private boolean takeByte(char wanted) {
            if (at >= length || tape[at] != wanted) {
                return false;
            }
            advance();
            return true;
        }

        private boolean takeWord(String word) {
            if (next - at != word.length()) {
                return false;
            }
            for (int i = 0; i < word.length(); i++) {
                if (at + i >= length || tape[at + i] != word.charAt(i)) {
                    return false;
                }
            }
            advance();
            return true;
        }

        private void advance() {
            at = next;
            while (at < length && tape[at] == ' ') {
                at++;
            }
            next = at;
            number = NONE;
            if (at >= length) {
                return;
            }
            int first = tape[at];
            if (first >= 'a' && first <= 'z') {
                while (next < length && tape[next] >= 'a' && tape[next] <= 'z') {
                    next++;
                }
            } else if (first >= '0' && first <= '9') {
                number = 0;
                while (next < length && tape[next] >= '0' && tape[next] <= '9') {
                    // Once beyond the greatest NUMBER it stays so: a long row of digits can't wrap around.
                    if (number <= MOST_NUMBER) {
                        number = number * 10 + tape[next] - '0';
                    }
                    next++;
                }
            } else {
                next++;
            }
        }
    }

    /** The latest PRIZE with its ROUNDS. */
    private static final class Award {
        final Films films;
        final Jury jury;
        final Rules rules;
        // Each juror's FILMS that COUNT, in order.
        final int[] counted = new int[JURORS * VOTES];
        final int[] countedOf = new int[JURORS];
        final int[] firsts = new int[FILMS];
        final boolean[] running = new boolean[FILMS];
        final int[] sums = new int[FILMS * FILMS];
        int rounds = NONE;

        Award(Films theFilms, Jury theJury, Rules theRules) {
            films = theFilms;
            jury = theJury;
            rules = theRules;
        }

        int sumIn(int k, int film) {
            if (k < 0 || k >= rounds || k >= FILMS || film < 0 || film >= FILMS) {
                return NONE;
            }
            return sums[k * FILMS + film];
        }

        int decide(int known) {
            rounds = 0;
            gather(known);
            return rules.numbers > 0 ? decideByPoints() : decideByRounds();
        }

        private void gather(int known) {
            for (int film = 0; film < FILMS; film++) {
                running[film] = false;
                firsts[film] = 0;
            }
            for (int juror = 0; juror < jury.many; juror++) {
                int many = 0;
                for (int i = 0; i < jury.votesOf[juror]; i++) {
                    int film = jury.votes[juror * VOTES + i];
                    if (jury.passes(rules, juror, film, known)) {
                        counted[juror * VOTES + many] = film;
                        many++;
                        running[film] = true;
                    }
                }
                countedOf[juror] = many;
                if (many > 0) {
                    firsts[counted[juror * VOTES]]++;
                }
            }
        }

        private int decideByPoints() {
            openRound(0);
            for (int juror = 0; juror < jury.many; juror++) {
                for (int i = 0; i < countedOf[juror]; i++) {
                    sums[counted[juror * VOTES + i]] += rules.pointsAt(i);
                }
            }
            int film = foremost(0);
            rounds = film == NONE ? 0 : 1;
            return film;
        }

        // Each round but the last puts one FILM out, so there are at most as many as FILMS.
        private int decideByRounds() {
            for (int k = 0; k < FILMS; k++) {
                openRound(k);
                int given = giveFirsts(k);
                int film = foremost(k);
                if (film == NONE) {
                    return NONE;
                }
                rounds = k + 1;
                if (2 * sums[k * FILMS + film] > given) {
                    return film;
                }
                putOutHindmost(k);
            }
            return NONE;
        }

        private void openRound(int k) {
            for (int film = 0; film < FILMS; film++) {
                sums[k * FILMS + film] = running[film] ? 0 : NONE;
            }
        }

        private int giveFirsts(int k) {
            int given = 0;
            for (int juror = 0; juror < jury.many; juror++) {
                for (int i = 0; i < countedOf[juror]; i++) {
                    int film = counted[juror * VOTES + i];
                    if (running[film]) {
                        sums[k * FILMS + film]++;
                        given++;
                        break;
                    }
                }
            }
            return given;
        }

        private int foremost(int k) {
            int best = NONE;
            for (int film = 0; film < FILMS; film++) {
                if (running[film] && (best == NONE || isAhead(k, film, best))) {
                    best = film;
                }
            }
            return best;
        }

        private void putOutHindmost(int k) {
            int worst = NONE;
            for (int film = 0; film < FILMS; film++) {
                if (running[film] && (worst == NONE || isAhead(k, worst, film))) {
                    worst = film;
                }
            }
            if (worst != NONE) {
                running[worst] = false;
            }
        }

        private boolean isAhead(int k, int film, int other) {
            int sum = sums[k * FILMS + film];
            int otherSum = sums[k * FILMS + other];
            if (sum != otherSum) {
                return sum > otherSum;
            }
            if (rules.tie == Rules.BY_FAME && films.fame[film] != films.fame[other]) {
                return films.fame[film] > films.fame[other];
            }
            if (rules.tie == Rules.BY_FIRST && firsts[film] != firsts[other]) {
                return firsts[film] > firsts[other];
            }
            return film < other;
        }
    }
}
