import java.util.ArrayList;
import java.util.Arrays;
import java.util.List;

// Long runs of calls, of a fixed seed each, on the class and on a model that goes by the
// document's words in the dullest way: no row is looked ahead, no order is passed over.
public final class AgainstPlainModelTest {
    private static final int RUNS = 1000, CALLS = 512, WRONG = -100000;

    public static void main(String[] args) {
        int wrong = 0;
        for (int run = 0; run < RUNS && wrong < 5; run++) {
            wrong += new Run(run).failures();
        }
        System.out.println(RUNS + " runs of " + CALLS + " calls, " + wrong + " not as due");
        if (wrong != 0) {
            System.exit(1);
        }
    }

    // ---- a run

    private static final class Run {
        final int number;
        long state;
        final AHundredSights x = new AHundredSights();
        final Model m = new Model();
        final List<String> told = new ArrayList<>();
        int calls = 0;
        // Some runs never leave the common numbers, so that they come far.
        final int oddness;

        Run(int number) {
            this.number = number;
            this.state = number * 7919L + 17;
            this.oddness = number % 4 == 0 ? 6 : 60;
        }

        int below(int bound) {
            state = state * 6364136223846793005L + 1442695040888963407L;
            return (int) ((state >>> 33) % bound);
        }

        /** Mostly 0 .. most, now and then a number that is not. */
        int upTo(int most) {
            if (below(oddness) != 0) {
                return below(most + 1);
            }
            int[] odd = {-1, most + 1, -2147483647 - 1, 2147483647, -7, most + 100};
            return odd[below(odd.length)];
        }

        boolean same(String call, long got, long want) {
            calls++;
            told.add(call + " = " + got);
            if (got == want) {
                return true;
            }
            System.out.println("run " + number + ", call " + calls + ": " + call + " answered " + got + ", due is " + want);
            for (String line : told.subList(Math.max(0, told.size() - 25), told.size())) {
                System.out.println("    " + line);
            }
            return false;
        }

        int failures() {
            int first = 2 + below(6);
            for (int i = 0; i < first; i++) {
                if (!sight()) {
                    return 1;
                }
            }
            while (calls < CALLS) {
                if (!step()) {
                    return 1;
                }
            }
            return 0;
        }

        boolean sight() {
            int kind = upTo(5), number = upTo(9), spot = upTo(99);
            return same("sight(" + kind + "," + number + "," + spot + ")", x.sight(kind, number, spot), m.sight(kind, number, spot));
        }

        boolean step() {
            int part = below(100);
            if (part < 20) {
                return set();
            } else if (part < 22) {
                return filmAndLists();
            } else if (part < 25) {
                return sight();
            } else if (part < 28) {
                return texts();
            } else if (part < 45) {
                return sheets();
            } else if (part < 65) {
                return nights();
            } else if (part < 82) {
                return bests();
            }
            return others();
        }

        boolean set() {
            int[] most = {9, 9, 9, 199, 199, 99, 199, 199, 9, 99, 199, 199, 99};
            int what = upTo(12);
            int of = upTo(6);
            int v = what >= 0 && what < 13 ? upTo(most[what]) : upTo(99);
            if ((what == 10 || what == 1 || what == 3) && below(2) == 0) {
                v = upTo(what == 1 ? 4 : 40);
            }
            return same("set(" + what + "," + of + "," + v + ")", x.set(what, of, v), m.set(what, of, v));
        }

        boolean texts() {
            String[] heads = {"turns ", "finds ", "waits "};
            StringBuilder text = new StringBuilder();
            for (String head : heads) {
                text.append(head).append(expression(3)).append(below(2) == 0 ? " ;" : ";\n");
            }
            for (int i = below(3); i > 0 && below(3) == 0; i--) {
                String odd = "();+-*<=019az \n\t!\u00ff";
                int at = below(text.length());
                if (below(2) == 0) {
                    text.setCharAt(at, odd.charAt(below(odd.length())));
                } else {
                    text.deleteCharAt(at);
                }
            }
            if (text.length() > 170 || calls + text.length() > CALLS) {
                int letter = upTo(255);
                return same("feed(" + letter + ")", x.feed(letter), m.feed(letter));
            }
            for (int i = 0; i < text.length(); i++) {
                int letter = text.charAt(i);
                if (!same("feed(" + letter + ")", x.feed(letter), m.feed(letter))) {
                    return false;
                }
            }
            told.add(text.toString());
            if (!same("text()", x.text(), m.text())) {
                return false;
            }
            int newest = x.count(1) - 1;
            return same("force(" + newest + ")", x.force(newest), m.force(newest));
        }

        String expression(int depth) {
            String[] names = {"tick", "far", "moon", "number", "height", "order"};
            String[] joints = {" + ", "-", "*", " < ", "=", " and ", " or ", " + ", " - "};
            int way = below(depth <= 0 ? 5 : 14);
            if (way < 3) {
                return names[below(6)];
            } else if (way < 5) {
                return String.valueOf(below(3) == 0 ? below(10000) : below(12));
            } else if (way == 5) {
                return "(" + expression(depth - 1) + ")";
            } else if (way == 6) {
                return "-" + expression(depth - 1);
            } else if (way == 7) {
                return "not " + expression(depth - 1);
            }
            return expression(depth - 1) + joints[below(joints.length)] + expression(depth - 1);
        }

        boolean sheets() {
            int sheet = upTo(3);
            switch (below(9)) {
                case 0: {
                    int sort = below(8) == 0 ? -1 : upTo(2), n = below(2) == 0 ? m.sights.size() : upTo(40);
                    return same("sheet(" + sheet + "," + sort + "," + n + ")", x.sheet(sheet, sort, n), m.sheet(sheet, sort, n));
                }
                case 1: {
                    int other = upTo(3), i = upTo(8), j = upTo(8), n = upTo(8);
                    return same("copy(" + sheet + "," + i + "," + other + "," + j + "," + n + ")",
                        x.copy(sheet, i, other, j, n), m.copy(sheet, i, other, j, n));
                }
                case 2: {
                    int sort = upTo(2), from = upTo(6), n = upTo(7);
                    return same("sights(" + sheet + "," + sort + "," + from + "," + n + ")",
                        x.sights(sheet, sort, from, n), m.sights(sheet, sort, from, n));
                }
                case 3: return anOrder(sheet);
                case 4: return same("film(" + sheet + ")", x.film(sheet), m.film(sheet));
                default: {
                    int i = upTo(8), v = below(3) == 0 ? upTo(70000) : upTo(199);
                    return same("cell(" + sheet + "," + i + "," + v + ")", x.cell(sheet, i, v), m.cell(sheet, i, v));
                }
            }
        }

        /** Of a list that is so, and of one that differs in one item at most. */
        boolean filmAndLists() {
            int sheet = below(4), what = below(2) == 0 ? below(5) : 10 + below(2) * 10 + below(7);
            if (!same("film(" + sheet + ")", x.film(sheet), m.film(sheet))) {
                return false;
            }
            if (below(3) == 0 && !m.sights.isEmpty()) {
                int i = below(m.sights.size()), v = below(4) == 0 ? -1 : below(200);
                if (!same("cell(" + sheet + "," + i + "," + v + ")", x.cell(sheet, i, v), m.cell(sheet, i, v))) {
                    return false;
                }
            }
            if (below(2) == 0 && !set()) {
                return false;
            }
            return same("lists(" + sheet + "," + what + ")", x.lists(sheet, what), m.lists(sheet, what));
        }

        boolean anOrder(int sheet) {
            int size = m.sights.size(), sort = below(3);
            if (!same("sheet(" + sheet + "," + sort + "," + size + ")", x.sheet(sheet, sort, size), m.sheet(sheet, sort, size))) {
                return false;
            }
            List<Integer> left = new ArrayList<>();
            for (int i = 0; i < size; i++) {
                left.add(i);
            }
            for (int i = 0; i < size; i++) {
                int v = left.remove(below(left.size()));
                if (!same("cell(" + sheet + "," + i + "," + v + ")", x.cell(sheet, i, v), m.cell(sheet, i, v))) {
                    return false;
                }
            }
            int what = asked();
            return same("order(" + sheet + "," + what + ")", x.order(sheet, what), m.order(sheet, what));
        }

        int asked() {
            int way = below(4);
            return way == 0 ? 10 + below(7) : way == 1 ? 20 + below(7) : way == 2 ? upTo(4) : upTo(30);
        }

        boolean nights() {
            int what = asked(), sheet = upTo(3);
            if (below(3) == 0) {
                return same("order(" + sheet + "," + what + ")", x.order(sheet, what), m.order(sheet, what));
            }
            return same("night(" + what + ")", x.night(what), m.night(what));
        }

        boolean bests() {
            int what = upTo(1), n = 1 + upTo(98);
            switch (below(12)) {
                case 0: return m.sights.size() == 7 && below(8) != 0
                    || same("best(" + what + ")", x.best(what), m.best(what));
                case 1: return same("setting(" + what + ")", x.setting(what), m.setting(what));
                case 2: return same("late()", x.late(), m.late());
                case 3: case 4: return same("sleep(" + n + "," + what + ")", x.sleep(n, what), m.sleep(n, what));
                case 5: case 6: return same("moon(" + what + ")", x.moon(what), m.moon(what));
                case 7: case 8: return same("leave(" + what + ")", x.leave(what), m.leave(what));
                case 9: case 10: return same("two(" + what + ")", x.two(what), m.two(what));
                default: return same("cloud()", x.cloud(), m.cloud());
            }
        }

        boolean others() {
            int sheet = upTo(3), of = upTo(6), what = upTo(14), tick = upTo(199), k = upTo(5);
            switch (below(13)) {
                case 0: case 1: case 2: {
                    int ask = below(3) == 0 ? asked() : upTo(4);
                    return same("lists(" + sheet + "," + ask + ")", x.lists(sheet, ask), m.lists(sheet, ask));
                }
                case 3: return same("drawn(" + (what * tick) + ")", x.drawn(what * tick), m.drawn(what * tick));
                case 4: {
                    int n = 1 + upTo(19), part = upTo(1);
                    return same("chance(" + tick + "," + n + "," + part + ")", x.chance(tick, n, part), m.chance(tick, n, part));
                }
                case 5: return below(3) != 0 || same("image()", x.image(), m.image());
                case 6: return below(3) != 0 || same("back()", x.back(), m.back());
                case 7: return same("count(" + k + ")", x.count(k), m.count(k));
                case 8: return same("told(" + of + "," + what + ")", x.told(of, what), m.told(of, what));
                case 9: case 10: {
                    int way = upTo(1);
                    return same("shines(" + of + "," + tick + "," + way + ")", x.shines(of, tick, way), m.shines(of, tick, way));
                }
                case 11: return same("force(" + k + ")", x.force(k), m.force(k));
                default: return same("taken(" + of + "," + k + ")", x.taken(of, k), m.taken(of, k));
            }
        }
    }

    // ---- the model

    private interface E {
        int of(int[] names);
    }

    private static final class Rule {
        E turns, finds, waits;
    }

    private static final class One implements Cloneable {
        int kind, number, spot, rise, set, worth;

        One(int kind, int number, int spot, int rise, int set, int worth) {
            this.kind = kind;
            this.number = number;
            this.spot = spot;
            this.rise = rise;
            this.set = set;
            this.worth = worth;
        }

        One copy() {
            return new One(kind, number, spot, rise, set, worth);
        }

        boolean is(int k) {
            return kind == k || k == 0 || kind == 3 && k == 1 || kind == 4 && k == 2;
        }

        boolean shines(int t) {
            boolean asSight = t >= rise && t <= set;
            if (is(1)) {
                return t >= rise + number && asSight;
            }
            if (is(2)) {
                return asSight || t > set && t <= set + number;
            }
            return kind == 5 ? asSight && t % (number + 2) != 0 : asSight;
        }

        int needs(int v, int moon) {
            int[] all = {v, v + moon, v / 2, 2 * (v + moon), v / 2 + number, v};
            return Math.max(1, all[kind]);
        }

        int pays() {
            int[] all = {worth, worth + number, worth, 2 * (worth + number), worth + 1, worth};
            return all[kind];
        }
    }

    private static final class Seen {
        int worth, found, many, tick, waited;
        int[] foundIn = new int[7], waitedFor = new int[7];
    }

    private static final class Row {
        int sort;
        int[] items;

        Row(int sort, int n) {
            this.sort = sort;
            this.items = new int[n];
        }

        void put(int i, int v) {
            items[i] = sort == 0 ? (byte) v : sort == 1 ? (short) v : v;
        }
    }

    private static final class Model {
        List<One> sights = new ArrayList<>();
        int[] dials = {0, 9, 0, 199, 0, 0, 0, 199};
        List<Rule> texts = new ArrayList<>();
        int rule = 0;
        StringBuilder tape = new StringBuilder();
        Row[] rows = new Row[4];
        List<One> keptSights;
        int[] keptDials;
        int keptRule;

        Model() {
            tape.append("turns far ; finds 5 ; waits 0 ;");
            text();
        }

        boolean none(int v, int bound) {
            return v < 0 || v >= bound;
        }

        int set(int what, int of, int v) {
            int[] most = {9, 9, 9, 199, 199, 99, 199, 199, 9, 99, 199, 199, 99};
            if (none(what, 13) || what > 7 && none(of, sights.size()) || v < 0 || v > most[what]) {
                return -2;
            }
            int was = told(of, what);
            if (what < 8) {
                dials[what] = v;
                return was;
            }
            One s = sights.get(of);
            if (what == 10 && v > s.set || what == 11 && v < s.rise) {
                return -2;
            }
            switch (what) {
                case 8: s.number = v; break;
                case 9: s.spot = v; break;
                case 10: s.rise = v; break;
                case 11: s.set = v; break;
                default: s.worth = v; break;
            }
            return was;
        }

        int sight(int kind, int number, int spot) {
            if (none(kind, 6) || none(number, 10) || none(spot, 100)) {
                return -2;
            }
            if (sights.size() == 7) {
                return -4;
            }
            sights.add(new One(kind, number, spot, 0, 199, 10));
            return sights.size() - 1;
        }

        int told(int of, int what) {
            if (none(what, 15) || what > 7 && none(of, sights.size())) {
                return -2;
            }
            if (what < 8) {
                return dials[what];
            }
            One s = sights.get(of);
            return new int[] {s.number, s.spot, s.rise, s.set, s.worth, s.kind, s.pays()}[what - 8];
        }

        boolean clouded(One s, int t) {
            int x = s.spot % 10;
            return dials[1] <= x && x <= dials[2] && dials[3] <= t && t <= dials[4];
        }

        int shines(int sight, int tick, int what) {
            if (none(sight, sights.size()) || none(tick, 200) || none(what, 2)) {
                return -2;
            }
            One s = sights.get(sight);
            return (what == 0 ? s.shines(tick) : clouded(s, tick)) ? 1 : 0;
        }

        int feed(int letter) {
            if (none(letter, 256)) {
                return -2;
            }
            if (tape.length() == 160) {
                return -4;
            }
            tape.append((char) letter);
            return tape.length();
        }

        int text() {
            if (texts.size() == 6) {
                return -4;
            }
            Grammar grammar = new Grammar(tape.toString());
            tape.setLength(0);
            try {
                texts.add(grammar.rule());
                return texts.size() - 1;
            } catch (Fault fault) {
                return -100 - fault.place;
            }
        }

        int force(int text) {
            if (none(text, texts.size())) {
                return -2;
            }
            int was = rule;
            rule = text;
            return was;
        }

        int bounded(int v, int least, int most) {
            return v < least ? least : v > most ? most : v;
        }

        Seen walk(List<Integer> order, int sleepAhead, int n) {
            Seen seen = new Seen();
            Arrays.fill(seen.foundIn, -1);
            Arrays.fill(seen.waitedFor, -1);
            Rule by = texts.get(rule);
            int spot = dials[5];
            int now = dials[6];
            for (int place = 0; place < order.size(); place++) {
                One s = sights.get(order.get(place));
                if (place == sleepAhead) {
                    now += n;
                }
                int far = Math.max(Math.abs(spot % 10 - s.spot % 10), Math.abs(spot / 10 - s.spot / 10));
                int turned = now + bounded(by.turns.of(new int[] {now, far, dials[0], s.number, s.spot / 10, place}), 0, 50);
                int[] names = {turned, far, dials[0], s.number, s.spot / 10, place};
                int needs = s.needs(bounded(by.finds.of(names), 1, 99), dials[0]);
                int w = firstOf(s, turned, needs);
                if (w < 0) {
                    continue;
                }
                int cost = bounded(by.waits.of(names), 0, 9);
                seen.worth += s.pays() - cost * (w - turned);
                seen.waited += w - turned;
                seen.found |= 1 << order.get(place);
                seen.many++;
                seen.foundIn[order.get(place)] = w + needs - 1;
                seen.waitedFor[order.get(place)] = w - turned;
                spot = s.spot;
                now = w + needs;
            }
            seen.tick = now;
            return seen;
        }

        int firstOf(One s, int turned, int needs) {
            for (int w = turned; w - turned <= dials[7]; w++) {
                boolean good = true;
                for (int t = w; t < w + needs && good; t++) {
                    good = t <= 199 && s.shines(t) && !clouded(s, t);
                }
                if (good) {
                    return w;
                }
            }
            return -1;
        }

        List<Integer> some(int bits) {
            List<Integer> order = new ArrayList<>();
            for (int i = 0; i < sights.size(); i++) {
                if ((bits & 1 << i) != 0) {
                    order.add(i);
                }
            }
            return order;
        }

        Seen plain() {
            return walk(some(127), -1, 0);
        }

        boolean asks(int what) {
            return what >= 0 && what < 5 || what >= 10 && what < 30 && what % 10 < sights.size();
        }

        int answer(Seen seen, int what) {
            int[] first = {seen.worth, seen.many, seen.found, seen.tick, seen.waited};
            return what < 5 ? first[what] : what < 20 ? seen.foundIn[what - 10] : seen.waitedFor[what - 20];
        }

        int night(int what) {
            return asks(what) ? answer(plain(), what) : WRONG;
        }

        int order(int sheet, int what) {
            if (none(sheet, 4) || !asks(what) || rows[sheet] == null) {
                return WRONG;
            }
            List<Integer> order = new ArrayList<>();
            for (int v : rows[sheet].items) {
                order.add(v);
            }
            List<Integer> sorted = new ArrayList<>(order);
            sorted.sort(null);
            return sorted.equals(some(127)) ? answer(walk(order, -1, 0), what) : WRONG;
        }

        int digits(List<Integer> order) {
            int digits = 0;
            for (int i : order) {
                digits = digits * 10 + i + 1;
            }
            return digits;
        }

        void orders(List<Integer> ahead, List<List<Integer>> all) {
            if (ahead.size() == sights.size()) {
                all.add(new ArrayList<>(ahead));
            }
            for (int i = 0; i < sights.size(); i++) {
                if (!ahead.contains(i)) {
                    ahead.add(i);
                    orders(ahead, all);
                    ahead.remove(ahead.size() - 1);
                }
            }
        }

        int best(int what) {
            if (none(what, 2)) {
                return WRONG;
            }
            List<List<Integer>> all = new ArrayList<>();
            orders(new ArrayList<>(), all);
            List<Integer> best = all.get(0);
            int most = walk(best, -1, 0).worth;
            for (List<Integer> order : all) {
                int worth = walk(order, -1, 0).worth;
                if (worth > most) {
                    most = worth;
                    best = order;
                }
            }
            return what == 0 ? most : digits(best);
        }

        int setting(int what) {
            if (none(what, 2)) {
                return WRONG;
            }
            List<Integer> order = some(127);
            order.sort((a, b) -> sights.get(a).set != sights.get(b).set ? sights.get(a).set - sights.get(b).set : a - b);
            return what == 0 ? walk(order, -1, 0).worth : digits(order);
        }

        int late() {
            int now = plain().many, was = dials[6], late = -1;
            for (int t = 0; t < 200; t++) {
                dials[6] = t;
                late = plain().many >= now ? t : late;
            }
            dials[6] = was;
            return late;
        }

        int sleep(int n, int what) {
            if (n < 1 || n > 99 || none(what, 2)) {
                return WRONG;
            }
            int k = 0;
            for (int i = 1; i <= sights.size(); i++) {
                k = walk(some(127), i, n).worth > walk(some(127), k, n).worth ? i : k;
            }
            return what == 0 ? k : walk(some(127), k, n).worth;
        }

        int moon(int what) {
            if (none(what, 2)) {
                return WRONG;
            }
            int was = dials[0], best = 0, most = -99999;
            for (int moon = 0; moon < 10; moon++) {
                dials[0] = moon;
                int worth = plain().worth;
                if (worth > most) {
                    most = worth;
                    best = moon;
                }
            }
            dials[0] = was;
            return what == 0 ? best : most;
        }

        int leave(int what) {
            if (none(what, 2)) {
                return WRONG;
            }
            int out = -1, most = plain().worth;
            for (int i = 0; i < sights.size(); i++) {
                int worth = walk(some(127 - (1 << i)), -1, 0).worth;
                if (worth > most) {
                    most = worth;
                    out = i;
                }
            }
            return what == 0 ? out : most;
        }

        int two(int what) {
            if (none(what, 2)) {
                return WRONG;
            }
            int best = 0, most = -99999;
            for (int bits = 0; bits < 1 << sights.size(); bits++) {
                int worth = walk(some(bits), -1, 0).worth + walk(some(127 - bits), -1, 0).worth;
                if (worth > most) {
                    most = worth;
                    best = bits;
                }
            }
            return what == 0 ? best : most;
        }

        int worthBy(int left, int right, int first, int last) {
            int[] was = dials;
            dials = dials.clone();
            dials[1] = left;
            dials[2] = right;
            dials[3] = first;
            dials[4] = last;
            int worth = plain().worth;
            dials = was;
            return worth;
        }

        int cloud() {
            return worthBy(9, 0, 0, 199) - plain().worth;
        }

        int unlike(int[] list) {
            Seen seen = plain();
            int bits = 0;
            for (int i = 0; i < list.length; i++) {
                bits |= seen.foundIn[i] != list[i] ? 1 << i : 0;
            }
            return bits;
        }

        int lists(int sheet, int what) {
            if (none(sheet, 4) || none(what, 5) && (what < 10 || !asks(what))) {
                return -2;
            }
            if (rows[sheet] == null) {
                return -11;
            }
            int[] list = rows[sheet].items;
            if (list.length != sights.size()) {
                return -2;
            }
            int[] wasDials = dials.clone();
            int wasRule = rule, bits = 0, many = 0, least = -1;
            if (what == 0) {
                bits = unlike(list);
            }
            for (int spot = 0; what > 0 && what < 3 && spot < 100; spot++) {
                dials[5] = spot;
                if (unlike(list) == 0) {
                    many++;
                    least = least < 0 ? spot : least;
                }
            }
            for (int moon = 0; what == 3 && moon < 10; moon++) {
                dials[0] = moon;
                bits |= unlike(list) == 0 ? 1 << moon : 0;
            }
            for (int text = 0; what == 4 && text < texts.size(); text++) {
                rule = text;
                bits |= unlike(list) == 0 ? 1 << text : 0;
            }
            if (what >= 10) {
                One was = sights.get(what % 10);
                for (int v = 0; v < (what < 20 ? 6 : 10); v++) {
                    One tried = was.copy();
                    if (what < 20) {
                        tried.kind = v;
                    } else {
                        tried.number = v;
                    }
                    sights.set(what % 10, tried);
                    bits |= unlike(list) == 0 ? 1 << v : 0;
                }
                sights.set(what % 10, was);
            }
            dials = wasDials;
            rule = wasRule;
            return what == 1 ? many : what == 2 ? least : bits;
        }

        int film(int sheet) {
            if (none(sheet, 4)) {
                return -2;
            }
            rows[sheet] = new Row(1, sights.size());
            Seen seen = plain();
            for (int i = 0; i < sights.size(); i++) {
                rows[sheet].put(i, seen.foundIn[i]);
            }
            return sights.size();
        }

        int drawn(int seed) {
            int z1 = seed * 1103515245 + 12345, z2 = z1 * 1103515245 + 12345;
            int z3 = z2 * 1103515245 + 12345, z4 = z3 * 1103515245 + 12345;
            return worthBy((z1 >>> 9) % 10, (z2 >>> 9) % 10, (z3 >>> 9) % 200, (z4 >>> 9) % 200);
        }

        long chance(int seed, int n, int part) {
            if (n < 1 || n > 20 || none(part, 2)) {
                return -4611686018427387904L;
            }
            int good = 0;
            for (int i = 0; i < n; i++) {
                good += drawn(seed + i) >= worthBy(9, 0, 0, 199) ? 1 : 0;
            }
            int a = good, b = n;
            while (b != 0) {
                int rest = a % b;
                a = b;
                b = rest;
            }
            return part == 0 ? good / a : n / a;
        }

        List<One> copies(List<One> all) {
            List<One> copies = new ArrayList<>();
            for (One one : all) {
                copies.add(one.copy());
            }
            return copies;
        }

        int image() {
            keptSights = copies(sights);
            keptDials = dials.clone();
            keptRule = rule;
            return sights.size();
        }

        int back() {
            if (keptSights == null) {
                return -3;
            }
            sights = copies(keptSights);
            dials = keptDials.clone();
            rule = keptRule;
            return sights.size();
        }

        int count(int what) {
            return none(what, 4) ? -2 : new int[] {sights.size(), texts.size(), tape.length(), rule}[what];
        }

        int sheet(int sheet, int sort, int n) {
            if (none(sheet, 4) || sort != -1 && none(sort, 3)) {
                return -2;
            }
            if (sort != -1 && (n > 40 || n < 0)) {
                return n < 0 ? -14 : -2;
            }
            rows[sheet] = sort == -1 ? null : new Row(sort, n);
            return 1;
        }

        int cell(int sheet, int i, int v) {
            if (none(sheet, 4)) {
                return -2;
            }
            if (rows[sheet] == null) {
                return -11;
            }
            if (none(i, rows[sheet].items.length)) {
                return -12;
            }
            rows[sheet].put(i, v);
            return 1;
        }

        int copy(int sheet, int i, int other, int j, int n) {
            if (none(sheet, 4) || none(other, 4)) {
                return -2;
            }
            Row a = rows[sheet], b = rows[other];
            if (a == null || b == null) {
                return -11;
            }
            if (a.sort != b.sort) {
                return -13;
            }
            if (i < 0 || j < 0 || n < 0 || (long) i + n > a.items.length || (long) j + n > b.items.length) {
                return -12;
            }
            int[] were = a.items.clone();
            for (int k = 0; k < n; k++) {
                b.items[j + k] = were[i + k];
            }
            return n;
        }

        int sights(int sheet, int sort, int from, int n) {
            if (none(sheet, 4) || none(sort, 3) || none(n, 8)) {
                return -2;
            }
            if (rows[sheet] == null) {
                return -11;
            }
            if (rows[sheet].sort != sort) {
                return -13;
            }
            int[] items = rows[sheet].items;
            int came = 0;
            for (int k = 0; k < n; k++) {
                long at = from + 3L * k;
                if (at < 0 || at + 2 >= items.length) {
                    return -12;
                }
                came += sight(items[(int) at], items[(int) at + 1], items[(int) at + 2]) >= 0 ? 1 : 0;
            }
            return came;
        }

        int taken(int sight, int k) {
            if (none(k, 6)) {
                return -2;
            }
            if (none(sight, sights.size())) {
                return -11;
            }
            return sights.get(sight).is(k) ? sights.get(sight).number : -13;
        }
    }

    // ---- the model's texts

    private static final class Fault extends Exception {
        private static final long serialVersionUID = 1L;
        final int place;

        Fault(int place) {
            this.place = place;
        }
    }

    private static final class Grammar {
        final List<String> tokens = new ArrayList<>();
        final List<Integer> places = new ArrayList<>();
        int at = 0;

        Grammar(String text) {
            java.util.regex.Matcher matcher = java.util.regex.Pattern
                .compile("[a-z]+|[0-9]+|[();+\\-*<=]|[^ \\n]", java.util.regex.Pattern.DOTALL).matcher(text);
            while (matcher.find()) {
                tokens.add(matcher.group());
                places.add(matcher.start());
            }
            tokens.add("");
            places.add(text.length());
        }

        Fault fault() {
            return new Fault(places.get(at));
        }

        boolean takes(String token) {
            if (!tokens.get(at).equals(token)) {
                return false;
            }
            at++;
            return true;
        }

        void needs(String token) throws Fault {
            if (!takes(token)) {
                throw fault();
            }
        }

        Rule rule() throws Fault {
            Rule rule = new Rule();
            needs("turns");
            rule.turns = e(0);
            needs(";");
            needs("finds");
            rule.finds = e(0);
            needs(";");
            needs("waits");
            rule.waits = e(0);
            needs(";");
            if (at != tokens.size() - 1) {
                throw fault();
            }
            return rule;
        }

        E e(int open) throws Fault {
            E left = and(open);
            while (takes("or")) {
                E a = left, b = and(open);
                left = n -> a.of(n) != 0 | b.of(n) != 0 ? 1 : 0;
            }
            return left;
        }

        E and(int open) throws Fault {
            E left = not(open);
            while (takes("and")) {
                E a = left, b = not(open);
                left = n -> a.of(n) != 0 & b.of(n) != 0 ? 1 : 0;
            }
            return left;
        }

        void mayOpen(int open) throws Fault {
            if (open == 5) {
                at--;
                throw fault();
            }
        }

        E not(int open) throws Fault {
            if (takes("not")) {
                mayOpen(open);
                E a = not(open + 1);
                return n -> a.of(n) == 0 ? 1 : 0;
            }
            E a = sum(open);
            if (takes("<")) {
                E b = sum(open);
                return n -> a.of(n) < b.of(n) ? 1 : 0;
            }
            if (takes("=")) {
                E b = sum(open);
                return n -> a.of(n) == b.of(n) ? 1 : 0;
            }
            return a;
        }

        E sum(int open) throws Fault {
            E left = term(open);
            while (true) {
                E a = left;
                if (takes("+")) {
                    E b = term(open);
                    left = n -> a.of(n) + b.of(n);
                } else if (takes("-")) {
                    E b = term(open);
                    left = n -> a.of(n) - b.of(n);
                } else {
                    return left;
                }
            }
        }

        E term(int open) throws Fault {
            E left = one(open);
            while (takes("*")) {
                E a = left, b = one(open);
                left = n -> a.of(n) * b.of(n);
            }
            return left;
        }

        E one(int open) throws Fault {
            String token = tokens.get(at);
            if (token.matches("[0-9]{1,4}")) {
                at++;
                int value = Integer.parseInt(token);
                return n -> value;
            }
            int name = Arrays.asList("tick", "far", "moon", "number", "height", "order").indexOf(token);
            if (name >= 0) {
                at++;
                return n -> n[name];
            }
            if (takes("-")) {
                mayOpen(open);
                E a = one(open + 1);
                return n -> -a.of(n);
            }
            if (takes("(")) {
                mayOpen(open);
                E a = e(open + 1);
                needs(")");
                return a;
            }
            throw fault();
        }
    }
}
