import java.util.ArrayDeque;
import java.util.ArrayList;
import java.util.Arrays;
import java.util.HashMap;
import java.util.LinkedHashMap;
import java.util.List;
import java.util.Map;

/**
 * The document told a second time, with the Java library and without a thought for speed, so that
 * random runs of DrumLayers have something to be held against.
 */
final class Model {
    static final int NONE = -1;

    static final class Deck {
        int number;
        String state = "submitted";
        int[] drum;
        List<Integer> cards = new ArrayList<>();
        int cardsRead;
        int limit;
        int[] claim;
        int[] hold = new int[3];
        int begunToEndWith;
        boolean cancel;
        int steps;
        int place;
        int a;
        int x;
        ArrayDeque<Integer> lines = new ArrayDeque<>();
        List<Integer> paper = new ArrayList<>();
    }

    static final class Frame {
        String state = "free";
        Deck deck;
        int segment;
        boolean changed;
        boolean pinned;
        int used;
        int[] words = new int[16];
    }

    final Frame[] frames;
    final int pages;
    final int quantum;
    final List<Integer> tape = new ArrayList<>();
    final Deck[] decks = new Deck[6];
    final List<Integer> ready = new ArrayList<>();
    final Map<Integer, String> waits = new HashMap<>();
    final Map<Integer, Integer> turns = new HashMap<>();
    final Map<String, Integer> counts = new HashMap<>();
    int tick;

    final ArrayDeque<Object[]> wanted = new ArrayDeque<>();
    Object[] served;
    Frame moving;
    Deck oldDeck;
    int oldSegment;
    String drum = "nothing";
    String segmentsBehind = "WANTED";
    int brought;

    final ArrayDeque<Deck> cardRow = new ArrayDeque<>();
    Deck readingFor;
    boolean readerWorks;
    Deck printingFor;
    boolean printerWorks;

    final LinkedHashMap<Deck, Integer> gets = new LinkedHashMap<>();
    final StringBuilder line = new StringBuilder();
    final ArrayDeque<String> lineRow = new ArrayDeque<>();
    final StringBuilder said = new StringBuilder();

    Model(int frames, int pages, int quantum) {
        this.frames = new Frame[Math.min(12, Math.max(4, frames))];
        for (int i = 0; i < this.frames.length; i++) {
            this.frames[i] = new Frame();
        }
        this.pages = Math.min(6, Math.max(1, pages));
        this.quantum = Math.min(9, Math.max(1, quantum));
        waits.put(6, "WANTED");
        waits.put(7, "CARDS");
        waits.put(8, "PRINTS");
        waits.put(9, "LINES");
    }

    int feed(int a, int b, int c, int d) {
        if (tape.size() > 196) {
            return NONE;
        }
        tape.addAll(List.of(a, b, c, d));
        return tape.size();
    }

    int submit(int program, int cards, int segments, int limit, int claims) {
        List<Integer> ints = new ArrayList<>(tape);
        tape.clear();
        if (segments < 1 || segments > 8 || program < 0 || program > 16 * segments) {
            return NONE;
        }
        if (cards < 0 || cards > 40 || ints.size() < program + cards) {
            return NONE;
        }
        if (limit < 1 || limit > 5000 || claims < 0 || claims / 4 > pages) {
            return NONE;
        }
        for (int k = 0; k < 6; k++) {
            if (decks[k] == null || decks[k].state.equals("over")) {
                Deck deck = new Deck();
                deck.number = k;
                deck.drum = new int[16 * segments];
                for (int i = 0; i < program; i++) {
                    deck.drum[i] = ints.get(i);
                }
                deck.cards.addAll(ints.subList(program, program + cards));
                deck.limit = limit;
                deck.claim = new int[] {claims % 2, claims / 2 % 2, claims / 4};
                decks[k] = deck;
                return k;
            }
        }
        return NONE;
    }

    int tick(int n) {
        if (n < 0 || n > 200) {
            return NONE;
        }
        for (int i = 0; i < n; i++) {
            oneTick();
        }
        return tick;
    }

    private void oneTick() {
        tick++;
        if (ready.isEmpty()) {
            return;
        }
        int p = ready.get(0);
        if (p < 6) {
            jobStep(decks[p]);
        } else if (p == 6) {
            segmentsStep();
        } else if (p == 7) {
            readingStep();
        } else if (p == 8) {
            printingStep();
        } else {
            consoleStep();
        }
        boolean gone = p < 6 && decks[p].state.equals("over");
        if (waits.containsKey(p) || gone) {
            ready.remove(0);
            turns.put(p, 0);
            return;
        }
        turns.merge(p, 1, Integer::sum);
        if (turns.get(p) >= quantum) {
            turns.put(p, 0);
            ready.remove(0);
            ready.add(p);
        }
    }

    private void wake(int p) {
        waits.remove(p);
        ready.add(p);
    }

    private void v(int p, String signal) {
        if (signal.equals(waits.get(p))) {
            wake(p);
        } else {
            counts.merge(signal, 1, Integer::sum);
        }
    }

    private void p(int p, String signal) {
        if (counts.getOrDefault(signal, 0) > 0) {
            counts.merge(signal, -1, Integer::sum);
        } else {
            waits.put(p, signal);
        }
    }

    private Frame holding(Deck deck, int segment) {
        for (Frame f : frames) {
            if (f.state.equals("has") && f.deck == deck && f.segment == segment) {
                return f;
            }
        }
        return null;
    }

    private void segmentsStep() {
        if (segmentsBehind.equals("WANTED")) {
            served = wanted.removeFirst();
            moving = null;
            for (Frame f : frames) {
                if (moving == null && f.state.equals("free")) {
                    moving = f;
                }
            }
            if (moving == null) {
                for (Frame f : frames) {
                    if (f.state.equals("has") && !f.pinned && (moving == null || f.used < moving.used)) {
                        moving = f;
                    }
                }
            }
            boolean write = moving.state.equals("has") && moving.changed;
            moving.state = "busy";
            if (write) {
                oldDeck = moving.deck;
                oldSegment = moving.segment;
            }
            drum = write ? "writing" : "reading";
            segmentsBehind = drum;
            p(6, "DRUM");
        } else if (segmentsBehind.equals("writing")) {
            drum = "reading";
            segmentsBehind = drum;
            p(6, "DRUM");
        } else {
            moving.state = "has";
            moving.deck = (Deck) served[0];
            moving.segment = (Integer) served[1];
            moving.changed = false;
            moving.pinned = true;
            moving.used = tick;
            brought++;
            wake(moving.deck.number);
            segmentsBehind = "WANTED";
            p(6, "WANTED");
        }
    }

    private void readingStep() {
        if (readingFor == null) {
            readingFor = cardRow.removeFirst();
            readerWorks = true;
            p(7, "READER");
        } else {
            readingFor.a = readingFor.cards.get(readingFor.cardsRead++);
            did(readingFor);
            wake(readingFor.number);
            readingFor = null;
            p(7, "CARDS");
        }
    }

    private void printingStep() {
        if (printingFor == null) {
            for (Deck deck : decks) {
                if (deck != null && deck.state.equals("admitted") && deck.hold[1] == 1) {
                    printingFor = deck;
                }
            }
            printerWorks = true;
            p(8, "PRINTER");
        } else {
            printingFor.paper.add(printingFor.lines.removeFirst());
            String why = waits.getOrDefault(printingFor.number, "");
            if (why.equals("room") || why.equals("empty") && printingFor.lines.isEmpty()) {
                wake(printingFor.number);
            }
            printingFor = null;
            p(8, "PRINTS");
        }
    }

    private void say(String text) {
        said.append(text).append('\n');
    }

    private void consoleStep() {
        String text = lineRow.removeFirst();
        boolean good = false;
        if (text.matches("A[0-5]")) {
            Deck deck = decks[text.charAt(1) - '0'];
            if (deck != null && deck.state.equals("submitted") && 2 * (admitted() + 1) <= frames.length) {
                deck.state = "admitted";
                wake(deck.number);
                good = true;
            }
        } else if (text.matches("C[0-5]")) {
            Deck deck = decks[text.charAt(1) - '0'];
            if (deck != null && deck.state.equals("admitted")) {
                deck.cancel = true;
                gets.remove(deck);
                String why = waits.getOrDefault(deck.number, "");
                if (why.equals("reply") || why.equals("resource")) {
                    wake(deck.number);
                }
                good = true;
            }
        } else if (text.matches("R[0-5] -?[0-9]{1,9}")) {
            int k = text.charAt(1) - '0';
            if ("reply".equals(waits.get(k))) {
                decks[k].a = Integer.parseInt(text.substring(3));
                did(decks[k]);
                wake(k);
                good = true;
            }
        }
        if (!good) {
            say("?");
        }
        p(9, "LINES");
    }

    private int admitted() {
        int n = 0;
        for (Deck deck : decks) {
            n += deck != null && deck.state.equals("admitted") ? 1 : 0;
        }
        return n;
    }

    private int[] free() {
        int[] free = {1, 1, pages};
        for (Deck deck : decks) {
            if (deck != null && deck.state.equals("admitted")) {
                for (int r = 0; r < 3; r++) {
                    free[r] -= deck.hold[r];
                }
            }
        }
        return free;
    }

    /** Tries every order, as the document has it. */
    private boolean safe(List<Deck> left, int[] free) {
        if (left.isEmpty()) {
            return true;
        }
        for (Deck deck : left) {
            boolean fits = true;
            int[] more = free.clone();
            for (int r = 0; r < 3; r++) {
                fits &= deck.claim[r] - deck.hold[r] <= free[r];
                more[r] += deck.hold[r];
            }
            if (fits) {
                List<Deck> rest = new ArrayList<>(left);
                rest.remove(deck);
                if (safe(rest, more)) {
                    return true;
                }
            }
        }
        return false;
    }

    private boolean tryGet(Deck deck, int r) {
        if (free()[r] == 0) {
            return false;
        }
        deck.hold[r]++;
        List<Deck> all = new ArrayList<>();
        for (Deck other : decks) {
            if (other != null && other.state.equals("admitted")) {
                all.add(other);
            }
        }
        if (safe(all, free())) {
            return true;
        }
        deck.hold[r]--;
        return false;
    }

    private void goThroughGets() {
        for (Deck deck : new ArrayList<>(gets.keySet())) {
            if (tryGet(deck, gets.get(deck))) {
                gets.remove(deck);
                did(deck);
                wake(deck.number);
            }
        }
    }

    private void did(Deck deck) {
        deck.steps++;
        deck.place++;
        for (Frame f : frames) {
            if (f.state.equals("has") && f.deck == deck) {
                f.pinned = false;
            }
        }
    }

    private void jobStep(Deck deck) {
        if (deck.begunToEndWith != 0) {
            ending(deck);
        } else if (deck.cancel) {
            deck.begunToEndWith = 5;
        } else if (deck.steps == deck.limit) {
            deck.begunToEndWith = 2;
        } else {
            String how = instruction(deck);
            if (how.equals("trap")) {
                deck.begunToEndWith = 4;
            } else if (how.equals("claim")) {
                deck.begunToEndWith = 3;
            } else if (how.equals("done")) {
                did(deck);
            } else if (how.equals("end")) {
                did(deck);
                deck.begunToEndWith = 1;
            } else if (how.startsWith("jump ")) {
                did(deck);
                deck.place = Integer.parseInt(how.substring(5));
            } else {
                waits.put(deck.number, how);
            }
        }
    }

    private void ending(Deck deck) {
        if (!deck.lines.isEmpty()) {
            waits.put(deck.number, "empty");
            return;
        }
        for (Frame f : frames) {
            if (f.state.equals("has") && f.deck == deck) {
                f.state = "free";
            }
        }
        deck.state = "over";
        say(deck.number + "=" + deck.begunToEndWith);
        goThroughGets();
    }

    private String ask(Deck deck, int segment) {
        wanted.add(new Object[] {deck, segment});
        v(6, "WANTED");
        return "segment";
    }

    /** Answers what came of it: done, end, trap, claim, "jump n", or what the job waits for. */
    private String instruction(Deck deck) {
        if (deck.place < 0 || deck.place >= deck.drum.length) {
            return "trap";
        }
        Frame own = holding(deck, deck.place / 16);
        if (own == null) {
            return ask(deck, deck.place / 16);
        }
        int w = own.words[deck.place % 16];
        int kind = w < 0 ? 99 : w / 256;
        int a = w % 256;
        Frame of = null;
        int at = 0;
        if (Arrays.asList(1, 2, 3, 4, 5, 6, 10, 11, 12).contains(kind)) {
            long address = kind == 11 || kind == 12 ? (long) a + deck.x : a;
            if (address < 0 || address >= deck.drum.length) {
                own.used = tick;
                return "trap";
            }
            of = holding(deck, (int) address / 16);
            if (of == null) {
                return ask(deck, (int) address / 16);
            }
            of.used = tick;
            at = (int) address % 16;
        }
        own.used = tick;
        int m = of == null ? 0 : of.words[at];
        switch (kind) {
            case 0: return "end";
            case 1: case 11: deck.a = m; return "done";
            case 2: case 12: of.words[at] = deck.a; of.changed = true; return "done";
            case 3: deck.a = deck.a + m; return "done";
            case 4: deck.a = deck.a - m; return "done";
            case 5: deck.a = deck.a * m; return "done";
            case 6:
                if (m == 0) {
                    return "trap";
                }
                deck.a = (int) ((long) deck.a / m);
                return "done";
            case 7: return "jump " + a;
            case 8: return deck.a < 0 ? "jump " + a : "done";
            case 9: return deck.a == 0 ? "jump " + a : "done";
            case 10: deck.x = m; return "done";
            case 13:
                if (deck.hold[0] == 0 || deck.cardsRead == deck.cards.size()) {
                    return "trap";
                }
                cardRow.add(deck);
                v(7, "CARDS");
                return "card";
            case 14:
                if (deck.hold[1] == 0 || deck.hold[2] == 0) {
                    return "trap";
                }
                if (deck.lines.size() == 4 * deck.hold[2]) {
                    return "room";
                }
                deck.lines.add(deck.a);
                v(8, "PRINTS");
                return "done";
            case 15: say(deck.number + "?"); return "reply";
            case 16:
                if (a > 2) {
                    return "trap";
                }
                if (deck.hold[a] + 1 > deck.claim[a]) {
                    return "claim";
                }
                if (tryGet(deck, a)) {
                    return "done";
                }
                gets.put(deck, a);
                return "resource";
            case 17:
                if (a > 2 || deck.hold[a] == 0) {
                    return "trap";
                }
                if (a > 0 && !deck.lines.isEmpty()) {
                    return "empty";
                }
                deck.hold[a]--;
                goThroughGets();
                return "done";
            case 18: deck.a = a; return "done";
            case 19: deck.a = deck.x; return "done";
            default: return "trap";
        }
    }

    boolean done(int device) {
        if (device == 0 && !drum.equals("nothing")) {
            if (drum.equals("reading")) {
                Deck deck = (Deck) served[0];
                System.arraycopy(deck.drum, 16 * (Integer) served[1], moving.words, 0, 16);
            } else if (oldDeck.state.equals("admitted")) {
                System.arraycopy(moving.words, 0, oldDeck.drum, 16 * oldSegment, 16);
            }
            drum = "nothing";
            v(6, "DRUM");
            return true;
        }
        if (device == 1 && readerWorks) {
            readerWorks = false;
            v(7, "READER");
            return true;
        }
        if (device == 2 && printerWorks) {
            printerWorks = false;
            v(8, "PRINTER");
            return true;
        }
        return false;
    }

    boolean type(int b) {
        if (b == 10) {
            if (lineRow.size() == 8) {
                return false;
            }
            lineRow.add(line.toString());
            line.setLength(0);
            v(9, "LINES");
            return true;
        }
        if (b < 32 || b > 126 || line.length() == 20) {
            return false;
        }
        line.append((char) b);
        return true;
    }

    int process(int k, int what) {
        if (k < 0 || k > 9 || what < 0 || what > 1) {
            return NONE;
        }
        if (what == 0) {
            return ready.indexOf(k);
        }
        String why = waits.get(k);
        if (why == null) {
            return 0;
        }
        if (k >= 6) {
            return List.of("DRUM", "READER", "PRINTER").contains(why) ? 8 : 7;
        }
        return 1 + List.of("segment", "card", "room", "empty", "reply", "resource").indexOf(why);
    }

    int job(int k, int what) {
        if (k < 0 || k > 5 || what < 0 || what > 12) {
            return NONE;
        }
        Deck d = decks[k];
        if (d == null) {
            return 0;
        }
        boolean over = d.state.equals("over");
        int[] all = {1 + List.of("submitted", "admitted", "over").indexOf(d.state),
            over ? d.begunToEndWith : 0, d.steps, d.place, d.a, d.x, d.hold[0], d.hold[1], d.hold[2],
            d.cardsRead, d.paper.size(), d.lines.size(), d.cancel ? 1 : 0};
        return all[what];
    }

    int paper(int k, int i) {
        boolean there = k >= 0 && k < 6 && decks[k] != null && i >= 0 && i < decks[k].paper.size();
        return there ? decks[k].paper.get(i) : 0;
    }

    int word(int k, int address) {
        if (k < 0 || k > 5 || decks[k] == null || decks[k].state.equals("over")) {
            return 0;
        }
        Deck d = decks[k];
        if (address < 0 || address >= d.drum.length) {
            return 0;
        }
        Frame f = holding(d, address / 16);
        if (f == null && drum.equals("writing") && oldDeck == d && oldSegment == address / 16) {
            f = moving;
        }
        return f == null ? d.drum[address] : f.words[address % 16];
    }

    int frame(int f, int what) {
        if (f < 0 || f >= frames.length || what < 0 || what > 4) {
            return NONE;
        }
        Frame it = frames[f];
        if (!it.state.equals("has")) {
            return what == 0 && it.state.equals("busy") ? -2 : NONE;
        }
        int[] all = {it.deck.number, it.segment, it.changed ? 1 : 0, it.pinned ? 1 : 0, it.used};
        return all[what];
    }

    int about(int what) {
        if (what < 0 || what > 10) {
            return NONE;
        }
        int[] all = {tick, List.of("nothing", "writing", "reading").indexOf(drum), readerWorks ? 1 : 0,
            printerWorks ? 1 : 0, free()[0], free()[1], free()[2], said.length(), admitted(), brought,
            lineRow.size()};
        return all[what];
    }

    int octet(int i) {
        return i >= 0 && i < 600 && i < said.length() ? said.charAt(i) : NONE;
    }
}
