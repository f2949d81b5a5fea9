import java.nio.charset.StandardCharsets;
import java.util.ArrayList;
import java.util.Arrays;
import java.util.HashMap;
import java.util.List;
import java.util.Map;
import java.util.Random;

/** All that an object holds while calls follow each other, in its plainest form: each state kept is a copy of its own. */
final class PlainRun {
    private static final String KINDS = "lfpdn";

    PlainModel model;
    private final Random random;
    private final Map<String, PlainModel> known = new HashMap<>();
    private final Map<String, List<PlainModel.Note>> notesKnown = new HashMap<>();
    private byte[] tape = {};
    private int fault;
    private int place = -1;
    private int notesOfText;
    // the notes as they were ahead of each call that can be undone
    private final List<List<PlainModel.Note>> ahead = new ArrayList<>();
    private final List<int[]> rows = new ArrayList<>();
    private List<PlainModel.Note> imageNotes;
    private List<int[]> imageRows;

    PlainRun(Random random) {
        this.random = random;
        model = PlainModel.empty(random);
    }

    // ---- texts

    int taped() {
        return tape.length;
    }

    int feed(byte[] bite) {
        if (tape.length + bite.length > 900) {
            return -1;
        }
        int had = tape.length;
        tape = Arrays.copyOf(tape, had + bite.length);
        System.arraycopy(bite, 0, tape, had, bite.length);
        return tape.length;
    }

    void know(PlainModel told) {
        known.put(told.text.toString(), told);
        notesKnown.put(told.text.toString(), List.copyOf(told.notes));
    }

    private String start(int n) {
        return new String(tape, 0, n, StandardCharsets.ISO_8859_1);
    }

    /** Whether it is known what a text of so many bytes says, if it is without fault. */
    boolean canForetell(int n) {
        if (n < 0 || n > tape.length) {
            return true;
        }
        String text = start(n);
        return text.isBlank() || known.containsKey(text) || new PlainReader(text).fault != 0;
    }

    int text(int n) {
        if (n < 0 || n > tape.length) {
            return -2;
        }
        String text = start(n);
        tape = new byte[0];
        PlainReader reader = new PlainReader(text);
        fault = reader.fault;
        place = reader.place;
        if (fault != 0) {
            return -1;
        }
        model = text.isBlank() ? PlainModel.empty(random) : known.get(text);
        // a text told once more has the notes that it had, without what came by call
        setNotes(text.isBlank() ? List.of() : notesKnown.get(text));
        notesOfText = model.notes.size();
        ahead.clear();
        rows.clear();
        imageNotes = null;
        imageRows = null;
        return reader.lines;
    }

    int fault(int what) {
        return what == 0 ? fault : what == 1 ? place : -1;
    }

    int named(int what, int letters) {
        int[] told = {size(0), size(1), size(2), size(3), notesOfText};
        for (int i = 0; what >= 0 && what < 5 && i < told[what]; i++) {
            if (letters == Check.letters("" + KINDS.charAt(what) + (char) ('a' + i))) {
                return i;
            }
        }
        return -1;
    }

    // ---- notes by call

    private void setNotes(List<PlainModel.Note> notes) {
        model.notes.clear();
        model.notes.addAll(notes);
    }

    int note() {
        if (model.notes.size() == 12) {
            return -1;
        }
        ahead.add(List.copyOf(model.notes));
        model.notes.add(new PlainModel.Note());
        return model.notes.size() - 1;
    }

    boolean says(int word, int a, int b) {
        int last = model.notes.size() - 1;
        if (last < 0 || !model.canSay(word, a, b) || model.notes.get(last).says[word] != null) {
            return false;
        }
        ahead.add(List.copyOf(model.notes));
        PlainModel.Note more = new PlainModel.Note();
        System.arraycopy(model.notes.get(last).says, 0, more.says, 0, more.says.length);
        more.says[word] = new int[] {a, b};
        model.notes.set(last, more);
        return true;
    }

    int undo() {
        if (ahead.isEmpty()) {
            return -1;
        }
        setNotes(ahead.remove(ahead.size() - 1));
        return ahead.size();
    }

    // ---- counts told, images

    int told(int note, int count) {
        boolean can = note >= 0 && note < model.notes.size() && count >= 0 && count <= 19999 && rows.size() < 20;
        if (can) {
            rows.add(new int[] {note, count});
        }
        return can ? rows.size() : -1;
    }

    int judged() {
        return model.judged(rows);
    }

    int forget() {
        int were = rows.size();
        rows.clear();
        return were;
    }

    int keep() {
        imageNotes = List.copyOf(model.notes);
        imageRows = List.copyOf(rows);
        return imageNotes.size();
    }

    int back() {
        if (imageNotes == null) {
            return -1;
        }
        setNotes(imageNotes);
        rows.clear();
        rows.addAll(imageRows);
        ahead.clear();
        return imageNotes.size();
    }

    int size(int what) {
        switch (what) {
            case 0: return model.lands.size();
            case 1: return model.feasts.size();
            case 2: return model.people.size();
            case 3: return model.deeds.size();
            case 4: return model.notes.size();
            case 5: return model.knots;
            case 6: return model.week[0];
            case 7: return rows.size();
            case 8: return ahead.size();
            default: return -1;
        }
    }

    /** A count that fits what is told ahead, if the note is after another. */
    int likelyCount(int note) {
        int[] after = model.notes.get(note).says[7];
        int[] alone = model.alone(note);
        int count = alone[0] == 0 ? random.nextInt(20000) : alone[1 + random.nextInt(2)];
        for (int[] row : rows) {
            int then = after == null ? -1 : row[1] + after[1];
            if (after != null && row[0] == after[0] && then >= 0 && then < 20000) {
                count = then;
            }
        }
        return count;
    }
}
