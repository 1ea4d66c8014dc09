import java.util.ArrayList;

/** A container that is wired by a document of elements; ../shared/DOC.md tells its promises. */
public final class WiredBeans {
    public static final int NONE = -1;

    private static final int CLASSES = 8;
    private static final int LETTERS = 26;
    private static final int MOST_TYPES = 3;
    private static final int LONGEST_DOCUMENT = 1200;

    private static final int TYPE_INT = 0;
    private static final int TYPE_TRUTH = 1;
    private static final int TYPE_CHARACTER = 2;
    private static final int TYPE_TEXT = 3;
    private static final int TYPE_ROW = 4;
    private static final int TYPE_OF_CLASS = 8;

    private final DeclaredClass[] classes;
    private final char[] typed;
    private final Paper paper;
    private final Reader reader;
    private final Structure structure;
    private final Wiring wiring;
    private final EventRow row;
    private final Maker maker;
    private int typedLength;
    private boolean hasDocument;
    private int faultNumber;
    private int faultPlace;

    public WiredBeans() {
        classes = new DeclaredClass[CLASSES];
        for (int c = 0; c < CLASSES; c++) {
            classes[c] = new DeclaredClass(c);
        }
        typed = new char[LONGEST_DOCUMENT];
        paper = new Paper(LONGEST_DOCUMENT);
        reader = new Reader(paper);
        structure = new Structure(paper);
        wiring = new Wiring(paper);
        row = new EventRow();
        maker = new Maker(wiring, classes, row);
        faultPlace = NONE;
    }

    public boolean declare(int c, int parent) {
        if (!isClass(c) || parent < NONE || parent >= c) {
            return false;
        }
        classes[c].begin(parent == NONE ? null : classes[parent]);
        return true;
    }

    public boolean constructor(int c, int n, int a, int b, int b2) {
        return isClass(c) && areTypes(n, a, b, b2) && classes[c].addConstructor(n, a, b, b2);
    }

    public boolean setter(int c, int name, int type) {
        return isClass(c) && isLetter(name) && isType(type) && classes[c].addSetter(name, type);
    }

    public boolean factory(int c, int name, boolean isStatic, int result, int n, int a, int b, int b2) {
        return isClass(c) && isLetter(name) && isClass(result) && areTypes(n, a, b, b2)
                && classes[c].addFactory(name, isStatic, result, n, a, b, b2);
    }

    public int type(int a, int b, int c, int d, int e) {
        int end = typedBehind(typedLength, a);
        end = typedBehind(end, b);
        end = typedBehind(end, c);
        end = typedBehind(end, d);
        end = typedBehind(end, e);
        if (end != NONE) {
            typedLength = end;
        }
        return end;
    }

    public int read() throws IllegalArgumentException {
        maker.startAfresh();
        faultNumber = 1;
        faultPlace = reader.firstWrongPlace(typed, typedLength);
        typedLength = 0;
        if (faultPlace == NONE) {
            faultNumber = 2;
            faultPlace = structure.firstWrongPlace();
        }
        if (faultPlace == NONE) {
            faultNumber = 3;
            faultPlace = wiring.firstWrongPlace();
        }
        hasDocument = faultPlace == NONE;
        if (!hasDocument) {
            wiring.forgetBeans();
            throw new IllegalArgumentException();
        }
        faultNumber = 0;
        return wiring.count();
    }

    public int fault(int what) {
        switch (what) {
            case 0:
                return faultNumber;
            case 1:
                return faultPlace;
            case 2:
                return maker.failure();
            case 3:
                return maker.failureBean();
            default:
                return NONE;
        }
    }

    public int refresh() throws IllegalStateException, UnsupportedOperationException {
        maker.forgetFailure();
        if (!hasDocument) {
            throw new IllegalStateException();
        }
        if (!maker.renewsAll()) {
            throw new UnsupportedOperationException();
        }
        return maker.objectCount();
    }

    public int get(long name) throws IllegalStateException, UnsupportedOperationException {
        maker.forgetFailure();
        if (!hasDocument) {
            throw new IllegalStateException();
        }
        int answer = maker.objectCalled(withoutZeros(name));
        if (answer == NONE) {
            throw new UnsupportedOperationException();
        }
        return answer;
    }

    public int call(int object, int name)
            throws IllegalStateException, IndexOutOfBoundsException, UnsupportedOperationException {
        maker.forgetFailure();
        if (!hasDocument) {
            throw new IllegalStateException();
        }
        Element lookup = maker.lookupOf(object, name);
        if (lookup == null) {
            throw new IndexOutOfBoundsException();
        }
        int answer = maker.objectCalled(lookup.target);
        if (answer == NONE) {
            throw new UnsupportedOperationException();
        }
        return answer;
    }

    public int close() {
        maker.destroyAll();
        return row.count();
    }

    public int events() {
        return row.count();
    }

    public int event(int k, int what) {
        return row.number(k, what);
    }

    public int object(int k, int what) {
        if (what == 0) {
            return maker.classOfObject(k);
        }
        return what == 1 ? maker.beanOfObject(k) : NONE;
    }

    public int bean(int k, int what) {
        return k >= 0 && k < wiring.count() ? wiring.numbered(k).told(what) : NONE;
    }

    private static boolean isClass(int c) {
        return c >= 0 && c < CLASSES;
    }

    private static boolean isLetter(int name) {
        return name >= 0 && name < LETTERS;
    }

    private static boolean isType(int kind) {
        return kind >= TYPE_INT && kind <= TYPE_ROW || kind >= TYPE_OF_CLASS && kind < TYPE_OF_CLASS + CLASSES;
    }

    private static boolean areTypes(int n, int a, int b, int b2) {
        return n >= 0 && n <= MOST_TYPES && (n < 1 || isType(a)) && (n < 2 || isType(b)) && (n < 3 || isType(b2));
    }

    /** The end of the text with four characters more, or NONE; they count only once typedLength is moved. */
    private int typedBehind(int start, int four) {
        if (start == NONE) {
            return NONE;
        }
        int end = start;
        for (int shift = 24; shift >= 0; shift -= 8) {
            int code = four >>> shift & 255;
            if (code == 0) {
                continue;
            }
            if (code != '\n' && (code < 32 || code > 126) || end >= typed.length) {
                return NONE;
            }
            typed[end] = (char) code;
            end++;
        }
        return end;
    }

    private static long withoutZeros(long name) {
        long key = 0;
        for (int shift = 56; shift >= 0; shift -= 8) {
            long code = name >>> shift & 255;
            if (code != 0) {
                key = key << 8 | code;
            }
        }
        return key;
    }

    /** The words of elements, attributes and values. A key is a name with a byte for each letter. */
    private enum Word {
        BEANS("beans"), ALIAS("alias"), BEAN("bean"), ARG("arg"), SET("set"), LOOKUP("lookup"),
        LIST("list"), VALUE("value"), REF("ref"), NULL("null"),
        ID("id"), CLASS("class"), PARENT("parent"), ABSTRACT("abstract"), SCOPE("scope"), LAZY("lazy"),
        FACTORY("factory"), METHOD("method"), INIT("init"), DESTROY("destroy"), DEPENDS("depends"),
        NAME("name"), TO("to"), AT("at"), TYPE("type"),
        YES("yes"), NO("no"), ONE("one"), MANY("many"),
        INT("int"), TRUTH("truth"), CHAR("char"), TEXT("text"), ROW("row");

        private static final Word[] ALL = values();

        final long key;

        Word(String letters) {
            key = keyOf(letters);
        }

        private static long keyOf(String letters) {
            long key = 0;
            for (int i = 0; i < letters.length(); i++) {
                key = key << 8 | letters.charAt(i);
            }
            return key;
        }

        static Word withKey(long key) {
            for (Word word : ALL) {
                if (word.key == key) {
                    return word;
                }
            }
            return null;
        }
    }

    /** A constructor or a factory; a constructor has no name. */
    private static final class Signature {
        final int owner;
        final int number;
        final int[] types;
        int count;
        int name;
        boolean isStatic;
        int result;

        Signature(int owner, int number) {
            this.owner = owner;
            this.number = number;
            types = new int[MOST_TYPES];
        }

        void describe(int called, boolean isOfClass, int made) {
            name = called;
            isStatic = isOfClass;
            result = made;
        }

        void setTypes(int n, int a, int b, int b2) {
            count = n;
            types[0] = a;
            types[1] = b;
            types[2] = b2;
        }

        boolean isCalled(int called, boolean isOfClass) {
            return name == called && isStatic == isOfClass;
        }
    }

    private static final class DeclaredClass {
        private static final int MOST_SIGNATURES = 4;
        private static final int MOST_SETTERS = 8;

        final Signature[] constructors;
        final Signature[] factories;
        int constructorCount;
        int factoryCount;
        private final int number;
        private final int[] setterTypes;
        private int setterCount;
        private DeclaredClass parent;

        DeclaredClass(int number) {
            this.number = number;
            constructors = new Signature[MOST_SIGNATURES];
            factories = new Signature[MOST_SIGNATURES];
            for (int i = 0; i < MOST_SIGNATURES; i++) {
                constructors[i] = new Signature(number, i);
                factories[i] = new Signature(number, i);
            }
            setterTypes = new int[LETTERS];
            for (int i = 0; i < LETTERS; i++) {
                setterTypes[i] = NONE;
            }
        }

        void begin(DeclaredClass above) {
            parent = above;
            constructorCount = 0;
            factoryCount = 0;
            setterCount = 0;
            for (int i = 0; i < LETTERS; i++) {
                setterTypes[i] = NONE;
            }
        }

        boolean addConstructor(int n, int a, int b, int b2) {
            if (constructorCount >= MOST_SIGNATURES) {
                return false;
            }
            constructors[constructorCount].describe(NONE, false, number);
            constructors[constructorCount].setTypes(n, a, b, b2);
            constructorCount++;
            return true;
        }

        boolean addFactory(int name, boolean isStatic, int result, int n, int a, int b, int b2) {
            if (factoryCount >= MOST_SIGNATURES) {
                return false;
            }
            factories[factoryCount].describe(name, isStatic, result);
            factories[factoryCount].setTypes(n, a, b, b2);
            factoryCount++;
            return true;
        }

        boolean addSetter(int name, int kind) {
            if (setterCount >= MOST_SETTERS || setterTypes[name] != NONE) {
                return false;
            }
            setterTypes[name] = kind;
            setterCount++;
            return true;
        }

        int setterType(int name) {
            DeclaredClass has = this;
            for (int up = 0; up < CLASSES && has != null; up++) {
                if (has.setterTypes[name] != NONE) {
                    return has.setterTypes[name];
                }
                has = has.parent;
            }
            return NONE;
        }

        /** The nearest class, from this one up, with a factory of that name; null without. */
        DeclaredClass withFactory(int name, boolean isStatic) {
            DeclaredClass has = this;
            for (int up = 0; up < CLASSES && has != null; up++) {
                if (has.ownsFactory(name, isStatic)) {
                    return has;
                }
                has = has.parent;
            }
            return null;
        }

        private boolean ownsFactory(int name, boolean isStatic) {
            for (int i = 0; i < factoryCount; i++) {
                if (factories[i].isCalled(name, isStatic)) {
                    return true;
                }
            }
            return false;
        }

        /** How many steps lead from this class up to another one; NONE if it is not that one. */
        int stepsTo(int other) {
            DeclaredClass has = this;
            for (int up = 0; up < CLASSES && has != null; up++) {
                if (has.number == other) {
                    return up;
                }
                has = has.parent;
            }
            return NONE;
        }
    }

    /** An element as it was read, and (below) what the wiring knows of it once it is known to be right. */
    private static final class Element {
        static final int LONGEST_TEXT = 24;
        static final long NO_NUMBER = 1L << 40;
        private static final int MOST_DIGITS = 10;

        final char[] text;
        int textLength;
        private int textEnd;
        int place;
        Word word;
        Element outer;
        Element firstInner;
        Element next;
        int innerCount;
        int firstAttribute;
        int attributeCount;

        long name;
        long target;
        long number;
        int truth;
        int letter;
        int at;
        int type;
        Word kind;
        Element content;
        Bean bean;

        Element() {
            text = new char[LONGEST_TEXT];
        }

        void begin(int start, Element around, int attribute) {
            textLength = 0;
            textEnd = 0;
            place = start;
            word = null;
            outer = around;
            firstInner = null;
            next = null;
            innerCount = 0;
            firstAttribute = attribute;
            attributeCount = 0;
            forgetWiring();
        }

        private void forgetWiring() {
            name = 0;
            target = 0;
            number = NO_NUMBER;
            truth = NONE;
            letter = NONE;
            at = NONE;
            type = NONE;
            kind = null;
            content = null;
            bean = null;
        }

        void addInner(Element inner) {
            innerCount++;
            if (firstInner == null) {
                firstInner = inner;
                return;
            }
            Element last = firstInner;
            for (int i = 0; i < Paper.MOST_ELEMENTS && last.next != null; i++) {
                last = last.next;
            }
            last.next = inner;
        }

        /** White at the end is kept behind textLength: it counts only once something else follows. */
        boolean takesText(char c) {
            if (c == '\n' || c == ' ') {
                takeWhite(c);
                return true;
            }
            if (textEnd >= LONGEST_TEXT) {
                return false;
            }
            text[textEnd] = c;
            textEnd++;
            textLength = textEnd;
            return true;
        }

        private void takeWhite(char c) {
            if (textLength == 0) {
                return;
            }
            if (textEnd < LONGEST_TEXT) {
                text[textEnd] = c;
            }
            textEnd++;
        }

        boolean isIn(Word around) {
            return outer != null && outer.word == around;
        }

        /** What the text is as a number and as a truth, for all that is made of it later. */
        void weighText() {
            number = textAsNumber();
            if (textIs("true")) {
                truth = 1;
            } else {
                truth = textIs("false") ? 0 : NONE;
            }
        }

        private boolean textIs(String other) {
            if (textLength != other.length()) {
                return false;
            }
            for (int i = 0; i < textLength; i++) {
                if (text[i] != other.charAt(i)) {
                    return false;
                }
            }
            return true;
        }

        private long textAsNumber() {
            int start = textLength > 0 && text[0] == '-' ? 1 : 0;
            int digits = textLength - start;
            if (digits < 1 || digits > MOST_DIGITS) {
                return NO_NUMBER;
            }
            long sum = 0;
            for (int i = start; i < textLength; i++) {
                if (text[i] < '0' || text[i] > '9') {
                    return NO_NUMBER;
                }
                sum = sum * 10 + (text[i] - '0');
            }
            long signed = start == 1 ? -sum : sum;
            return signed == (int) signed ? signed : NO_NUMBER;
        }
    }

    /** The elements and attributes of a document, in the order in which they begin. */
    private static final class Paper {
        static final int MOST_ELEMENTS = 80;
        // White, a letter, = and two quotes: a document has no room for more attributes than its length allows.
        private static final int SHORTEST_ATTRIBUTE = 5;

        private final Element[] elements;
        private final long[] attributeKeys;
        private final int[] valueStarts;
        private final int[] valueLengths;
        private final char[] values;
        private int count;
        private int attributes;
        private int valuesEnd;

        Paper(int longest) {
            elements = new Element[MOST_ELEMENTS];
            for (int i = 0; i < MOST_ELEMENTS; i++) {
                elements[i] = new Element();
            }
            attributeKeys = new long[longest / SHORTEST_ATTRIBUTE];
            valueStarts = new int[longest / SHORTEST_ATTRIBUTE];
            valueLengths = new int[longest / SHORTEST_ATTRIBUTE];
            values = new char[longest];
        }

        void clear() {
            count = 0;
            attributes = 0;
            valuesEnd = 0;
        }

        int count() {
            return count;
        }

        Element element(int i) {
            return elements[i];
        }

        boolean isFull() {
            return count >= MOST_ELEMENTS;
        }

        Element addElement(int place, Element outer) {
            Element added = elements[count];
            count++;
            added.begin(place, outer, attributes);
            if (outer != null) {
                outer.addInner(added);
            }
            return added;
        }

        void addAttribute(Element owner, long key) {
            attributeKeys[attributes] = key;
            valueStarts[attributes] = valuesEnd;
            valueLengths[attributes] = 0;
            attributes++;
            owner.attributeCount++;
        }

        /** One character more for the value of the latest attribute; false if it has all that it may. */
        boolean takesValue(char c) {
            int latest = attributes - 1;
            if (latest < 0 || valueLengths[latest] >= Element.LONGEST_TEXT || valuesEnd >= values.length) {
                return false;
            }
            values[valuesEnd] = c;
            valuesEnd++;
            valueLengths[latest]++;
            return true;
        }

        boolean hasKey(Element owner, long key) {
            for (int i = 0; i < owner.attributeCount; i++) {
                if (attributeKeys[owner.firstAttribute + i] == key) {
                    return true;
                }
            }
            return false;
        }

        boolean has(Element owner, Word word) {
            return hasKey(owner, word.key);
        }

        Word attributeWord(int attribute) {
            return Word.withKey(attributeKeys[attribute]);
        }

        private int find(Element owner, Word word) {
            for (int i = 0; i < owner.attributeCount; i++) {
                if (attributeKeys[owner.firstAttribute + i] == word.key) {
                    return owner.firstAttribute + i;
                }
            }
            return NONE;
        }

        private int valueLength(int attribute) {
            return attribute == NONE ? 0 : valueLengths[attribute];
        }

        private char valueChar(int attribute, int i) {
            return values[valueStarts[attribute] + i];
        }

        /** The value as a key, 0 if there is none or it is not 1 .. 8 letters. */
        long nameValue(Element owner, Word word) {
            int attribute = find(owner, word);
            int length = valueLength(attribute);
            if (length < 1 || length > 8) {
                return 0;
            }
            long key = 0;
            for (int i = 0; i < length; i++) {
                char c = valueChar(attribute, i);
                if (c < 'a' || c > 'z') {
                    return 0;
                }
                key = key << 8 | c;
            }
            return key;
        }

        boolean valueIs(Element owner, Word word, Word value) {
            return nameValue(owner, word) == value.key;
        }

        /** The value as 0 .. 25, NONE if there is none or it is not one letter. */
        int letterValue(Element owner, Word word) {
            int attribute = find(owner, word);
            if (valueLength(attribute) != 1) {
                return NONE;
            }
            char c = valueChar(attribute, 0);
            return c >= 'a' && c <= 'z' ? c - 'a' : NONE;
        }

        /** The value as 0 .. 2, NONE if there is none or it is not such a digit. */
        int placeValue(Element owner, Word word) {
            int attribute = find(owner, word);
            if (valueLength(attribute) != 1) {
                return NONE;
            }
            char c = valueChar(attribute, 0);
            return c >= '0' && c < '0' + MOST_TYPES ? c - '0' : NONE;
        }

        /** The value as 0 .. 7, NONE if there is none or it is not K and such a digit. */
        int classValue(Element owner, Word word) {
            int attribute = find(owner, word);
            if (valueLength(attribute) != 2 || valueChar(attribute, 0) != 'K') {
                return NONE;
            }
            char c = valueChar(attribute, 1);
            return c >= '0' && c < '0' + CLASSES ? c - '0' : NONE;
        }

        /** The value as the number of a type, NONE if there is none or it is no type. */
        int typeValue(Element owner, Word word) {
            int inClasses = classValue(owner, word);
            if (inClasses != NONE) {
                return TYPE_OF_CLASS + inClasses;
            }
            Word named = Word.withKey(nameValue(owner, word));
            if (named == null) {
                return NONE;
            }
            switch (named) {
                case INT:
                    return TYPE_INT;
                case TRUTH:
                    return TYPE_TRUTH;
                case CHAR:
                    return TYPE_CHARACTER;
                case TEXT:
                    return TYPE_TEXT;
                case ROW:
                    return TYPE_ROW;
                default:
                    return NONE;
            }
        }

        /** The value becomes the element's text, just as it is. */
        void valueToText(Element owner, Word word) {
            int attribute = find(owner, word);
            int length = valueLength(attribute);
            for (int i = 0; i < length; i++) {
                owner.text[i] = valueChar(attribute, i);
            }
            owner.textLength = length;
        }
    }

    /** Reads characters to paper, strictly. What is thrown is FAULT 1, and at stands where it is told. */
    private static final class Reader {
        private static final int LONGEST_NAME = 8;
        private static final int MOST_ATTRIBUTES = 12;
        private static final int DEEPEST = 6;
        private static final char END = 0;

        private final Paper paper;
        private char[] text;
        private int length;
        private int at;
        private int depth;
        private Element open;

        Reader(Paper paper) {
            this.paper = paper;
        }

        /** NONE if the text is a document. */
        int firstWrongPlace(char[] characters, int count) {
            text = characters;
            length = count;
            at = 0;
            depth = 0;
            open = null;
            paper.clear();
            try {
                skipAround();
                openElement();
                for (int steps = 0; steps <= length && open != null; steps++) {
                    readContent();
                }
                skipAround();
                refuseMore();
            } catch (IllegalArgumentException e) {
                return at;
            }
            return NONE;
        }

        /** What begins with < could still have become a comment: then it is what follows that is wrong. */
        private void refuseMore() {
            if (at >= length) {
                return;
            }
            if (text[at] == '<') {
                at++;
            }
            throw new IllegalArgumentException();
        }

        /** The character at a place; END, which no document has, behind the last one. */
        private char charAt(int place) {
            return place >= 0 && place < length ? text[place] : END;
        }

        private void expect(char wanted) {
            if (at >= length || text[at] != wanted) {
                throw new IllegalArgumentException();
            }
            at++;
        }

        private static boolean isNameLetter(char c) {
            return c >= 'a' && c <= 'z';
        }

        private boolean skipsWhite() {
            int start = at;
            while (at < length && (text[at] == '\n' || text[at] == ' ')) {
                at++;
            }
            return at > start;
        }

        private void skipAround() {
            skipsWhite();
            for (int steps = 0; steps < length && charAt(at) == '<' && charAt(at + 1) == '!'; steps++) {
                skipComment();
                skipsWhite();
            }
        }

        private void skipComment() {
            expect('<');
            expect('!');
            expect('-');
            expect('-');
            while (at < length && !(charAt(at) == '-' && charAt(at + 1) == '-')) {
                at++;
            }
            expect('-');
            if (at + 1 < length && charAt(at + 1) != '>') {
                throw new IllegalArgumentException();
            }
            expect('-');
            expect('>');
        }

        private void readContent() {
            if (charAt(at) != '<') {
                char c = readCharacter();
                if (!open.takesText(c)) {
                    throw new IllegalArgumentException();
                }
                at++;
            } else if (charAt(at + 1) == '!') {
                skipComment();
            } else if (charAt(at + 1) == '/') {
                closeElement();
            } else {
                openElement();
            }
        }

        private void openElement() {
            int start = at;
            expect('<');
            if (isNameLetter(charAt(at)) && (depth >= DEEPEST || paper.isFull())) {
                at = start;
                throw new IllegalArgumentException();
            }
            long key = readName();
            open = paper.addElement(start, open);
            open.word = Word.withKey(key);
            depth++;
            for (int n = 0; n <= MOST_ATTRIBUTES && skipsWhite() && isNameLetter(charAt(at)); n++) {
                readAttribute();
            }
            boolean isEmpty = charAt(at) == '/';
            if (isEmpty) {
                at++;
            }
            expect('>');
            if (isEmpty) {
                leaveElement();
            }
        }

        private void closeElement() {
            at += 2;
            int start = open.place + 1;
            for (int i = 0; i < LONGEST_NAME && isNameLetter(charAt(start + i)); i++) {
                expect(charAt(start + i));
            }
            skipsWhite();
            expect('>');
            leaveElement();
        }

        private void leaveElement() {
            open = open.outer;
            depth--;
        }

        private long readName() {
            long key = 0;
            int count = 0;
            while (count < LONGEST_NAME && isNameLetter(charAt(at))) {
                key = key << 8 | charAt(at);
                count++;
                at++;
            }
            if (count == 0 || isNameLetter(charAt(at))) {
                throw new IllegalArgumentException();
            }
            return key;
        }

        private void readAttribute() {
            if (open.attributeCount >= MOST_ATTRIBUTES) {
                throw new IllegalArgumentException();
            }
            long key = readName();
            if (paper.hasKey(open, key)) {
                throw new IllegalArgumentException();
            }
            expect('=');
            expect('"');
            paper.addAttribute(open, key);
            for (int steps = 0; steps <= length && charAt(at) != '"'; steps++) {
                if (charAt(at) == '<' || !paper.takesValue(readCharacter())) {
                    throw new IllegalArgumentException();
                }
                at++;
            }
            expect('"');
        }

        /** Stays on the last character of what it reads: there one too much is told. */
        private char readCharacter() {
            if (at >= length) {
                throw new IllegalArgumentException();
            }
            if (text[at] != '&') {
                return text[at];
            }
            at++;
            switch (charAt(at)) {
                case 'l':
                    return readEntity("lt", '<');
                case 'g':
                    return readEntity("gt", '>');
                case 'q':
                    return readEntity("quot", '"');
                case 'a':
                    return charAt(at + 1) == 'm' ? readEntity("amp", '&') : readEntity("apos", '\'');
                default:
                    expect('#');
                    return readNumbered();
            }
        }

        private char readEntity(String letters, char meant) {
            for (int i = 0; i < letters.length(); i++) {
                expect(letters.charAt(i));
            }
            if (charAt(at) != ';') {
                throw new IllegalArgumentException();
            }
            return meant;
        }

        private char readNumbered() {
            int number = 0;
            int digits = 0;
            while (digits < 3 && charAt(at) >= '0' && charAt(at) <= '9') {
                number = number * 10 + (charAt(at) - '0');
                digits++;
                at++;
            }
            if (digits == 0 || charAt(at) != ';' || number < 32 || number > 126) {
                throw new IllegalArgumentException();
            }
            return (char) number;
        }
    }

    /** Looks at each element by itself: FAULT 2. */
    private static final class Structure {
        private static final int MOST_ARGS = 4;
        private static final int MOST_SETS = 8;
        private static final int MOST_LOOKUPS = 2;
        private static final int MOST_ITEMS = 6;

        private final Paper paper;

        Structure(Paper paper) {
            this.paper = paper;
        }

        int firstWrongPlace() {
            for (int i = 0; i < paper.count(); i++) {
                if (!isRight(paper.element(i))) {
                    return paper.element(i).place;
                }
            }
            return NONE;
        }

        private boolean isRight(Element element) {
            return element.word != null && standsRight(element) && hasRightAttributes(element)
                    && hasWhatItNeeds(element) && (element.textLength == 0 || element.word == Word.VALUE)
                    && hasRightCount(element);
        }

        private boolean standsRight(Element element) {
            switch (element.word) {
                case BEANS:
                    return element.outer == null;
                case ALIAS:
                    return element.isIn(Word.BEANS);
                case BEAN:
                    return element.isIn(Word.BEANS) || isHeld(element);
                case ARG:
                    return element.isIn(Word.BEAN) && likeBefore(element) < MOST_ARGS;
                case SET:
                    return element.isIn(Word.BEAN) && likeBefore(element) < MOST_SETS && isFirstOfName(element);
                case LOOKUP:
                    return element.isIn(Word.BEAN) && likeBefore(element) < MOST_LOOKUPS && isFirstOfName(element);
                case LIST:
                    return element.isIn(Word.ARG) || element.isIn(Word.SET);
                case VALUE:
                case REF:
                case NULL:
                    return isHeld(element);
                default:
                    return false;
            }
        }

        private boolean isHeld(Element element) {
            return element.isIn(Word.ARG) || element.isIn(Word.SET) || element.isIn(Word.LIST);
        }

        private int likeBefore(Element element) {
            int count = 0;
            Element before = element.outer.firstInner;
            for (int i = 0; i < Paper.MOST_ELEMENTS && before != null && before != element; i++) {
                if (before.word == element.word) {
                    count++;
                }
                before = before.next;
            }
            return count;
        }

        private boolean isFirstOfName(Element element) {
            int letter = paper.letterValue(element, Word.NAME);
            Element before = element.outer.firstInner;
            for (int i = 0; i < Paper.MOST_ELEMENTS && before != null && before != element; i++) {
                if (before.word == element.word && paper.letterValue(before, Word.NAME) == letter) {
                    return false;
                }
                before = before.next;
            }
            return true;
        }

        private boolean hasRightAttributes(Element element) {
            for (int i = 0; i < element.attributeCount; i++) {
                Word attribute = paper.attributeWord(element.firstAttribute + i);
                if (attribute == null || !mayHave(element, attribute) || !hasRightValue(element, attribute)) {
                    return false;
                }
            }
            return true;
        }

        private boolean mayHave(Element element, Word attribute) {
            switch (element.word) {
                case ALIAS:
                    return attribute == Word.NAME || attribute == Word.TO;
                case BEAN:
                    return beanMayHave(attribute, element.isIn(Word.BEANS));
                case ARG:
                    return attribute == Word.AT || attribute == Word.TYPE
                            || attribute == Word.VALUE || attribute == Word.REF;
                case SET:
                    return attribute == Word.NAME || attribute == Word.VALUE || attribute == Word.REF;
                case REF:
                    return attribute == Word.BEAN;
                case LOOKUP:
                    return attribute == Word.NAME || attribute == Word.BEAN;
                default:
                    return false;
            }
        }

        private boolean beanMayHave(Word attribute, boolean isOfBeans) {
            switch (attribute) {
                case ID:
                case ABSTRACT:
                case LAZY:
                    return isOfBeans;
                case CLASS:
                case PARENT:
                case SCOPE:
                case FACTORY:
                case METHOD:
                case INIT:
                case DESTROY:
                case DEPENDS:
                    return true;
                default:
                    return false;
            }
        }

        private boolean hasRightValue(Element element, Word attribute) {
            switch (attribute) {
                case NAME:
                    return element.word == Word.ALIAS ? paper.nameValue(element, attribute) != 0
                            : paper.letterValue(element, attribute) != NONE;
                case CLASS:
                    return paper.classValue(element, attribute) != NONE;
                case ABSTRACT:
                case LAZY:
                    return paper.valueIs(element, attribute, Word.YES) || paper.valueIs(element, attribute, Word.NO);
                case SCOPE:
                    return paper.valueIs(element, attribute, Word.ONE) || paper.valueIs(element, attribute, Word.MANY);
                case METHOD:
                case INIT:
                case DESTROY:
                    return paper.letterValue(element, attribute) != NONE;
                case AT:
                    return paper.placeValue(element, attribute) != NONE;
                case TYPE:
                    return paper.typeValue(element, attribute) != NONE;
                case VALUE:
                    return true;
                default:
                    return paper.nameValue(element, attribute) != 0;
            }
        }

        private boolean hasWhatItNeeds(Element element) {
            switch (element.word) {
                case ALIAS:
                    return paper.has(element, Word.NAME) && paper.has(element, Word.TO);
                case BEAN:
                    return beanHasWhatItNeeds(element);
                case SET:
                    return paper.has(element, Word.NAME);
                case REF:
                    return paper.has(element, Word.BEAN);
                case LOOKUP:
                    return paper.has(element, Word.NAME) && paper.has(element, Word.BEAN);
                default:
                    return true;
            }
        }

        private boolean beanHasWhatItNeeds(Element element) {
            if (element.isIn(Word.BEANS) && !paper.has(element, Word.ID)) {
                return false;
            }
            if (paper.has(element, Word.FACTORY) && !paper.has(element, Word.METHOD)) {
                return false;
            }
            return paper.valueIs(element, Word.ABSTRACT, Word.YES) || paper.has(element, Word.CLASS)
                    || paper.has(element, Word.PARENT) || paper.has(element, Word.FACTORY);
        }

        private boolean hasRightCount(Element element) {
            switch (element.word) {
                case BEANS:
                case BEAN:
                    return true;
                case ARG:
                case SET:
                    return (paper.has(element, Word.VALUE) ? 1 : 0) + (paper.has(element, Word.REF) ? 1 : 0)
                            + element.innerCount == 1;
                case LIST:
                    return element.innerCount <= MOST_ITEMS;
                default:
                    return element.innerCount == 0;
            }
        }
    }

    private static final class Bean {
        final int number;
        final ArrayList<Element> args;
        final ArrayList<Element> sets;
        final ArrayList<Element> lookups;
        Element element;
        long id;
        long parent;
        long depends;
        long factory;
        int classNumber;
        int method;
        int init;
        int destroy;
        boolean isAbstract;
        boolean isMany;
        boolean isLazy;
        boolean isBeingMade;
        boolean isMade;
        int madeObject;

        Bean(int number) {
            this.number = number;
            args = new ArrayList<>();
            sets = new ArrayList<>();
            lookups = new ArrayList<>();
        }

        void begin(Element from, Paper paper) {
            element = from;
            args.clear();
            sets.clear();
            lookups.clear();
            id = paper.nameValue(from, Word.ID);
            parent = paper.nameValue(from, Word.PARENT);
            depends = paper.nameValue(from, Word.DEPENDS);
            isAbstract = paper.valueIs(from, Word.ABSTRACT, Word.YES);
            isMany = paper.valueIs(from, Word.SCOPE, Word.MANY);
            isLazy = paper.valueIs(from, Word.LAZY, Word.YES);
            factory = 0;
            classNumber = NONE;
            method = NONE;
            init = NONE;
            destroy = NONE;
            isBeingMade = false;
            isMade = false;
            madeObject = NONE;
        }

        /** What an element tells comes before what those above it told. */
        void overlay(Element told, Paper paper) {
            if (paper.has(told, Word.FACTORY)) {
                factory = paper.nameValue(told, Word.FACTORY);
            }
            if (paper.has(told, Word.CLASS)) {
                classNumber = paper.classValue(told, Word.CLASS);
            }
            if (paper.has(told, Word.METHOD)) {
                method = paper.letterValue(told, Word.METHOD);
            }
            if (paper.has(told, Word.INIT)) {
                init = paper.letterValue(told, Word.INIT);
            }
            if (paper.has(told, Word.DESTROY)) {
                destroy = paper.letterValue(told, Word.DESTROY);
            }
            overlayInner(told);
        }

        private void overlayInner(Element told) {
            boolean hasOwnArgs = false;
            Element inner = told.firstInner;
            for (int i = 0; i < Paper.MOST_ELEMENTS && inner != null; i++) {
                if (inner.word == Word.ARG) {
                    if (!hasOwnArgs) {
                        args.clear();
                    }
                    hasOwnArgs = true;
                    args.add(inner);
                } else {
                    putNamed(inner.word == Word.SET ? sets : lookups, inner);
                }
                inner = inner.next;
            }
        }

        private static void putNamed(ArrayList<Element> among, Element named) {
            for (int i = 0; i < among.size(); i++) {
                if (among.get(i).letter == named.letter) {
                    among.set(i, named);
                    return;
                }
            }
            among.add(named);
        }

        Element lookupNamed(int letter) {
            for (int i = 0; i < lookups.size(); i++) {
                if (lookups.get(i).letter == letter) {
                    return lookups.get(i);
                }
            }
            return null;
        }

        int told(int what) {
            switch (what) {
                case 0:
                    return classNumber;
                case 1:
                    return args.size();
                case 2:
                    return sets.size();
                case 3:
                    return lookups.size();
                case 4:
                    return method;
                case 5:
                    return init;
                case 6:
                    return destroy;
                case 7:
                    return isAbstract ? 1 : 0;
                case 8:
                    return isMany ? 1 : 0;
                case 9:
                    return isLazy ? 1 : 0;
                case 10:
                    return isMade ? 1 : 0;
                case 11:
                    return element.place;
                default:
                    return NONE;
            }
        }
    }

    /** The beans of a document that is right by itself: FAULT 3, what is merged, what names call. */
    private static final class Wiring {
        private static final int MOST_CALLS_ON = 20;

        private final Paper paper;
        private final Bean[] beans;
        private final Bean[] chain;
        private int count;

        Wiring(Paper paper) {
            this.paper = paper;
            beans = new Bean[Paper.MOST_ELEMENTS];
            for (int i = 0; i < beans.length; i++) {
                beans[i] = new Bean(i);
            }
            chain = new Bean[Paper.MOST_ELEMENTS];
        }

        void forgetBeans() {
            count = 0;
        }

        int count() {
            return count;
        }

        Bean numbered(int k) {
            return beans[k];
        }

        /** Wires all; NONE if nothing is wrong. */
        int firstWrongPlace() {
            count = 0;
            for (int i = 0; i < paper.count(); i++) {
                settle(paper.element(i));
            }
            for (int i = 0; i < paper.count(); i++) {
                if (!isRight(i)) {
                    return paper.element(i).place;
                }
            }
            for (int i = 0; i < count; i++) {
                merge(beans[i]);
            }
            return NONE;
        }

        private void settle(Element element) {
            element.kind = element.word;
            switch (element.word) {
                case ALIAS:
                    element.name = paper.nameValue(element, Word.TO);
                    element.target = paper.nameValue(element, Word.NAME);
                    break;
                case BEAN:
                    element.name = paper.nameValue(element, Word.ID);
                    element.bean = beans[count];
                    beans[count].begin(element, paper);
                    count++;
                    break;
                case ARG:
                    element.at = paper.placeValue(element, Word.AT);
                    element.type = paper.typeValue(element, Word.TYPE);
                    settleContent(element);
                    break;
                case SET:
                    element.letter = paper.letterValue(element, Word.NAME);
                    settleContent(element);
                    break;
                case LOOKUP:
                    element.letter = paper.letterValue(element, Word.NAME);
                    element.target = paper.nameValue(element, Word.BEAN);
                    break;
                case REF:
                    element.target = paper.nameValue(element, Word.BEAN);
                    break;
                case VALUE:
                    element.weighText();
                    break;
                default:
                    break;
            }
        }

        /** An arg or a set with value or ref of its own counts as if it were that element. */
        private void settleContent(Element holder) {
            if (holder.firstInner != null) {
                holder.content = holder.firstInner;
                return;
            }
            holder.content = holder;
            if (paper.has(holder, Word.VALUE)) {
                holder.kind = Word.VALUE;
                paper.valueToText(holder, Word.VALUE);
                holder.weighText();
            } else {
                holder.kind = Word.REF;
                holder.target = paper.nameValue(holder, Word.REF);
            }
        }

        private boolean isRight(int i) {
            Element element = paper.element(i);
            if (element.name != 0) {
                for (int before = 0; before < i; before++) {
                    if (paper.element(before).name == element.name) {
                        return false;
                    }
                }
            }
            return element.bean == null || hasRightParent(element.bean);
        }

        private boolean hasRightParent(Bean child) {
            if (child.parent == 0) {
                return true;
            }
            Bean parent = withId(child.parent);
            return parent != null && !comesToItself(parent);
        }

        /** The bound ends a walk that runs into a ring on which start does not lie: that is no fault of start. */
        private boolean comesToItself(Bean start) {
            Bean above = withId(start.parent);
            for (int up = 1; up < Paper.MOST_ELEMENTS && above != null && above != start; up++) {
                above = withId(above.parent);
            }
            return above == start;
        }

        private void merge(Bean merged) {
            int links = 0;
            Bean link = merged;
            while (links < chain.length && link != null) {
                chain[links] = link;
                links++;
                link = withId(link.parent);
            }
            for (int i = links - 1; i >= 0; i--) {
                merged.overlay(chain[i].element, paper);
            }
        }

        private Bean withId(long id) {
            for (int i = 0; i < count && id != 0; i++) {
                if (beans[i].id == id) {
                    return beans[i];
                }
            }
            return null;
        }

        /** The bean that a name calls, through aliases; null if there is none. */
        Bean called(long name) {
            long sought = name;
            for (int on = 0; on <= MOST_CALLS_ON && sought != 0; on++) {
                Bean found = withId(sought);
                if (found != null) {
                    return found;
                }
                sought = nameBehindAlias(sought);
            }
            return null;
        }

        private long nameBehindAlias(long to) {
            for (int i = 0; i < paper.count(); i++) {
                Element element = paper.element(i);
                if (element.word == Word.ALIAS && element.name == to) {
                    return element.target;
                }
            }
            return 0;
        }
    }

    /** Events of four numbers each. */
    private static final class EventRow {
        private static final int MOST_EVENTS = 400;
        private static final int WIDTH = 4;

        private final int[] numbers;
        private int count;

        EventRow() {
            numbers = new int[MOST_EVENTS * WIDTH];
        }

        void clear() {
            count = 0;
        }

        int count() {
            return count;
        }

        void add(int what, int about, int second, int third) {
            if (count >= MOST_EVENTS) {
                return;
            }
            int start = count * WIDTH;
            numbers[start] = what;
            numbers[start + 1] = about;
            numbers[start + 2] = second;
            numbers[start + 3] = third;
            count++;
        }

        int number(int k, int what) {
            return k >= 0 && k < count && what >= 0 && what < WIDTH ? numbers[k * WIDTH + what] : NONE;
        }
    }

    /** Makes beans. A failure is thrown through all that is being made, and caught where making began. */
    private static final class Maker {
        private static final int MOST_OBJECTS = 60;
        private static final int MOST_ARGS = Structure.MOST_ARGS;
        private static final int MOST_ITEMS = Structure.MOST_ITEMS;
        private static final int FRAME = MOST_ARGS * MOST_ITEMS;
        // Each bean is being made at most once, and 1200 characters hold fewer than 40 that lead to one another.
        private static final int DEEPEST = 40;
        private static final int CANNOT = -1;

        private static final int BY_CONSTRUCTOR = 1;
        private static final int BY_FACTORY = 2;
        private static final int ARGUMENT = 3;
        private static final int SETTING = 4;
        private static final int INITIALISED = 5;
        private static final int ITEM = 6;
        private static final int DESTROYED = 7;

        private static final int TEXT_VALUE = 1000;
        private static final int ROW_VALUE = 2000;
        private static final int OBJECT_VALUE = 3000;

        private final Wiring wiring;
        private final DeclaredClass[] classes;
        private final EventRow row;
        private final int[] objectClasses;
        private final int[] objectBeans;
        private int objectCount;
        private final Bean[] finished;
        private int finishedCount;
        private final int[] worked;
        private final int[] argAtPlace;
        private Bean innermost;
        private int failure;
        private int failureBean;

        Maker(Wiring wiring, DeclaredClass[] classes, EventRow row) {
            this.wiring = wiring;
            this.classes = classes;
            this.row = row;
            objectClasses = new int[MOST_OBJECTS];
            objectBeans = new int[MOST_OBJECTS];
            finished = new Bean[Paper.MOST_ELEMENTS];
            worked = new int[DEEPEST * FRAME];
            argAtPlace = new int[MOST_TYPES];
            failureBean = NONE;
        }

        void startAfresh() {
            objectCount = 0;
            forgetMade();
            row.clear();
        }

        void forgetFailure() {
            failure = 0;
            failureBean = NONE;
        }

        int failure() {
            return failure;
        }

        int failureBean() {
            return failureBean;
        }

        int objectCount() {
            return objectCount;
        }

        private boolean isObject(int k) {
            return k >= 0 && k < objectCount;
        }

        int classOfObject(int k) {
            return isObject(k) ? objectClasses[k] : NONE;
        }

        int beanOfObject(int k) {
            return isObject(k) ? objectBeans[k] : NONE;
        }

        Element lookupOf(int k, int letter) {
            return isObject(k) ? wiring.numbered(objectBeans[k]).lookupNamed(letter) : null;
        }

        private void forgetMade() {
            for (int i = 0; i < wiring.count(); i++) {
                wiring.numbered(i).isMade = false;
            }
            finishedCount = 0;
        }

        void destroyAll() {
            for (int i = finishedCount - 1; i >= 0; i--) {
                if (finished[i].destroy != NONE) {
                    row.add(DESTROYED, finished[i].madeObject, finished[i].destroy, 0);
                }
            }
            forgetMade();
        }

        /** NONE if it fails. */
        int objectCalled(long name) {
            try {
                return obtain(name, 0);
            } catch (UnsupportedOperationException e) {
                stopMaking();
                return NONE;
            }
        }

        boolean renewsAll() {
            forgetMade();
            row.clear();
            try {
                for (int i = 0; i < wiring.count(); i++) {
                    Bean next = wiring.numbered(i);
                    if (next.id != 0 && !next.isAbstract && !next.isMany && !next.isLazy) {
                        obtain(next.id, 0);
                    }
                }
            } catch (UnsupportedOperationException e) {
                stopMaking();
                destroyAll();
                return false;
            }
            return true;
        }

        private int failWith(int number) {
            failure = number;
            failureBean = innermost == null ? NONE : innermost.number;
            throw new UnsupportedOperationException();
        }

        private void stopMaking() {
            for (int i = 0; i < wiring.count(); i++) {
                wiring.numbered(i).isBeingMade = false;
            }
            innermost = null;
        }

        private int obtain(long name, int depth) {
            Bean wanted = wiring.called(name);
            if (wanted == null) {
                return failWith(1);
            }
            if (wanted.isAbstract) {
                return failWith(2);
            }
            if (!wanted.isMany && (wanted.isMade || wanted.isBeingMade && wanted.madeObject != NONE)) {
                return wanted.madeObject;
            }
            return make(wanted, depth);
        }

        private int make(Bean making, int depth) {
            if (making.isBeingMade || depth >= DEEPEST) {
                return failWith(3);
            }
            Bean around = innermost;
            innermost = making;
            making.isBeingMade = true;
            making.madeObject = NONE;
            if (making.depends != 0) {
                obtain(making.depends, depth + 1);
            }
            if (making.classNumber == NONE && making.factory == 0) {
                return failWith(4);
            }
            int from = making.factory == 0 ? NONE : obtain(making.factory, depth + 1);
            workOutArgs(making, depth);
            bringToBe(making, chooseFor(making, from, depth), depth);
            applySets(making, depth);
            if (making.init != NONE) {
                row.add(INITIALISED, making.madeObject, making.init, 0);
            }
            finish(making);
            innermost = around;
            return making.madeObject;
        }

        private void finish(Bean making) {
            making.isBeingMade = false;
            making.isMade = true;
            if (making.id != 0 && !making.isMany && finishedCount < finished.length) {
                finished[finishedCount] = making;
                finishedCount++;
            }
        }

        private static int slot(int depth, int arg) {
            return depth * FRAME + arg * MOST_ITEMS;
        }

        private void workOutArgs(Bean making, int depth) {
            for (int i = 0; i < making.args.size() && i < MOST_ARGS; i++) {
                workOut(making.args.get(i).content, slot(depth, i), depth);
            }
        }

        /** Texts and null need no work: they stand in the element. */
        private void workOut(Element content, int slot, int depth) {
            if (content.kind == Word.LIST) {
                Element item = content.firstInner;
                for (int i = 0; i < MOST_ITEMS && item != null; i++) {
                    worked[slot + i] = itemValue(item, depth);
                    item = item.next;
                }
            } else if (content.kind == Word.REF || content.kind == Word.BEAN) {
                worked[slot] = objectOf(content, depth);
            }
        }

        private int itemValue(Element item, int depth) {
            if (item.kind == Word.VALUE) {
                return TEXT_VALUE + item.textLength;
            }
            return item.kind == Word.NULL ? NONE : OBJECT_VALUE + objectOf(item, depth);
        }

        private int objectOf(Element content, int depth) {
            return content.bean == null ? obtain(content.target, depth + 1) : make(content.bean, depth + 1);
        }

        private Signature chooseFor(Bean making, int from, int depth) {
            DeclaredClass of = classes[from == NONE ? making.classNumber : objectClasses[from]];
            boolean isStatic = making.method != NONE && from == NONE;
            Signature[] among = of.constructors;
            int count = of.constructorCount;
            if (making.method != NONE) {
                DeclaredClass has = of.withFactory(making.method, isStatic);
                among = has == null ? null : has.factories;
                count = has == null ? 0 : has.factoryCount;
            }
            Signature best = null;
            int least = 0;
            boolean arePlaced = placesArgs(making);
            for (int i = 0; arePlaced && i < count; i++) {
                int sum = among[i].isCalled(making.method, isStatic) ? sumFor(making, among[i], depth) : CANNOT;
                if (sum != CANNOT && (best == null || sum < least)) {
                    best = among[i];
                    least = sum;
                }
            }
            if (best == null) {
                failWith(5);
            }
            return best;
        }

        /** Which arg goes to which place; false if they can't go to as many places as there are args. */
        private boolean placesArgs(Bean making) {
            int count = making.args.size();
            if (count > MOST_TYPES) {
                return false;
            }
            for (int place = 0; place < MOST_TYPES; place++) {
                argAtPlace[place] = NONE;
            }
            for (int i = 0; i < count; i++) {
                int at = making.args.get(i).at;
                if (at != NONE) {
                    if (at >= count || argAtPlace[at] != NONE) {
                        return false;
                    }
                    argAtPlace[at] = i;
                }
            }
            placeOthers(making, count);
            return true;
        }

        private void placeOthers(Bean making, int count) {
            int place = 0;
            for (int i = 0; i < count; i++) {
                if (making.args.get(i).at == NONE) {
                    while (place < MOST_TYPES - 1 && argAtPlace[place] != NONE) {
                        place++;
                    }
                    argAtPlace[place] = i;
                }
            }
        }

        private int sumFor(Bean making, Signature signature, int depth) {
            if (signature.count != making.args.size()) {
                return CANNOT;
            }
            int sum = 0;
            for (int place = 0; place < signature.count; place++) {
                Element arg = making.args.get(argAtPlace[place]);
                int kind = signature.types[place];
                if (arg.type != NONE && arg.type != kind) {
                    return CANNOT;
                }
                int weight = weightOf(arg.content, slot(depth, argAtPlace[place]), kind);
                if (weight == CANNOT) {
                    return CANNOT;
                }
                sum += weight;
            }
            return sum;
        }

        private int weightOf(Element content, int slot, int kind) {
            switch (content.kind) {
                case VALUE:
                    return textWeight(content, kind);
                case NULL:
                    return kind >= TYPE_TEXT ? 0 : CANNOT;
                case LIST:
                    return kind == TYPE_ROW ? 0 : CANNOT;
                default:
                    return objectWeight(worked[slot], kind);
            }
        }

        private static int textWeight(Element content, int kind) {
            switch (kind) {
                case TYPE_INT:
                    return content.number == Element.NO_NUMBER ? CANNOT : 1;
                case TYPE_TRUTH:
                    return content.truth == NONE ? CANNOT : 1;
                case TYPE_CHARACTER:
                    return content.textLength == 1 ? 2 : CANNOT;
                case TYPE_TEXT:
                    return 3;
                default:
                    return CANNOT;
            }
        }

        private int objectWeight(int number, int kind) {
            if (kind < TYPE_OF_CLASS) {
                return CANNOT;
            }
            int steps = classes[objectClasses[number]].stepsTo(kind - TYPE_OF_CLASS);
            return steps == NONE ? CANNOT : 2 * steps;
        }

        private void bringToBe(Bean making, Signature by, int depth) {
            if (objectCount >= MOST_OBJECTS) {
                failWith(6);
            }
            int number = objectCount;
            objectCount++;
            objectClasses[number] = by.result;
            objectBeans[number] = making.number;
            making.madeObject = number;
            if (by.name == NONE) {
                row.add(BY_CONSTRUCTOR, number, by.result, by.number);
            } else {
                row.add(BY_FACTORY, number, by.result, CLASSES * by.owner + by.number);
            }
            for (int place = 0; place < by.count; place++) {
                int arg = argAtPlace[place];
                tellValue(ARGUMENT, number, place, making.args.get(arg).content, slot(depth, arg), by.types[place]);
            }
        }

        private void applySets(Bean making, int depth) {
            int number = making.madeObject;
            int slot = slot(depth, 0);
            for (int i = 0; i < making.sets.size(); i++) {
                Element set = making.sets.get(i);
                workOut(set.content, slot, depth);
                int kind = classes[objectClasses[number]].setterType(set.letter);
                if (kind == NONE) {
                    failWith(7);
                }
                if (weightOf(set.content, slot, kind) == CANNOT) {
                    failWith(8);
                }
                tellValue(SETTING, number, set.letter, set.content, slot, kind);
            }
        }

        private void tellValue(int what, int about, int second, Element content, int slot, int kind) {
            row.add(what, about, second, valueOf(content, slot, kind));
            if (content.kind == Word.LIST) {
                for (int i = 0; i < content.innerCount && i < MOST_ITEMS; i++) {
                    row.add(ITEM, NONE, i, worked[slot + i]);
                }
            }
        }

        private int valueOf(Element content, int slot, int kind) {
            switch (content.kind) {
                case VALUE:
                    return textValue(content, kind);
                case NULL:
                    return NONE;
                case LIST:
                    return ROW_VALUE + content.innerCount;
                default:
                    return OBJECT_VALUE + worked[slot];
            }
        }

        private static int textValue(Element content, int kind) {
            switch (kind) {
                case TYPE_INT:
                    return (int) content.number;
                case TYPE_TRUTH:
                    return content.truth;
                case TYPE_CHARACTER:
                    return content.text[0];
                default:
                    return TEXT_VALUE + content.textLength;
            }
        }
    }
}
