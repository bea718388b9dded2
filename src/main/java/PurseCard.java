import java.util.Arrays;

/** A card, a reader that pays with it and an issuer that checks its seals: see README.md. */
public final class PurseCard {
    public static final int NONE = -1;

    private static final int ROW_LIMIT = 40;
    private static final int ANSWER_LIMIT = 32;
    private static final int RECORD_LIMIT = 30;
    private static final int FILES = 4;
    private static final int RECORDS = 3;
    private static final int NAME_SIZE = 7;
    private static final int FULL_TRIES = 3;
    private static final int CODE_LIMIT = 9999;
    private static final int COUNTER_LIMIT = 65535;
    private static final long AMOUNT_LIMIT = 281474976710655L;

    /** Class and instruction of each command, as one number. */
    private static final int SELECT = 0x00A4;
    private static final int READY = 0x80A8;
    private static final int READ = 0x00B2;
    private static final int PROVE = 0x0020;
    private static final int GET = 0x80CA;
    private static final int SEAL = 0x80AE;

    private static final int FINE = 0x9000;
    private static final int WRONG_CODE = 0x63C0;
    private static final int WRONG_LENGTH = 0x6700;
    private static final int NO_TRIES = 0x6983;
    private static final int WRONG_STAGE = 0x6985;
    private static final int WRONG_DATA = 0x6A80;
    private static final int NOT_FOUND = 0x6A82;
    private static final int NO_RECORD = 0x6A83;
    private static final int WRONG_PARAMETERS = 0x6A86;
    private static final int WRONG_INSTRUCTION = 0x6D00;
    private static final int WRONG_CLASS = 0x6E00;

    private static final int SELECTED = 1;
    private static final int OPEN = 2;
    private static final int SEALED = 3;
    private static final int DONE = 4;

    /** What a SEAL asks for and what it gives. */
    private static final int DECLINE = 0x00;
    private static final int APPROVE = 0x40;
    private static final int ASK = 0x80;

    private static final int TAG_GIVEN = 0x9F27;
    private static final int TAG_COUNTER = 0x9F36;
    private static final int TAG_TRIES = 0x9F17;
    private static final int TAG_SEAL = 0x9F26;
    private static final int TAG_SEALED_ANSWER = 0x77;
    private static final int SHORT_SEAL = 8;

    private final Row typed = new Row(ROW_LIMIT);
    private final Row reply = new Row(ANSWER_LIMIT);
    /** READY's answer, which the READs that it names would otherwise overwrite. */
    private final Row list = new Row(ANSWER_LIMIT);
    private final TagSearch search = new TagSearch();
    private final Card card;

    public PurseCard(int name) {
        card = new Card(name);
    }

    public boolean put(int b) {
        if (b < 0 || b > 255) {
            return false;
        }
        return typed.add(b);
    }

    public int wipe() {
        int had = typed.size();
        typed.clear();
        return had;
    }

    public int send() {
        return card.obey(typed, reply);
    }

    public int answered() {
        return reply.size();
    }

    public int answer(int i) {
        return reply.at(i);
    }

    public int find(int tag) {
        return search.placeOf(tag, reply);
    }

    public int keep(int file) {
        if (!card.files.store(file, typed)) {
            return NONE;
        }
        typed.clear();
        return card.files.count(file);
    }

    public void key(long first, long second) {
        card.sealer.takeKey(first, second);
    }

    public boolean code(int v) {
        if (v < 0 || v > CODE_LIMIT) {
            return false;
        }
        card.code = v;
        card.tries = FULL_TRIES;
        return true;
    }

    public boolean advance(int v) {
        if (v < card.counter || v > COUNTER_LIMIT) {
            return false;
        }
        card.counter = v;
        return true;
    }

    public int seal(int i) {
        if (i < 0 || i >= Sealer.BLOCK) {
            return NONE;
        }
        card.sealer.run(typed);
        return card.sealer.byteAt(i);
    }

    public boolean genuine(long amount, int number, boolean proven) {
        if (!isAmount(amount) || reply.at(0) != TAG_SEALED_ANSWER) {
            return false;
        }
        int given = placeOfSized(TAG_GIVEN, 1);
        int counter = placeOfSized(TAG_COUNTER, 2);
        int sealed = placeOfSized(TAG_SEAL, SHORT_SEAL);
        if (given == NONE || counter == NONE || sealed == NONE) {
            return false;
        }
        Sealer sealer = card.sealer;
        sealer.run(sealer.payment(amount, number, reply.numberAt(counter, 2), reply.at(given), proven));
        for (int i = 0; i < SHORT_SEAL; i++) {
            if (reply.at(sealed + i) != sealer.byteAt(i)) {
                return false;
            }
        }
        return true;
    }

    public int pay(long shown, long given, int number, int pin, boolean asking) {
        if (!isAmount(shown) || !isAmount(given) || pin > CODE_LIMIT) {
            return NONE;
        }
        int status = openPayment(given);
        if (status == FINE) {
            status = readRecords();
        }
        if (status != FINE) {
            return -status;
        }
        boolean proven = false;
        if (pin >= 0) {
            status = provePin(pin);
            if (status != FINE && (status & 0xFFF0) != WRONG_CODE) {
                return -status;
            }
            proven = status == FINE;
        }
        typeSeal(asking ? ASK : APPROVE, given, number, 10);
        status = card.obey(typed, reply);
        if (status != FINE) {
            return -status;
        }
        if (givenByCard() == APPROVE) {
            return 1;
        }
        if (givenByCard() != ASK) {
            return 0;
        }
        boolean agreed = genuine(shown, number, proven);
        typeSeal(agreed ? APPROVE : DECLINE, given, number, 12);
        typed.add(0x30);
        typed.add(agreed ? 0x30 : 0x35);
        status = card.obey(typed, reply);
        if (status != FINE) {
            return -status;
        }
        return givenByCard() == APPROVE ? 2 : 0;
    }

    public int stage() {
        return card.stage;
    }

    public int counter() {
        return card.counter;
    }

    public int tries() {
        return card.tries;
    }

    private static boolean isAmount(long amount) {
        return amount >= 0 && amount <= AMOUNT_LIMIT;
    }

    private int placeOfSized(int tag, int count) {
        int place = search.placeOf(tag, reply);
        return place != NONE && reply.at(place - 1) == count ? place : NONE;
    }

    private int givenByCard() {
        return reply.at(search.placeOf(TAG_GIVEN, reply));
    }

    private int openPayment(long amount) {
        typeHead(SELECT, 0x04, 0x00, NAME_SIZE);
        typed.addRow(card.name);
        int status = card.obey(typed, reply);
        if (status != FINE) {
            return status;
        }
        typeHead(READY, 0x00, 0x00, 8);
        typed.addNumber(0x8306, 2);
        typed.addNumber(amount, 6);
        return card.obey(typed, reply);
    }

    private int readRecords() {
        list.clear();
        list.addRow(reply);
        for (int at = 4; at + 3 < list.size(); at += 4) {
            for (int number = list.at(at + 1); number <= list.at(at + 2); number++) {
                typeHead(READ, number, list.at(at) + 4, 0);
                int status = card.obey(typed, reply);
                if (status != FINE) {
                    return status;
                }
            }
        }
        return FINE;
    }

    private int provePin(int pin) {
        typeHead(PROVE, 0x00, 0x80, 8);
        typed.add(0x24);
        typed.add(pin / 1000 * 16 + pin / 100 % 10);
        typed.add(pin / 10 % 10 * 16 + pin % 10);
        for (int i = 0; i < 5; i++) {
            typed.add(0xFF);
        }
        return card.obey(typed, reply);
    }

    private void typeSeal(int wanted, long amount, int number, int count) {
        typeHead(SEAL, wanted, 0x00, count);
        typed.addNumber(amount, 6);
        typed.addNumber(number, 4);
    }

    private void typeHead(int instruction, int p1, int p2, int count) {
        typed.clear();
        typed.addNumber(instruction, 2);
        typed.add(p1);
        typed.add(p2);
        if (count > 0) {
            typed.add(count);
        }
    }

    /** Bytes one behind the other, up to a room that is made once and used again. */
    private static final class Row {
        private final int[] bytes;
        private int size = 0;

        Row(int room) {
            bytes = new int[room];
        }

        int size() {
            return size;
        }

        void clear() {
            size = 0;
        }

        int at(int i) {
            return i >= 0 && i < size ? bytes[i] : NONE;
        }

        boolean add(int b) {
            if (size >= bytes.length) {
                return false;
            }
            bytes[size] = b;
            size++;
            return true;
        }

        void addRow(Row other) {
            for (int i = 0; i < other.size; i++) {
                add(other.at(i));
            }
        }

        void addNumber(long n, int count) {
            for (int i = count - 1; i >= 0; i--) {
                add((int) (n >> (8 * i)) & 0xFF);
            }
        }

        long numberAt(int place, int count) {
            long n = 0;
            for (int i = 0; i < count; i++) {
                n = n * 256 + at(place + i);
            }
            return n;
        }

        /** Answers where the bytes of the tagged row begin: closeTag needs it, for the length is known only then. */
        int openTag(int tag) {
            if (tag > 255) {
                add(tag >> 8);
            }
            add(tag & 0xFF);
            add(0);
            return size;
        }

        void closeTag(int begin) {
            if (begin >= 1 && begin <= size) {
                bytes[begin - 1] = size - begin;
            }
        }

        void addTagged(int tag, long n, int count) {
            int begin = openTag(tag);
            addNumber(n, count);
            closeTag(begin);
        }
    }

    /** Goes through tagged rows with the ends of those that stand open, in place of a recursion. */
    private static final class TagSearch {
        private final int[] ends = new int[ANSWER_LIMIT];

        int placeOf(int tag, Row row) {
            int depth = 0;
            int at = 0;
            ends[0] = row.size();
            for (int met = 0; met < ANSWER_LIMIT && at < row.size(); met++) {
                while (depth > 0 && at >= ends[depth]) {
                    depth--;
                }
                int first = row.at(at);
                boolean isLong = (first & 0x1F) == 0x1F;
                int begin = at + (isLong ? 3 : 2);
                if (begin > ends[depth]) {
                    return NONE;
                }
                int end = begin + row.at(begin - 1);
                if (end > ends[depth]) {
                    return NONE;
                }
                if (tag == (isLong ? 256 * first + row.at(at + 1) : first)) {
                    return begin;
                }
                at = end;
                if ((first & 0x20) != 0) {
                    depth++;
                    if (depth >= ends.length) {
                        return NONE;
                    }
                    ends[depth] = end;
                    at = begin;
                }
            }
            return NONE;
        }
    }

    /** The records of all files, in one array so that no record is ever missing. */
    private static final class Files {
        private final int[] bytes = new int[FILES * RECORDS * RECORD_LIMIT];
        private final int[] sizes = new int[FILES * RECORDS];
        private final int[] counts = new int[FILES];

        int count(int file) {
            return file >= 1 && file <= FILES ? counts[file - 1] : 0;
        }

        boolean store(int file, Row row) {
            if (file < 1 || file > FILES || count(file) >= RECORDS) {
                return false;
            }
            if (row.size() < 1 || row.size() > RECORD_LIMIT) {
                return false;
            }
            int record = (file - 1) * RECORDS + count(file);
            for (int i = 0; i < row.size(); i++) {
                bytes[record * RECORD_LIMIT + i] = row.at(i);
            }
            sizes[record] = row.size();
            counts[file - 1]++;
            return true;
        }

        void copy(int file, int number, Row to) {
            if (number < 1 || number > count(file)) {
                return;
            }
            int record = (file - 1) * RECORDS + number - 1;
            for (int i = 0; i < sizes[record]; i++) {
                to.add(bytes[record * RECORD_LIMIT + i]);
            }
        }
    }

    /** The seal with the key that was taken last. */
    private static final class Sealer {
        static final int BLOCK = 16;
        private static final int ROUNDS = 10;
        /** Written out, for working out the inverses anew for every object would be slow. */
        private static final int[] S = {
            0x63, 0x7C, 0x77, 0x7B, 0xF2, 0x6B, 0x6F, 0xC5, 0x30, 0x01, 0x67, 0x2B, 0xFE, 0xD7, 0xAB, 0x76,
            0xCA, 0x82, 0xC9, 0x7D, 0xFA, 0x59, 0x47, 0xF0, 0xAD, 0xD4, 0xA2, 0xAF, 0x9C, 0xA4, 0x72, 0xC0,
            0xB7, 0xFD, 0x93, 0x26, 0x36, 0x3F, 0xF7, 0xCC, 0x34, 0xA5, 0xE5, 0xF1, 0x71, 0xD8, 0x31, 0x15,
            0x04, 0xC7, 0x23, 0xC3, 0x18, 0x96, 0x05, 0x9A, 0x07, 0x12, 0x80, 0xE2, 0xEB, 0x27, 0xB2, 0x75,
            0x09, 0x83, 0x2C, 0x1A, 0x1B, 0x6E, 0x5A, 0xA0, 0x52, 0x3B, 0xD6, 0xB3, 0x29, 0xE3, 0x2F, 0x84,
            0x53, 0xD1, 0x00, 0xED, 0x20, 0xFC, 0xB1, 0x5B, 0x6A, 0xCB, 0xBE, 0x39, 0x4A, 0x4C, 0x58, 0xCF,
            0xD0, 0xEF, 0xAA, 0xFB, 0x43, 0x4D, 0x33, 0x85, 0x45, 0xF9, 0x02, 0x7F, 0x50, 0x3C, 0x9F, 0xA8,
            0x51, 0xA3, 0x40, 0x8F, 0x92, 0x9D, 0x38, 0xF5, 0xBC, 0xB6, 0xDA, 0x21, 0x10, 0xFF, 0xF3, 0xD2,
            0xCD, 0x0C, 0x13, 0xEC, 0x5F, 0x97, 0x44, 0x17, 0xC4, 0xA7, 0x7E, 0x3D, 0x64, 0x5D, 0x19, 0x73,
            0x60, 0x81, 0x4F, 0xDC, 0x22, 0x2A, 0x90, 0x88, 0x46, 0xEE, 0xB8, 0x14, 0xDE, 0x5E, 0x0B, 0xDB,
            0xE0, 0x32, 0x3A, 0x0A, 0x49, 0x06, 0x24, 0x5C, 0xC2, 0xD3, 0xAC, 0x62, 0x91, 0x95, 0xE4, 0x79,
            0xE7, 0xC8, 0x37, 0x6D, 0x8D, 0xD5, 0x4E, 0xA9, 0x6C, 0x56, 0xF4, 0xEA, 0x65, 0x7A, 0xAE, 0x08,
            0xBA, 0x78, 0x25, 0x2E, 0x1C, 0xA6, 0xB4, 0xC6, 0xE8, 0xDD, 0x74, 0x1F, 0x4B, 0xBD, 0x8B, 0x8A,
            0x70, 0x3E, 0xB5, 0x66, 0x48, 0x03, 0xF6, 0x0E, 0x61, 0x35, 0x57, 0xB9, 0x86, 0xC1, 0x1D, 0x9E,
            0xE1, 0xF8, 0x98, 0x11, 0x69, 0xD9, 0x8E, 0x94, 0x9B, 0x1E, 0x87, 0xE9, 0xCE, 0x55, 0x28, 0xDF,
            0x8C, 0xA1, 0x89, 0x0D, 0xBF, 0xE6, 0x42, 0x68, 0x41, 0x99, 0x2D, 0x0F, 0xB0, 0x54, 0xBB, 0x16
        };

        private final int[] roundKeys = new int[BLOCK * (ROUNDS + 1)];
        private final int[] forWhole = new int[BLOCK];
        private final int[] forFilled = new int[BLOCK];
        private final int[] x = new int[BLOCK];
        private final int[] turned = new int[BLOCK];
        private final Row paid = new Row(BLOCK);

        Sealer() {
            takeKey(0, 0);
        }

        void takeKey(long first, long second) {
            for (int i = 0; i < 8; i++) {
                roundKeys[i] = (int) (first >> (56 - 8 * i)) & 0xFF;
                roundKeys[8 + i] = (int) (second >> (56 - 8 * i)) & 0xFF;
            }
            growRoundKeys();
            Arrays.fill(x, 0);
            encipher();
            doubleRow(x, forWhole);
            doubleRow(forWhole, forFilled);
        }

        /** What the card seals of a payment; the row is used again by the next one. */
        Row payment(long amount, long number, long counter, int given, boolean proven) {
            paid.clear();
            paid.addNumber(amount, 6);
            paid.addNumber(number, 4);
            paid.addNumber(counter, 2);
            paid.add(given);
            paid.add(proven ? 1 : 0);
            return paid;
        }

        /** Leaves the seal in x, where byteAt tells it. */
        void run(Row message) {
            int size = message.size();
            boolean whole = size > 0 && size % BLOCK == 0;
            int blocks = whole ? size / BLOCK : size / BLOCK + 1;
            Arrays.fill(x, 0);
            for (int b = 0; b < blocks; b++) {
                for (int i = 0; i < BLOCK; i++) {
                    int at = b * BLOCK + i;
                    int filler = at == size ? 0x80 : 0;
                    x[i] ^= at < size ? message.at(at) : filler;
                    if (b == blocks - 1) {
                        x[i] ^= whole ? forWhole[i] : forFilled[i];
                    }
                }
                encipher();
            }
        }

        int byteAt(int i) {
            return i >= 0 && i < BLOCK ? x[i] : NONE;
        }

        private void growRoundKeys() {
            int power = 1;
            for (int at = BLOCK; at < roundKeys.length; at += BLOCK) {
                for (int i = 0; i < 4; i++) {
                    int last = roundKeys[at - 4 + (i + 1) % 4];
                    roundKeys[at + i] = roundKeys[at + i - BLOCK] ^ S[last & 0xFF];
                }
                roundKeys[at] ^= power;
                power = twice(power);
                for (int i = 4; i < BLOCK; i++) {
                    roundKeys[at + i] = roundKeys[at + i - BLOCK] ^ roundKeys[at + i - 4];
                }
            }
        }

        private void encipher() {
            combineRoundKey(0);
            for (int round = 1; round <= ROUNDS; round++) {
                substituteAndTurn();
                if (round < ROUNDS) {
                    mixColumns();
                }
                combineRoundKey(round);
            }
        }

        private void combineRoundKey(int round) {
            for (int i = 0; i < BLOCK; i++) {
                x[i] ^= roundKeys[round * BLOCK + i];
            }
        }

        private void substituteAndTurn() {
            for (int j = 0; j < 4; j++) {
                for (int i = 0; i < 4; i++) {
                    turned[i + 4 * j] = S[x[i + 4 * ((j + i) % 4)] & 0xFF];
                }
            }
            System.arraycopy(turned, 0, x, 0, BLOCK);
        }

        /** x * a + (x + 1) * b + c + d is x * (a + b) + a + (a + b + c + d): one doubling a byte. */
        private void mixColumns() {
            for (int at = 0; at < BLOCK; at += 4) {
                int first = x[at];
                int all = x[at] ^ x[at + 1] ^ x[at + 2] ^ x[at + 3];
                for (int i = 0; i < 4; i++) {
                    int next = i < 3 ? x[at + i + 1] : first;
                    x[at + i] ^= all ^ twice(x[at + i] ^ next);
                }
            }
        }

        private static int twice(int b) {
            return (b << 1) ^ (b > 127 ? 0x11B : 0);
        }

        private static void doubleRow(int[] from, int[] to) {
            for (int i = 0; i < BLOCK; i++) {
                int carry = i + 1 < BLOCK ? from[i + 1] >> 7 : 0;
                to[i] = (from[i] << 1 & 0xFF) | carry;
            }
            if (from[0] > 127) {
                to[BLOCK - 1] ^= 0x87;
            }
        }
    }

    /** What the card holds and how it answers commands. */
    private static final class Card {
        private final Row name = new Row(NAME_SIZE);
        private final Files files = new Files();
        private final Sealer sealer = new Sealer();
        private int code = 0;
        private int counter = 0;
        private int tries = FULL_TRIES;
        private int alone = 0;
        private int stage = 0;
        private long amount = 0;
        private boolean proven = false;

        Card(int ending) {
            name.addNumber(0xA0000000L, 4);
            name.addNumber(ending, 3);
        }

        /** Empties the command; a reply is written only by a command that ends with FINE. */
        int obey(Row command, Row reply) {
            reply.clear();
            int status = firstFault(command);
            if (status == FINE) {
                switch (instructionOf(command)) {
                    case SELECT:
                        status = select(command, reply);
                        break;
                    case READY:
                        status = ready(command, reply);
                        break;
                    case READ:
                        status = read(command, reply);
                        break;
                    case PROVE:
                        status = prove(command);
                        break;
                    case GET:
                        status = tell(command, reply);
                        break;
                    default:
                        status = giveSeal(command, reply);
                        break;
                }
            }
            command.clear();
            return status;
        }

        private int firstFault(Row command) {
            if (!isWellFormed(command)) {
                return WRONG_LENGTH;
            }
            if (command.at(0) != 0x00 && command.at(0) != 0x80) {
                return WRONG_CLASS;
            }
            int instruction = instructionOf(command);
            if (!isKnown(instruction)) {
                return WRONG_INSTRUCTION;
            }
            if (!takesParameters(instruction, command.at(2), command.at(3))) {
                return WRONG_PARAMETERS;
            }
            if (!fitsStage(instruction)) {
                return WRONG_STAGE;
            }
            return takesData(instruction, dataSize(command)) ? FINE : WRONG_LENGTH;
        }

        private static boolean isWellFormed(Row command) {
            int size = command.size();
            return size == 4 || (size > 5 && command.at(4) == size - 5);
        }

        private static int instructionOf(Row command) {
            return (int) command.numberAt(0, 2);
        }

        private static int dataSize(Row command) {
            return command.size() > 5 ? command.size() - 5 : 0;
        }

        private static boolean isKnown(int instruction) {
            switch (instruction) {
                case SELECT:
                case READY:
                case READ:
                case PROVE:
                case GET:
                case SEAL:
                    return true;
                default:
                    return false;
            }
        }

        private static boolean takesParameters(int instruction, int p1, int p2) {
            switch (instruction) {
                case SELECT:
                    return p1 == 0x04 && p2 == 0x00;
                case READY:
                    return p1 == 0x00 && p2 == 0x00;
                case READ:
                    return p2 % 8 == 4;
                case PROVE:
                    return p1 == 0x00 && p2 == 0x80;
                case GET:
                    return p1 == 0x9F && (p2 == 0x36 || p2 == 0x17);
                default:
                    return (p1 == DECLINE || p1 == APPROVE || p1 == ASK) && p2 == 0x00;
            }
        }

        private boolean fitsStage(int instruction) {
            switch (instruction) {
                case READY:
                    return stage == SELECTED && counter < COUNTER_LIMIT;
                case READ:
                    return stage >= OPEN;
                case PROVE:
                    return stage == OPEN;
                case SEAL:
                    return stage == OPEN || stage == SEALED;
                default:
                    return true;
            }
        }

        private boolean takesData(int instruction, int count) {
            switch (instruction) {
                case SELECT:
                    return count >= 5 && count <= 16;
                case READY:
                case PROVE:
                    return count == 8;
                case SEAL:
                    return count == (stage == OPEN ? 10 : 12);
                default:
                    return count == 0;
            }
        }

        private int select(Row command, Row reply) {
            int count = dataSize(command);
            if (count > NAME_SIZE) {
                return NOT_FOUND;
            }
            for (int i = 0; i < count; i++) {
                if (command.at(5 + i) != name.at(i)) {
                    return NOT_FOUND;
                }
            }
            stage = SELECTED;
            int whole = reply.openTag(0x6F);
            int named = reply.openTag(0x84);
            reply.addRow(name);
            reply.closeTag(named);
            int details = reply.openTag(0xA5);
            reply.addTagged(0x50, 0x43415244, 4);
            reply.addTagged(0x9F38, 0x9F0206, 3);
            reply.closeTag(details);
            reply.closeTag(whole);
            return FINE;
        }

        private int ready(Row command, Row reply) {
            if (command.numberAt(5, 2) != 0x8306) {
                return WRONG_DATA;
            }
            counter++;
            amount = command.numberAt(7, 6);
            proven = false;
            stage = OPEN;
            int begin = reply.openTag(0x80);
            reply.addNumber(0x1800, 2);
            for (int file = 1; file <= FILES; file++) {
                if (files.count(file) > 0) {
                    reply.add(8 * file);
                    reply.add(1);
                    reply.add(files.count(file));
                    reply.add(0);
                }
            }
            reply.closeTag(begin);
            return FINE;
        }

        private int read(Row command, Row reply) {
            int number = command.at(2);
            int file = command.at(3) / 8;
            if (files.count(file) == 0) {
                return NOT_FOUND;
            }
            if (number < 1 || number > files.count(file)) {
                return NO_RECORD;
            }
            int begin = reply.openTag(0x70);
            files.copy(file, number, reply);
            reply.closeTag(begin);
            return FINE;
        }

        private int prove(Row command) {
            if (tries == 0) {
                return NO_TRIES;
            }
            if (!holdsDigits(command)) {
                return WRONG_DATA;
            }
            proven = digitsOf(command.at(6)) * 100 + digitsOf(command.at(7)) == code;
            if (proven) {
                tries = FULL_TRIES;
                return FINE;
            }
            tries--;
            return WRONG_CODE + tries;
        }

        private static boolean holdsDigits(Row command) {
            for (int i = 8; i < 13; i++) {
                if (command.at(i) != 0xFF) {
                    return false;
                }
            }
            return command.at(5) == 0x24 && digitsOf(command.at(6)) != NONE && digitsOf(command.at(7)) != NONE;
        }

        /** The two halves of a byte as a number of two digits; NONE if one is no digit. */
        private static int digitsOf(int b) {
            int high = b / 16;
            int low = b % 16;
            return high <= 9 && low <= 9 ? high * 10 + low : NONE;
        }

        private int tell(Row command, Row reply) {
            if (command.at(3) == 0x36) {
                reply.addTagged(TAG_COUNTER, counter, 2);
            } else {
                reply.addTagged(TAG_TRIES, tries, 1);
            }
            return FINE;
        }

        private int giveSeal(Row command, Row reply) {
            long sum = command.numberAt(5, 6);
            long number = command.numberAt(11, 4);
            int given = decide(command.at(2), sum, command.numberAt(15, 2));
            if (given == APPROVE) {
                alone = stage == OPEN ? alone + 1 : 0;
            }
            stage = given == ASK ? SEALED : DONE;
            sealer.run(sealer.payment(sum, number, counter, given, proven));
            int begin = reply.openTag(TAG_SEALED_ANSWER);
            reply.addTagged(TAG_GIVEN, given, 1);
            reply.addTagged(TAG_COUNTER, counter, 2);
            int sealed = reply.openTag(TAG_SEAL);
            for (int i = 0; i < SHORT_SEAL; i++) {
                reply.add(sealer.byteAt(i));
            }
            reply.closeTag(sealed);
            reply.closeTag(begin);
            return FINE;
        }

        /** The verdict is the issuer's two bytes, which only a SEAL of the stage SEALED has. */
        private int decide(int wanted, long sum, long verdict) {
            if (sum != amount || wanted == DECLINE) {
                return DECLINE;
            }
            if (stage == OPEN) {
                return wanted == ASK || !proven || alone >= 2 ? ASK : APPROVE;
            }
            return wanted == APPROVE && verdict == 0x3030 ? APPROVE : DECLINE;
        }
    }
}
