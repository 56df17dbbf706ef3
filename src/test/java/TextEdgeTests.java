/** Terms I and promises 1 to 5 at their boundaries: the TAPE, TOKENS, LINES, FAULTS and their places. */
final class TextEdgeTests {
    private static final String[] WORDS = {"thrower", "throws", "cross", "letter", "gusts"};

    public static void main(String[] args) {
        newObjectHasNothing();
        roofsAreOneToSix();
        roofsIsTheFirstLineAlone();
        roofsOfLinesAreTold();
        kindsAreFive();
        heightsAreUpToNine();
        nothingGoesToNoOther();
        throwsAreUpToEight();
        pairsAreUnlike();
        crossesAreUpToSix();
        lettersAreUpToEight();
        beatsOfLettersAreBound();
        gustsAreToldOnce();
        signsAreTokens();
        tokensAreTheLongest();
        numbersDoNotWrap();
        wordsAreWhole();
        linesAreWhole();
        theEndIsAPlace();
        theFirstFaultIsTold();
        ofOnePlaceTheLeastIsTold();
        tapeIsFilled();
        bytesComeInOrder();
        tapeIsCut();
        cityTakesThePlaceOfAnother();
        faultIsOfTheLatestCity();
        Check.close("TextEdgeTests");
    }

    private static JuggledPost taken(int lines, String text) {
        JuggledPost x = Stage.made();
        x.end(0);
        Check.due("city " + text, lines, Check.tell(x, text));
        Check.due("no fault of " + text, 0, x.fault(0));
        Check.due("no place of " + text, -1, x.fault(1));
        Check.due("lines of " + text, lines, x.count(3));
        Check.due("the tape behind " + text, 0, x.count(4));
        return x;
    }

    private static JuggledPost holding(String text) {
        JuggledPost x = Stage.made();
        x.end(0);
        Check.tape(x, text);
        return x;
    }

    /** The place of the FAULT stands behind the mark ^, which is no part of the text. */
    private static void faulty(int fault, String marked) {
        int place = marked.indexOf('^');
        String text = marked.substring(0, place) + marked.substring(place + 1);
        JuggledPost x = holding(text);
        Check.due("city " + text, -4, x.city());
        Check.due("fault of " + text, fault, x.fault(0));
        Check.due("place in " + text, place, x.fault(1));
        Stage.alike("behind the faulty " + text, holding(text), x);
    }

    // promise 1; 5: ahead of any city()
    private static void newObjectHasNothing() {
        JuggledPost x = new JuggledPost();
        for (int what = 0; what <= 8; what++) {
            Check.due("count " + what, 0, x.count(what));
        }
        Check.due("no fault ahead of any city", 0, x.fault(0));
        Check.due("no place ahead of any city", -1, x.fault(1));
        Check.due("no turn", -2, x.turn());
        Check.due("no keeps", -2, x.keeps());
        Check.due("no period", -2, x.period(0));
        for (int k = 0; k < 3; k++) {
            Check.due("no image", -6, x.back(k));
        }
        for (int slot = 0; slot < 4; slot++) {
            Check.due("no row", -6, x.write(slot, 0, 0));
        }
        Check.due("an empty tape", -1, x.end(1));
        Check.due("an empty tape", 0, x.end(0));
        Check.due("no line", 0, x.city());
        Check.due("no turn", -2, x.turn());
    }

    // I: roofs 1 .. 6
    private static void roofsAreOneToSix() {
        for (int roofs = 1; roofs <= 6; roofs++) {
            JuggledPost x = taken(1, "roofs " + roofs + ";");
            Check.due("roofs", roofs, x.count(0));
            Check.due("the last roof", 1, x.period(roofs - 1));
            Check.due("no roof behind it", -2, x.period(roofs));
        }
        faulty(2, "roofs ^0;");
        faulty(2, "roofs ^7;");
        faulty(2, "roofs ^00;");
        faulty(2, "roofs ^10;");
    }

    // I: roofs is the first LINE and no other
    private static void roofsIsTheFirstLineAlone() {
        faulty(1, "roofs 2;^roofs 2;");
        faulty(1, "roofs 2;cross 0 1;^roofs");
        for (String word : WORDS) {
            faulty(1, "^" + word + " 0 1;");
            faulty(1, " \n^" + word);
        }
        faulty(1, "^roof 2;");
        faulty(1, "^roofss 2;");
        faulty(1, "^to");
        faulty(1, "^2;");
        faulty(1, "^;");
    }

    // I: R is 0 .. roofs less 1, wherever it stands
    private static void roofsOfLinesAreTold() {
        String[] lines = {"thrower R plain;", "throws R 3;", "throws 0 3 to R;", "throws 0 1 2 to 0 3 to R;", "throws 0 0 to R;",
            "cross R 1;", "cross 1 R;", "letter R at 0 to 1;", "letter 1 at 0 to R;"};
        for (int roofs = 2; roofs <= 6; roofs++) {
            String head = "roofs " + roofs + ";";
            for (String line : lines) {
                boolean nothing = line.startsWith("throws 0 0");
                // where the other ROOF of a pair is 1 the least is 0, and the last is 1 of two ROOFS alone
                taken(2, head + line.replace("R", "0"));
                if (!nothing && (roofs > 2 || line.startsWith("thro"))) {
                    taken(2, head + line.replace("R", "" + (roofs - 1)));
                }
                faulty(2, head + line.replace("R", "^" + roofs));
                faulty(2, head + line.replace("R", "^9999999999"));
            }
        }
        taken(4, "roofs 1;thrower 0 slow;throws 0 3;throws 0 0 to 0;");
        faulty(2, "roofs 1;thrower ^1 slow;");
        faulty(2, "roofs 1;throws ^1 3;");
        faulty(2, "roofs 1;throws 0 3 to ^1;");
    }

    // I: KIND: a later LINE strikes; plain without
    private static void kindsAreFive() {
        // to another by both hands, low, and of unlike HEIGHTS, the first above 5: what suits whom tells the KIND
        String rows = "roofs 2;throws 0 6 7 to 1;throws 1 1 1;";
        Check.due("plain without", 1, taken(3, rows).unsuited(0));
        Check.due("plain", 1, taken(4, rows + "thrower 0 plain;").unsuited(0));
        JuggledPost left = taken(4, rows + "thrower 0 left;");
        Check.due("left", 1, left.tosses(0, 0, 2));
        Check.due("slow", 0, taken(4, rows + "thrower 0 slow;").unsuited(0));
        Check.due("blind", -1, taken(4, rows + "thrower 0 blind;").unsuited(0));
        Check.due("blind", 0, taken(4, rows + "thrower 1 blind;").unsuited(1));
        Check.due("learner", 1, taken(4, "roofs 2;throws 0 6 7;throws 1 1;thrower 0 learner;").unsuited(0));
        Check.due("a later line strikes", 1, taken(6, rows + "thrower 0 blind;thrower 0 left;thrower 0 plain;").unsuited(0));
        Check.due("a later line strikes", 0, taken(5, rows + "thrower 0 left;thrower 0 slow;").tosses(0, 0, 2));
        Check.due("of its own roof", 0, taken(5, rows + "thrower 0 slow;thrower 1 plain;").unsuited(0));
        for (String word : new String[] {"plai", "plainn", "lefty", "slo", "blin", "learners", "roofs", "to", "thrower"}) {
            faulty(1, "roofs 2;thrower 0 ^" + word + ";");
        }
        faulty(1, "roofs 2;thrower 0 ^0;");
        faulty(1, "roofs 2;thrower 0 ^;");
        faulty(1, "roofs 2;thrower ^left;");
        faulty(1, "roofs 2;thrower 0 left ^left;");
    }

    // I: a HEIGHT 0 .. 9
    private static void heightsAreUpToNine() {
        JuggledPost x = taken(2, "roofs 2;throws 0 0 9;");
        Check.due("the least height", 0, x.tosses(0, 0, 0));
        Check.due("the greatest height", 9, x.tosses(0, 1, 0));
        faulty(2, "roofs 2;throws 0 ^10;");
        faulty(2, "roofs 2;throws 0 9 ^10 to 1;");
        faulty(2, "roofs 2;throws 0 9 to 1 ^10;");
        faulty(2, "roofs 2;throws 0 ^99 to 7;");
        Check.due("one 0 without", 0, taken(1, "roofs 1;").tosses(0, 0, 0));
        Check.due("one 0 without", 1, taken(1, "roofs 1;").period(0));
        Check.due("its own roof without", 1, taken(2, "roofs 2;throws 1 4;").tosses(1, 0, 1));
    }

    // I: of HEIGHT 0 no other one
    private static void nothingGoesToNoOther() {
        JuggledPost x = taken(2, "roofs 6;throws 3 0 to 3 1 to 5 0;");
        Check.due("to its own", 3, x.tosses(3, 0, 1));
        Check.due("1 to another", 5, x.tosses(3, 1, 1));
        Check.due("its own without", 3, x.tosses(3, 2, 1));
        faulty(2, "roofs 6;throws 3 0 to ^2;");
        faulty(2, "roofs 6;throws 3 0 to ^4;");
        faulty(2, "roofs 6;throws 3 1 to 4 0 to ^0;");
        faulty(2, "roofs 6;throws 3 00 to ^5;");
    }

    // I: 8 throws at most; FAULT 3 at the 9th
    private static void throwsAreUpToEight() {
        Check.due("eight", 8, taken(2, "roofs 2;throws 1 1 2 3 4 5 6 7 8;").period(1));
        JuggledPost x = taken(2, "roofs 2;throws 1 1 to 0 2 to 0 3 to 0 4 to 0 5 to 0 6 to 0 7 to 0 8 to 0;");
        Check.due("the eighth", 8, x.tosses(1, 7, 0));
        Check.due("the eighth", 0, x.tosses(1, 7, 1));
        Check.due("a ninth is the first", 1, x.tosses(1, 8, 0));
        faulty(3, "roofs 2;throws 1 1 2 3 4 5 6 7 8 ^9;");
        faulty(3, "roofs 2;throws 1 1 2 3 4 5 6 7 8 to 0 ^0;");
        faulty(3, "roofs 2;throws 1 1 2 3 4 5 6 7 8 ^9 to 7;");
        faulty(3, "roofs 2;throws 1 1 2 3 4 5 6 7 8 ^9 10;");
        faulty(3, "roofs 2;throws 1 1 2 3 4 5 6 7 8;throws 1 1 2 3 4 5 6 7 8 ^9");
        faulty(1, "roofs 2;throws 1^;");
        Check.due("one", 1, taken(2, "roofs 2;throws 1 4;").period(1));
        // a later LINE strikes: the eight are of a LINE, not of a ROOF
        x = taken(4, "roofs 2;throws 1 1 2 3 4 5 6 7 8;throws 0 5;throws 1 8 7 6 5 4 3 2 1;");
        Check.due("the later line", 8, x.tosses(1, 0, 0));
        Check.due("the later line", 1, x.tosses(1, 7, 0));
        x = taken(3, "roofs 2;throws 1 1 2 3 4 5 6 7 8;throws 1 9 to 0;");
        Check.due("the later line is shorter", 1, x.period(1));
        Check.due("the later line", 9, x.tosses(1, 1, 0));
        Check.due("the later line", 0, x.tosses(1, 1, 1));
    }

    // I: cross, letter: two unlike ROOFS
    private static void pairsAreUnlike() {
        taken(2, "roofs 2;cross 0 1;");
        taken(2, "roofs 2;cross 1 0;");
        taken(2, "roofs 2;letter 1 at 0 to 0;");
        faulty(2, "roofs 2;cross 0 ^0;");
        faulty(2, "roofs 6;cross 5 ^5;");
        faulty(2, "roofs 1;cross 0 ^0;");
        faulty(2, "roofs 2;letter 0 at 0 to ^0;");
        faulty(2, "roofs 6;letter 5 at 9999 to ^5;");
        faulty(2, "roofs 1;letter 0 at 0 to ^0;");
        faulty(2, "roofs 6;cross 05 ^005;");
    }

    // I: FAULT 3: a 7th cross, at its word; IV: told twice as one
    private static void crossesAreUpToSix() {
        String five = "roofs 6;cross 0 1;cross 0 2;cross 0 3;cross 0 4;cross 0 5;";
        Check.due("five pairs", 5, taken(6, five).count(2));
        Check.due("six pairs", 6, taken(7, five + "cross 1 2;").count(2));
        Check.due("one is told twice", 5, taken(7, five + "cross 1 0;").count(2));
        faulty(3, five + "cross 1 2;^cross 1 3;");
        faulty(3, five + "cross 1 0;^cross 1 3;");
        faulty(3, five + "cross 1 0;^cross 0 1;");
        faulty(3, five + "cross 1 2;throws 0 3;^cross");
        faulty(3, five + "cross 1 2;^cross 9 9;");
        Check.due("none of before", 0, taken(1, "roofs 6;").count(2));
    }

    // I: FAULT 3: a 9th letter, at its word
    private static void lettersAreUpToEight() {
        String seven = "roofs 2;" + "letter 0 at 7 to 1;".repeat(7);
        Check.due("seven", 7, taken(8, seven).count(1));
        JuggledPost x = taken(9, seven + "letter 1 at 8 to 0;");
        Check.due("eight", 8, x.count(1));
        Check.due("the eighth", 1, x.letter(7, 0));
        Check.due("the eighth", 8, x.letter(7, 1));
        Check.due("the eighth", 0, x.letter(7, 2));
        Check.due("no ninth", -2, x.letter(8, 0));
        faulty(3, seven + "letter 1 at 8 to 0;^letter 1 at 8 to 0;");
        faulty(3, seven + "letter 1 at 8 to 0;cross 0 1;^letter");
        faulty(3, seven + "letter 1 at 8 to 0;^letter 7 at 10000 to 7;");
        Check.due("none of before", 0, taken(1, "roofs 6;").count(1));
    }

    // I: at 0 .. 9,999
    private static void beatsOfLettersAreBound() {
        Check.due("the first beat", 0, taken(2, "roofs 2;letter 0 at 0 to 1;").letter(0, 1));
        Check.due("the last beat", 9999, taken(2, "roofs 2;letter 0 at 9999 to 1;").letter(0, 1));
        Check.due("the last beat", 9999, taken(2, "roofs 2;letter 0 at 0009999 to 1;").letter(0, 1));
        faulty(2, "roofs 2;letter 0 at ^10000 to 1;");
        faulty(2, "roofs 2;letter 0 at ^99999 to 1;");
    }

    // I: gusts once, from 1 .. 9, odds 0 .. 100 (9 and 0 without)
    private static void gustsAreToldOnce() {
        JuggledPost x = taken(1, "roofs 2;");
        Check.due("from without", 9, x.count(5));
        Check.due("odds without", 0, x.count(6));
        x = taken(2, "roofs 2;gusts from 1 odds 0;");
        Check.due("the least from", 1, x.count(5));
        Check.due("the least odds", 0, x.count(6));
        x = taken(2, "roofs 2;gusts from 9 odds 100;");
        Check.due("the greatest from", 9, x.count(5));
        Check.due("the greatest odds", 100, x.count(6));
        faulty(2, "roofs 2;gusts from ^0 odds 0;");
        faulty(2, "roofs 2;gusts from ^10 odds 0;");
        faulty(2, "roofs 2;gusts from 1 odds ^101;");
        faulty(2, "roofs 2;gusts from 9 odds ^1000;");
        faulty(2, "roofs 2;gusts from 9 odds 0;^gusts from 9 odds 0;");
        faulty(2, "roofs 2;gusts from 1 odds 1;throws 0 3;^gusts");
        faulty(2, "roofs 2;gusts from 1 odds 1;^gusts 7;");
        taken(2, "roofs 2;gusts from 9 odds 0;");
    }

    // I: blanks are 32 and 10, words a .. z, numbers 0 .. 9, the sign ; : every other byte is no TOKEN
    private static void signsAreTokens() {
        for (int sign = 0; sign < 256; sign++) {
            char c = (char) sign;
            boolean blank = c == ' ' || c == '\n';
            if (blank) {
                taken(1, c + "roofs" + c + "2" + c + ";" + c);
                continue;
            }
            faulty(1, "roofs 2;^" + c);
            if (c >= '0' && c <= '9') {
                faulty(2, "roofs ^2" + c + ";");
            } else if (c == ';') {
                faulty(1, "roofs 2;^" + c + ";");
            } else {
                faulty(1, "roofs 2^" + c + ";");
            }
        }
    }

    // I: TOKENS are the longest
    private static void tokensAreTheLongest() {
        JuggledPost x = taken(3, "roofs2;throws0 3to1 9to0;gusts from9odds100;");
        Check.due("a word behind a number", 1, x.tosses(0, 0, 1));
        Check.due("a number behind a word", 100, x.count(6));
        faulty(1, "roofs 2;throws 0 3 ^tto 1;");
        for (char c : new char[] {'a', 'm', 'z'}) {
            faulty(1, "^roofs" + c + " 2;");
            faulty(1, "^" + c + "roofs 2;");
        }
        faulty(1, "roofs 2;^throwsthrows 0 3;");
        faulty(1, "roofs 2;^thro ws 0 3;");
        faulty(2, "roofs 2;cross ^10 1;");
        faulty(1, "roofs 2;cross 01^;");
        taken(2, "roofs\n\n2 ;\n throws   1\n3 \n ;\n");
    }

    // I: a number is its digits, however many: it wraps round nowhere
    private static void numbersDoNotWrap() {
        String[] turns = {"4294967296", "18446744073709551616", "256", "65536", "2147483648", "340282366920938463463374607431768211456"};
        for (String turn : turns) {
            String two = new java.math.BigInteger(turn).add(java.math.BigInteger.TWO).toString();
            faulty(2, "roofs ^" + two + ";");
            faulty(2, "roofs 3;thrower ^" + two + " left;");
            faulty(2, "roofs 3;throws 0 ^" + two + ";");
            faulty(2, "roofs 3;cross 0 ^" + two + ";");
            faulty(2, "roofs 3;gusts from ^" + two + " odds 2;");
            faulty(2, "roofs 3;gusts from 2 odds ^" + two + ";");
        }
        faulty(2, "roofs 3;letter 0 at ^4294967298 to 1;");
        Check.due("zeros ahead", 6, taken(1, "roofs " + "0".repeat(1500) + "6;").count(0));
        faulty(2, "roofs ^" + "0".repeat(1500) + "7;");
        faulty(2, "roofs ^" + "9".repeat(1500) + ";");
    }

    // I: a word with one letter changed, wherever that is, can't stand there
    private static void wordsAreWhole() {
        String[] texts = {"@roofs@ 2;", "roofs 2;@thrower@ 0 left;", "roofs 2;@throws@ 0 3;", "roofs 2;throws 0 3 @to@ 1;",
            "roofs 2;@cross@ 0 1;", "roofs 2;@letter@ 0 at 0 to 1;", "roofs 2;letter 0 @at@ 0 to 1;", "roofs 2;letter 0 at 0 @to@ 1;",
            "roofs 2;@gusts@ from 9 odds 0;", "roofs 2;gusts @from@ 9 odds 0;", "roofs 2;gusts from 9 @odds@ 0;",
            "roofs 2;thrower 0 @plain@;", "roofs 2;thrower 0 @left@;", "roofs 2;thrower 0 @slow@;", "roofs 2;thrower 0 @blind@;",
            "roofs 2;thrower 0 @learner@;"};
        for (String text : texts) {
            int from = text.indexOf('@');
            int to = text.indexOf('@', from + 1) - 1;
            String whole = text.replace("@", "");
            taken((int) whole.chars().filter(c -> c == ';').count(), whole);
            for (int i = from; i < to; i++) {
                String head = whole.substring(0, from) + "^" + whole.substring(from, i);
                faulty(1, head + (whole.charAt(i) == 'x' ? 'y' : 'x') + whole.substring(i + 1));
                faulty(1, head + (char) (whole.charAt(i) + 1) + whole.substring(i + 1));
            }
            faulty(1, whole.substring(0, from) + "^" + whole.substring(from, to - 1) + whole.substring(to));
            faulty(1, whole.substring(0, from) + "^" + whole.substring(from, to) + "s" + whole.substring(to));
        }
    }

    // I: each LINE has its words and its end
    private static void linesAreWhole() {
        faulty(1, "roofs ^;");
        faulty(1, "roofs ^two;");
        faulty(1, "roofs 2 ^2;");
        faulty(1, "roofs 2 ^throws 0 3;");
        faulty(1, "roofs 2;^;");
        faulty(1, "roofs 2;throws ^to 1;");
        faulty(1, "roofs 2;throws 0 ^to 1;");
        faulty(1, "roofs 2;throws 0 3 to ^;");
        faulty(1, "roofs 2;throws 0 3 to 1 ^to 1;");
        faulty(1, "roofs 2;throws 0 3 ^at 1;");
        faulty(1, "roofs 2;cross ^;");
        faulty(1, "roofs 2;cross 0 ^;");
        faulty(1, "roofs 2;cross 0 ^to 1;");
        faulty(1, "roofs 2;cross 0 1 ^0;");
        faulty(1, "roofs 2;letter 0 ^0 to 1;");
        faulty(1, "roofs 2;letter 0 ^to 1 at 0;");
        faulty(1, "roofs 2;letter 0 at ^to 1;");
        faulty(1, "roofs 2;letter 0 at 0 ^1;");
        faulty(1, "roofs 2;letter 0 at 0 to 1 ^at 0;");
        faulty(1, "roofs 2;gusts ^9 odds 0;");
        faulty(1, "roofs 2;gusts ^odds 0 from 9;");
        faulty(1, "roofs 2;gusts from ^odds 0;");
        faulty(1, "roofs 2;gusts from 9 ^0;");
        faulty(1, "roofs 2;gusts from 9 odds ^;");
        faulty(1, "roofs 2;gusts from 9 odds 0 ^from 9;");
    }

    // I: the place of a FAULT at the end is the end's
    private static void theEndIsAPlace() {
        String[] lines = {"roofs 2", "roofs 2;thrower 0 left", "roofs 2;throws 0 3 to 1", "roofs 2;cross 0 1",
            "roofs 2;letter 0 at 0 to 1", "roofs 2;gusts from 9 odds 0"};
        for (String line : lines) {
            for (int cut = line.length(); cut > 0; cut--) {
                String text = line.substring(0, cut);
                boolean betweenTokens = cut == line.length() || line.charAt(cut) == ' ' || line.charAt(cut - 1) == ' ';
                if (betweenTokens && text.charAt(cut - 1) != ';' && !text.equals("roofs 2;")) {
                    faulty(1, text + "^");
                    faulty(1, text + "\n \n^");
                }
            }
        }
        taken(1, "roofs 2;\n \n");
        // at the very end of a full TAPE
        faulty(1, "roofs 2" + " ".repeat(1593) + "^");
        taken(1, "roofs 2" + " ".repeat(1592) + ";");
    }

    // I: the first by its place, whatever it is
    private static void theFirstFaultIsTold() {
        faulty(2, "roofs ^7;Roofs");
        faulty(1, "roofs 2 ^Roofs 7;");
        faulty(2, "roofs 2;cross 0 ^0;cross 9 9;;");
        faulty(1, "roofs 2;cross ^x 9;");
        faulty(3, "roofs 2;throws 0 1 1 1 1 1 1 1 1 ^1 10 ?");
        faulty(2, "roofs 2;throws 0 1 1 1 1 1 1 1 ^10 1 1;");
        faulty(1, "roofs 2;throws 0 1 1 1 1 1 1 1 1 ^? 1;");
        faulty(3, "roofs 2;" + "cross 0 1;".repeat(6) + "^cross ?");
        faulty(2, "roofs 2;gusts from 1 odds 1;^gusts ?");
        faulty(2, "roofs 2;thrower ^2 nobody;");
        faulty(2, "roofs 2;throws ^2 10 to 7;");
        faulty(2, "roofs 2;letter ^2 at 10000 to 2;");
        faulty(2, "roofs 2;letter 0 at ^10000 to 2;");
        faulty(2, "roofs 2;gusts from ^0 odds 101;");
    }

    // I: of one place the least
    private static void ofOnePlaceTheLeastIsTold() {
        faulty(2, "roofs 2;throws 0 1 1 1 1 1 1 1 1 ^10;");
        faulty(2, "roofs 2;throws 0 1 1 1 1 1 1 1 1 ^4294967296;");
        faulty(3, "roofs 2;throws 0 1 1 1 1 1 1 1 1 ^9;");
        faulty(1, "^roofss 7;");
    }

    // promise 2: NONE, and none come, if it would have more than 1,600
    private static void tapeIsFilled() {
        JuggledPost x = new JuggledPost();
        for (int fed = 20; fed <= 1600; fed += 20) {
            Check.due("feed", fed, x.feed(0x20202020, 0x20202020, 0x20202020, 0x20202020, 0x20202020));
        }
        Check.due("feed to 1,620", -1, x.feed(0x3f3f3f3f, 0, 0, 0, 0));
        Check.due("none come", 1600, x.count(4));
        Check.due("end", 1581, x.end(1581));
        Check.due("feed to 1,601", -1, x.feed(0x3f3f3f3f, 0, 0, 0, 0));
        Check.due("none come", 1581, x.count(4));
        Check.due("not even behind the tape", -1, x.end(1582));
        Check.due("all is blank still", 0, x.city());
        Check.due("no fault", 0, x.fault(0));
        for (int fed = 20; fed <= 1580; fed += 20) {
            x.feed(0x20202020, 0x20202020, 0x20202020, 0x20202020, 0x20202020);
        }
        Check.due("feed to 1,600", 1600, x.feed(0x20202020, 0x20202020, 0x20202020, 0x20202020, 0x2020203f));
        Check.due("a fault", -4, x.city());
        Check.due("the last byte of all", 1599, x.fault(1));
    }

    // promise 2: four of each number, the highest first
    private static void bytesComeInOrder() {
        for (int strange = 0; strange < 20; strange++) {
            int[] five = {0x20202020, 0x20202020, 0x20202020, 0x20202020, 0x20202020};
            five[strange / 4] ^= (0x20 ^ 0xff) << 24 - strange % 4 * 8;
            JuggledPost x = new JuggledPost();
            x.feed(0x20202020, 0x0a0a0a0a, 0x20202020, 0x0a0a0a0a, 0x20202020);
            Check.due("feed", 40, x.feed(five[0], five[1], five[2], five[3], five[4]));
            Check.due("a fault", -4, x.city());
            Check.due("its kind", 1, x.fault(0));
            Check.due("byte " + strange, 20 + strange, x.fault(1));
        }
        JuggledPost x = new JuggledPost();
        Check.due("highest first", 20, x.feed(0x726f6f66, 0x73203320, 0x3b0a2020, 0x20202020, 0x20202020));
        Check.due("highest first", 1, x.city());
        Check.due("highest first", 3, x.count(0));
    }

    // promise 3
    private static void tapeIsCut() {
        // nine bytes, "roofs 1;;", lie on the TAPE of the stage
        Stage.refused("end behind the tape", -1, x -> x.end(10));
        Stage.refused("end behind the tape", -1, x -> x.end(1601));
        Stage.refused("end behind the tape", -1, x -> x.end(Integer.MAX_VALUE));
        Stage.refused("end below 0", -1, x -> x.end(-1));
        Stage.refused("end below 0", -1, x -> x.end(Integer.MIN_VALUE));
        Stage.refused("end at the end", 9, x -> x.end(9));
        JuggledPost x = Stage.made();
        Check.due("the first eight", 8, x.end(8));
        Check.due("the first eight", 8, x.count(4));
        Check.due("no more of it", -1, x.end(9));
        Check.due("the ninth is gone", 1, x.city());
        Check.due("one roof", 1, x.count(0));
        x = Stage.made();
        Check.due("the first six", 6, x.end(6));
        Check.due("twenty come behind them", 26, x.feed(0x343b2020, 0x20202020, 0x20202020, 0x20202020, 0x20202020));
        Check.due("city", 1, x.city());
        Check.due("roofs 4", 4, x.count(0));
        x = Stage.made();
        Check.due("none", 0, x.end(0));
        Check.due("none", 0, x.count(4));
        Check.due("none again", 0, x.end(0));
        Check.due("not one", -1, x.end(1));
        Check.due("the city stays", 6, x.count(0));
        Check.due("the fault stays", 6, x.fault(1));
    }

    // promise 4: in place of another; 0 LINES: there is none then
    private static void cityTakesThePlaceOfAnother() {
        for (String blank : new String[] {"", " ", "\n", " \n \n "}) {
            JuggledPost x = taken(0, blank);
            Check.due("there is none then", -2, x.turn());
            Check.due("there is none then", -2, x.period(0));
            Check.due("no letter", -2, x.letter(0, 0));
            for (int what = 0; what < 8; what++) {
                Check.due("count " + what, 0, x.count(what));
            }
            Check.due("slots stay", 3, x.count(8));
            Check.due("images stay", 0, x.back(1));
            Check.due("images stay", 20, x.balls());
        }
        JuggledPost x = taken(1, "roofs 6;");
        int[] due = {6, 0, 0, 1, 0, 9, 0, 0, 3};
        for (int what = 0; what <= 8; what++) {
            Check.due("count " + what, due[what], x.count(what));
        }
        for (int roof = 0; roof < 6; roof++) {
            Check.due("no row of before", 1, x.period(roof));
            Check.due("no row of before", 0, x.tosses(roof, 0, 0));
            Check.due("no goal of before", roof, x.tosses(roof, 0, 1));
            Check.due("no kind of before", 0, x.tosses(roof, 0, 2));
        }
        // the same text again tells what was set otherwise anew
        x = Stage.made();
        x.set(0, 0, 9, 5);
        x.end(0);
        Check.due("lines", 17, Check.tell(x, Stage.TEXT));
        Check.due("as told", 5, x.tosses(0, 0, 0));
        Check.due("as told", 0, x.tosses(0, 0, 1));
        Check.due("as many lines as a tape can hold", 160, Check.tell(x, "roofs 1;" + "throws0 3;".repeat(159)));
        Check.due("as many lines as a tape can hold", 160, x.count(3));
    }

    // promise 5
    private static void faultIsOfTheLatestCity() {
        for (int what : new int[] {-1, 2, 3, Integer.MIN_VALUE, Integer.MAX_VALUE}) {
            Stage.refused("fault of no such what", -1, x -> x.fault(what));
            Check.due("ahead of any", -1, new JuggledPost().fault(what));
            Check.due("without a fault", -1, taken(1, "roofs 1;").fault(what));
        }
        Stage.asked("what", 2, x -> x.fault(0));
        Stage.asked("where", 6, x -> x.fault(1));
        JuggledPost x = Stage.made();
        Check.due("another fault", -4, x.city());
        Check.due("of the latest", 1, x.fault(0));
        Check.due("of the latest", 8, x.fault(1));
        x.end(8);
        Check.due("of the latest city, not of the tape", 8, x.fault(1));
        x.back(1);
        Check.due("of the latest city, not of the image", 8, x.fault(1));
        Check.due("city", 1, x.city());
        Check.due("none", 0, x.fault(0));
        Check.due("none", -1, x.fault(1));
        Check.due("an empty one", 0, x.city());
        Check.due("none", 0, x.fault(0));
        x = new JuggledPost();
        x.feed(0x3f000000, 0, 0, 0, 0);
        Check.due("a fault", -4, x.city());
        Check.due("at the first byte", 0, x.fault(1));
    }
}
