import java.util.regex.Matcher;
import java.util.regex.Pattern;

/** Each sentence of Terms I, and of promises 1 to 5, that names an edge. */
public final class TextEdgeTest {
    private static final String LAW = "law of 1;look a,b;point p,q,r;";
    private static final String[] MARKING = {"law", "look", "point", "set", "line", "ray", "run"};

    public static void main(String[] args) {
        newObject();
        tapeRoom();
        feedOrder();
        blanks();
        words();
        unlikeWords();
        wholes();
        singleOnes();
        linesOfText();
        spelling();
        law();
        looks();
        points();
        setForms();
        setBounds();
        setSum();
        outcomeNumbers();
        parityLines();
        rays();
        runs();
        names();
        toldAheadOfUse();
        lawAheadOfSets();
        leftmost();
        leastNumber();
        formFaults();
        endFaults();
        nameFaults();
        againFaults();
        numberFaults();
        manyFaults();
        lackFaults();
        bookNumbers();
        bookIsNew();
        bookBehindBook();
        faultOfLatest();
        whereOfLatest();
        Edge.end("TextEdgeTest");
    }

    private static void newObject() {
        Edge.sentence("`NotAtOnce()`: No BOOK.");
        NotAtOnce x = new NotAtOnce();
        for (int what = 0; what <= 10; what++) {
            Edge.is("size " + what, x.size(what), 0);
        }
        Edge.is("fault", x.fault(), 0);
        Edge.is("where", x.where(), -1);
        Edge.is("trouble", x.trouble(), 0);
        Edge.refused("share", x, x.share(false), -1, 1);
        Edge.is("led", Edge.led(x, 0), -77);
    }

    // ---- the tape

    private static void tapeRoom() {
        Edge.sentence("THE TAPE has 900 bytes");
        Edge.sentence("Twenty bytes come behind THE TAPE, of each number the highest first: how many it has; NONE, and none"
            + " comes, if there would be more than 900.");
        NotAtOnce x = new NotAtOnce();
        for (int i = 1; i <= 44; i++) {
            Edge.is("feed " + i, x.feed(0x20202020, 0x20202020, 0x20202020, 0x20202020, 0x20202020), 20 * i);
        }
        Edge.is("the last there is room for", x.feed(0x6c617720, 0x6f662031, 0x3b6c6f6f, 0x6b202020, 0x20202061), 900);
        Edge.is("no room", x.feed(0x21212121, 0x21212121, 0x21212121, 0x21212121, 0x21212121), -1);
        Edge.is("no room again", x.feed(0, 0, 0, 0, 0), -1);
        Edge.is("none came", x.size(10), 900);
        Edge.is("it is not refused by a number", x.trouble(), 0);
        Edge.is("all 900 are read", x.book(900), 1);
        Edge.is("it is empty then", x.size(10), 0);
        Edge.is("there is room again", x.feed(0, 0, 0, 0, 0), 20);
        Edge.good("law of 1;look" + " ".repeat(886) + "a");
        Edge.faulty("law of 1;look a" + " ".repeat(884) + "^!", 1);
        Edge.faulty("law of 1;look" + " ".repeat(887) + "^", 1);
    }

    private static void feedOrder() {
        Edge.sentence("Twenty bytes come behind THE TAPE, of each number the highest first");
        NotAtOnce x = new NotAtOnce();
        // "law " "of 6" "0;lo" "ok a" ",bcd", then ",efg" ...: each byte of each number stands where it is due
        x.feed(0x6c617720, 0x6f662036, 0x303b6c6f, 0x6f6b2061, 0x2c626364);
        x.feed(0x2c656667, 0x3b707420, 0, 0, 0);
        Edge.is("no line begins so", x.book(40), -1);
        Edge.is("where", x.where(), 25);
        x.feed(0x6c617720, 0x6f662036, 0x303b6c6f, 0x6f6b2061, 0x2c626364);
        x.feed(0x2c656667, 0x3b72756e, 0x20656667, 0x20302c61, 0x20310000);
        Edge.is("three looks", x.book(38), 3);
        Edge.is("law", x.size(6), 60);
        Edge.is("the third look was told 0", x.machine(0, 2, false), 0);
        Edge.is("the first look was told 1", x.machine(0, 0, false), 1);
        // a number below 0 has a highest byte above 127, which begins no token
        for (int place = 0; place < 20; place++) {
            int[] five = {0x20202020, 0x20202020, 0x20202020, 0x20202020, 0x20202020};
            five[place / 4] ^= 0xd0 << 24 - 8 * (place % 4);
            Edge.is("feed", x.feed(five[0], five[1], five[2], five[3], five[4]), 20);
            x.book(20);
            Edge.is("a byte of 240 at " + place, x.where(), place);
        }
    }

    // ---- tokens

    private static void blanks() {
        Edge.sentence("blanks, 32, part TOKENS and mean nothing else");
        NotAtOnce x = Edge.good("   law   of   60   ;   look   a   ,   b   ;   set   a   ,   b   tells   60   ,   0   ,   0   ,"
            + "   0   ;   ray   -   1   ,   0   ,   0   ,   0   ;   run   a   1   ,   b   0   ");
        Edge.is("law", x.size(6), 60);
        Edge.is("looks", x.size(0), 2);
        Edge.is("times", x.times(0, 0), 60);
        Edge.good("law of1;look a;run a1,a1");
        Edge.good("law of 1;look a;ray1,0,0,0");
        Edge.faulty("^lawof 1;look a", 1);
        Edge.faulty("^la w of 1;look a", 1);
        Edge.faulty("law of 1 ^0;look a", 1);
        Edge.faulty("law of 1;look a ^b", 1);
        for (int sign = 0; sign < 256; sign++) {
            String text = "law" + (char) sign + "of 1;look a";
            if (sign == 32) {
                Edge.good(text);
            } else {
                Edge.faulty(text, 1, isLetter(sign) ? 0 : 3);
            }
        }
    }

    private static void words() {
        Edge.sentence("WORDS of 1 to 8 small letters that stand together");
        Edge.good("law of 1;look a");
        Edge.good("law of 1;look abcdefgh");
        Edge.faulty("law of 1;look ^abcdefghi", 1);
        Edge.faulty("law of 1;look abcdefgh;run ^abcdefgha 1", 1);
        Edge.faulty("law of 1;look ^" + "abcdefghijklmnopqrstuvwxyz".repeat(30), 1);
        Edge.is("from the shortest on", Edge.good("law of 1;look a,aa,aaa,aaaa,aaaaa,aaaaaa;point aaaaaaa,aaaaaaaa").size(0), 6);
        for (int place = 0; place < 8; place++) {
            String other = "zzzzzzzz".substring(0, place) + "y" + "zzzzzzzz".substring(place + 1);
            NotAtOnce x = Edge.good("law of 1;look zzzzzzzz," + other + ";run " + other + " 1,zzzzzzzz 0");
            Edge.is("two names, unlike at " + place, x.size(0), 2);
            Edge.is("the second was told 1", x.machine(0, 1, false), 1);
            Edge.is("the first was told 0", x.machine(0, 0, false), 0);
        }
        for (int sign = 0; sign < 256; sign++) {
            String text = "look " + (char) sign + ";law of 1";
            if (isLetter(sign)) {
                Edge.good(text);
            } else {
                Edge.faulty(text, 1, sign == 32 ? 6 : 5);
            }
        }
    }

    /** Two words are alike only if all their letters are. */
    private static void unlikeWords() {
        Edge.sentence("WORDS of 1 to 8 small letters that stand together");
        for (char one = 'a'; one <= 'z'; one++) {
            Edge.is("shorter ones", Edge.good("law of 1;look " + one + ",a" + one + "x,x" + one + ",b" + one + ",zz" + one + one).size(0), 5);
            for (char other = 'a'; other < one; other++) {
                NotAtOnce x = Edge.good("law of 1;look " + one + "k," + other + "k;point kk" + one + ",kk" + other + ";run " + other + "k 1");
                Edge.is("two looks", x.size(0), 2);
                Edge.is("two points", x.size(1), 2);
                Edge.is("the second was meant", x.machine(0, 1, false), 1);
            }
        }
    }

    private static void wholes() {
        Edge.sentence("WHOLES of 1 to 3 digits that do");
        Edge.is("one", Edge.good("law of 7;look a").size(6), 7);
        Edge.is("two", Edge.good("law of 07;look a").size(6), 7);
        Edge.is("three", Edge.good("law of 007;look a").size(6), 7);
        Edge.is("three", Edge.good("law of 034;look a").size(6), 34);
        Edge.faulty("law of ^0007;look a", 1);
        Edge.faulty("law of ^1000;look a", 1);
        Edge.faulty("law of ^999;look a", 4);
        // its value, if it were taken on, would come round to 1
        Edge.faulty("law of ^4294967297;look a", 1);
        Edge.faulty("law of ^" + "0".repeat(800) + "1;look a", 1);
        for (int sign = 0; sign < 256; sign++) {
            String text = "law of " + (char) sign + ";look a";
            if (sign >= '1' && sign <= '9') {
                Edge.is("law", Edge.good(text).size(6), sign - '0');
            } else if (sign == '0') {
                Edge.faulty(text, 4, 7);
            } else {
                Edge.faulty(text, 1, sign == 32 ? 8 : 7);
            }
        }
    }

    private static void singleOnes() {
        Edge.sentence("single ones of ; , -");
        Edge.faulty("law of 1;^;look a", 1);
        Edge.faulty("law of 1;look a,^,b", 1);
        Edge.faulty("law of 1;look a;ray -^-1,0,0,0", 1);
        Edge.good("law of 1;look a;ray -1,-1,-1,-1");
        for (int sign = 0; sign < 256; sign++) {
            boolean digit = sign >= '0' && sign <= '9';
            String between = "law of 1" + (char) sign + "look a";
            String among = "law of 1;look a" + (char) sign + "b";
            String ahead = "law of 1;look a;ray " + (char) sign + "1,0,0,0";
            if (sign == ';') {
                Edge.good(between);
            } else {
                Edge.faulty(between, 1, sign == 32 || digit ? 9 : 8);
            }
            if (sign == ',' || isLetter(sign)) {
                Edge.is("names of " + among, Edge.good(among).size(0), sign == ',' ? 2 : 1);
            } else {
                Edge.faulty(among, 1, sign == 32 || sign == ';' ? 16 : 15);
            }
            if (sign == '-' || sign == 32 || sign == '0') {
                Edge.good(ahead);
            } else {
                Edge.faulty(ahead, digit ? 4 : 1, 20);
            }
        }
    }

    private static boolean isLetter(int sign) {
        return sign >= 'a' && sign <= 'z';
    }

    // ---- lines of the text

    private static void linesOfText() {
        Edge.sentence("LINE {; LINE}. LINE, one of:");
        Edge.good("law of 1;look a");
        Edge.good("look a;law of 1");
        Edge.faulty("^", 1);
        Edge.faulty("^;", 1);
        Edge.faulty("^;law of 1;look a", 1);
        Edge.faulty("law of 1;look a;^", 1);
        Edge.faulty("law of 1;look a;  ^", 1);
        Edge.faulty("law of 1;look a;^;", 1);
        Edge.faulty("law of 1^,look a", 1);
        Edge.faulty("law of 1 ^look a", 1);
        Edge.faulty("law of 1;^1", 1);
        Edge.faulty("law of 1;^-", 1);
        Edge.faulty("law of 1;^a", 1);
        Edge.faulty("law of 1;look a;^rays", 1);
        Edge.faulty("law of 1;look a;^ru", 1);
        StringBuilder most = new StringBuilder("law of 1;look a");
        for (int i = 0; i < 18; i++) {
            most.append(";ray 1,0,0,0");
        }
        most.append(";set a tells 1,0".repeat(8)).append(";point p,q,r").append(";line p,q,r is odd".repeat(8));
        most.append(";run a 1".repeat(4));
        Edge.is("as many lines as there may be", Edge.good(most.toString()).size(4), 18);
    }

    /** Each word that the text wants, with each of its letters another one, one more, and one less. */
    private static void spelling() {
        Edge.sentence("LINE {; LINE}. LINE, one of:");
        String whole = "law of 1;look a;point p,q,r;set a tells 1,0;line p,q,r is even;line p,q,r is odd;ray 1,0,0,0;run a 1";
        Edge.good(whole);
        Matcher word = Pattern.compile("[a-z]{2,}").matcher(whole);
        while (word.find()) {
            String ahead = whole.substring(0, word.start());
            String behind = whole.substring(word.end());
            String text = word.group();
            Edge.faulty(ahead + "^" + text + "x" + behind, 1);
            Edge.faulty(ahead + "^x" + text + behind, 1);
            Edge.faulty(ahead + "^" + text.substring(1) + behind, 1);
            Edge.faulty(ahead + "^" + text.substring(0, text.length() - 1) + behind, 1);
            for (int i = 0; i < text.length(); i++) {
                Edge.faulty(ahead + "^" + text.substring(0, i) + "x" + text.substring(i + 1) + behind, 1);
            }
        }
    }

    private static void law() {
        Edge.sentence("law of WHOLE (1 .. 60)");
        for (int law = 1; law <= 60; law++) {
            Edge.is("law", Edge.good("law of " + law + ";look a").size(6), law);
        }
        Edge.faulty("law of ^0;look a", 4);
        Edge.faulty("law of ^000;look a", 4);
        Edge.faulty("law of ^61;look a", 4);
        Edge.faulty("law of ^100;look a", 4);
        Edge.faulty("law of ^999;look a", 4);
        Edge.faulty("law of ^-1;look a", 1);
        Edge.faulty("law ^1;look a", 1);
        Edge.faulty("law ^off 1;look a", 1);
        Edge.faulty("law ^o 1;look a", 1);
        Edge.faulty("law of ^one;look a", 1);
        Edge.faulty("law of 1^,1;look a", 1);
        Edge.faulty("law of^", 1);
        Edge.faulty("law^", 1);
    }

    private static void looks() {
        Edge.sentence("look NAME {, NAME} (up to 6 in all)");
        String names = "a,b,c,d,e,f";
        for (int many = 1; many <= 6; many++) {
            NotAtOnce x = new NotAtOnce();
            Edge.is("how many looks", Edge.give(x, "law of 1;look " + names.substring(0, 2 * many - 1)), many);
            Edge.is("size", x.size(0), many);
        }
        Edge.is("in lines of their own", Edge.good("look a;look b;look c;look d;look e;look f;law of 1").size(0), 6);
        Edge.is("in two lines", Edge.good("look a,b,c,d;law of 1;look e,f").size(0), 6);
        Edge.faulty("law of 1;look a,b,c,d,e,f,^g", 5);
        Edge.faulty("law of 1;look a,b,c,d,e,f;look ^g", 5);
        Edge.faulty("law of 1;look a,b,c,d;look e,f,^g,h", 5);
        Edge.faulty("law of 1;look^", 1);
        Edge.faulty("law of 1;look^;", 1);
        Edge.faulty("law of 1;look a,^", 1);
        Edge.faulty("law of 1;look a,^;", 1);
        Edge.faulty("law of 1;look ^,a", 1);
        Edge.faulty("law of 1;look ^1", 1);
        Edge.faulty("law of 1;look a^-b", 1);
    }

    private static void points() {
        Edge.sentence("or point NAME {, NAME} (up to 9 in all)");
        Edge.is("none", Edge.good("law of 1;look a").size(1), 0);
        String names = "p,q,r,s,t,u,v,w,x";
        for (int many = 1; many <= 9; many++) {
            Edge.is("points", Edge.good("law of 1;look a;point " + names.substring(0, 2 * many - 1)).size(1), many);
        }
        Edge.is("in lines of their own", Edge.good("law of 1;look a;point p;point q;point r;point s;point t;point u;point v;"
            + "point w;point x").size(1), 9);
        Edge.is("beside six looks", Edge.good("law of 1;look a,b,c,d,e,f;point " + names).size(1), 9);
        Edge.faulty("law of 1;look a;point " + names + ",^y", 5);
        Edge.faulty("law of 1;look a;point " + names + ";point ^y", 5);
        Edge.faulty("law of 1;look a;point^", 1);
        Edge.faulty("law of 1;look a;point ^0", 1);
        Edge.faulty("law of 1;look a;point p,^", 1);
    }

    private static void setForms() {
        Edge.sentence("set LOOK tells WHOLE, WHOLE, or set LOOK, LOOK tells WHOLE, WHOLE, WHOLE, WHOLE");
        Edge.is("of one", Edge.good(LAW + "set a tells 1,0").look(0, true), -2);
        Edge.is("of two", Edge.good(LAW + "set a,b tells 1,0,0,0").look(0, true), 1);
        Edge.faulty(LAW + "set^", 1);
        Edge.faulty(LAW + "set ^1", 1);
        Edge.faulty(LAW + "set ^tells 1,0", 2);
        Edge.faulty(LAW + "set a^", 1);
        Edge.faulty(LAW + "set a ^b tells 1,0,0,0", 1);
        Edge.faulty(LAW + "set a,^", 1);
        Edge.faulty(LAW + "set a,b^,a tells 1,0,0,0", 1);
        Edge.faulty(LAW + "set a ^tell 1,0", 1);
        Edge.faulty(LAW + "set a tells^", 1);
        Edge.faulty(LAW + "set a tells 1^", 1);
        Edge.faulty(LAW + "set a tells 1^;look c", 1);
        Edge.faulty(LAW + "set a tells 1 ^0", 1);
        Edge.faulty(LAW + "set a tells ^-1,0", 1);
        Edge.faulty(LAW + "set a tells 1,0^,0", 1);
        Edge.faulty(LAW + "set a,b tells 1,0^", 1);
        Edge.faulty(LAW + "set a,b tells 1,0^;look c", 1);
        Edge.faulty(LAW + "set a,b tells 1,0,0^", 1);
        Edge.faulty(LAW + "set a,b tells 1,0,0,0^,0", 1);
    }

    private static void setBounds() {
        Edge.sentence("(unlike ones; 0 .. 60 each; up to 8)");
        Edge.faulty(LAW + "set a,^a tells 1,0,0,0", 3);
        Edge.good("law of 60;look a,b;set a tells 60,0;set a tells 0,60;set a,b tells 60,0,0,0;set a,b tells 0,0,0,60");
        Edge.faulty("law of 60;look a,b;set a tells ^61,0", 4);
        Edge.faulty("law of 60;look a,b;set a tells 0,^61", 4);
        Edge.faulty("law of 60;look a,b;set a,b tells 0,^61,0,0", 4);
        Edge.faulty("law of 60;look a,b;set a,b tells 0,0,^100,0", 4);
        Edge.faulty("law of 60;look a,b;set a,b tells 0,0,0,^999", 4);
        Edge.is("none", Edge.good(LAW.substring(0, LAW.length() - 1)).size(2), 0);
        for (int many = 1; many <= 8; many++) {
            NotAtOnce x = Edge.good("law of 1;look a" + ";set a tells 0,1".repeat(many));
            Edge.is("sets", x.size(2), many);
            Edge.is("the last one", x.times(many - 1, 1), 1);
            Edge.is("no more", x.times(many, 1), -1);
        }
        Edge.faulty("law of 1;look a" + ";set a tells 0,1".repeat(8) + ";^set a tells 0,1", 5);
    }

    private static void setSum() {
        Edge.sentence("all WHOLES of a set together are that of the law");
        Edge.good("law of 5;look a,b;set a tells 2,3");
        Edge.faulty("law of 5;look a,b;set a tells 2,^2", 4);
        Edge.faulty("law of 5;look a,b;set a tells 2,^4", 4);
        Edge.faulty("law of 5;look a,b;set a tells 6,^0", 4);
        Edge.faulty("law of 5;look a,b;set a tells 0,^0", 4);
        Edge.good("law of 5;look a,b;set a,b tells 1,1,1,2");
        Edge.faulty("law of 5;look a,b;set a,b tells 1,1,1,^1", 4);
        Edge.faulty("law of 5;look a,b;set a,b tells 1,1,1,^3", 4);
        Edge.faulty("law of 5;look a,b;set a,b tells 5,5,5,^0", 4);
        Edge.faulty("law of 60;look a,b;set a,b tells 60,60,60,^60", 4);
        Edge.faulty("law of 60;look a,b;set a,b tells 15,15,15,^14", 4);
        // each set anew
        Edge.good("law of 5;look a,b;set a tells 2,3;set a tells 5,0;set b tells 0,5");
        Edge.faulty("law of 5;look a,b;set a tells 2,3;set b tells 0,^0", 4);
    }

    private static void outcomeNumbers() {
        Edge.sentence("ANSWERS 0 and 1 of one, or of both as 2 times the first one's and the second one's");
        NotAtOnce x = Edge.of("law of 10;look a,b;set a tells 3,7;set a,b tells 1,2,3,4;set b,a tells 4,3,2,1");
        Edge.times("of one", x, 0, 3, 7);
        Edge.times("of both", x, 1, 1, 2, 3, 4);
        Edge.times("of both", x, 2, 4, 3, 2, 1);
        int[] due = {0, 2, 1, 3};
        for (int outcome = 0; outcome < 4; outcome++) {
            StringBuilder told = new StringBuilder();
            for (int i = 0; i < 4; i++) {
                told.append(i > 0 ? "," : "").append(i == outcome ? 1 : 0);
            }
            Edge.is("the first is a", Edge.of("law of 1;look a,b;set a,b tells " + told).answer(0), due[outcome]);
            Edge.is("the first is b", Edge.of("law of 1;look a,b;set b,a tells " + told).answer(0), outcome);
        }
    }

    private static void parityLines() {
        Edge.sentence("line POINT, POINT, POINT is even (or odd; unlike ones; up to 8)");
        Edge.is("even", Edge.good(LAW + "line p,q,r is even").can(1), 1);
        Edge.is("odd", Edge.good(LAW + "line p,q,r is odd").can(1), 1);
        Edge.is("one each", Edge.good(LAW + "line p,q,r is odd;line r,q,p is even").can(3), 0);
        Edge.faulty(LAW + "line^", 1);
        Edge.faulty(LAW + "line p^", 1);
        Edge.faulty(LAW + "line p,q^", 1);
        Edge.faulty(LAW + "line p,q ^is even", 1);
        Edge.faulty(LAW + "line p,q,r^,p is even", 1);
        Edge.faulty(LAW + "line p,q,r ^even", 1);
        Edge.faulty(LAW + "line p,q,r is^", 1);
        Edge.faulty(LAW + "line p,q,r is ^eve", 1);
        Edge.faulty(LAW + "line p,q,r is ^evens", 1);
        Edge.faulty(LAW + "line p,q,r is ^odds", 1);
        Edge.faulty(LAW + "line p,q,r is ^od", 1);
        Edge.faulty(LAW + "line p,q,r is ^0", 1);
        Edge.faulty(LAW + "line p,^p,q is even", 3);
        Edge.faulty(LAW + "line p,q,^p is even", 3);
        Edge.faulty(LAW + "line p,q,^q is even", 3);
        Edge.is("none", Edge.good(LAW + "ray 1,0,0,0").size(3), 0);
        for (int many = 1; many <= 8; many++) {
            Edge.is("lines", Edge.good(LAW + "ray 1,0,0,0" + ";line p,q,r is odd".repeat(many)).size(3), many);
        }
        Edge.faulty(LAW + "line p,q,r is odd;".repeat(8) + "^line p,q,r is odd", 5);
    }

    private static void rays() {
        Edge.sentence("ray SIGNED, SIGNED, SIGNED, SIGNED (SIGNED: a WHOLE 0 .. 3, perhaps - ahead of it; not all 0; up to 18)");
        for (int place = 0; place < 4; place++) {
            for (int value = 0; value <= 4; value++) {
                for (String sign : new String[] {"", "-", "- "}) {
                    String ahead = LAW + "ray " + "1,".repeat(place) + sign;
                    String behind = value + ",0".repeat(3 - place);
                    if (value > 3) {
                        Edge.faulty(ahead + "^" + behind, 4);
                    } else if (place > 0 || value > 0) {
                        Edge.good(ahead + behind);
                    }
                }
            }
            Edge.good(LAW + "ray " + "0,".repeat(place) + "-1" + ",0".repeat(3 - place));
        }
        Edge.faulty(LAW + "ray 0,0,0,^0", 4);
        Edge.faulty(LAW + "ray -0,-0,-0,-^0", 4);
        Edge.faulty(LAW + "ray 0,0,0,- ^000", 4);
        Edge.faulty(LAW + "ray ^999,0,0,0", 4);
        Edge.faulty(LAW + "ray^", 1);
        Edge.faulty(LAW + "ray -^", 1);
        Edge.faulty(LAW + "ray -^,0,0,1", 1);
        Edge.faulty(LAW + "ray 1^", 1);
        Edge.faulty(LAW + "ray 1,0,0^", 1);
        Edge.faulty(LAW + "ray 0,0,0^;look c", 1);
        Edge.faulty(LAW + "ray 1,0,0,0^,0", 1);
        Edge.faulty(LAW + "ray 1 ^0,0,0", 1);
        Edge.faulty(LAW + "ray 1^-1,0,0", 1);
        Edge.faulty(LAW + "ray ^a,0,0,0", 1);
        Edge.is("none", Edge.good(LAW + "run a 1").size(4), 0);
        for (int many = 1; many <= 18; many++) {
            Edge.is("rays", Edge.good(LAW + "run a 1" + ";ray 1,0,0,0".repeat(many)).size(4), many);
        }
        Edge.faulty(LAW + "ray 1,0,0,0;".repeat(18) + "^ray 1,0,0,0", 5);
        NotAtOnce x = Edge.of(LAW + "ray 3,-3,2,-2;ray -3,-3,2,2;ray 2,2,3,3");
        Edge.is("a sign turns one alone", x.square(0, 1), 1);
        Edge.is("a sign turns one alone", x.square(1, 2), 1);
        Edge.is("a sign turns one alone", x.square(0, 2), 1);
    }

    private static void runs() {
        Edge.sentence("run LOOK WHOLE {, LOOK WHOLE} (0 .. 1; up to 6 steps; up to 4)");
        Edge.good(LAW + "run a 0");
        Edge.good(LAW + "run a 1");
        Edge.good(LAW + "run a 000,a 001");
        Edge.faulty(LAW + "run a ^2", 4);
        Edge.faulty(LAW + "run a 1,b ^2", 4);
        Edge.faulty(LAW + "run a ^10", 4);
        Edge.faulty(LAW + "run a ^999", 4);
        Edge.faulty(LAW + "run a ^-1", 1);
        Edge.faulty(LAW + "run^", 1);
        Edge.faulty(LAW + "run ^1", 1);
        Edge.faulty(LAW + "run a^", 1);
        Edge.faulty(LAW + "run a^,b 1", 1);
        Edge.faulty(LAW + "run a ^b", 1);
        Edge.faulty(LAW + "run a 1,^", 1);
        Edge.faulty(LAW + "run a 1 ^b 1", 1);
        Edge.faulty(LAW + "run a 1 ^1", 1);
        for (int steps = 1; steps <= 6; steps++) {
            Edge.good(LAW + "run " + "a 1,".repeat(steps - 1) + "b 1");
        }
        Edge.faulty(LAW + "run " + "a 1,".repeat(6) + "^b 1", 5);
        Edge.is("none", Edge.good(LAW + "ray 1,0,0,0").size(5), 0);
        for (int many = 1; many <= 4; many++) {
            Edge.is("runs", Edge.good(LAW + "ray 1,0,0,0" + ";run a 1,b 0".repeat(many)).size(5), many);
        }
        Edge.faulty(LAW + "run a 1;".repeat(4) + "^run a 1", 5);
        Edge.is("the sixth step counts", Edge.of(LAW + "run a 1,a 1,a 1,a 1,a 1,b 0;run b 1").memory(), 2);
        Edge.is("the sixth step counts", Edge.of(LAW + "run a 1,a 1,a 1,a 1,a 1,b 1;run b 1").memory(), 1);
        Edge.is("the fourth run counts", Edge.of(LAW + "run a 1;run a 1;run b 1;run b 0").memory(), -2);
    }

    // ---- names

    private static void names() {
        Edge.sentence("NAMES are WORDS but law, look, point, set, line, ray, run");
        for (String word : MARKING) {
            Edge.faulty("law of 1;look ^" + word, 1);
            Edge.faulty("law of 1;look a,^" + word, 1);
            Edge.faulty("law of 1;look a;point ^" + word, 1);
            Edge.faulty("law of 1;look a;point p,^" + word, 1);
            Edge.faulty(LAW + "set ^" + word + " tells 1,0", 1);
            Edge.faulty(LAW + "set a,^" + word + " tells 1,0,0,0", 1);
            Edge.faulty(LAW + "line ^" + word + ",p,q is even", 1);
            Edge.faulty(LAW + "line p,q,^" + word + " is even", 1);
            Edge.faulty(LAW + "run ^" + word + " 1", 1);
            Edge.faulty(LAW + "run a 1,^" + word + " 1", 1);
            Edge.good("law of 1;look " + word + "s");
            Edge.good("law of 1;look " + word.substring(1));
            Edge.good("law of 1;look a;point " + word.substring(0, word.length() - 1));
        }
        NotAtOnce x = Edge.good("law of 1;look of,tells;point is,even,odd;set tells,of tells 1,0,0,0;set tells tells 0,1;"
            + "line is,even,odd is odd;line odd,is,even is even;run tells 1,of 0");
        Edge.is("other words are", x.size(2), 2);
        Edge.is("other words are", x.size(3), 2);
        Edge.is("other words are", x.size(5), 1);
    }

    private static void toldAheadOfUse() {
        Edge.sentence("each told once, ahead of its use");
        Edge.faulty("law of 1;set ^a tells 1,0;look a", 2);
        Edge.faulty("law of 1;look a;set a,^b tells 1,0,0,0;look b", 2);
        Edge.faulty("law of 1;look a;line ^p,q,r is even;point p,q,r", 2);
        Edge.faulty("law of 1;look a;point p;line p,^q,r is even;point q,r", 2);
        Edge.faulty("law of 1;run ^a 1;look a", 2);
        Edge.good("law of 1;look a;set a tells 1,0;look b;set a,b tells 1,0,0,0;run b 1;point p,q;point r;line r,q,p is odd");
    }

    private static void lawAheadOfSets() {
        Edge.sentence("the law ahead of sets");
        Edge.good("look a;law of 1;set a tells 1,0");
        Edge.good("look a;point p,q,r;line p,q,r is odd;ray 1,0,0,0;run a 1;law of 1");
        Edge.faulty("look a;^set a tells 1,0;law of 1", 6);
        Edge.faulty("^set", 6);
        Edge.faulty("^set a tells 1,0", 6);
    }

    // ---- faults

    private static void leftmost() {
        Edge.sentence("FAULTS, the first that is met from the left");
        String[] one = {"look b ^c", "run ^q 1", "look ^a", "ray ^4,0,0,0", "look c,d,e,f,g,^h", "^set a tells 1,0"};
        for (int first = 0; first < 6; first++) {
            for (int then = 0; then < 6; then++) {
                Edge.faulty("look a;" + one[first] + ";" + one[then].replace("^", ""), first + 1);
            }
        }
        Edge.faulty("law of 1;look a;set a tells ^61,x", 4);
        Edge.faulty("law of 1;look a;set ^b,b", 2);
        Edge.faulty("law of 1;look a,^a,1", 3);
        Edge.faulty("law of 1;look a;^law of 0", 3);
        Edge.faulty("law of ^0;look", 4);
    }

    private static void leastNumber() {
        Edge.sentence("of one place the least number");
        Edge.faulty("law of 1;look a,b,c,d,e,f,^a", 3);
        Edge.faulty("law of 1;look a,b,c,d,e,f,^law", 1);
        Edge.faulty("law of 1;look a,b,c,d,e,f,^1", 1);
        Edge.faulty("law of 1;look a,b,c,d,e,f,^", 1);
        Edge.faulty("law of 1;look a;point b,c,d,e,f,g,h,i,j,^a", 3);
        Edge.faulty("law of 1;look a;point b,c,d,e,f,g,h,i,j,^j", 3);
        Edge.faulty("law of 1;look a;point b,c,d,e,f,g,h,i,j,^set", 1);
        Edge.faulty(LAW + "run " + "a 1,".repeat(6) + "^x 1", 2);
        Edge.faulty(LAW + "run " + "a 1,".repeat(6) + "^p 1", 2);
        Edge.faulty(LAW + "run " + "a 1,".repeat(6) + "^run", 1);
        Edge.faulty(LAW + "run " + "a 1,".repeat(6) + "^0", 1);
        Edge.faulty(LAW + "run " + "a 1,".repeat(6) + "^", 1);
        Edge.faulty("law of 1;^", 1);
        Edge.faulty("look a,^", 1);
        // a name of another sort that was told in it, too, can't be; one of another sort comes ahead of all
        Edge.faulty(LAW + "set a,^p tells 1,0,0,0", 2);
        Edge.faulty(LAW + "line p,q,^a is even", 2);
    }

    private static void formFaults() {
        Edge.sentence("1 FORM: the first byte that begins no TOKEN, or TOKEN with which no BOOK goes on");
        Edge.faulty("^!", 1);
        Edge.faulty("^Law of 1;look a", 1);
        Edge.faulty("law of 1;look a^.", 1);
        Edge.faulty("law of 1;look a^A", 1);
        Edge.faulty("law of 1;look a^_b", 1);
        Edge.faulty("law of 1;look a ^! ; law", 1);
        Edge.faulty("law of 1^.5;look a", 1);
        // a byte that begins no token is one only where it is met
        Edge.faulty("law of ^0;look !", 4);
        Edge.faulty("law of 1;look a,^a!", 3);
    }

    private static void endFaults() {
        Edge.sentence("(the end: its place)");
        // a | stands where a text may end
        String marked = "law of 2|;look a|,b|;point p|,q|,r|;set a,b tells 1,0,0,1|;line p,q,r is odd|;ray 1,-1,0,0|;run a 1|,b 0|";
        Matcher token = Pattern.compile("[a-z]+|[0-9]+|[;,-]").matcher(marked);
        while (token.find()) {
            String text = marked.substring(0, token.end()).replace("|", "");
            boolean mayEnd = marked.charAt(Math.min(token.end(), marked.length() - 1)) == '|';
            if (mayEnd && text.contains("look")) {
                Edge.good(text);
            } else {
                Edge.faulty(text + "^", mayEnd ? 6 : 1);
                Edge.faulty(text + "  ^", mayEnd ? 6 : 1);
            }
        }
        Edge.faulty("law of 2;look a,b;set a,b tells 1,0,0^", 1);
        Edge.faulty("law of 2;look a,b;set a,b tells 1,0,0   ^", 1);
        Edge.faulty("   ^", 1);
    }

    private static void nameFaults() {
        Edge.sentence("2 a NAME that isn't told, or is of another sort than must stand there; at it.");
        Edge.faulty(LAW + "set ^c tells 1,0", 2);
        Edge.faulty(LAW + "set ^p tells 1,0", 2);
        Edge.faulty(LAW + "set a,^c tells 1,0,0,0", 2);
        Edge.faulty(LAW + "set a,^p tells 1,0,0,0", 2);
        Edge.faulty(LAW + "set ^aa tells 1,0", 2);
        Edge.faulty(LAW + "line ^s,p,q is even", 2);
        Edge.faulty(LAW + "line ^a,p,q is even", 2);
        Edge.faulty(LAW + "line p,^s,q is even", 2);
        Edge.faulty(LAW + "line p,^b,q is even", 2);
        Edge.faulty(LAW + "line p,q,^s is even", 2);
        Edge.faulty(LAW + "line p,q,^a is even", 2);
        Edge.faulty(LAW + "run ^c 1", 2);
        Edge.faulty(LAW + "run ^p 1", 2);
        Edge.faulty(LAW + "run a 1,^c 1", 2);
        Edge.faulty(LAW + "run a 1,^r 1", 2);
        Edge.faulty("law of 1;set ^a tells 1,0", 2);
        // a book's names are its own: those of the book ahead of it are not told
        NotAtOnce x = Edge.of(LAW + "set b tells 1,0");
        Edge.refused("names of another book", x, Edge.give(x, "law of 1;look a;set b tells 1,0"), -1, 4);
        Edge.is("fault", x.fault(), 2);
        Edge.is("where", x.where(), 20);
        Edge.is("told again by another book", Edge.give(x, "law of 1;point a;look b"), 1);
        Edge.is("points", x.size(1), 1);
    }

    private static void againFaults() {
        Edge.sentence("3 a NAME told again; a LOOK of a set, a POINT of a line told again in it; at it; a second law; at that WORD.");
        Edge.faulty("law of 1;look a,^a", 3);
        Edge.faulty("law of 1;look a;look ^a", 3);
        Edge.faulty("law of 1;look a,b,c,d,e,^a", 3);
        Edge.faulty("law of 1;look a;point ^a", 3);
        Edge.faulty("law of 1;point a;look ^a", 3);
        Edge.faulty("law of 1;look a;point p,^p", 3);
        Edge.faulty("law of 1;look a;point b,c,d,e,f,g,h,i;point ^i", 3);
        Edge.faulty(LAW + "set b,^b tells 1,0,0,0", 3);
        Edge.faulty(LAW + "line q,^q,r is odd", 3);
        Edge.faulty(LAW + "line q,r,^q is odd", 3);
        Edge.faulty("law of 1;^law of 1;look a", 3);
        Edge.faulty("law of 1;look a;^law", 3);
        Edge.faulty("law of 1;look a;^law of 61", 3);
        // of other things the same may come again
        Edge.good(LAW + "set a,b tells 1,0,0,0;set a,b tells 1,0,0,0;set b,a tells 1,0,0,0;set a tells 1,0;set a tells 1,0");
        Edge.good(LAW + "line p,q,r is odd;line p,q,r is odd;line q,p,r is odd");
        Edge.good(LAW + "ray 1,0,0,0;ray 1,0,0,0;run a 1,a 1;run a 1,a 1");
    }

    private static void numberFaults() {
        Edge.sentence("4 a WHOLE out of bounds; a last one of a set with which all aren't together what the law tells; at it;"
            + " a ray of 0 alone; at its last WHOLE.");
        Edge.faulty("law of ^61;look a", 4);
        Edge.faulty("law of 1;look a;set a tells ^61,0", 4);
        Edge.faulty("law of 1;look a;ray 0,0,^4,0", 4);
        Edge.faulty("law of 1;look a;ray 0,0,0,-^4", 4);
        Edge.faulty("law of 1;look a;run a ^2", 4);
        // more than the law tells is met at the last one alone
        Edge.faulty("law of 1;look a,b;set a,b tells 2,2,2,^2", 4);
        Edge.faulty("law of 1;look a,b;set a,b tells 2,2,2^", 1);
        Edge.faulty("law of 1;look a;set a tells 0,^0", 4);
        Edge.faulty("law of 1;look a;ray 0,0,0,^0", 4);
        Edge.faulty("law of 1;look a;ray 0,0,0,-^0", 4);
        Edge.faulty("law of 1;look a;ray 0,0,0^", 1);
    }

    private static void manyFaults() {
        Edge.sentence("5 MANY: a LINE more of its sort than there is room for, at its first WORD; a LOOK, a POINT, a step more; at it.");
        Edge.faulty("law of 1;look a" + ";set a tells 0,1".repeat(8) + ";^set", 5);
        Edge.faulty("law of 1;look a" + ";set a tells 0,1".repeat(8) + ";^set x", 5);
        Edge.faulty(LAW + "line p,q,r is odd;".repeat(8) + "^line", 5);
        Edge.faulty(LAW + "line p,q,r is odd;".repeat(8) + "^line !", 5);
        Edge.faulty(LAW + "ray 1,0,0,0;".repeat(18) + "^ray", 5);
        Edge.faulty(LAW + "ray 1,0,0,0;".repeat(18) + "^ray 4", 5);
        Edge.faulty(LAW + "run a 1;".repeat(4) + "^run", 5);
        Edge.faulty(LAW + "run a 1;".repeat(4) + "^run x", 5);
        Edge.faulty("look a,b,c,d,e,f;look ^g", 5);
        Edge.faulty("look a;point b,c,d,e,f,g,h,i,j;point ^k", 5);
        Edge.faulty(LAW + "run " + "a 1,".repeat(6) + "^a", 5);
        Edge.faulty(LAW + "run " + "a 1,".repeat(6) + "^a 2", 5);
        // there is room for each sort by itself
        Edge.good(LAW + "set a tells 1,0;".repeat(8) + "line p,q,r is odd;".repeat(8) + "ray 1,0,0,0;".repeat(18)
            + "run a 1,a 1,a 1,a 1,a 1,a 1;".repeat(3) + "run a 1");
    }

    private static void lackFaults() {
        Edge.sentence("6 LACKS: a set ahead of the law; at that WORD; at the end: no law, no look.");
        Edge.faulty("look a;^set", 6);
        Edge.faulty("look a;^set b", 6);
        Edge.faulty("look a;ray 1,0,0,0;^set a tells 1,0;law of 1", 6);
        Edge.faulty("look a^", 6);
        Edge.faulty("look a   ^", 6);
        Edge.faulty("law of 1^", 6);
        Edge.faulty("law of 1;point p^", 6);
        Edge.faulty("point p^", 6);
        Edge.faulty("ray 1,0,0,0  ^", 6);
        Edge.good("law of 1;look a");
    }

    // ---- book, fault, where

    private static void bookNumbers() {
        Edge.sentence("The first n bytes of THE TAPE (it is empty then) are the BOOK from now on");
        Edge.sentence("NONE: 2 (THE TAPE stays); 4 (the BOOK stays).");
        NotAtOnce x = new NotAtOnce();
        Edge.refused("of an empty tape", x, x.book(1), -1, 2);
        Edge.refused("of an empty tape, nothing", x, x.book(0), -1, 4);
        Edge.is("nothing is a fault of form", x.fault(), 1);
        Edge.is("at the end", x.where(), 0);
        String text = "law of 7;look a,b,ccc";
        Edge.feed(x, text);
        Edge.is("fed", x.size(10), 40);
        int[] out = {-1, 41, Integer.MIN_VALUE, Integer.MAX_VALUE, -40, 900, 901};
        for (int n : out) {
            Edge.refused("book " + n, x, x.book(n), -1, 2);
            Edge.is("the tape stays", x.size(10), 40);
        }
        Edge.is("no look more than its bytes", x.book(19), 3);
        Edge.is("the rest of the tape is gone", x.size(10), 0);
        Edge.feed(x, "law of 7;look a,b; ");
        Edge.is("all but one", x.book(17), 2);
        Edge.feed(x, "law of 7;look a,bcde");
        Edge.is("the last byte that there is", x.book(20), 2);
        Edge.feed(x, "law of 7;look a,bcde");
        Edge.refused("one more", x, x.book(21), -1, 2);
        Edge.refused("nothing of it", x, x.book(0), -1, 4);
        Edge.is("it is empty then", x.size(10), 0);
        Edge.is("the book stays", x.size(0), 2);
    }

    private static void bookIsNew() {
        Edge.sentence("(THE TABLE as told, no BET, nothing to undo, no MARKS): how many looks.");
        NotAtOnce x = Edge.of("law of 3;look a,b;set a,b tells 1,2,0,0;set b tells 1,2");
        x.stake(0, 1, 7);
        x.stake(1, 1, 8);
        x.flip(0);
        x.drop(1);
        x.undo();
        x.mark();
        x.mark();
        Edge.is("how many looks", Edge.give(x, "law of 3;look a,b;set a,b tells 1,2,0,0;set b tells 1,2"), 2);
        Edge.times("as told", x, 0, 1, 2, 0, 0);
        Edge.times("as told", x, 1, 1, 2);
        Edge.coins("no bet", x, 0, 0, 0, 0, 0);
        Edge.coins("no bet", x, 1, 0, 0);
        Edge.refused("nothing to undo", x, x.undo(), 6);
        Edge.refused("nothing to redo", x, x.redo(), 6);
        Edge.refused("no marks", x, x.back(0), 1);
        Edge.is("no marks", x.size(9), 0);
        Edge.is("the first mark again", x.mark(), 0);
        Edge.is("a book of fewer things", Edge.give(x, "law of 2;look z"), 1);
        int[] due = {1, 0, 0, 0, 0, 0, 2, 0, 0, 0, 0};
        for (int what = 0; what < due.length; what++) {
            Edge.is("size " + what, x.size(what), due[what]);
        }
    }

    /** Nothing of a book, nor of a text that was none, is left in the next one. */
    private static void bookBehindBook() {
        Edge.sentence("are the BOOK from now on");
        String full = "law of 60;look a,b,c,d,e,f;point p,q,r,s,t,u,v,w,x;" + "set a,b tells 15,15,15,15;".repeat(8)
            + "line p,q,r is odd;".repeat(8) + "ray 1,0,0,0;".repeat(10) + "run a 1,b 0,a 0;".repeat(4);
        int[] due = {1, 0, 1, 0, 0, 0, 2, 0, 0, 0, 0};
        for (String first : new String[] {full.substring(0, full.length() - 1), full, full + "!"}) {
            NotAtOnce x = new NotAtOnce();
            Edge.give(x, first);
            Edge.is("another one", Edge.give(x, "law of 2;look z;set z tells 2,0"), 1);
            for (int what = 0; what < due.length; what++) {
                Edge.is("size " + what, x.size(what), due[what]);
            }
            Edge.times("as told", x, 0, 2, 0);
            Edge.is("nothing else is possible", x.hidden(), 1);
            Edge.is("nothing else is possible", Edge.led(x, 0), -77);
            Edge.is("no runs", x.memory(), 1);
            Edge.is("no run comes to that", x.machine(0, 0, false), -2);
            Edge.is("no lines", x.ways(), 1);
            Edge.is("no lines", x.core(), -2);
            Edge.is("no rays", x.colours(), 1);
            x.shift(0, 0, 1, 2);
            x.mark();
            Edge.is("as told again", Edge.give(x, "law of 2;look z;set z tells 2,0"), 1);
            Edge.times("as told again", x, 0, 2, 0);
        }
    }

    private static void faultOfLatest() {
        Edge.sentence("The FAULT of the latest book() not refused by 2; 0 without one.");
        NotAtOnce x = new NotAtOnce();
        Edge.is("none was", x.fault(), 0);
        x.book(1);
        Edge.is("refused by 2 alone", x.fault(), 0);
        String[] one = {"look a b", "look a;run q 1", "look a,a", "law of 0", "look a,b,c,d,e,f,g", "look a"};
        for (int fault = 1; fault <= 6; fault++) {
            Edge.give(x, one[fault - 1]);
            Edge.is("fault", x.fault(), fault);
            x.book(1);
            Edge.is("one by 2 is not it", x.fault(), fault);
            x.flip(9);
            Edge.is("nor is another call", x.fault(), fault);
        }
        Edge.give(x, "law of 1;look a");
        Edge.is("without one", x.fault(), 0);
        x.book(-1);
        Edge.is("still", x.fault(), 0);
    }

    private static void whereOfLatest() {
        Edge.sentence("Its place, if the latest call that may be refused was by 4; NONE else.");
        NotAtOnce x = new NotAtOnce();
        Edge.is("none was", x.where(), -1);
        Edge.give(x, "!");
        Edge.is("the least place", x.where(), 0);
        Edge.give(x, " ".repeat(900));
        Edge.is("the greatest place", x.where(), 900);
        Edge.is("it stays", x.where(), 900);
        x.feed(0, 0, 0, 0, 0);
        x.size(0);
        x.size(99);
        x.fault();
        x.trouble();
        Edge.led(x, 0);
        Edge.is("these may not be refused", x.where(), 900);
        x.level();
        Edge.is("refused by 1", x.where(), -1);
        x.book(20);
        Edge.give(x, "law of 1;!");
        Edge.is("place", x.where(), 9);
        x.book(1);
        Edge.is("refused by 2", x.where(), -1);
        Edge.give(x, "law of 1;!");
        x.undo();
        Edge.is("refused by 6", x.where(), -1);
        Edge.give(x, "law of 1;look a");
        Edge.is("not refused", x.where(), -1);
        Edge.give(x, "law of 1;look a !");
        Edge.is("place", x.where(), 16);
        x.level();
        Edge.is("another call was not refused", x.where(), -1);
    }
}
