/** LAWS: where a text faults, what a law tells of a debt. */
public final class LawsTest {
    private static final int TEXTS = 12000;
    private static final Check CHECK = new Check("LawsTest");

    private LawsTest() {
    }

    public static void main(String[] args) {
        faults();
        limits();
        bytesThatAreNoToken();
        worths();
        brokenOnes();
        voidsAndBars();
        drawnTexts(args.length > 0 ? Integer.parseInt(args[0]) : TEXTS);
        CHECK.finish();
    }

    private static void fault(String text, int want) {
        CHECK.about("law \"" + text + "\"");
        FiddlerDebts x = new FiddlerDebts();
        CHECK.due("law()", want == -1 ? 0 : -6, Tapes.law(x, text));
        CHECK.due("fault()", want, x.fault());
        CHECK.due("count(7)", 0, x.count(7));
        CHECK.due("count(3)", want == -1 ? 1 : 0, x.count(3));
    }

    private static void faults() {
        fault("", 0);
        fault("   ", 3);
        fault("bars", -1);
        fault("  bars  ", -1);
        fault("bars;voids;worth 1", -1);
        fault("bars;", 5);
        fault("bars ; ", 7);
        fault(";bars", 0);
        fault("bars voids", 5);
        fault("barss", 0);
        fault("bar", 0);
        fault("cars", 0);
        fault("barr", 0);
        fault("borth 1", 0);
        fault("worth bower", 6);
        fault("worth powers", 6);
        fault("bars of 1=1", 5);
        fault("worth", 5);
        fault("worth 5 5", 8);
        fault("worth 1000", -1);
        fault("worth 1001", 6);
        fault("worth 00001000", -1);
        fault("worth 99999999999999999999999999", 6);
        fault("worth 18446744073709551617", 6);
        fault("worth 4294967297", 6);
        fault("worth age2", 9);
        fault("worth 2age", 7);
        fault("worth -1", 6);
        fault("worth (1)", 6);
        fault("worth [1]", -1);
        fault("worth [1)", 8);
        fault("worth [1", 8);
        fault("worth 1]", 7);
        fault("worth [1<2]", 8);
        fault("worth 1 if", 10);
        fault("worth 1 if 2", 12);
        fault("worth 1 if 2<3", -1);
        fault("worth 1 if 2<3<4", 14);
        fault("worth 1 if 2 and 3", 13);
        fault("worth if 2<3", 6);
        fault("worth debts*halves/ower-creditor+tune+length+age", -1);
        fault("worth Age", 6);
        fault("bars if", 7);
        fault("bars if not", 11);
        fault("bars if not not 1=1", -1);
        fault("bars if (1=1) or not (1=2 and 3>2)", -1);
        fault("bars if (1)=1", 10);
        fault("bars if (1=1", 12);
        fault("bars if (1=1]", 12);
        fault("bars if (1=1) + 1", 14);
        fault("bars if [1=1]", 10);
        fault("bars if [1+1]=2", -1);
        fault("bars if 1==1", 10);
        fault("bars if 1=1 or", 14);
        fault("bars if 1=1 or or", 15);
        fault("bars if 1=1 not", 12);
        fault("bars if 1=1 if 1=1", 12);
        fault("bars if ()", 9);
        fault("bars if 1=1)", 11);
        fault("bars 1", 5);
        fault("voids if worth=1", 9);
        fault("bars if 1=[2", 12);
        fault("bars if 1=[2;bars", 12);
    }

    private static String many(String text, int times) {
        return text.repeat(times);
    }

    private static void limits() {
        fault(many("bars;", 11) + "bars", -1);
        fault(many("bars;", 12), 60);
        fault(many("bars;", 12) + "bars", 60);
        fault(many("bars;", 12) + "  ?", 62);
        fault("worth 1" + many("+1", 49), -1);
        fault("worth 1" + many("+1", 50), 106);
        fault("worth 1" + many("+1", 49) + "+", 106);
        fault("worth 1" + many("+1", 49) + "+[", 107);
        fault("worth 1" + many("+1", 49) + "+[age]", 107);
        fault("worth 1" + many("+1", 49) + " if age=1", 109);
        fault("worth 1" + many("+1", 24) + "; worth 1" + many("+age", 24), -1);
        fault("worth 1" + many("+1", 24) + "; worth 1" + many("+age", 25), 161);
        fault("worth " + many("[", 8) + "1" + many("]", 8), -1);
        fault("worth " + many("[", 9) + "1" + many("]", 9), 14);
        fault("worth [1]+" + many("[", 8) + "1" + many("]", 8), -1);
        fault("bars if " + many("(", 8) + "1=1" + many(")", 8), -1);
        fault("bars if " + many("(", 9) + "1=1" + many(")", 9), 16);
        fault("bars if " + many("(", 7) + "[1]=1" + many(")", 7), -1);
        fault("bars if " + many("(", 8) + "[1]=1" + many(")", 8), 16);
        fault("bars if " + many("(", 4) + many("[", 4) + "1" + many("]", 4) + "=1" + many(")", 4), -1);
        fault("bars if " + many("(", 4) + many("[", 5) + "1" + many("]", 5) + "=1" + many(")", 4), 16);
        fault("bars if " + many("not ", 97) + "1=1", -1);
        fault("bars if " + many("not ", 98), 400);
        fault("worth 5" + many(" ", 393), -1);
        fault("worth 5" + many(" ", 392) + "?", 399);
        fault(many("a", 400), 0);
        limitsAreOfEachLaw();
        fault("worth " + many("0", 394), -1);
        fault("worth " + many("9", 394), 6);
    }

    /** What an earlier text had, read or refused, does not count for the next one. */
    private static void limitsAreOfEachLaw() {
        CHECK.about("one law behind another");
        FiddlerDebts x = new FiddlerDebts();
        String parts = "worth 1" + many("+1", 49);
        String clauses = many("bars;", 11) + "bars";
        String brackets = "worth " + many("[", 8) + "1" + many("]", 8);
        String[] texts = {parts, parts, clauses, clauses, brackets, brackets};
        for (int law = 0; law < texts.length; law++) {
            CHECK.due("law() of one too many", -6, Tapes.law(x, law < 2 ? parts + "+1" : clauses + ";bars"));
            CHECK.due("law() \"" + texts[law] + "\"", law, Tapes.law(x, texts[law]));
            CHECK.due("fault()", -1, x.fault());
        }
    }

    private static void bytesThatAreNoToken() {
        for (int sign = 0; sign < 256; sign++) {
            FiddlerDebts x = new FiddlerDebts();
            CHECK.about("bars, then the byte " + sign);
            Tapes.put(x, 'b', 'a', 'r', 's', sign);
            boolean blank = sign == ' ';
            boolean letter = sign >= 'a' && sign <= 'z';
            CHECK.due("law()", blank ? 0 : -6, x.law());
            CHECK.due("fault()", blank ? -1 : letter ? 0 : sign == ';' ? 5 : 4, x.fault());
        }
    }

    /** A debt of dancer 5 to 3, tune 1 of length 7, 4 halves, since evening 20; now it is evening 12; he has 2. */
    private static FiddlerDebts village(String law) {
        FiddlerDebts x = new FiddlerDebts();
        x.tune(2);
        x.tune(7);
        x.terms(0, 20);
        x.owe(5, 3, 1, 4);
        x.owe(5, 2, 0, 9);
        x.owe(6, 2, 0, 1);
        x.terms(0, 12);
        CHECK.about("law \"" + law + "\"");
        CHECK.due("law()", 0, Tapes.law(x, law));
        CHECK.due("force(0)", -1, x.force(0));
        return x;
    }

    private static void worth(String law, int want) {
        CHECK.due("of(0, 5)", want, village(law).of(0, 5));
    }

    private static void worths() {
        worth("bars", 7);
        worth("worth ower", 5);
        worth("worth creditor", 3);
        worth("worth tune", 1);
        worth("worth length", 7);
        worth("worth halves", 4);
        worth("worth 0-age", 8);
        worth("worth age", 0);
        worth("worth debts", 2);
        worth("worth 999", 999);
        worth("worth 1000", 999);
        worth("worth 1000*1000*1000", 999);
        worth("worth 0-1", 0);
        worth("worth 2+3*4", 14);
        worth("worth [2+3]*4", 20);
        worth("worth 20-3-4", 13);
        worth("worth 100/7/2", 7);
        worth("worth 100/7*2", 28);
        worth("worth 100-[0-7]/2", 103);
        worth("worth 100+age/3", 98);
        worth("worth 100+7/age", 100);
        // Cut towards 0 whichever of the two is below it.
        worth("worth 100+7/2", 103);
        worth("worth 100+[0-7]/2", 97);
        worth("worth 100+7/[0-2]", 97);
        worth("worth 100+[0-7]/[0-2]", 103);
        worth("worth 100+7/[0-1]", 93);
        worth("worth 100+[0-1]/2", 100);
        worth("worth 1;worth 2", 2);
        worth(many("bars;", 11) + "worth 3", 3);
        worth("worth 3" + many(";bars", 11), 3);
        worth("worth 1;worth 2 if 1=2", 1);
        worth("worth 1 if 1=2", 7);
        worth("worth 3 if not 1=2", 3);
        worth("worth 3 if not not 1=2", 7);
        worth("worth 3 if not (1=2 or 2=2)", 7);
        worth("worth 3 if not 1=2 or 2=2", 3);
        worth("worth 3 if 1=1 or 1=2 and 1=2", 3);
        worth("worth 3 if (1=1 or 1=2) and 1=2", 7);
        worth("worth 3 if 1=2 and 1=2 or 1=1", 3);
        worth("worth 3 if 2<2", 7);
        worth("worth 3 if 2>2", 7);
        worth("worth 3 if 1<2", 3);
        worth("worth 3 if 2>1", 3);
        worth("worth 3 if 0-1<0", 3);
    }

    private static void brokenOnes() {
        worth("worth 3/0", 7);
        worth("worth 3/[1-1]*0", 7);
        worth("worth 0/5", 0);
        worth("worth 1000*1000*1000+1", 7);
        worth("worth 1000*1000*1000+1-1", 7);
        worth("worth 1000*1000*1000-1", 999);
        worth("worth 0-1000*1000*1000", 0);
        worth("worth 0-1000*1000*1000-1", 7);
        worth("worth [1000*1000*1000]*[1000*1000*1000]", 7);
        worth("worth [1000*1000*1000]*[1000*1000*1000]*0", 7);
        worth("worth 3 if 1/0=1", 7);
        worth("worth 3 if not 1/0=1", 7);
        worth("worth 3 if 1=1 or 1/0=1", 3);
        worth("worth 3 if 1/0=1 or 1=1", 7);
        worth("worth 3 if 1=2 and 1/0=1", 7);
        worth("worth 3 if not (1=2 and 1/0=1)", 3);
        worth("worth 3 if not (1=1 and 1/0=1)", 7);
        worth("worth 3 if 1=2 and 1/0=1 or 1=1", 3);
        worth("worth 3 if 1=2 or 1/0=1", 7);
        worth("worth 3 if 1=1 or 1/0=1 and 1=2", 3);
        worth("worth 3 if (1=1 or 1/0=1) and 1=1", 3);
        worth("worth 3 if (1=1 or 1/0=1) and 1=2 or 2=2", 3);
        worth("worth 3 if 1=2 or 2=2 or 1/0=1", 3);
        worth("worth 3 if 1=1 and 1=2 and 1/0=1 or 1=1", 3);
        worth("worth 3 if 1=[1/0]", 7);
        worth("worth 3;worth 1/0", 3);
        worth("worth 1/0;worth 3", 3);
        CHECK.due("of(0, 6)", 0, village("voids if 1/0=0").of(0, 6));
        CHECK.due("of(0, 7)", 1, village("bars; bars if 1/0=0").of(0, 7));
    }

    private static void voidsAndBars() {
        FiddlerDebts x = village("voids if ower=6; bars if halves>4");
        CHECK.due("of(0, 6)", 0, x.of(0, 6));
        CHECK.due("of(1, 6)", 0, x.of(1, 6));
        CHECK.due("of(2, 6)", 1, x.of(2, 6));
        CHECK.due("of(0, 7)", 0, x.of(0, 7));
        CHECK.due("of(1, 7)", 1, x.of(1, 7));
        CHECK.due("of(2, 7)", 0, x.of(2, 7));
        CHECK.due("of(2, 5)", 2, x.of(2, 5));
        // Void ones are among the debts that an ower has.
        x = village("worth debts; voids if debts=2");
        CHECK.due("of(0, 5)", 2, x.of(0, 5));
        CHECK.due("of(0, 6)", 1, x.of(0, 6));
        CHECK.due("pay(1, 9)", 0, x.pay(1, 9));
        CHECK.due("of(0, 5)", 1, x.of(0, 5));
        CHECK.due("of(0, 6)", 0, x.of(0, 6));
        CHECK.due("force(-1)", 0, x.force(-1));
        CHECK.due("of(0, 5)", 7, x.of(0, 5));
    }

    private static void drawnTexts(int texts) {
        Draws draws = new Draws(77);
        LawTexts lawTexts = new LawTexts(draws);
        for (int i = 0; i < texts && CHECK.wrong() == 0; i++) {
            String text = lawTexts.text();
            CHECK.about("law \"" + text + "\"");
            FiddlerDebts fast = new FiddlerDebts();
            SlowVillage slow = new SlowVillage();
            Tapes.put(fast, text);
            for (int b : Tapes.bytesOf(text)) {
                slow.tape.add(b & 255);
            }
            CHECK.due("law()", slow.law(), fast.law());
            CHECK.due("fault()", slow.fault(), fast.fault());
            if (slow.fault() == -1) {
                both(fast, slow, "tune", 3);
                both(fast, slow, "terms", 0, draws.from(0, 20));
                both(fast, slow, "tune", 20);
                for (int d = 0; d < 4; d++) {
                    both(fast, slow, "owe", draws.from(0, 3), draws.from(4, 7), draws.below(2), draws.from(1, 9));
                }
                both(fast, slow, "terms", 0, draws.from(0, 20));
                both(fast, slow, "force", 0);
                for (int d = 0; d < 4; d++) {
                    both(fast, slow, "of", d, 5);
                    both(fast, slow, "of", d, 6);
                    both(fast, slow, "of", d, 7);
                }
            }
        }
    }

    private static void both(FiddlerDebts fast, SlowVillage slow, String name, int... a) {
        CHECK.due(name, Calls.ask(slow, name, a), Calls.ask(fast, name, a));
    }
}
