/** Long runs of calls that look chosen at random, but are the same each time; Model tells each answer that is due. */
public final class ModelRunsTest {
    private static final int RUNS = 1200;
    /** A step makes 21 calls at the most, and an object is used for 512 at the most. */
    private static final int CALLS = 490;
    private static final int[] FAR = {Integer.MIN_VALUE, Integer.MAX_VALUE, -1, 11, 100000};

    private long seed;
    private final ChargeLines lines = new ChargeLines();
    private final Model model = new Model();
    /** How big the calls of this run are, so that some runs reach the limits and others stay below. */
    private final int kind;

    private ModelRunsTest(int run) {
        seed = 7919L * run + 12345;
        kind = run % 6;
    }

    public static void main(String[] args) {
        for (int run = 0; run < RUNS && Check.allRight(); run++) {
            new ModelRunsTest(run).calls(run);
        }
        Check.end();
    }

    private int next(int below) {
        seed = seed * 6364136223846793005L + 1442695040888963407L;
        return (int) Math.floorMod(seed >>> 33, (long) below);
    }

    private int from(int least, int most) {
        int how = next(12);
        if (how == 0) {
            return least;
        }
        if (how == 1) {
            return most;
        }
        if (how == 2 && next(3) == 0) {
            return next(2) == 0 ? least - 1 : most + 1;
        }
        if (how == 3 && next(8) == 0) {
            return FAR[next(FAR.length)];
        }
        return least + next(most - least + 1);
    }

    private void calls(int run) {
        int first = Check.count();
        while (Check.count() - first < CALLS && Check.allRight()) {
            String name = "run " + run + " from call " + (Check.count() - first) + ": ";
            int which = next(100);
            if (which < 45) {
                change(name, which);
            } else if (which < 80) {
                look(name, which - 45);
            } else {
                text(name, which - 80);
            }
        }
    }

    private void change(String name, int which) {
        if (which < 2 && next(kind + 1) == 0) {
            int stages = from(2, kind == 1 ? 3 : 10);
            Check.due(name + "begin(" + stages + ")", lines.begin(stages), model.begin(stages));
        } else if (which < 8) {
            int stage = from(0, 9);
            int stays = from(0, 300);
            int leaks = from(0, 300);
            Check.due(name + "stage(" + stage + ", " + stays + ", " + leaks + ")", lines.stage(stage, stays, leaks),
                    model.stage(stage, stays, leaks));
        } else if (which < 12) {
            set(name, next(5));
        } else if (which < 36) {
            int sample = kind == 2 ? from(0, 40) : from(0, 10000);
            Check.due(name + "give(" + sample + ")", lines.give(sample), model.give(sample));
        } else if (which < 40) {
            int many = kind == 5 ? from(1, 40) : from(1, 3);
            Check.due(name + "idle(" + many + ")", lines.idle(many), model.idle(many));
        } else if (which < 43) {
            Check.due(name + "undo()", lines.undo(), model.undo());
        } else {
            Check.due(name + "play()", lines.play(), model.play());
        }
    }

    private void set(String name, int what) {
        int value;
        if (what == 0) {
            value = kind == 3 ? from(1000, 5000) : from(1000, 100000);
        } else if (what == 1) {
            value = from(0, 12);
        } else {
            value = kind == 2 ? from(1, 20) : from(1, 10000);
        }
        int number = next(20) == 0 ? from(0, 4) : what;
        Check.due(name + "set(" + number + ", " + value + ")", lines.set(number, value), model.set(number, value));
    }

    private void look(String name, int which) {
        if (which < 5) {
            int stage = from(0, 9);
            int what = from(0, 5);
            Check.due(name + "stageOf(" + stage + ", " + what + ")", lines.stageOf(stage, what),
                    model.stageOf(stage, what));
        } else if (which < 12) {
            int index = from(0, 16);
            int what = from(0, 5);
            Check.due(name + "outputOf(" + index + ", " + what + ")", lines.outputOf(index, what),
                    model.outputOf(index, what));
        } else if (which < 15) {
            int reference = from(0, 2);
            int what = from(0, 1);
            Check.due(name + "pairOf(" + reference + ", " + what + ")", lines.pairOf(reference, what),
                    model.pairOf(reference, what));
        } else if (which < 20) {
            int output = next(3) == 0 ? from(0, 100000) : from(0, kind == 2 ? 30 : 10000);
            Check.due(name + "mended(" + output + ")", lines.mended(output), model.mended(output));
        } else if (which < 23) {
            int what = from(0, 3);
            Check.due(name + "errors(" + what + ")", lines.errors(what), model.errors(what));
        } else if (which < 25) {
            int what = from(0, 4);
            Check.due(name + "account(" + what + ")", lines.account(what), model.account(what));
        } else {
            wouldBe(name, which - 25);
        }
    }

    private void wouldBe(String name, int which) {
        if (which < 2) {
            int sample = from(0, 10000);
            int after = next(2) == 0 ? from(1, 40) : from(2, 12);
            Check.due(name + "echo(" + sample + ", " + after + ")", lines.echo(sample, after),
                    model.echo(sample, after));
        } else if (which < 4) {
            Check.due(name + "emptyAfter()", lines.emptyAfter(), model.emptyAfter());
        } else if (which < 6) {
            int what = from(0, 1);
            Check.due(name + "worn(" + what + ")", lines.worn(what), model.worn(what));
        } else if (which < 7) {
            if (next(4) == 0) {
                Check.due(name + "safe()", lines.safe(), model.safe());
            }
        } else {
            int what = next(4) == 0 ? from(20, 24) : from(0, 8);
            Check.due(name + "count(" + what + ")", lines.count(what), model.count(what));
        }
    }

    private void text(String name, int which) {
        if (which < 1) {
            Check.due(name + "clearText()", lines.clearText(), model.clearText());
        } else if (which < 8) {
            int what = from(0, 2);
            Check.due(name + "fault(" + what + ")", lines.fault(what), model.fault(what));
        } else if (which < 9) {
            int character = from(32, 126);
            Check.due(name + "type(" + character + ")", lines.type(character), model.type(character));
        } else {
            type(name, part());
        }
    }

    /** Mostly a part that is possible, now and then one with something amiss, or cut off. */
    private String part() {
        StringBuilder part = new StringBuilder();
        if (next(2) == 0) {
            part.append('s').append(number(10000)).append(';');
        } else {
            part.append('l').append(next(12) == 0 ? 9 : next(2)).append(',').append(number(300)).append(',');
            part.append(number(300)).append(';');
        }
        if (next(10) == 0) {
            part.setCharAt(next(part.length()), "sl,;0x9 ".charAt(next(8)));
        }
        if (next(20) == 0) {
            part.insert(next(part.length()), next(2) == 0 ? "0" : ",");
        }
        if (next(20) == 0) {
            part.deleteCharAt(next(part.length()));
        }
        return part.toString();
    }

    private String number(int most) {
        int value = next(25) == 0 ? most + 1 + next(3) : next(6) == 0 ? most : next(most + 1);
        StringBuilder digits = new StringBuilder().append(value);
        while (digits.length() < 5 && next(5) == 0) {
            digits.insert(0, '0');
        }
        return digits.toString();
    }

    private void type(String name, String signs) {
        for (int i = 0; i < signs.length(); i++) {
            int character = signs.charAt(i);
            Check.due(name + "type(" + character + ")", lines.type(character), model.type(character));
        }
        if (next(4) == 0) {
            Check.due(name + "play()", lines.play(), model.play());
        }
        if (next(3) == 0) {
            Check.due(name + "fault(0)", lines.fault(0), model.fault(0));
            Check.due(name + "fault(1)", lines.fault(1), model.fault(1));
            Check.due(name + "fault(2)", lines.fault(2), model.fault(2));
            Check.due(name + "clearText()", lines.clearText(), model.clearText());
        }
    }
}
