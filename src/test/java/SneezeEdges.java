/** Sentences of what a SNEEZE does: part 2 of the Terms. */
final class SneezeEdges {
    private SneezeEdges() {
    }

    private static void breaks(String text, int note, int place, int bits, int rounds) {
        JarNotes x = Due.cellarOf(text);
        String call = text + " by " + note + " at " + place;
        Due.is(call + ": rounds", x.chain(note, place, 1), rounds);
        Due.is(call + ": foretold", x.chain(note, place, 0), bits);
        Due.is(call, x.sneeze(note, place), bits);
        Due.is(call + ": broken then", x.stand(1), bits);
    }

    @Says(words = "A JAR is WHOLE, BROKEN, MOULDY or OPENED.")
    static void howAJarIs() {
        JarNotes x = Due.cellarOf("k0;g0,9;g1,9;g2,1;g3,9;");
        x.years(1);
        x.sneeze(1, 1);
        x.open(3);
        for (int how = 0; how <= 3; how++) {
            Due.is("jar " + how, x.jar(how, 3), how);
            Due.is("those that are " + how, x.stand(how), 1 << how);
        }
    }

    @Says(words = "NOTES are in a ring of 12: two are as far apart as the shorter way round (0 to 6).")
    static void theRingOfNotes() {
        breaks("k0;t0,9;", 11, 0, 1, 1);
        breaks("k0;t0,9;", 10, 0, 0, 0);
        breaks("k0;t11,9;", 0, 0, 1, 1);
        breaks("k0;t11,9;", 1, 0, 0, 0);
        breaks("k0;s0,9;", 5, 0, 1, 1);
        breaks("k0;s0,9;", 7, 0, 1, 1);
        breaks("k0;s0,9;", 6, 0, 0, 0);
        breaks("k0;s11,9;", 4, 0, 1, 1);
        breaks("k0;s11,9;", 6, 0, 1, 1);
        breaks("k0;s11,9;", 5, 0, 0, 0);
        breaks("k0;c0,9;", 6, 0, 1, 1);
        breaks("k0;c11,9;", 5, 0, 1, 1);
        breaks("k0;c5,9;", 11, 0, 1, 1);
        breaks("k0;c5,9;", 0, 0, 1, 1);
    }

    @Says(words = "A SNEEZE of a NOTE at a PLACE: it sounds there.")
    static void itSoundsThere() {
        breaks("k0;g3,9;g3,9;g3,9;", 3, 0, 1, 1);
        breaks("k0;g3,9;g3,9;g3,9;", 3, 1, 2, 1);
        breaks("k0;g3,9;g3,9;g3,9;", 3, 2, 4, 1);
        JarNotes x = Due.cellarOf("k0;g3,9;g3,9;g3,9;");
        x.change(0, 2);
        Due.is("at a place, not at a jar of that number", x.sneeze(3, 0), 4);
        breaks("k0;g3,9;h0,9;h0,9;h0,9;h0,9;h0,9;h0,9;g11,9;", 11, 7, 128, 1);
    }

    @Says(words = "In a ROUND each WHOLE JAR hears what sounds in it")
    static void wholeJarsAloneHear() {
        JarNotes x = Due.cellarOf("k8;g0,9;g0,1;g0,9;g1,9;g0,9;");
        x.years(1);
        x.open(2);
        x.sneeze(1, 3);
        Due.is("neither a mouldy nor an opened nor a broken one breaks", x.sneeze(0, 1), 17);
        Due.is("mouldy", x.jar(1, 3), 2);
        Due.is("opened", x.jar(2, 3), 3);
        Due.is("nothing is left", x.sneeze(0, 1), 0);
        JarNotes y = Due.cellarOf("k1;g0,9;g0,9;g0,9;");
        y.open(1);
        Due.is("nor does it sound on", y.sneeze(0, 0), 1);
    }

    @Says(words = "at PLACES that are REACH or less from its own")
    static void reachOrLess() {
        for (int reach = 0; reach <= 8; reach++) {
            for (int place = 0; place <= 7; place++) {
                int bits = 0;
                for (int jar = 0; jar <= 7; jar++) {
                    bits |= Math.abs(jar - place) <= reach ? 1 << jar : 0;
                }
                String stones = "s0,9;s0,9;s0,9;s0,9;s0,9;s0,9;s0,9;s0,9;";
                breaks("k" + reach + ";" + stones, 5, place, bits, 1);
            }
        }
    }

    @Says(words = "(not its own sound)")
    static void notItsOwnSound() {
        breaks("k8;g4,9;", 4, 0, 1, 1);
        breaks("k8;h4,9;", 4, 0, 0, 0);
        breaks("k8;t4,9;", 5, 0, 1, 1);
        breaks("k8;g4,9;h4,9;", 4, 1, 1, 1);
    }

    @Says(words = "and BREAKS, if that SETS it OFF: glass, if any of it is of its NOTE;")
    static void glass() {
        apart('g', 1);
        breaks("k8;g4,9;g5,9;", 4, 1, 1, 1);
        breaks("k8;t4,9;t5,9;g5,9;", 3, 0, 7, 3);
    }

    @Says(words = "a thin one, if any is 1 apart or less;")
    static void thin() {
        apart('t', 3);
    }

    @Says(words = "a thick one, if two or more are of its NOTE;")
    static void thick() {
        apart('h', 0);
        breaks("k8;h4,9;g4,9;", 4, 0, 2, 1);
        breaks("k8;h4,9;g4,9;g4,9;", 4, 0, 7, 2);
        breaks("k8;h4,9;g4,9;g4,9;g4,9;", 4, 0, 15, 2);
        breaks("k8;h4,9;t5,9;t4,9;", 4, 0, 6, 1);
        breaks("k8;h4,9;t5,9;t3,9;", 4, 0, 6, 1);
        breaks("k1;h4,9;g4,9;g4,9;", 4, 1, 6, 1);
        breaks("k1;g4,9;h4,9;g4,9;", 4, 1, 7, 2);
        breaks("k2;h4,9;g4,9;g4,9;", 4, 1, 7, 2);
    }

    @Says(words = "stone, if any is 5 apart;")
    static void stone() {
        apart('s', 32);
    }

    @Says(words = "a crock as stone, or if any is 6 apart.")
    static void crock() {
        apart('c', 96);
    }

    /** ways: of 0 to 6 apart, those that set it off, as bits */
    private static void apart(char sort, int ways) {
        int[] apart = {0, 1, 2, 3, 4, 5, 6, 5, 4, 3, 2, 1};
        for (int note = 0; note <= 11; note++) {
            for (int other = 0; other <= 11; other++) {
                int way = apart[(other - note + 12) % 12];
                int due = ways >> way & 1;
                breaks("k0;" + sort + note + ",9;", other, 0, due, due);
            }
        }
    }

    @Says(words = "All at once;")
    static void allAtOnce() {
        // both hear the sneeze; were one first, the other one would go a round later
        breaks("k1;g0,9;g0,9;", 0, 0, 3, 1);
        // 1 and 2 go in the first round, so 3 and 0 hear two at once in the second
        breaks("k2;h0,9;g0,9;g0,9;h0,9;", 0, 1, 15, 2);
        // were 0 to go first and sound at once, the thick one between would hear two in the first round
        breaks("k1;g0,9;h0,9;h0,9;", 0, 0, 1, 1);
    }

    @Says(words = "those that BREAK sound their NOTES at their PLACES in the next ROUND,")
    static void theySoundInTheNextRound() {
        breaks("k1;t1,9;g1,9;g1,9;g1,9;g1,9;g1,9;g1,9;g1,9;", 0, 0, 255, 8);
        JarNotes x = Due.cellarOf("k1;t1,9;g0,9;h5,9;g1,9;");
        Due.is("too far as they stand", x.chain(0, 1, 0), 3);
        x.change(2, 0);
        Due.is("at its place, not at that of its number", x.chain(0, 1, 0), 11);
        Due.is("two rounds", x.chain(0, 1, 1), 2);
    }

    @Says(words = "and nothing else does;")
    static void nothingElseSounds() {
        // the sneeze is gone by the second round, so the thick one hears 1 alone
        breaks("k8;g0,9;h0,9;", 0, 0, 1, 1);
        // what sounded in one round is gone by the next: the thick one hears 1 in each
        breaks("k8;t1,9;g1,9;h1,9;", 0, 0, 3, 2);
        JarNotes x = Due.cellarOf("k2;g0,9;g4,9;h0,9;g4,9;g0,9;");
        Due.is("one of two", x.sneeze(0, 0), 1);
        Due.is("those that were broken before do not sound again", x.sneeze(0, 4), 16);
        Due.is("the thick one is whole", x.stand(0), 14);
    }

    @Says(words = "so on till none BREAKS.")
    static void tillNoneBreaks() {
        breaks("k1;g0,9;g0,9;g0,9;g0,9;g0,9;g0,9;g0,9;g0,9;", 0, 0, 255, 7);
        breaks("k1;g0,9;g0,9;g0,9;g1,9;g0,9;g0,9;g0,9;g0,9;", 0, 0, 7, 2);
        breaks("k8;h0,9;", 0, 0, 0, 0);
    }
}
