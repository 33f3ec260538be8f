/-! every call keeps what a state must be -/
theorem Ok.fd {s : ST} {f : Nat} (h : Ok s) (hf : f < 100) : Ok (s.setfd f) := ⟨h.1, h.2.1, h.2.2.1, h.2.2.2.1, h.2.2.2.2.1, h.2.2.2.2.2.1, h.2.2.2.2.2.2.1, hf, h.2.2.2.2.2.2.2.2⟩
theorem Ok.settr {s : ST} {tr : List Nat} (h : Ok s) (hf : tr.length ≤ 16) : Ok (s.settr tr) := ⟨h.1, h.2.1, h.2.2.1, h.2.2.2.1, h.2.2.2.2.1, h.2.2.2.2.2.1, h.2.2.2.2.2.2.1, h.2.2.2.2.2.2.2.1, hf⟩
theorem Ok.setA {s : ST} {A : RS} (h : Ok s) (hA : okR A) : Ok (s.setA A) := ⟨hA, h.2⟩
theorem ok_row {s : ST} {r l m : Int32} (h : Ok s) : Ok (sRow s r l m).2 := by
  unfold sRow
  split
  · rename_i r l h1 h2
    split
    · exact h
    · rename_i h3
      split
      · exact h.fd (by decide)
      · rename_i h4
        refine Ok.fd (Ok.setA h (fun q hq hA => ?_)) (by decide)
        have hl := (inN_of h2).1
        have hm : m.toNatClampNeg ≤ 40 := by
          have h3 := Int32.not_lt.mp h3
          rw [Int32.le_iff_toInt_le, nI_toInt (by decide)] at h3
          show m.toInt.toNat ≤ 40
          omega
        show va_up s.A.2.1 r l q < 3 ∧ va_up s.A.2.2.1 r m.toNatClampNeg q ≤ 40
        have hA : va_up s.A.1 r true q = true := hA
        by_cases e : q = r
        · simp only [va_up, if_pos e]
          exact ⟨hl, hm⟩
        · simp only [va_up, if_neg e] at hA ⊢
          exact h.1 q hq hA
  · exact h
theorem ok_set {s : ST} {r i v : Int32} (h : Ok s) : Ok (sSet s r i v).2 := by
  unfold sSet
  split
  · exact h
  · split
    · exact h.fd (by decide)
    · split
      · exact h.fd (by decide)
      · exact Ok.fd (Ok.setA h h.1) (by decide)
theorem ok_copy {s : ST} {a i b j m : Int32} (h : Ok s) : Ok (sCopy s a i b j m).2 := by
  unfold sCopy
  split
  · split
    · exact h.fd (by decide)
    · split
      · exact h.fd (by decide)
      · split
        · exact Ok.fd (Ok.setA h h.1) (by decide)
        · exact h.fd (by decide)
  · exact h
theorem ok_drop {s : ST} {r : Int32} (h : Ok s) : Ok (sDrop s r).2 := by
  unfold sDrop
  split
  · exact h
  · rename_i r h1
    split
    · exact h.fd (by decide)
    · refine Ok.fd (Ok.setA h (fun q hq hA => ?_)) (by decide)
      have hA : va_up s.A.1 r false q = true := hA
      by_cases e : q = r
      · simp only [va_up, if_pos e] at hA
        cases hA
      · simp only [va_up, if_neg e] at hA
        exact h.1 q hq hA
theorem ok_feed {s : ST} {b : Int32} (h : Ok s) : Ok (sFeed s b).2 := by
  unfold sFeed
  split
  · exact h
  · rename_i b h1
    split
    · rename_i h2
      have hb := (inN_of h1).1
      refine ⟨h.1, ⟨by show s.sz + 1 ≤ 90; omega, fun i hi => ?_⟩, h.2.2⟩
      have hi : i < s.sz + 1 := hi
      show va_up s.tp s.sz b i < 256
      by_cases e : i = s.sz
      · simp only [va_up, if_pos e]
        exact hb
      · simp only [va_up, if_neg e]
        exact h.2.1.2 i (by omega)
    · exact h
theorem pnc_lt (tp : Nat → Nat) (sz a lo hi : Nat) : pnc tp sz a lo hi < 4 := by
  unfold pnc
  repeat' split
  all_goals decide
theorem pJ_lt {tp : Nat → Nat} {sz : Nat} (V : Cel) (a : Nat) : (pJ tp sz V a).1 < 4 := by
  unfold pJ
  repeat' split
  all_goals first | exact (show (0 : Nat) < 4 by decide) | exact (show (1 : Nat) < 4 by decide) | exact (show (3 : Nat) < 4 by decide) | exact pnc_lt _ _ _ _ _
theorem pLp_lt {tp : Nat → Nat} {sz : Nat} : ∀ f V a, (pLp tp sz f V a).1 < 4
  | 0, V, a => by show 1 < 4; decide
  | f + 1, V, a => by
    unfold pLp
    split
    · show 0 < 4; decide
    · split
      · exact pJ_lt V a
      · exact pLp_lt f _ _
theorem parse_lt (tp : Nat → Nat) (sz : Nat) : (parse tp sz).1 < 4 := by
  unfold parse
  split
  · show 1 < 4; decide
  · split
    · exact pnc_lt _ _ _ _ _
    · split
      · show 1 < 4; decide
      · exact pLp_lt _ _ _
theorem ok_cellar {s : ST} (h : Ok s) : Ok (sCellar s).2 := by
  have ht : okT s.tp 0 := ⟨Nat.zero_le _, fun i hi => absurd hi (Nat.not_lt_zero i)⟩
  unfold sCellar
  split
  · have := parse_lt s.tp s.sz
    exact ⟨h.1, ht, h.2.2.1, h.2.2.2.1, h.2.2.2.2.1, h.2.2.2.2.2.1, Nat.lt_trans this (by decide), h.2.2.2.2.2.2.2⟩
  · rename_i h0
    have hp := parse_ok (Classical.not_not.mp h0)
    refine ⟨h.1, ht, ⟨hp.1, ?_⟩, Nat.zero_le _, fun i hi => absurd hi (Nat.not_lt_zero i), h.2.2.2.2.2⟩
    show (parse s.tp s.sz).2.2.Y ≤ 999
    rw [hp.2.1]
    decide
theorem ok_undo {s : ST} (h : Ok s) : Ok (sUndo s).2 := by
  unfold sUndo
  split
  · exact h
  · rename_i h0
    have h24 := h.2.2.2.1
    have h0 : s.an ≠ 0 := h0
    exact ⟨h.1, h.2.1, h.2.2.2.2.1 0 (by omega), (by show s.an - 1 ≤ 24; omega), fun i hi => h.2.2.2.2.1 (i + 1) (by have hi : i < s.an - 1 := hi; omega), h.2.2.2.2.2⟩
theorem ok_years {s : ST} {m : Int32} (h : Ok s) : Ok (sYears s m).2 := by
  unfold sYears
  split
  · exact h
  · split
    · exact h
    · exact h
    · split
      · exact h
      · exact (years_ok h _ (by omega)).1
theorem ok_sneeze {s : ST} {nt p : Int32} (h : Ok s) : Ok (sSneeze s nt p).2 := by
  unfold sSneeze
  split
  · exact h.keep.setV ⟨h.2.2.1.1.smash _, h.2.2.1.2⟩
  · exact h
theorem okC.sethw {V : Cel} (h : okC V) {j v : Nat} (hv : v ≤ 3) (h0 : v = 0 → 1 ≤ V.kp j) : okC (V.sethw j v) := by
  refine ⟨h.1, h.2.1, h.2.2.1, fun i hi => ?_, h.2.2.2.2⟩
  have q := h.2.2.2.1 i hi
  refine ⟨q.1, q.2.1, q.2.2.1, q.2.2.2.1, ?_, q.2.2.2.2.2.1, ?_⟩
  · show va_up V.hw j v i = 0 → 1 ≤ V.kp i
    by_cases e : i = j
    · subst e
      simp only [va_up, if_pos]
      exact h0
    · simp only [va_up, if_neg e]
      exact q.2.2.2.2.1
  · show va_up V.hw j v i ≤ 3
    by_cases e : i = j
    · simp only [va_up, if_pos e]
      exact hv
    · simp only [va_up, if_neg e]
      exact q.2.2.2.2.2.2
theorem okC.setkp {V : Cel} (h : okC V) {j v : Nat} (hv : v ≤ 60) (h0 : 1 ≤ v) : okC (V.setkp j v) := by
  refine ⟨h.1, h.2.1, h.2.2.1, fun i hi => ?_, h.2.2.2.2⟩
  have q := h.2.2.2.1 i hi
  refine ⟨q.1, q.2.1, q.2.2.1, ?_, ?_, q.2.2.2.2.2.1, q.2.2.2.2.2.2⟩
  · show va_up V.kp j v i ≤ 60
    by_cases e : i = j
    · simp only [va_up, if_pos e]
      exact hv
    · simp only [va_up, if_neg e]
      exact q.2.2.2.1
  · show V.hw i = 0 → 1 ≤ va_up V.kp j v i
    by_cases e : i = j
    · simp only [va_up, if_pos e]
      exact fun _ => h0
    · simp only [va_up, if_neg e]
      exact q.2.2.2.2.1
theorem seal_cm (V : Cel) (j nt y : Nat) : ((V.sethw j 0).setnt j nt).setkp j y = ((V.setkp j y).sethw j 0).setnt j nt := rfl
theorem ok_open {s : ST} {j : Int32} (h : Ok s) : Ok (sOpen s j).2 := by
  unfold sOpen
  split
  · exact h
  · split
    · exact h.keep.setV ⟨h.2.2.1.1.sethw (by decide) (fun z => by cases z), h.2.2.1.2⟩
    · exact h
theorem ok_change {s : ST} {a b : Int32} (h : Ok s) : Ok (sChange s a b).2 := by
  unfold sChange
  split
  · rename_i h1 h2
    split
    · exact h
    · exact h.keep.setV ⟨h.2.2.1.1.swap (inN_of h1).1 (inN_of h2).1, h.2.2.1.2⟩
  · exact h
theorem ok_seal {s : ST} {j nt y : Int32} (h : Ok s) : Ok (sSeal s j nt y).2 := by
  unfold sSeal
  split
  · rename_i j nt y h1 h2 h3
    split
    · exact h
    · have hy := (inN_of h3).1
      refine h.keep.setV ⟨?_, h.2.2.1.2⟩
      rw [seal_cm]
      refine okC.setnt (okC.sethw (h.2.2.1.1.setkp (by omega) (by omega)) (by decide) (fun _ => ?_)) (inN_of h2).1
      show 1 ≤ va_up s.V.kp j (y + 1) j
      simp [va_up]
  · exact h
theorem ok_reach {s : ST} {v : Int32} (h : Ok s) : Ok (sReach s v).2 := by
  unfold sReach
  split
  · exact h
  · split
    · exact h
    · rename_i h1
      exact h.keep.setV ⟨h.2.2.1.1.setR (by have := (inN_of h1).1; omega), h.2.2.1.2⟩
theorem ok_image {s : ST} {k : Int32} (h : Ok s) : Ok (sImage s k).2 := by
  unfold sImage
  split
  · exact h
  · rename_i k h1
    split
    · exact h
    · refine ⟨h.1, h.2.1, h.2.2.1, h.2.2.2.1, h.2.2.2.2.1, fun q U hU => ?_, h.2.2.2.2.2.2⟩
      have hU : va_up s.I k (some s.V) q = some U := hU
      by_cases e : q = k
      · simp only [va_up, if_pos e] at hU
        cases hU
        exact h.2.2.1
      · simp only [va_up, if_neg e] at hU
        exact h.2.2.2.2.2.1 q U hU
theorem ok_restore {s : ST} {k : Int32} (h : Ok s) : Ok (sRestore s k).2 := by
  unfold sRestore
  split
  · exact h
  · split
    · exact h
    · rename_i U hU
      exact ⟨h.1, h.2.1, h.2.2.2.2.2.1 _ U hU, Nat.zero_le _, fun i hi => absurd hi (Nat.not_lt_zero i), h.2.2.2.2.2⟩
theorem ok_jar {s : ST} {j w : Int32} (h : Ok s) : Ok (sJar s j w).2 := by
  unfold sJar
  split <;> exact h
theorem ok_stand {s : ST} {w : Int32} (h : Ok s) : Ok (sStand s w).2 := by
  unfold sStand
  split
  · exact h
  · split <;> exact h
theorem ok_chain {s : ST} {nt p w : Int32} (h : Ok s) : Ok (sChain s nt p w).2 := by
  unfold sChain
  split <;> exact h
theorem ok_q2 {s : ST} {w a b : Int32} (h : Ok s) : Ok (q2 s w a b).2 := by
  unfold q2
  split
  · exact h
  · split <;> exact h
theorem ok_worst {s : ST} {w : Int32} (h : Ok s) : Ok (sWorst s w).2 := ok_q2 h
theorem ok_changes {s : ST} {w : Int32} (h : Ok s) : Ok (sChanges s w).2 := ok_q2 h
theorem ok_spared {s : ST} {w : Int32} (h : Ok s) : Ok (sSpared s w).2 := ok_q2 h
theorem ok_alike {s : ST} {w : Int32} (h : Ok s) : Ok (sAlike s w).2 := ok_q2 h
theorem ok_when {s : ST} {j : Int32} (h : Ok s) : Ok (sWhen s j).2 := by
  unfold sWhen
  split <;> exact h
theorem ok_kept {s : ST} {m : Int32} (h : Ok s) : Ok (sKept s m).2 := by
  unfold sKept
  split
  · exact h
  · split <;> exact h
theorem ok_guard {s : ST} {nt p k w : Int32} (h : Ok s) : Ok (sGuard s nt p k w).2 := by
  unfold sGuard
  split <;> exact h
theorem ok_tuned {s : ST} {j w : Int32} (h : Ok s) : Ok (sTuned s j w).2 := by
  unfold sTuned
  split <;> exact h
theorem ok_rowF {s : ST} {r : Nat} {i : Int32} {m : Nat} {f : Nat → Int32 × ST} (h : Ok s) (hf : ∀ a, Ok (f a).2) : Ok (rowF s r i m f).2 := by
  unfold rowF
  split
  · exact h.fd (by decide)
  · split
    · exact h.fd (by decide)
    · exact hf _
theorem ok_song {s : ST} {w r i m : Int32} (h : Ok s) : Ok (sSong s w r i m).2 := by
  unfold sSong
  split
  · exact h
  · split
    · refine ok_rowF h (fun a => ?_)
      split <;> exact h.fd (by decide)
    · exact h
theorem ok_who {s : ST} {j wh p r i m : Int32} (h : Ok s) : Ok (sWho s j wh p r i m).2 := by
  unfold sWho
  split
  · exact ok_rowF h (fun a => h.fd (by decide))
  · exact h
theorem ok_reaches {s : ST} {p r i m : Int32} (h : Ok s) : Ok (sReaches s p r i m).2 := by
  unfold sReaches
  split
  · exact ok_rowF h (fun a => h.fd (by decide))
  · exact h
theorem ok_mould {s : ST} {j nt p c w : Int32} (h : Ok s) : Ok (sMould s j nt p c w).2 := by
  unfold sMould
  split <;> exact h
theorem ok_drawn {s : ST} {m x w : Int32} (h : Ok s) : Ok (sDrawn s m x w).2 := by
  unfold sDrawn
  split
  · exact h
  · split <;> exact h
theorem ok_kind {s : ST} {j : Int32} (h : Ok s) : Ok (sKind s j).2 := by
  unfold sKind
  split <;> exact h
theorem ok_as {s : ST} {j k : Int32} (h : Ok s) : Ok (sAs s j k).2 := by
  unfold sAs
  split
  · split <;> exact h.fd (by decide)
  · exact h
theorem ok_ask {s : ST} {j w : Int32} (h : Ok s) : Ok (sAsk s j w).2 := by
  unfold sAsk
  split
  · refine h.settr ?_
    unfold szL mkL
    repeat' split
    all_goals decide
  · exact h
theorem ok_trace {s : ST} {i : Int32} (h : Ok s) : Ok (sTrace s i).2 := by
  unfold sTrace
  split <;> exact h
theorem ok_count {s : ST} {w : Int32} (h : Ok s) : Ok (sCount s w).2 := by
  unfold sCount
  split <;> exact h

