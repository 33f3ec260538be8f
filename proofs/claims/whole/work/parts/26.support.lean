/-! constants, calls by arity, shapes -/
theorem icm1 : Int32.ofInt (-1) = (-1 : Int32) := by decide +kernel
theorem ic0 : Int32.ofInt 0 = nI 0 := by decide +kernel
theorem ic1 : Int32.ofInt 1 = nI 1 := by decide +kernel
theorem ic2 : Int32.ofInt 2 = nI 2 := by decide +kernel
theorem ic3 : Int32.ofInt 3 = nI 3 := by decide +kernel
theorem ic4 : Int32.ofInt 4 = nI 4 := by decide +kernel
theorem ic5 : Int32.ofInt 5 = nI 5 := by decide +kernel
theorem ic7 : Int32.ofInt 7 = nI 7 := by decide +kernel
theorem bp6 : (Int8.ofInt 6).toInt32 = nI 6 := by decide +kernel
theorem bp7 : (Int8.ofInt 7).toInt32 = nI 7 := by decide +kernel
theorem bp8 : (Int8.ofInt 8).toInt32 = nI 8 := by decide +kernel
theorem bp9 : (Int8.ofInt 9).toInt32 = nI 9 := by decide +kernel
theorem bp10 : (Int8.ofInt 10).toInt32 = nI 10 := by decide +kernel
theorem bp11 : (Int8.ofInt 11).toInt32 = nI 11 := by decide +kernel
theorem bp12 : (Int8.ofInt 12).toInt32 = nI 12 := by decide +kernel
theorem bp13 : (Int8.ofInt 13).toInt32 = nI 13 := by decide +kernel
theorem bp14 : (Int8.ofInt 14).toInt32 = nI 14 := by decide +kernel
theorem bp16 : (Int8.ofInt 16).toInt32 = nI 16 := by decide +kernel
theorem bp20 : (Int8.ofInt 20).toInt32 = nI 20 := by decide +kernel
theorem bp21 : (Int8.ofInt 21).toInt32 = nI 21 := by decide +kernel
theorem bp22 : (Int8.ofInt 22).toInt32 = nI 22 := by decide +kernel
theorem bp23 : (Int8.ofInt 23).toInt32 = nI 23 := by decide +kernel
theorem bp24 : (Int8.ofInt 24).toInt32 = nI 24 := by decide +kernel
theorem bp40 : (Int8.ofInt 40).toInt32 = nI 40 := by decide +kernel
theorem bp43 : (Int8.ofInt 43).toInt32 = nI 43 := by decide +kernel
theorem bp44 : (Int8.ofInt 44).toInt32 = nI 44 := by decide +kernel
theorem bp48 : (Int8.ofInt 48).toInt32 = nI 48 := by decide +kernel
theorem bp57 : (Int8.ofInt 57).toInt32 = nI 57 := by decide +kernel
theorem bp59 : (Int8.ofInt 59).toInt32 = nI 59 := by decide +kernel
theorem bp60 : (Int8.ofInt 60).toInt32 = nI 60 := by decide +kernel
theorem bp63 : (Int8.ofInt 63).toInt32 = nI 63 := by decide +kernel
theorem bp86 : (Int8.ofInt 86).toInt32 = nI 86 := by decide +kernel
theorem bp90 : (Int8.ofInt 90).toInt32 = nI 90 := by decide +kernel
theorem bp99 : (Int8.ofInt 99).toInt32 = nI 99 := by decide +kernel
theorem bp100 : (Int8.ofInt 100).toInt32 = nI 100 := by decide +kernel
theorem bp103 : (Int8.ofInt 103).toInt32 = nI 103 := by decide +kernel
theorem bp104 : (Int8.ofInt 104).toInt32 = nI 104 := by decide +kernel
theorem bp107 : (Int8.ofInt 107).toInt32 = nI 107 := by decide +kernel
theorem bp115 : (Int8.ofInt 115).toInt32 = nI 115 := by decide +kernel
theorem bp116 : (Int8.ofInt 116).toInt32 = nI 116 := by decide +kernel
theorem sp255 : (Int16.ofInt 255).toInt32 = nI 255 := by decide +kernel
theorem sp256 : (Int16.ofInt 256).toInt32 = nI 256 := by decide +kernel
theorem sp320 : (Int16.ofInt 320).toInt32 = nI 320 := by decide +kernel
theorem sp989 : (Int16.ofInt 989).toInt32 = nI 989 := by decide +kernel
theorem sp999 : (Int16.ofInt 999).toInt32 = nI 999 := by decide +kernel
theorem sp1000 : (Int16.ofInt 1000).toInt32 = nI 1000 := by decide +kernel
theorem sp1032 : (Int16.ofInt 1032).toInt32 = nI 1032 := by decide +kernel
section Ar
variable {M M2 : MI} {d kc ks pc pc2 mc ms idx ci i : Nat} {ls : List (Nat × Value)} {st fs : List Value} {h : SH} {Q : Option Value → SH → Prop} {host : String} {a1 a2 a3 a4 a5 a6 : Value}
theorem C_V0 (hf : decode M.2.1 pc = .ok (.invokevirtual idx, 3)) (hc : CV M2 ci 0) (hlk : Cond.methodLink M.1.cls idx M2.1 ∈ lw_g) (ho : hob h i ci fs) (hst : (st.map fun v => v.category).sum ≤ 8) (hp : pc + 3 = pc2) (k : Calls M2 d mc ms [.ref i] h (fun r h2 => T M (d + 1) kc ks pc2 ls (r.toList ++ st) h2 Q)) : T M (d + 1) (kc + mc) (ks + ms) pc ls (.ref i :: st) h Q := T_callV (As := []) hf hc hlk ho rfl hst hp k
theorem C_S0 (hf : decode M.2.1 pc = .ok (.invokestatic idx, 3)) (hc : CSt M2 0) (hlk : Cond.methodLink M.1.cls idx M2.1 ∈ lw_g) (hst : (st.map fun v => v.category).sum ≤ 8) (hp : pc + 3 = pc2) (k : Calls M2 d mc ms [] h (fun r h2 => T M (d + 1) kc ks pc2 ls (r.toList ++ st) h2 Q)) : T M (d + 1) (kc + mc) (ks + ms) pc ls (st) h Q := T_callS (As := []) hf hc hlk rfl hst hp k
theorem C_SN0 (hf : decode M.2.1 pc = .ok (.invokestatic idx, 3)) (hc : CSt M2 0) (hlk : Cond.methodLinkNest M.1.cls idx M2.1 host ∈ nestW) (hst : (st.map fun v => v.category).sum ≤ 8) (hp : pc + 3 = pc2) (k : Calls M2 d mc ms [] h (fun r h2 => T M (d + 1) kc ks pc2 ls (r.toList ++ st) h2 Q)) : T M (d + 1) (kc + mc) (ks + ms) pc ls (st) h Q := T_callSN (As := []) hf hc hlk rfl hst hp k
theorem C_V1 (hf : decode M.2.1 pc = .ok (.invokevirtual idx, 3)) (hc : CV M2 ci 1) (hlk : Cond.methodLink M.1.cls idx M2.1 ∈ lw_g) (ho : hob h i ci fs) (hst : (st.map fun v => v.category).sum ≤ 8) (hp : pc + 3 = pc2) (k : Calls M2 d mc ms [.ref i, a1] h (fun r h2 => T M (d + 1) kc ks pc2 ls (r.toList ++ st) h2 Q)) : T M (d + 1) (kc + mc) (ks + ms) pc ls (a1 :: .ref i :: st) h Q := T_callV (As := [a1]) hf hc hlk ho rfl hst hp k
theorem C_S1 (hf : decode M.2.1 pc = .ok (.invokestatic idx, 3)) (hc : CSt M2 1) (hlk : Cond.methodLink M.1.cls idx M2.1 ∈ lw_g) (hst : (st.map fun v => v.category).sum ≤ 8) (hp : pc + 3 = pc2) (k : Calls M2 d mc ms [a1] h (fun r h2 => T M (d + 1) kc ks pc2 ls (r.toList ++ st) h2 Q)) : T M (d + 1) (kc + mc) (ks + ms) pc ls (a1 :: st) h Q := T_callS (As := [a1]) hf hc hlk rfl hst hp k
theorem C_SN1 (hf : decode M.2.1 pc = .ok (.invokestatic idx, 3)) (hc : CSt M2 1) (hlk : Cond.methodLinkNest M.1.cls idx M2.1 host ∈ nestW) (hst : (st.map fun v => v.category).sum ≤ 8) (hp : pc + 3 = pc2) (k : Calls M2 d mc ms [a1] h (fun r h2 => T M (d + 1) kc ks pc2 ls (r.toList ++ st) h2 Q)) : T M (d + 1) (kc + mc) (ks + ms) pc ls (a1 :: st) h Q := T_callSN (As := [a1]) hf hc hlk rfl hst hp k
theorem C_V2 (hf : decode M.2.1 pc = .ok (.invokevirtual idx, 3)) (hc : CV M2 ci 2) (hlk : Cond.methodLink M.1.cls idx M2.1 ∈ lw_g) (ho : hob h i ci fs) (hst : (st.map fun v => v.category).sum ≤ 8) (hp : pc + 3 = pc2) (k : Calls M2 d mc ms [.ref i, a1, a2] h (fun r h2 => T M (d + 1) kc ks pc2 ls (r.toList ++ st) h2 Q)) : T M (d + 1) (kc + mc) (ks + ms) pc ls (a2 :: a1 :: .ref i :: st) h Q := T_callV (As := [a1, a2]) hf hc hlk ho rfl hst hp k
theorem C_S2 (hf : decode M.2.1 pc = .ok (.invokestatic idx, 3)) (hc : CSt M2 2) (hlk : Cond.methodLink M.1.cls idx M2.1 ∈ lw_g) (hst : (st.map fun v => v.category).sum ≤ 8) (hp : pc + 3 = pc2) (k : Calls M2 d mc ms [a1, a2] h (fun r h2 => T M (d + 1) kc ks pc2 ls (r.toList ++ st) h2 Q)) : T M (d + 1) (kc + mc) (ks + ms) pc ls (a2 :: a1 :: st) h Q := T_callS (As := [a1, a2]) hf hc hlk rfl hst hp k
theorem C_SN2 (hf : decode M.2.1 pc = .ok (.invokestatic idx, 3)) (hc : CSt M2 2) (hlk : Cond.methodLinkNest M.1.cls idx M2.1 host ∈ nestW) (hst : (st.map fun v => v.category).sum ≤ 8) (hp : pc + 3 = pc2) (k : Calls M2 d mc ms [a1, a2] h (fun r h2 => T M (d + 1) kc ks pc2 ls (r.toList ++ st) h2 Q)) : T M (d + 1) (kc + mc) (ks + ms) pc ls (a2 :: a1 :: st) h Q := T_callSN (As := [a1, a2]) hf hc hlk rfl hst hp k
theorem C_V3 (hf : decode M.2.1 pc = .ok (.invokevirtual idx, 3)) (hc : CV M2 ci 3) (hlk : Cond.methodLink M.1.cls idx M2.1 ∈ lw_g) (ho : hob h i ci fs) (hst : (st.map fun v => v.category).sum ≤ 8) (hp : pc + 3 = pc2) (k : Calls M2 d mc ms [.ref i, a1, a2, a3] h (fun r h2 => T M (d + 1) kc ks pc2 ls (r.toList ++ st) h2 Q)) : T M (d + 1) (kc + mc) (ks + ms) pc ls (a3 :: a2 :: a1 :: .ref i :: st) h Q := T_callV (As := [a1, a2, a3]) hf hc hlk ho rfl hst hp k
theorem C_S3 (hf : decode M.2.1 pc = .ok (.invokestatic idx, 3)) (hc : CSt M2 3) (hlk : Cond.methodLink M.1.cls idx M2.1 ∈ lw_g) (hst : (st.map fun v => v.category).sum ≤ 8) (hp : pc + 3 = pc2) (k : Calls M2 d mc ms [a1, a2, a3] h (fun r h2 => T M (d + 1) kc ks pc2 ls (r.toList ++ st) h2 Q)) : T M (d + 1) (kc + mc) (ks + ms) pc ls (a3 :: a2 :: a1 :: st) h Q := T_callS (As := [a1, a2, a3]) hf hc hlk rfl hst hp k
theorem C_SN3 (hf : decode M.2.1 pc = .ok (.invokestatic idx, 3)) (hc : CSt M2 3) (hlk : Cond.methodLinkNest M.1.cls idx M2.1 host ∈ nestW) (hst : (st.map fun v => v.category).sum ≤ 8) (hp : pc + 3 = pc2) (k : Calls M2 d mc ms [a1, a2, a3] h (fun r h2 => T M (d + 1) kc ks pc2 ls (r.toList ++ st) h2 Q)) : T M (d + 1) (kc + mc) (ks + ms) pc ls (a3 :: a2 :: a1 :: st) h Q := T_callSN (As := [a1, a2, a3]) hf hc hlk rfl hst hp k
theorem C_V4 (hf : decode M.2.1 pc = .ok (.invokevirtual idx, 3)) (hc : CV M2 ci 4) (hlk : Cond.methodLink M.1.cls idx M2.1 ∈ lw_g) (ho : hob h i ci fs) (hst : (st.map fun v => v.category).sum ≤ 8) (hp : pc + 3 = pc2) (k : Calls M2 d mc ms [.ref i, a1, a2, a3, a4] h (fun r h2 => T M (d + 1) kc ks pc2 ls (r.toList ++ st) h2 Q)) : T M (d + 1) (kc + mc) (ks + ms) pc ls (a4 :: a3 :: a2 :: a1 :: .ref i :: st) h Q := T_callV (As := [a1, a2, a3, a4]) hf hc hlk ho rfl hst hp k
theorem C_S4 (hf : decode M.2.1 pc = .ok (.invokestatic idx, 3)) (hc : CSt M2 4) (hlk : Cond.methodLink M.1.cls idx M2.1 ∈ lw_g) (hst : (st.map fun v => v.category).sum ≤ 8) (hp : pc + 3 = pc2) (k : Calls M2 d mc ms [a1, a2, a3, a4] h (fun r h2 => T M (d + 1) kc ks pc2 ls (r.toList ++ st) h2 Q)) : T M (d + 1) (kc + mc) (ks + ms) pc ls (a4 :: a3 :: a2 :: a1 :: st) h Q := T_callS (As := [a1, a2, a3, a4]) hf hc hlk rfl hst hp k
theorem C_SN4 (hf : decode M.2.1 pc = .ok (.invokestatic idx, 3)) (hc : CSt M2 4) (hlk : Cond.methodLinkNest M.1.cls idx M2.1 host ∈ nestW) (hst : (st.map fun v => v.category).sum ≤ 8) (hp : pc + 3 = pc2) (k : Calls M2 d mc ms [a1, a2, a3, a4] h (fun r h2 => T M (d + 1) kc ks pc2 ls (r.toList ++ st) h2 Q)) : T M (d + 1) (kc + mc) (ks + ms) pc ls (a4 :: a3 :: a2 :: a1 :: st) h Q := T_callSN (As := [a1, a2, a3, a4]) hf hc hlk rfl hst hp k
theorem C_V5 (hf : decode M.2.1 pc = .ok (.invokevirtual idx, 3)) (hc : CV M2 ci 5) (hlk : Cond.methodLink M.1.cls idx M2.1 ∈ lw_g) (ho : hob h i ci fs) (hst : (st.map fun v => v.category).sum ≤ 8) (hp : pc + 3 = pc2) (k : Calls M2 d mc ms [.ref i, a1, a2, a3, a4, a5] h (fun r h2 => T M (d + 1) kc ks pc2 ls (r.toList ++ st) h2 Q)) : T M (d + 1) (kc + mc) (ks + ms) pc ls (a5 :: a4 :: a3 :: a2 :: a1 :: .ref i :: st) h Q := T_callV (As := [a1, a2, a3, a4, a5]) hf hc hlk ho rfl hst hp k
theorem C_S5 (hf : decode M.2.1 pc = .ok (.invokestatic idx, 3)) (hc : CSt M2 5) (hlk : Cond.methodLink M.1.cls idx M2.1 ∈ lw_g) (hst : (st.map fun v => v.category).sum ≤ 8) (hp : pc + 3 = pc2) (k : Calls M2 d mc ms [a1, a2, a3, a4, a5] h (fun r h2 => T M (d + 1) kc ks pc2 ls (r.toList ++ st) h2 Q)) : T M (d + 1) (kc + mc) (ks + ms) pc ls (a5 :: a4 :: a3 :: a2 :: a1 :: st) h Q := T_callS (As := [a1, a2, a3, a4, a5]) hf hc hlk rfl hst hp k
theorem C_SN5 (hf : decode M.2.1 pc = .ok (.invokestatic idx, 3)) (hc : CSt M2 5) (hlk : Cond.methodLinkNest M.1.cls idx M2.1 host ∈ nestW) (hst : (st.map fun v => v.category).sum ≤ 8) (hp : pc + 3 = pc2) (k : Calls M2 d mc ms [a1, a2, a3, a4, a5] h (fun r h2 => T M (d + 1) kc ks pc2 ls (r.toList ++ st) h2 Q)) : T M (d + 1) (kc + mc) (ks + ms) pc ls (a5 :: a4 :: a3 :: a2 :: a1 :: st) h Q := T_callSN (As := [a1, a2, a3, a4, a5]) hf hc hlk rfl hst hp k
theorem C_V6 (hf : decode M.2.1 pc = .ok (.invokevirtual idx, 3)) (hc : CV M2 ci 6) (hlk : Cond.methodLink M.1.cls idx M2.1 ∈ lw_g) (ho : hob h i ci fs) (hst : (st.map fun v => v.category).sum ≤ 8) (hp : pc + 3 = pc2) (k : Calls M2 d mc ms [.ref i, a1, a2, a3, a4, a5, a6] h (fun r h2 => T M (d + 1) kc ks pc2 ls (r.toList ++ st) h2 Q)) : T M (d + 1) (kc + mc) (ks + ms) pc ls (a6 :: a5 :: a4 :: a3 :: a2 :: a1 :: .ref i :: st) h Q := T_callV (As := [a1, a2, a3, a4, a5, a6]) hf hc hlk ho rfl hst hp k
theorem C_S6 (hf : decode M.2.1 pc = .ok (.invokestatic idx, 3)) (hc : CSt M2 6) (hlk : Cond.methodLink M.1.cls idx M2.1 ∈ lw_g) (hst : (st.map fun v => v.category).sum ≤ 8) (hp : pc + 3 = pc2) (k : Calls M2 d mc ms [a1, a2, a3, a4, a5, a6] h (fun r h2 => T M (d + 1) kc ks pc2 ls (r.toList ++ st) h2 Q)) : T M (d + 1) (kc + mc) (ks + ms) pc ls (a6 :: a5 :: a4 :: a3 :: a2 :: a1 :: st) h Q := T_callS (As := [a1, a2, a3, a4, a5, a6]) hf hc hlk rfl hst hp k
theorem C_SN6 (hf : decode M.2.1 pc = .ok (.invokestatic idx, 3)) (hc : CSt M2 6) (hlk : Cond.methodLinkNest M.1.cls idx M2.1 host ∈ nestW) (hst : (st.map fun v => v.category).sum ≤ 8) (hp : pc + 3 = pc2) (k : Calls M2 d mc ms [a1, a2, a3, a4, a5, a6] h (fun r h2 => T M (d + 1) kc ks pc2 ls (r.toList ++ st) h2 Q)) : T M (d + 1) (kc + mc) (ks + ms) pc ls (a6 :: a5 :: a4 :: a3 :: a2 :: a1 :: st) h Q := T_callSN (As := [a1, a2, a3, a4, a5, a6]) hf hc hlk rfl hst hp k
theorem B_ifeq1 {x : Int32} {off : Int} {tgt : Nat} (hf : decode M.2.1 pc = .ok (.ifCond .eq off, 3)) (hx : x = nI 1) (ht : (pc : Int) + off = (tgt : Int)) (hp : pc + 3 = pc2) (k : T M d kc ks pc2 ls st h Q) : T M d kc ks pc ls (.int x :: st) h Q := by
  subst hx
  exact T_ifeq hf ht hp (fun c => absurd c (by decide)) (fun _ => k)
theorem B_ifeq0 {x : Int32} {off : Int} {tgt : Nat} (hf : decode M.2.1 pc = .ok (.ifCond .eq off, 3)) (hx : x = nI 0) (ht : (pc : Int) + off = (tgt : Int)) (k : T M d kc ks tgt ls st h Q) : T M d kc ks pc ls (.int x :: st) h Q := by
  subst hx
  exact T_ifeq hf ht rfl (fun _ => k) (fun c => absurd c (by decide))
theorem B_ifne1 {x : Int32} {off : Int} {tgt : Nat} (hf : decode M.2.1 pc = .ok (.ifCond .ne off, 3)) (hx : x = nI 1) (ht : (pc : Int) + off = (tgt : Int)) (k : T M d kc ks tgt ls st h Q) : T M d kc ks pc ls (.int x :: st) h Q := by
  subst hx
  exact T_ifne hf ht rfl (fun _ => k) (fun c => absurd c (by decide))
theorem B_ifne0 {x : Int32} {off : Int} {tgt : Nat} (hf : decode M.2.1 pc = .ok (.ifCond .ne off, 3)) (hx : x = nI 0) (ht : (pc : Int) + off = (tgt : Int)) (hp : pc + 3 = pc2) (k : T M d kc ks pc2 ls st h Q) : T M d kc ks pc ls (.int x :: st) h Q := by
  subst hx
  exact T_ifne hf ht hp (fun c => absurd c (by decide)) (fun _ => k)
theorem B_ifgt1 {x : Int32} {off : Int} {tgt : Nat} (hf : decode M.2.1 pc = .ok (.ifCond .gt off, 3)) (hx : x = nI 1) (ht : (pc : Int) + off = (tgt : Int)) (k : T M d kc ks tgt ls st h Q) : T M d kc ks pc ls (.int x :: st) h Q := by
  subst hx
  exact T_ifgt hf ht rfl (fun _ => k) (fun c => absurd c (by decide))
theorem B_ifgt0 {x : Int32} {off : Int} {tgt : Nat} (hf : decode M.2.1 pc = .ok (.ifCond .gt off, 3)) (hx : x = nI 0) (ht : (pc : Int) + off = (tgt : Int)) (hp : pc + 3 = pc2) (k : T M d kc ks pc2 ls st h Q) : T M d kc ks pc ls (.int x :: st) h Q := by
  subst hx
  exact T_ifgt hf ht hp (fun c => absurd c (by decide)) (fun _ => k)
theorem B_ifle1 {x : Int32} {off : Int} {tgt : Nat} (hf : decode M.2.1 pc = .ok (.ifCond .le off, 3)) (hx : x = nI 1) (ht : (pc : Int) + off = (tgt : Int)) (hp : pc + 3 = pc2) (k : T M d kc ks pc2 ls st h Q) : T M d kc ks pc ls (.int x :: st) h Q := by
  subst hx
  exact T_ifle hf ht hp (fun c => absurd c (by decide)) (fun _ => k)
theorem B_ifle0 {x : Int32} {off : Int} {tgt : Nat} (hf : decode M.2.1 pc = .ok (.ifCond .le off, 3)) (hx : x = nI 0) (ht : (pc : Int) + off = (tgt : Int)) (k : T M d kc ks tgt ls st h Q) : T M d kc ks pc ls (.int x :: st) h Q := by
  subst hx
  exact T_ifle hf ht rfl (fun _ => k) (fun c => absurd c (by decide))
theorem N_ifeq {x : Int32} {a : Nat} {off : Int} {tgt : Nat} (hf : decode M.2.1 pc = .ok (.ifCond .eq off, 3)) (hx : x = nI a) (ht : (pc : Int) + off = (tgt : Int)) (ha : a < 2 ^ 31) (hp : pc + 3 = pc2) (kt : a = 0 → T M d kc ks tgt ls st h Q) (kf : ¬ a = 0 → T M d kc ks pc2 ls st h Q) : T M d kc ks pc ls (.int x :: st) h Q := by
  subst hx
  exact T_ifeq hf ht hp (fun z => kt ((nI_eq (b := 0) ha (by decide)).mp z)) (fun z => kf (fun w => z ((nI_eq (b := 0) ha (by decide)).mpr w)))
theorem N_ifne {x : Int32} {a : Nat} {off : Int} {tgt : Nat} (hf : decode M.2.1 pc = .ok (.ifCond .ne off, 3)) (hx : x = nI a) (ht : (pc : Int) + off = (tgt : Int)) (ha : a < 2 ^ 31) (hp : pc + 3 = pc2) (kt : ¬ a = 0 → T M d kc ks tgt ls st h Q) (kf : a = 0 → T M d kc ks pc2 ls st h Q) : T M d kc ks pc ls (.int x :: st) h Q := by
  subst hx
  exact T_ifne hf ht hp (fun z => kt (fun w => z ((nI_eq (b := 0) ha (by decide)).mpr w))) (fun z => kf ((nI_eq (b := 0) ha (by decide)).mp z))
theorem N_ifgt {x : Int32} {a : Nat} {off : Int} {tgt : Nat} (hf : decode M.2.1 pc = .ok (.ifCond .gt off, 3)) (hx : x = nI a) (ht : (pc : Int) + off = (tgt : Int)) (ha : a < 2 ^ 31) (hp : pc + 3 = pc2) (kt : 0 < a → T M d kc ks tgt ls st h Q) (kf : ¬ 0 < a → T M d kc ks pc2 ls st h Q) : T M d kc ks pc ls (.int x :: st) h Q := by
  subst hx
  exact T_ifgt hf ht hp (fun z => kt ((nI_ltI (a := 0) (by decide) ha).mp z)) (fun z => kf (fun w => z ((nI_ltI (a := 0) (by decide) ha).mpr w)))
theorem N_ifle {x : Int32} {a : Nat} {off : Int} {tgt : Nat} (hf : decode M.2.1 pc = .ok (.ifCond .le off, 3)) (hx : x = nI a) (ht : (pc : Int) + off = (tgt : Int)) (ha : a < 2 ^ 31) (hp : pc + 3 = pc2) (kt : a ≤ 0 → T M d kc ks tgt ls st h Q) (kf : ¬ a ≤ 0 → T M d kc ks pc2 ls st h Q) : T M d kc ks pc ls (.int x :: st) h Q := by
  subst hx
  exact T_ifle hf ht hp (fun z => kt ((nI_leI (b := 0) ha (by decide)).mp z)) (fun z => kf (fun w => z ((nI_leI (b := 0) ha (by decide)).mpr w)))
theorem N_iflt {x : Int32} {a : Nat} {off : Int} {tgt : Nat} (hf : decode M.2.1 pc = .ok (.ifCond .lt off, 3)) (hx : x = nI a) (ht : (pc : Int) + off = (tgt : Int)) (ha : a < 2 ^ 31) (hp : pc + 3 = pc2) (k : T M d kc ks pc2 ls st h Q) : T M d kc ks pc ls (.int x :: st) h Q := by
  subst hx
  exact T_iflt hf ht hp (fun z => absurd z (nI_pos ha)) (fun _ => k)
theorem N_ifge {x : Int32} {a : Nat} {off : Int} {tgt : Nat} (hf : decode M.2.1 pc = .ok (.ifCond .ge off, 3)) (hx : x = nI a) (ht : (pc : Int) + off = (tgt : Int)) (ha : a < 2 ^ 31) (k : T M d kc ks tgt ls st h Q) : T M d kc ks pc ls (.int x :: st) h Q := by
  subst hx
  exact T_ifge hf ht rfl (fun _ => k) (fun z => absurd (nI_pos' ha) z)
theorem T_sub {ls2 : List (Nat × Value)} (hs : ∀ q ∈ ls2, ls.lookup q.1 = some q.2) (k : T M d kc ks pc ls2 st h Q) : T M d kc ks pc ls st h Q := by
  intro p l e R s m args below meth c Z D base x E H locs cells slots ca tys lsA F Y L
  refine k p l e R s m args below meth c Z D base x E H locs cells slots ca tys lsA F Y ⟨L.1, L.2.1, fun q hq => ?_⟩
  obtain ⟨q2, hq2, rfl⟩ := List.mem_map.mp hq
  exact L.2.2 _ (List.mem_map.mpr ⟨q2, lk_mem (hs q2 hq2), rfl⟩)
theorem lk0 : ∀ q ∈ ([] : List (Nat × Value)), ls.lookup q.1 = some q.2 := fun _ h => absurd h List.not_mem_nil
theorem lks {i : Nat} {v : Value} {t : List (Nat × Value)} (h : ls.lookup i = some v) (ht : ∀ q ∈ t, ls.lookup q.1 = some q.2) : ∀ q ∈ (i, v) :: t, ls.lookup q.1 = some q.2 := List.forall_mem_cons.mpr ⟨h, ht⟩
end Ar
/-- a jar's cellar: the object and its five rows -/
def isC (sk : Nat → SK) (n c : Nat) : Prop := isO sk n c 2 [none, none, none, some (.ref (c + 1)), some (.ref (c + 2)), some (.ref (c + 3)), some (.ref (c + 4)), some (.ref (c + 5))] ∧ isA sk n (c + 1) .int 8 ∧ isA sk n (c + 2) .int 8 ∧ isA sk n (c + 3) .int 8 ∧ isA sk n (c + 4) .int 8 ∧ isA sk n (c + 5) .int 8
abbrev oI : Option Value := none
abbrev oR (i : Nat) : Option Value := some (.ref i)
/-- the shape of the whole: what may change in it are the kept cellars (bf), the images (im), and two longs -/
def skF (above below : Int64) : SK := .inl (4, [oR 35, oR 39, oI, oI, some (.long above), some (.long below), oI])
def skC : List SK := [.inl (7, [oR 5, oR 18, oR 20, oR 26, oR 32, oR 34, oR 45, oR 47, oI, oI]), .inl (5, [oR 6, oR 7, oR 8, oR 9]), .inr (.boolean, 8, none), .inr (.int, 8, none), .inr (.int, 8, none), .inr (.array .int, 8, some (fun i => if i < 8 then some (10 + i) else none)), .inr (.int, 40, none), .inr (.int, 40, none), .inr (.int, 40, none), .inr (.int, 40, none), .inr (.int, 40, none), .inr (.int, 40, none), .inr (.int, 40, none), .inr (.int, 40, none), .inl (6, [oR 19, oI, oI, oI, oI]), .inr (.int, 90, none), .inl (2, [none, none, none, some (.ref (20 + 1)), some (.ref (20 + 2)), some (.ref (20 + 3)), some (.ref (20 + 4)), some (.ref (20 + 5))]), .inr (.int, 8, none), .inr (.int, 8, none), .inr (.int, 8, none), .inr (.int, 8, none), .inr (.int, 8, none), .inl (2, [none, none, none, some (.ref (26 + 1)), some (.ref (26 + 2)), some (.ref (26 + 3)), some (.ref (26 + 4)), some (.ref (26 + 5))]), .inr (.int, 8, none), .inr (.int, 8, none), .inr (.int, 8, none), .inr (.int, 8, none), .inr (.int, 8, none), .inl (0, [oR 33, oI, oI]), .inl (0, []), .inl (0, []), .inl (3, [oR 36, oR 37, oR 38, oI, oI, oI]), .inr (.int, 12, none), .inr (.int, 8, none), .inr (.int, 8, none), .inl (2, [none, none, none, some (.ref (39 + 1)), some (.ref (39 + 2)), some (.ref (39 + 3)), some (.ref (39 + 4)), some (.ref (39 + 5))]), .inr (.int, 8, none), .inr (.int, 8, none), .inr (.int, 8, none), .inr (.int, 8, none), .inr (.int, 8, none), .inl (1, [oR 46, oI]), .inr (.int, 16, none), .inl (0, []), .inl (8, [oI, oI, oR 49, oR 50, oR 51, oR 52, oR 53, oR 54, oR 55, oI, oR 56, oI, oI, oI, oI, oI, oI, oI, oI, oR 57, oR 58, oI, oI, oI, oR 59, oR 60, oR 61, oI]), .inr (.int, 8, none), .inr (.int, 8, none), .inr (.int, 320, none), .inr (.int, 43, none), .inr (.int, 43, none), .inr (.int, 43, none), .inr (.int, 1032, none), .inr (.int, 90, none), .inr (.int, 8, none), .inr (.int, 8, none), .inr (.boolean, 2, none), .inr (.int, 86, none), .inr (.int, 16, none)]
def skf (bf im : Nat → Option Nat) (above below : Int64) (i : Nat) : SK := if i = 33 then .inr (.object RX2, 24, some bf) else if i = 34 then skF above below else if i = 47 then .inr (.object RX2, 2, some im) else skC.getD (i - 4) (.inl (0, []))
def Sh (sk : Nat → SK) (n : Nat) (bf im : Nat → Option Nat) (above below : Int64) : Prop := 58 ≤ n ∧ isX sk 1 6 ∧ isX sk 2 6 ∧ isX sk 3 6 ∧ ∀ i, 4 ≤ i → i < 62 → sk i = skf bf im above below i
theorem isC.up {sk : Nat → SK} {n c i : Nat} {x : SK} (h : isC sk n c) (hd : i < c ∨ c + 6 ≤ i) : isC (va_up sk i x) n c := by
  have e : ∀ j, j ≠ i → va_up sk i x j = sk j := fun j hj => by simp [va_up, hj]
  unfold isC isO isA at h ⊢
  rw [e c (by omega), e (c + 1) (by omega), e (c + 2) (by omega), e (c + 3) (by omega), e (c + 4) (by omega), e (c + 5) (by omega)]
  exact h
theorem isA.up {sk : Nat → SK} {n c i len : Nat} {ty : FieldType} {x : SK} (h : isA sk n c ty len) (hd : c ≠ i) : isA (va_up sk i x) n c ty len := by
  unfold isA at h ⊢
  rw [show va_up sk i x c = sk c by simp [va_up, hd]]
  exact h
theorem Sh.fore {sk : Nat → SK} {n : Nat} {bf im : Nat → Option Nat} {above below above2 below2 : Int64} (S : Sh sk n bf im above below) : Sh (va_up sk 34 (skF above2 below2)) n bf im above2 below2 := by
  have e : ∀ j, j ≠ 34 → va_up sk 34 (skF above2 below2) j = sk j := fun j hj => by simp [va_up, hj]
  refine ⟨S.1, ?_, ?_, ?_, fun i h1 h2 => ?_⟩
  · unfold isX; rw [e 1 (by decide)]; exact S.2.1
  · unfold isX; rw [e 2 (by decide)]; exact S.2.2.1
  · unfold isX; rw [e 3 (by decide)]; exact S.2.2.2.1
  · by_cases q : i = 34
    · subst q
      simp [va_up, skf]
    · rw [e i q, S.2.2.2.2 i h1 h2]
      simp [skf, q]
theorem Sh.bef {sk : Nat → SK} {n : Nat} {bf im bf2 : Nat → Option Nat} {above below : Int64} (S : Sh sk n bf im above below) : Sh (va_up sk 33 (.inr (.object RX2, 24, some bf2))) n bf2 im above below := by
  have e : ∀ j, j ≠ 33 → va_up sk 33 (.inr (.object RX2, 24, some bf2)) j = sk j := fun j hj => by simp [va_up, hj]
  refine ⟨S.1, ?_, ?_, ?_, fun i h1 h2 => ?_⟩
  · unfold isX; rw [e 1 (by decide)]; exact S.2.1
  · unfold isX; rw [e 2 (by decide)]; exact S.2.2.1
  · unfold isX; rw [e 3 (by decide)]; exact S.2.2.2.1
  · by_cases q : i = 33
    · subst q
      simp [va_up, skf]
    · rw [e i q, S.2.2.2.2 i h1 h2]
      simp [skf, q]
theorem Sh.ims {sk : Nat → SK} {n : Nat} {bf im im2 : Nat → Option Nat} {above below : Int64} (S : Sh sk n bf im above below) : Sh (va_up sk 47 (.inr (.object RX2, 2, some im2))) n bf im2 above below := by
  have e : ∀ j, j ≠ 47 → va_up sk 47 (.inr (.object RX2, 2, some im2)) j = sk j := fun j hj => by simp [va_up, hj]
  refine ⟨S.1, ?_, ?_, ?_, fun i h1 h2 => ?_⟩
  · unfold isX; rw [e 1 (by decide)]; exact S.2.1
  · unfold isX; rw [e 2 (by decide)]; exact S.2.2.1
  · unfold isX; rw [e 3 (by decide)]; exact S.2.2.2.1
  · by_cases q : i = 47
    · subst q
      simp [va_up, skf]
    · rw [e i q, S.2.2.2.2 i h1 h2]
      simp [skf, q]
section Shs
variable {sk : Nat → SK} {n : Nat} {bf im : Nat → Option Nat} {above below : Int64}
theorem sh1 (S : Sh sk n bf im above below) : isX sk 1 6 := S.2.1
theorem sh2 (S : Sh sk n bf im above below) : isX sk 2 6 := S.2.2.1
theorem sh3 (S : Sh sk n bf im above below) : isX sk 3 6 := S.2.2.2.1
theorem sh4 (S : Sh sk n bf im above below) : isO sk n 4 7 [oR 5, oR 18, oR 20, oR 26, oR 32, oR 34, oR 45, oR 47, oI, oI] := ⟨by decide, by have := S.1; omega, S.2.2.2.2 4 (by decide) (by decide)⟩
theorem sh5 (S : Sh sk n bf im above below) : isO sk n 5 5 [oR 6, oR 7, oR 8, oR 9] := ⟨by decide, by have := S.1; omega, S.2.2.2.2 5 (by decide) (by decide)⟩
theorem sh6 (S : Sh sk n bf im above below) : isA sk n 6 (.boolean) 8 := ⟨by decide, by have := S.1; omega, S.2.2.2.2 6 (by decide) (by decide)⟩
theorem sh7 (S : Sh sk n bf im above below) : isA sk n 7 (.int) 8 := ⟨by decide, by have := S.1; omega, S.2.2.2.2 7 (by decide) (by decide)⟩
theorem sh8 (S : Sh sk n bf im above below) : isA sk n 8 (.int) 8 := ⟨by decide, by have := S.1; omega, S.2.2.2.2 8 (by decide) (by decide)⟩
theorem sh9 (S : Sh sk n bf im above below) : isR sk n 9 (.array .int) 8 (fun i => if i < 8 then some (10 + i) else none) := ⟨by decide, by have := S.1; omega, S.2.2.2.2 9 (by decide) (by decide)⟩
theorem sh10 (S : Sh sk n bf im above below) : isA sk n 10 (.int) 40 := ⟨by decide, by have := S.1; omega, S.2.2.2.2 10 (by decide) (by decide)⟩
theorem sh11 (S : Sh sk n bf im above below) : isA sk n 11 (.int) 40 := ⟨by decide, by have := S.1; omega, S.2.2.2.2 11 (by decide) (by decide)⟩
theorem sh12 (S : Sh sk n bf im above below) : isA sk n 12 (.int) 40 := ⟨by decide, by have := S.1; omega, S.2.2.2.2 12 (by decide) (by decide)⟩
theorem sh13 (S : Sh sk n bf im above below) : isA sk n 13 (.int) 40 := ⟨by decide, by have := S.1; omega, S.2.2.2.2 13 (by decide) (by decide)⟩
theorem sh14 (S : Sh sk n bf im above below) : isA sk n 14 (.int) 40 := ⟨by decide, by have := S.1; omega, S.2.2.2.2 14 (by decide) (by decide)⟩
theorem sh15 (S : Sh sk n bf im above below) : isA sk n 15 (.int) 40 := ⟨by decide, by have := S.1; omega, S.2.2.2.2 15 (by decide) (by decide)⟩
theorem sh16 (S : Sh sk n bf im above below) : isA sk n 16 (.int) 40 := ⟨by decide, by have := S.1; omega, S.2.2.2.2 16 (by decide) (by decide)⟩
theorem sh17 (S : Sh sk n bf im above below) : isA sk n 17 (.int) 40 := ⟨by decide, by have := S.1; omega, S.2.2.2.2 17 (by decide) (by decide)⟩
theorem sh18 (S : Sh sk n bf im above below) : isO sk n 18 6 [oR 19, oI, oI, oI, oI] := ⟨by decide, by have := S.1; omega, S.2.2.2.2 18 (by decide) (by decide)⟩
theorem sh19 (S : Sh sk n bf im above below) : isA sk n 19 (.int) 90 := ⟨by decide, by have := S.1; omega, S.2.2.2.2 19 (by decide) (by decide)⟩
theorem sh20 (S : Sh sk n bf im above below) : isO sk n 20 2 [none, none, none, some (.ref (20 + 1)), some (.ref (20 + 2)), some (.ref (20 + 3)), some (.ref (20 + 4)), some (.ref (20 + 5))] := ⟨by decide, by have := S.1; omega, S.2.2.2.2 20 (by decide) (by decide)⟩
theorem sh21 (S : Sh sk n bf im above below) : isA sk n 21 (.int) 8 := ⟨by decide, by have := S.1; omega, S.2.2.2.2 21 (by decide) (by decide)⟩
theorem sh22 (S : Sh sk n bf im above below) : isA sk n 22 (.int) 8 := ⟨by decide, by have := S.1; omega, S.2.2.2.2 22 (by decide) (by decide)⟩
theorem sh23 (S : Sh sk n bf im above below) : isA sk n 23 (.int) 8 := ⟨by decide, by have := S.1; omega, S.2.2.2.2 23 (by decide) (by decide)⟩
theorem sh24 (S : Sh sk n bf im above below) : isA sk n 24 (.int) 8 := ⟨by decide, by have := S.1; omega, S.2.2.2.2 24 (by decide) (by decide)⟩
theorem sh25 (S : Sh sk n bf im above below) : isA sk n 25 (.int) 8 := ⟨by decide, by have := S.1; omega, S.2.2.2.2 25 (by decide) (by decide)⟩
theorem sh26 (S : Sh sk n bf im above below) : isO sk n 26 2 [none, none, none, some (.ref (26 + 1)), some (.ref (26 + 2)), some (.ref (26 + 3)), some (.ref (26 + 4)), some (.ref (26 + 5))] := ⟨by decide, by have := S.1; omega, S.2.2.2.2 26 (by decide) (by decide)⟩
theorem sh27 (S : Sh sk n bf im above below) : isA sk n 27 (.int) 8 := ⟨by decide, by have := S.1; omega, S.2.2.2.2 27 (by decide) (by decide)⟩
theorem sh28 (S : Sh sk n bf im above below) : isA sk n 28 (.int) 8 := ⟨by decide, by have := S.1; omega, S.2.2.2.2 28 (by decide) (by decide)⟩
theorem sh29 (S : Sh sk n bf im above below) : isA sk n 29 (.int) 8 := ⟨by decide, by have := S.1; omega, S.2.2.2.2 29 (by decide) (by decide)⟩
theorem sh30 (S : Sh sk n bf im above below) : isA sk n 30 (.int) 8 := ⟨by decide, by have := S.1; omega, S.2.2.2.2 30 (by decide) (by decide)⟩
theorem sh31 (S : Sh sk n bf im above below) : isA sk n 31 (.int) 8 := ⟨by decide, by have := S.1; omega, S.2.2.2.2 31 (by decide) (by decide)⟩
theorem sh32 (S : Sh sk n bf im above below) : isO sk n 32 0 [oR 33, oI, oI] := ⟨by decide, by have := S.1; omega, S.2.2.2.2 32 (by decide) (by decide)⟩
theorem sh33 (S : Sh sk n bf im above below) : isR sk n 33 (.object RX2) 24 bf := ⟨by decide, by have := S.1; omega, S.2.2.2.2 33 (by decide) (by decide)⟩
theorem sh34 (S : Sh sk n bf im above below) : isO sk n 34 4 [oR 35, oR 39, oI, oI, some (.long above), some (.long below), oI] := ⟨by decide, by have := S.1; omega, S.2.2.2.2 34 (by decide) (by decide)⟩
theorem sh35 (S : Sh sk n bf im above below) : isO sk n 35 3 [oR 36, oR 37, oR 38, oI, oI, oI] := ⟨by decide, by have := S.1; omega, S.2.2.2.2 35 (by decide) (by decide)⟩
theorem sh36 (S : Sh sk n bf im above below) : isA sk n 36 (.int) 12 := ⟨by decide, by have := S.1; omega, S.2.2.2.2 36 (by decide) (by decide)⟩
theorem sh37 (S : Sh sk n bf im above below) : isA sk n 37 (.int) 8 := ⟨by decide, by have := S.1; omega, S.2.2.2.2 37 (by decide) (by decide)⟩
theorem sh38 (S : Sh sk n bf im above below) : isA sk n 38 (.int) 8 := ⟨by decide, by have := S.1; omega, S.2.2.2.2 38 (by decide) (by decide)⟩
theorem sh39 (S : Sh sk n bf im above below) : isO sk n 39 2 [none, none, none, some (.ref (39 + 1)), some (.ref (39 + 2)), some (.ref (39 + 3)), some (.ref (39 + 4)), some (.ref (39 + 5))] := ⟨by decide, by have := S.1; omega, S.2.2.2.2 39 (by decide) (by decide)⟩
theorem sh40 (S : Sh sk n bf im above below) : isA sk n 40 (.int) 8 := ⟨by decide, by have := S.1; omega, S.2.2.2.2 40 (by decide) (by decide)⟩
theorem sh41 (S : Sh sk n bf im above below) : isA sk n 41 (.int) 8 := ⟨by decide, by have := S.1; omega, S.2.2.2.2 41 (by decide) (by decide)⟩
theorem sh42 (S : Sh sk n bf im above below) : isA sk n 42 (.int) 8 := ⟨by decide, by have := S.1; omega, S.2.2.2.2 42 (by decide) (by decide)⟩
theorem sh43 (S : Sh sk n bf im above below) : isA sk n 43 (.int) 8 := ⟨by decide, by have := S.1; omega, S.2.2.2.2 43 (by decide) (by decide)⟩
theorem sh44 (S : Sh sk n bf im above below) : isA sk n 44 (.int) 8 := ⟨by decide, by have := S.1; omega, S.2.2.2.2 44 (by decide) (by decide)⟩
theorem sh45 (S : Sh sk n bf im above below) : isO sk n 45 1 [oR 46, oI] := ⟨by decide, by have := S.1; omega, S.2.2.2.2 45 (by decide) (by decide)⟩
theorem sh46 (S : Sh sk n bf im above below) : isA sk n 46 (.int) 16 := ⟨by decide, by have := S.1; omega, S.2.2.2.2 46 (by decide) (by decide)⟩
theorem sh47 (S : Sh sk n bf im above below) : isR sk n 47 (.object RX2) 2 im := ⟨by decide, by have := S.1; omega, S.2.2.2.2 47 (by decide) (by decide)⟩
theorem sh48 (S : Sh sk n bf im above below) : isO sk n 48 8 [oI, oI, oR 49, oR 50, oR 51, oR 52, oR 53, oR 54, oR 55, oI, oR 56, oI, oI, oI, oI, oI, oI, oI, oI, oR 57, oR 58, oI, oI, oI, oR 59, oR 60, oR 61, oI] := ⟨by decide, by have := S.1; omega, S.2.2.2.2 48 (by decide) (by decide)⟩
theorem sh49 (S : Sh sk n bf im above below) : isA sk n 49 (.int) 8 := ⟨by decide, by have := S.1; omega, S.2.2.2.2 49 (by decide) (by decide)⟩
theorem sh50 (S : Sh sk n bf im above below) : isA sk n 50 (.int) 8 := ⟨by decide, by have := S.1; omega, S.2.2.2.2 50 (by decide) (by decide)⟩
theorem sh51 (S : Sh sk n bf im above below) : isA sk n 51 (.int) 320 := ⟨by decide, by have := S.1; omega, S.2.2.2.2 51 (by decide) (by decide)⟩
theorem sh52 (S : Sh sk n bf im above below) : isA sk n 52 (.int) 43 := ⟨by decide, by have := S.1; omega, S.2.2.2.2 52 (by decide) (by decide)⟩
theorem sh53 (S : Sh sk n bf im above below) : isA sk n 53 (.int) 43 := ⟨by decide, by have := S.1; omega, S.2.2.2.2 53 (by decide) (by decide)⟩
theorem sh54 (S : Sh sk n bf im above below) : isA sk n 54 (.int) 43 := ⟨by decide, by have := S.1; omega, S.2.2.2.2 54 (by decide) (by decide)⟩
theorem sh55 (S : Sh sk n bf im above below) : isA sk n 55 (.int) 1032 := ⟨by decide, by have := S.1; omega, S.2.2.2.2 55 (by decide) (by decide)⟩
theorem sh56 (S : Sh sk n bf im above below) : isA sk n 56 (.int) 90 := ⟨by decide, by have := S.1; omega, S.2.2.2.2 56 (by decide) (by decide)⟩
theorem sh57 (S : Sh sk n bf im above below) : isA sk n 57 (.int) 8 := ⟨by decide, by have := S.1; omega, S.2.2.2.2 57 (by decide) (by decide)⟩
theorem sh58 (S : Sh sk n bf im above below) : isA sk n 58 (.int) 8 := ⟨by decide, by have := S.1; omega, S.2.2.2.2 58 (by decide) (by decide)⟩
theorem sh59 (S : Sh sk n bf im above below) : isA sk n 59 (.boolean) 2 := ⟨by decide, by have := S.1; omega, S.2.2.2.2 59 (by decide) (by decide)⟩
theorem sh60 (S : Sh sk n bf im above below) : isA sk n 60 (.int) 86 := ⟨by decide, by have := S.1; omega, S.2.2.2.2 60 (by decide) (by decide)⟩
theorem sh61 (S : Sh sk n bf im above below) : isA sk n 61 (.int) 16 := ⟨by decide, by have := S.1; omega, S.2.2.2.2 61 (by decide) (by decide)⟩
theorem sc20 (S : Sh sk n bf im above below) : isC sk n 20 := ⟨sh20 S, sh21 S, sh22 S, sh23 S, sh24 S, sh25 S⟩
theorem sc26 (S : Sh sk n bf im above below) : isC sk n 26 := ⟨sh26 S, sh27 S, sh28 S, sh29 S, sh30 S, sh31 S⟩
theorem sc39 (S : Sh sk n bf im above below) : isC sk n 39 := ⟨sh39 S, sh40 S, sh41 S, sh42 S, sh43 S, sh44 S⟩
end Shs
section MathRows
variable {M : MI} {d kc ks pc pc2 idx : Nat} {ls : List (Nat × Value)} {st : List Value} {h : SH} {Q : Option Value → SH → Prop}
theorem minS_in : Cond.static Lib.Math.min.name ∈ lw_g := gd 395 (by decide +kernel) (by decide +kernel)
theorem minC_in : Cond.code Lib.Math.min.name Lib.Math.min.code 2 (some .int) ∈ lw_g := gd 396 (by decide +kernel) (by decide +kernel)
theorem absS_in : Cond.static Lib.Math.abs.name ∈ lw_g := gd 435 (by decide +kernel) (by decide +kernel)
theorem absC_in : Cond.code Lib.Math.abs.name Lib.Math.abs.code 1 (some .int) ∈ lw_g := gd 436 (by decide +kernel) (by decide +kernel)
theorem T_mmin {a b : Int32} (hf : decode M.2.1 pc = .ok (.invokestatic idx, 3)) (hlk : Cond.methodLink M.1.cls idx Lib.Math.min.name ∈ lw_g) (hst : (st.map fun v => v.category).sum ≤ 8) (hp : pc + 3 = pc2) (k : T M d kc ks pc2 ls (.int (if b < a then b else a) :: st) h Q) : T M d kc ks pc ls (.int b :: .int a :: st) h Q := by
  subst hp
  intro p l e R s m args below meth c Z D base x E H locs cells slots ca tys lsA F Y L
  obtain ⟨hx, hb, hml, hown, hts, hbs, hR, hXt, hnm, hret⟩ := id F
  exact va_mmin hx hb (by rw [hml]; exact L.1.symm) hown (hts _ hlk) (hts _ minS_in) (hts _ iniJ9) (hts _ minC_in) (by omega) (by rw [trV_catsum]; omega) (by have := Y.2.2.2.2.2.2.1; omega) (by have := Y.2.2.2.2.2.2.2; omega) hf (k p l e R s m args below meth c Z D base x E H locs cells slots ca tys lsA F Y L)
theorem T_mabs {a : Int32} (hf : decode M.2.1 pc = .ok (.invokestatic idx, 3)) (hlk : Cond.methodLink M.1.cls idx Lib.Math.abs.name ∈ lw_g) (hst : (st.map fun v => v.category).sum ≤ 8) (hp : pc + 3 = pc2) (k : T M d kc ks pc2 ls (.int (if 0 ≤ a then a else 0 - a) :: st) h Q) : T M d kc ks pc ls (.int a :: st) h Q := by
  subst hp
  intro p l e R s m args below meth c Z D base x E H locs cells slots ca tys lsA F Y L
  obtain ⟨hx, hb, hml, hown, hts, hbs, hR, hXt, hnm, hret⟩ := id F
  exact va_mabs hx hb (by rw [hml]; exact L.1.symm) hown (hts _ hlk) (hts _ absS_in) (hts _ iniJ9) (hts _ absC_in) (by omega) (by rw [trV_catsum]; omega) (by have := Y.2.2.2.2.2.2.1; omega) (by have := Y.2.2.2.2.2.2.2; omega) hf (k p l e R s m args below meth c Z D base x E H locs cells slots ca tys lsA F Y L)
end MathRows
theorem gs_eq (g : Nat → Nat → Int32) (i k : Nat) (v : Int32) : gset g i k v i k = v := by simp [gset, va_up, upd]
theorem gs_ne (g : Nat → Nat → Int32) {i k i2 k2 : Nat} (v : Int32) (h : i2 ≠ i ∨ k2 ≠ k) : gset g i k v i2 k2 = g i2 k2 := by
  unfold gset
  by_cases e : i2 = i
  · subst e
    have : k2 ≠ k := by rcases h with h | h; exact absurd rfl h; exact h
    simp [va_up, upd, this]
  · simp [va_up, e]
theorem gset_at (g : Nat → Nat → Int32) (i k : Nat) (v : Int32) (i2 k2 : Nat) : gset g i k v i2 k2 = if i2 = i ∧ k2 = k then v else g i2 k2 := by
  by_cases e : i2 = i ∧ k2 = k
  · rw [if_pos e, e.1, e.2, gs_eq]
  · rw [if_neg e, gs_ne]
    by_cases e1 : i2 = i
    · exact Or.inr (fun q => e ⟨e1, q⟩)
    · exact Or.inl e1
