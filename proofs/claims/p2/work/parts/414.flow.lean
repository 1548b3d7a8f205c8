/-! FAULT 2 and FAULT 3 in a Book come to an end. -/
section FLS
variable {b : Bool} {Z I : kjI} {L : kjL}
theorem wP.h27 (h : wP b Z I) {j : Nat} {x : Int32} : wP b Z (mv_up I (kb b 27) j (Int8.toInt32 (Int32.toInt8 x))) := wP_up (k := 27) h (by decide) (show cR 27 j _ from t_i8 x)
theorem s65_14 {N : Nat} (v1 : Int32) {v2 : Int32} (h2 : v2.toInt ≤ 120) : ∀ (n : Nat) (v3 v4 : Int32) (I : kjI) (L : kjL), wP b Z I → v2.toInt - v4.toInt < n → 0 < n → Ok (kf65_14 b N n v1 v2 v3 v4 I L) (fun r => wP b Z r.1) := by
  intro n
  induction n with
  | zero => intro v3 v4 I L _ _ h0; omega
  | succ n ih =>
    intro v3 v4 I L h hn _
    unfold kf65_14
    refine Ok.ite' (fun _ => Ok.some' h) (fun g => ?_)
    rw [Int32.le_iff_toInt_le] at g
    have e := t_inc (x := v4) (m := 120) (by omega) (by omega)
    have k : ∀ (v3 : Int32) (I' : kjI) (L' : kjL), wP b Z I' → Ok (kf65_14 b N n v1 v2 v3 (v4 + (1 : Int32)) I' L') (fun r => wP b Z r.1) := fun v3 I' L' w => ih _ _ _ _ w (by rw [e]; omega) (by omega)
    have k65 : ∀ (I' : kjI) (L' : kjL), wP b Z I' → Ok (kf65_65 b N (fun v1 v2 v3 v4 I L => kf65_14 b N n v1 v2 v3 v4 I L) v1 v2 v3 v4 I' L') (fun r => wP b Z r.1) := by
      intro I' L' w
      unfold kf65_65 kf65_81
      exact Ok.ite' (fun _ => k _ _ _ w) (fun _ => Ok.bind' (s68 w _ _) (fun r2 _ => k _ _ _ w))
    refine Ok.bind' (s33 h v1 v4) (fun r2 _ => Ok.ite' (fun _ => k65 _ _ h) (fun a1 => Ok.ite' (fun _ => k65 _ _ h) (fun a2 => ?_)))
    rw [Int32.lt_iff_toInt_lt, lt00] at a1
    rw [Int32.le_iff_toInt_le, lt01500] at a2
    unfold kf65_64
    exact Ok.ite' (fun _ => Ok.bif' (by omega) (k65 _ _ (h.f (by decide)))) (fun _ => Ok.bif' (by omega) (k65 _ _ (h.f (by decide))))
theorem s65 {N : Nat} (hN : 300 ≤ N) (v1 : Int32) (h : wP b Z I) : Ok (kf65 b N v1 I L) (fun r => wP b Z r.1) := by
  unfold kf65
  exact Ok.bind' (s32 h v1) (fun r ⟨g1, g2, _⟩ => s65_14 v1 g2 N _ _ _ _ h (by rw [lt00]; omega) (by omega))
theorem s72 (h : wP b Z I) (v1 v2 : Int32) : Ok (kf72 b I L v1 v2) (fun _ => True) := by
  unfold kf72
  repeat' (first
    | exact Ok.some' trivial
    | refine Ok.bind' (s67 h _ _ _) (fun _ _ => ?_)
    | refine Ok.bind' (s30 h _) (fun _ _ => ?_)
    | refine Ok.bind' (s37 h _) (fun _ _ => ?_)
    | refine Ok.bind' (s39 h _) (fun _ _ => ?_)
    | refine Ok.bind' (s49 h _) (fun _ _ => ?_)
    | refine Ok.bind' (s49a h _) (fun _ _ => ?_)
    | refine Ok.ret01 ?_ ?_
    | refine Ok.bif' ?_ ?_
    | refine Ok.ite' (fun _ => ?_) (fun _ => ?_)
    | refine Ok.some' ?_)
theorem s71_33 (h : wP b Z I) (N : Nat) (v1 v2 v3 v4 : Int32) (h4 : v4.toInt ≤ 256) : ∀ (n : Nat) (v5 : Int32), v4.toInt - v5.toInt < n → 0 < n → Ok (kf71_33 b N I L n v1 v2 v3 v4 v5) (fun _ => True) := by
  intro n
  induction n with
  | zero => intro v5 _ h0; omega
  | succ n ih =>
    intro v5 hn _
    unfold kf71_33
    refine Ok.ite' (fun _ => ?_) (fun g => Ok.bind' (s74 h v1 v2 v5) (fun r8 _ => Ok.bind' (s66 h v1 r8) (fun r10 _ => Ok.ite' (fun _ => ?_) (fun _ => Ok.some' trivial))))
    · repeat' (first
        | exact Ok.some' trivial
        | refine Ok.bind' (s32 h _) (fun _ _ => ?_)
        | refine Ok.bind' (s75 h _ _) (fun _ _ => ?_)
        | refine Ok.ret01 ?_ ?_
        | refine Ok.bif' ?_ ?_
        | refine Ok.ite' (fun _ => ?_) (fun _ => ?_)
        | refine Ok.some' ?_)
    · rw [Int32.le_iff_toInt_le] at g
      have e := t_inc (x := v5) (m := 256) (by omega) (by omega)
      exact ih _ (by rw [e]; omega) (by omega)
theorem s71 (h : wP b Z I) {N : Nat} (hN : 300 ≤ N) (v1 v2 : Int32) : Ok (kf71 b N I L v1 v2) (fun _ => True) := by
  unfold kf71
  exact Ok.bind' (s68 h v1 v2) (fun r1 _ => Ok.ite' (fun _ => Ok.some' trivial) (fun _ => Ok.bind' (s72 h v1 v2) (fun r4 _ => Ok.ite' (fun _ => Ok.bind' (s73 h v1 v2) (fun r7 ⟨g1, g2⟩ => s71_33 h N v1 v2 r1 r7 g2 N _ (by rw [lt00]; omega) (by omega))) (fun _ => Ok.some' trivial))))
theorem s64_16 {N : Nat} (hN : 300 ≤ N) (v1 : Int32) {v2 : Int32} (h2 : v2.toInt ≤ 120) : ∀ (n : Nat) (v3 : Int32) (I : kjI) (L : kjL), wP b Z I → v2.toInt - v3.toInt < n → 0 < n → Ok (kf64_16 b N n v1 v2 v3 I L) (fun r => wP b Z r.2.1) := by
  intro n
  induction n with
  | zero => intro v3 I L _ _ h0; omega
  | succ n ih =>
    intro v3 I L h hn _
    unfold kf64_16 kf64_41
    refine Ok.ite' (fun _ => Ok.some' h) (fun g => ?_)
    rw [Int32.le_iff_toInt_le] at g
    have e := t_inc (x := v3) (m := 120) (by omega) (by omega)
    have k : Ok (kf64_16 b N n v1 v2 (v3 + (1 : Int32)) I L) (fun r => wP b Z r.2.1) := ih _ _ _ h (by rw [e]; omega) (by omega)
    exact Ok.bind' (s66 h v1 v3) (fun r2 _ => Ok.ite' (fun _ => k) (fun _ => Ok.bind' (s71 h hN v1 v3) (fun r5 _ => Ok.ite' (fun _ => k) (fun _ => Ok.some' h))))
theorem s64 {N : Nat} (hN : 300 ≤ N) (v1 : Int32) (h : wP b Z I) : Ok (kf64 b N v1 I L) (fun r => wP b Z r.2.1) := by
  unfold kf64
  exact Ok.bind' (s65 hN v1 h) (fun r1 g => Ok.bind' (s32 g v1) (fun r3 ⟨g1, g2, _⟩ => s64_16 hN v1 g2 N _ _ _ g (by rw [lt00]; omega) (by omega)))
theorem s84 (v1 v2 : Int32) (h : wP b Z I) : Ok (kf84 b v1 v2 I L) (fun r => wP b Z r.1) := by
  unfold kf84
  refine Ok.bind' (s33 h v1 v2) (fun r1 g => Ok.ite' (fun _ => Ok.some' h) (fun a1 => Ok.ite' (fun _ => Ok.some' h) (fun a2 => Ok.ite' (fun _ => Ok.some' h) (fun a3 => ?_))))
  rw [Int32.lt_iff_toInt_lt, lt00] at a1
  rw [Int32.le_iff_toInt_le, lt01500] at a2
  rw [Int32.le_iff_toInt_le, lt0120] at a3
  have a := g (by omega)
  exact Ok.bif' (by omega) (Ok.bif' (by omega) (Ok.some' (wP.f (wP.h27 h) (by decide))))
theorem s99 (v0 : Int64) (v2 v3 : Int32) : Ok (kf99 I L v0 v2 v3) (fun _ => True) := by
  unfold kf99 kf99_19
  repeat' (first
    | exact Ok.some' trivial
    | refine Ok.ret01 ?_ ?_
    | refine Ok.bif' ?_ ?_
    | refine Ok.ite' (fun _ => ?_) (fun _ => ?_)
    | refine Ok.some' ?_)
theorem s85_18 (h : wP b Z I) (N : Nat) (v1 v4 : Int32) (h4 : v4.toInt ≤ 4) : ∀ (n : Nat) (v2 : Int64) (v5 : Int32), v4.toInt - v5.toInt < n → 0 < n → Ok (kf85_18 b N I L n v1 v2 v4 v5) (fun _ => True) := by
  intro n
  induction n with
  | zero => intro v2 v5 _ h0; omega
  | succ n ih =>
    intro v2 v5 hn _
    unfold kf85_18
    refine Ok.ite' (fun _ => Ok.some' trivial) (fun g => Ok.bind' (s51 h _ _) (fun r2 _ => Ok.bind' (s99 _ _ _) (fun r4 _ => ?_)))
    rw [Int32.le_iff_toInt_le] at g
    have e := t_inc (x := v5) (m := 4) (by omega) (by omega)
    exact ih _ _ (by rw [e]; omega) (by omega)
theorem s85 (h : wP b Z I) {N : Nat} (hN : 300 ≤ N) (v1 : Int32) : Ok (kf85 b N I L v1) (fun _ => True) := by
  unfold kf85
  exact Ok.bind' (s50 h v1) (fun r ⟨g1, g2, _⟩ => s85_18 h N v1 r g2 N _ _ (by rw [lt00]; omega) (by omega))
theorem s89_14 (h : wP b Z I) {N : Nat} (hN : 300 ≤ N) (v1 v3 : Int64) : ∀ (n : Nat) (v5 : Int64) (v7 : Int32), 16 - v7.toInt < n → 0 < n → Ok (kf89_14 b N I L n v1 v3 v5 v7) (fun _ => True) := by
  intro n
  induction n with
  | zero => intro v5 v7 _ h0; omega
  | succ n ih =>
    intro v5 v7 hn _
    unfold kf89_14
    refine Ok.ite' (fun _ => Ok.some' trivial) (fun g => Ok.bind' (s98 _ _) (fun r2 ⟨_, g2⟩ => Ok.bind' (s98 _ _) (fun r4 ⟨_, g4⟩ => Ok.bind' (s45 h hN g2 g4) (fun r6 _ => Ok.bind' (s99 _ _ _) (fun r8 _ => ?_)))))
    rw [Int32.le_iff_toInt_le, lt016] at g
    have e := t_inc (x := v7) (m := 16) (by omega) (by omega)
    exact ih _ _ (by rw [e]; omega) (by omega)
theorem s89 (h : wP b Z I) {N : Nat} (hN : 300 ≤ N) (v1 v3 : Int64) : Ok (kf89 b N I L v1 v3) (fun _ => True) := by
  unfold kf89
  exact Ok.ite' (fun _ => s89_14 h hN v1 v3 N _ _ (by rw [lt00]; omega) (by omega)) (fun _ => Ok.some' trivial)
theorem s88 {N : Nat} (hN : 300 ≤ N) (v1 v2 v3 : Int32) (v4 : Int64) (h : wP b Z I) : Ok (kf88 b N v1 v2 v3 v4 I L) (fun r => wP b Z r.1) := by
  unfold kf88
  refine Ok.bind' (s33 h v1 v2) (fun r1 g => Ok.ite' (fun _ => Ok.some' h) (fun a1 => Ok.ite' (fun _ => Ok.some' h) (fun a2 => Ok.ite' (fun _ => Ok.some' h) (fun _ => Ok.ite' (fun a3 => ?_) (fun _ => Ok.some' h)))))
  rw [Int32.lt_iff_toInt_lt, lt00] at a1
  rw [Int32.le_iff_toInt_le, lt01500] at a2
  rw [Int32.lt_iff_toInt_lt, lt0120] at a3
  have a := g (by omega)
  have i1 : 0 ≤ r1.toInt ∧ r1.toInt < ((1500 : Nat) : Int) := by omega
  have i2 : 0 ≤ v2.toInt ∧ v2.toInt < ((120 : Nat) : Int) := by omega
  have k131 : ∀ (v8 : Int32) (v9 : Int64), Ok (kf88_131 b N v2 r1 v8 v9 I L) (fun r => wP b Z r.1) := by
    intro v8 v9
    unfold kf88_131
    exact Ok.bif' i1 (Ok.bif' i1 (Ok.bif' i2 (Ok.some' (wP.f (wP.h27 h) (by decide)))))
  have k111 : ∀ (v7 v8 : Int32) (v9 : Int64), Ok (kf88_111 b N v2 r1 v7 v8 v9 I L) (fun r => wP b Z r.1) := by
    intro v7 v8 v9
    unfold kf88_111
    exact Ok.ite' (fun _ => k131 _ _) (fun _ => Ok.bif' i1 (Ok.ite' (fun _ => Ok.some' h) (fun _ => k131 _ _)))
  have k99 : ∀ (v7 v8 : Int32) (v9 : Int64), Ok (kf88_99 b N v2 r1 v7 v8 v9 I L) (fun r => wP b Z r.1) := by
    intro v7 v8 v9
    unfold kf88_99
    exact Ok.ite' (fun _ => k111 _ _ _) (fun _ => k111 _ _ _)
  have k73 : ∀ (v7 s0 : Int32), Ok (kf88_73 b N v2 v4 r1 v7 s0 I L) (fun r => wP b Z r.1) := by
    intro v7 s0
    unfold kf88_73
    exact Ok.ite' (fun _ => Ok.bif' i1 (Ok.bind' (s89 h hN _ _) (fun r3 _ => k99 _ _ _))) (fun _ => k99 _ _ _)
  unfold kf88_67
  exact Ok.bif' i1 (Ok.ite' (fun _ => k73 _ _) (fun _ => Ok.ite' (fun _ => k73 _ _) (fun _ => k73 _ _)))
/-- the INSTRUCTION that is looked at: its height, and that less what it takes -/
def hL (b : Bool) (I : kjI) : Prop := -128 ≤ (I (kb b 26) 8).toInt ∧ (I (kb b 26) 8).toInt ≤ 127 ∧ 0 ≤ (I (kb b 26) 8).toInt - (I (kb b 26) 9).toInt ∧ (I (kb b 26) 8).toInt - (I (kb b 26) 9).toInt ≤ 5
theorem s86 (v1 v2 : Int32) (h : wP b Z I) : Ok (kf86 b v1 v2 I L) (fun r => wP b Z r.1 ∧ hL b r.1) := by
  unfold kf86 kf86_141
  refine Ok.bind' (s67 h _ _ _) (fun r1 _ => Ok.bind' (s67 (h.f (by decide)) _ _ _) (fun r3 _ => Ok.bind' (s67 ((h.f (by decide)).f (by decide)) _ _ _) (fun r5 _ => Ok.bind' (s78 (((h.f (by decide)).f (by decide)).f (by decide)) _ _) (fun r7 ⟨g7, g8⟩ => ?_))))
  have wA : wP b Z (mv_up (mv_up (mv_up (mv_up I (kb b 26) 5 r1) (kb b 26) 6 r3) (kb b 26) 7 r5) (kb b 26) 8 r7) := (((h.f (by decide)).f (by decide)).f (by decide)).f (by decide)
  have e8 : (mv_up (mv_up (mv_up (mv_up I (kb b 26) 5 r1) (kb b 26) 6 r3) (kb b 26) 7 r5) (kb b 26) 8 r7) (kb b 26) 8 = r7 := up_eq2
  generalize mv_up (mv_up (mv_up (mv_up I (kb b 26) 5 r1) (kb b 26) 6 r3) (kb b 26) 7 r5) (kb b 26) 8 r7 = A at wA e8 ⊢
  refine Ok.bind' (s81 wA _ _) (fun r9 _ => Ok.bind' (s69 wA _ _) (fun r11 ⟨g11, g12⟩ => ?_))
  have wB : wP b Z (mv_up A (kb b 26) 9 (A (kb b 26) 8 - r11)) := wA.f (by decide)
  have f8 : (mv_up A (kb b 26) 9 (A (kb b 26) 8 - r11)) (kb b 26) 8 = r7 := (up_ne2 (by decide)).trans e8
  have f9 : ((mv_up A (kb b 26) 9 (A (kb b 26) 8 - r11)) (kb b 26) 9).toInt = r7.toInt - r11.toInt := by
    rw [up_eq2, e8, t_sub (by omega)]
  generalize mv_up A (kb b 26) 9 (A (kb b 26) 8 - r11) = B at wB f8 f9 ⊢
  refine Ok.bind' (s70 wB _ _) (fun r13 _ => ?_)
  have wC : wP b Z (mv_up B (kb b 26) 10 (B (kb b 26) 9 + r13)) := wB.f (by decide)
  have c8 : (mv_up B (kb b 26) 10 (B (kb b 26) 9 + r13)) (kb b 26) 8 = r7 := (up_ne2 (by decide)).trans f8
  have c9 : ((mv_up B (kb b 26) 10 (B (kb b 26) 9 + r13)) (kb b 26) 9).toInt = r7.toInt - r11.toInt := by rw [up_ne2 (by decide)]; exact f9
  generalize mv_up B (kb b 26) 10 (B (kb b 26) 9 + r13) = E at wC c8 c9 ⊢
  have hE : hL b E := by
    unfold hL
    rw [c8, c9]
    omega
  have hE9 : hL b (mv_up E (kb b 26) 10 (99 : Int32)) := by
    unfold hL
    rw [up_ne2 (by decide), up_ne2 (by decide)]
    exact hE
  repeat' (first
    | exact Ok.some' ⟨wC.f (by decide), hE9⟩
    | exact Ok.some' ⟨wC, hE⟩
    | refine Ok.bind' (s31 wC _) (fun _ _ => ?_)
    | refine Ok.ite' (fun _ => ?_) (fun _ => ?_))
theorem s92 (v1 : Int32) : Ok (kf92 b I L v1) (fun _ => True) := by
  unfold kf92
  repeat' (first
    | exact Ok.some' trivial
    | refine Ok.bind' (s98 _ _) (fun _ _ => ?_)
    | refine Ok.ret01 ?_ ?_
    | refine Ok.bif' ?_ ?_
    | refine Ok.ite' (fun _ => ?_) (fun _ => ?_)
    | refine Ok.some' ?_)
theorem s91 (h : wP b Z I) : Ok (kf91 b I L) (fun _ => True) := by
  unfold kf91
  repeat' (first
    | exact Ok.some' trivial
    | refine Ok.bind' (s98 _ _) (fun _ _ => ?_)
    | refine Ok.bind' (s40 h _ _) (fun _ _ => ?_)
    | refine Ok.bind' (s52 h _) (fun _ _ => ?_)
    | refine Ok.bind' (s52a h _) (fun _ _ => ?_)
    | refine Ok.ret01 ?_ ?_
    | refine Ok.bif' ?_ ?_
    | refine Ok.ite' (fun _ => ?_) (fun _ => ?_)
    | refine Ok.some' ?_)
theorem s90_17 (h : wP b Z I) (hl : hL b I) (N : Nat) (v1 : Int32) : ∀ (n : Nat) (v2 : Int64) (v4 : Int32), (I (kb b 26) 8).toInt - v4.toInt < n → 0 < n → Ok (kf90_17 b N I L n v1 v2 v4) (fun _ => True) := by
  intro n
  induction n with
  | zero => intro v2 v4 _ h0; omega
  | succ n ih =>
    intro v2 v4 hn _
    unfold kf90_17
    refine Ok.ite' (fun _ => ?_) (fun g => Ok.bind' (s99 _ _ _) (fun r22 _ => ?_))
    · repeat' (first
        | exact Ok.some' trivial
        | refine Ok.bind' (s91 h) (fun _ _ => ?_)
        | refine Ok.bind' (s99 _ _ _) (fun _ _ => ?_)
        | refine Ok.bind' (s92 _) (fun _ _ => ?_)
        | refine Ok.ret01 ?_ ?_
        | refine Ok.bif' ?_ ?_
        | refine Ok.ite' (fun _ => ?_) (fun _ => ?_)
        | refine Ok.some' ?_)
    · rw [Int32.le_iff_toInt_le] at g
      have a := hl.2.1
      have e := t_inc (x := v4) (m := 127) (by omega) (by omega)
      exact ih _ _ (by rw [e]; omega) (by omega)
theorem s90 (h : wP b Z I) (hl : hL b I) {N : Nat} (hN : 300 ≤ N) : Ok (kf90 b N I L) (fun _ => True) := by
  unfold kf90
  have a := hl.2.2.2
  exact Ok.bind' (s92 _) (fun r1 _ => s90_17 h hl N r1 N _ _ (by omega) (by omega))
theorem s87_38 {N : Nat} (hN : 300 ≤ N) (v1 v2 : Int32) (v3 : Int64) {v5 : Int32} (h5 : v5.toInt ≤ 256) : ∀ (n : Nat) (v6 : Int32) (I : kjI) (L : kjL), wP b Z I → v5.toInt - v6.toInt < n → 0 < n → Ok (kf87_38 b N n v1 v2 v3 v5 v6 I L) (fun r => wP b Z r.1) := by
  intro n
  induction n with
  | zero => intro v6 I L _ _ h0; omega
  | succ n ih =>
    intro v6 I L h hn _
    unfold kf87_38
    refine Ok.ite' (fun _ => Ok.bind' (s75 h _ _) (fun r2 _ => Ok.ite' (fun _ => Ok.some' h) (fun _ => Ok.bind' (s68 h _ _) (fun r5 _ => Ok.bind' (s88 hN _ _ _ _ h) (fun r7 g => Ok.some' g))))) (fun g => Ok.bind' (s74 h _ _ _) (fun r9 _ => Ok.bind' (s88 hN _ _ _ _ h) (fun r11 w => ?_)))
    rw [Int32.le_iff_toInt_le] at g
    have e := t_inc (x := v6) (m := 256) (by omega) (by omega)
    exact ih _ _ _ w (by rw [e]; omega) (by omega)
theorem s87 {N : Nat} (hN : 300 ≤ N) (v1 v2 : Int32) (h : wP b Z I) : Ok (kf87 b N v1 v2 I L) (fun r => wP b Z r.1) := by
  unfold kf87 kf87_23
  have k : ∀ (s0 : Int64) (I' : kjI) (L' : kjL), wP b Z I' → Ok ((kf73 b I' L' v1 v2).bind fun r1 => kf87_38 b N N v1 v2 s0 r1 (0 : Int32) I' L') (fun r => wP b Z r.1) := fun s0 I' L' w => Ok.bind' (s73 w v1 v2) (fun r ⟨g1, g2⟩ => s87_38 hN v1 v2 s0 g2 N _ _ _ w (by rw [lt00]; omega) (by omega))
  exact Ok.bind' (s86 v1 v2 h) (fun r1 ⟨w, hl⟩ => Ok.ite' (fun _ => Ok.bind' (s90 w hl hN) (fun r4 _ => k _ _ _ w)) (fun _ => k _ _ _ w))
theorem s82_69 {N : Nat} (hN : 300 ≤ N) {k53 : Int32 → Int32 → Int32 → Int32 → kjI → kjL → Option (kjI × kjL)} (v1 : Int32) {v2 v4 : Int32} (h2 : v2.toInt ≤ 120) (hk : ∀ (v3 : Int32) (I' : kjI) (L' : kjL), wP b Z I' → Ok (k53 v1 v2 v3 (v4 + (1 : Int32)) I' L') (fun r => wP b Z r.1)) : ∀ (n : Nat) (v3 v5 : Int32) (I : kjI) (L : kjL), wP b Z I → 0 ≤ v5.toInt → 120 - v5.toInt < n → 0 < n → Ok (kf82_69 b N k53 n v1 v2 v3 v4 v5 I L) (fun r => wP b Z r.1) := by
  intro n
  induction n with
  | zero => intro v3 v5 I L _ _ _ h0; omega
  | succ n ih =>
    intro v3 v5 I L h h5 hn _
    unfold kf82_69 kf82_102
    refine Ok.ite' (fun _ => hk _ _ _ h) (fun g => ?_)
    rw [Int32.le_iff_toInt_le] at g
    have e := t_inc (x := v5) (m := 120) (by omega) (by omega)
    have i : 0 ≤ v5.toInt ∧ v5.toInt < ((120 : Nat) : Int) := by omega
    have k : ∀ (v3 : Int32) (I' : kjI) (L' : kjL), wP b Z I' → Ok (kf82_69 b N k53 n v1 v2 v3 v4 (v5 + (1 : Int32)) I' L') (fun r => wP b Z r.1) := fun v3 I' L' w => ih _ _ _ _ w (by rw [e]; omega) (by rw [e]; omega) (by omega)
    exact Ok.bif' i (Ok.ite' (fun _ => k _ _ _ h) (fun _ => Ok.bif' i (Ok.bind' (s87 hN _ _ (h.f (by decide))) (fun r5 w => k _ _ _ w))))
theorem s82_53 {N : Nat} (hN : 2000000 ≤ N) (v1 : Int32) {v2 : Int32} (h2 : v2.toInt ≤ 120) : ∀ (n : Nat) (v3 v4 : Int32) (I : kjI) (L : kjL), wP b Z I → 1000000 - v4.toInt < n → 0 < n → Ok (kf82_53 b N n v1 v2 v3 v4 I L) (fun r => wP b Z r.1) := by
  intro n
  induction n with
  | zero => intro v3 v4 I L _ _ h0; omega
  | succ n ih =>
    intro v3 v4 I L h hn _
    unfold kf82_53
    refine Ok.ite' (fun _ => Ok.some' h) (fun _ => Ok.ite' (fun _ => Ok.some' h) (fun g => ?_))
    rw [Int32.le_iff_toInt_le, lt01000000] at g
    have e := t_inc (x := v4) (m := 1000000) (by omega) (by omega)
    exact s82_69 (by omega) v1 h2 (fun v3' I' L' w => ih _ _ _ _ w (by rw [e]; omega) (by omega)) N _ _ _ _ h (by decide) (by rw [lt00]; omega) (by omega)
theorem s82_19 {N : Nat} (hN : 2000000 ≤ N) (v1 : Int32) {v2 : Int32} (h2 : v2.toInt ≤ 120) : ∀ (n : Nat) (v3 : Int32) (I : kjI) (L : kjL), wP b Z I → 120 - v3.toInt < n → 0 < n → Ok (kf82_19 b N n v1 v2 v3 I L) (fun r => wP b Z r.1) := by
  intro n
  induction n with
  | zero => intro v3 I L _ _ h0; omega
  | succ n ih =>
    intro v3 I L h hn _
    unfold kf82_19
    refine Ok.ite' (fun _ => Ok.bind' (s85 h (by omega) v1) (fun r2 _ => Ok.bind' (s88 (by omega) _ _ _ _ h) (fun r4 w => s82_53 hN v1 h2 N _ _ _ _ w (by rw [lt00]; omega) (by omega)))) (fun g => Ok.bind' (s84 _ _ h) (fun r6 w => ?_))
    rw [Int32.le_iff_toInt_le] at g
    have e := t_inc (x := v3) (m := 120) (by omega) (by omega)
    exact ih _ _ _ w (by rw [e]; omega) (by omega)
theorem s82 {N : Nat} (hN : 2000000 ≤ N) (v1 : Int32) (h : wP b Z I) : Ok (kf82 b N v1 I L) (fun r => wP b Z r.1) := by
  unfold kf82
  refine Ok.bind' (s32 h v1) (fun r ⟨g1, g2, _⟩ => s82_19 hN v1 ?_ N _ _ _ h (by rw [lt00]; omega) (by omega))
  split
  · exact Int.le_of_eq lt0120
  · exact g2
theorem s95_2 (hl : hL b I) (N : Nat) : ∀ (n : Nat) (v2 : Int32), 0 ≤ v2.toInt ∧ v2.toInt ≤ 6 → 6 - v2.toInt < n → 0 < n → Ok (kf95_2 b N I L n v2) (fun r => r = 0 ∨ r = 1) := by
  intro n
  induction n with
  | zero => intro v2 _ _ h0; omega
  | succ n ih =>
    intro v2 h2 hn _
    unfold kf95_2
    refine Ok.ite' (fun _ => Ok.some' (Or.inr rfl)) (fun g => Ok.bind' (s92 _) (fun r2 _ => Ok.ite' (fun _ => ?_) (fun _ => Ok.some' (Or.inl rfl))))
    obtain ⟨a1, a2, a3, a4⟩ := hl
    rw [Int32.le_iff_toInt_le, t_add (by omega)] at g
    have e := t_inc (x := v2) (m := 8) (by omega) (by omega)
    exact ih _ (by rw [e]; omega) (by rw [e]; omega) (by omega)
theorem s95 (hl : hL b I) {N : Nat} (hN : 300 ≤ N) {v1 : Int32} (h1 : 0 ≤ v1.toInt ∧ v1.toInt ≤ 1) : Ok (kf95 b N I L v1) (fun r => r = 0 ∨ r = 1) := by
  unfold kf95
  exact s95_2 hl N N v1 (by omega) (by omega) (by omega)
theorem s97 (v0 : Int32) : Ok (kf97 I L v0) (fun r => r = 0 ∨ r = 1) := by
  unfold kf97
  repeat' (first
    | exact Ok.some' trivial
    | refine Ok.ret01 ?_ ?_
    | refine Ok.bif' ?_ ?_
    | refine Ok.ite' (fun _ => ?_) (fun _ => ?_)
    | refine Ok.some' ?_)
  all_goals simp
theorem s96_12 (h : wP b Z I) (N : Nat) (v2 v3 : Int32) (h3 : v3.toInt ≤ 4) : ∀ (n : Nat) (v4 : Int32), v3.toInt - v4.toInt < n → 0 < n → Ok (kf96_12 b N I L n v2 v3 v4) (fun r => r = 0 ∨ r = 1) := by
  intro n
  induction n with
  | zero => intro v4 _ h0; omega
  | succ n ih =>
    intro v4 hn _
    unfold kf96_12
    refine Ok.ite' (fun _ => Ok.some' (Or.inr rfl)) (fun g => Ok.bind' (s92 _) (fun r2 _ => Ok.bind' (s51a h _ _) (fun r4 _ => Ok.bind' (s44 h _ _) (fun r6 _ => Ok.ite' (fun _ => ?_) (fun _ => Ok.some' (Or.inl rfl))))))
    rw [Int32.le_iff_toInt_le] at g
    have e := t_inc (x := v4) (m := 4) (by omega) (by omega)
    exact ih _ (by rw [e]; omega) (by omega)
theorem s96 (h : wP b Z I) {N : Nat} (hN : 300 ≤ N) (v2 : Int32) : Ok (kf96 b N I L v2) (fun r => r = 0 ∨ r = 1) := by
  unfold kf96
  exact Ok.bind' (s50a h _) (fun r ⟨g1, g2, _⟩ => s96_12 h N v2 r g2 N _ (by rw [lt00]; omega) (by omega))
theorem s96a_12 (h : wP b Z I) (N : Nat) (v2 v3 : Int32) (h3 : v3.toInt ≤ 4) : ∀ (n : Nat) (v4 : Int32), v3.toInt - v4.toInt < n → 0 < n → Ok (kf96a_12 b N I L n v2 v3 v4) (fun r => r = 0 ∨ r = 1) := by
  intro n
  induction n with
  | zero => intro v4 _ h0; omega
  | succ n ih =>
    intro v4 hn _
    unfold kf96a_12
    refine Ok.ite' (fun _ => Ok.some' (Or.inr rfl)) (fun g => Ok.bind' (s92 _) (fun r2 _ => Ok.bind' (s51 h _ _) (fun r4 _ => Ok.bind' (s44 h _ _) (fun r6 _ => Ok.ite' (fun _ => ?_) (fun _ => Ok.some' (Or.inl rfl))))))
    rw [Int32.le_iff_toInt_le] at g
    have e := t_inc (x := v4) (m := 4) (by omega) (by omega)
    exact ih _ (by rw [e]; omega) (by omega)
theorem s96a (h : wP b Z I) {N : Nat} (hN : 300 ≤ N) (v2 : Int32) : Ok (kf96a b N I L v2) (fun r => r = 0 ∨ r = 1) := by
  unfold kf96a
  exact Ok.bind' (s50 h _) (fun r ⟨g1, g2, _⟩ => s96a_12 h N v2 r g2 N _ (by rw [lt00]; omega) (by omega))
theorem s94 (h : wP b Z I) (hl : hL b I) {N : Nat} (hN : 300 ≤ N) (v1 v2 v3 : Int32) : Ok (kf94 b N I L v1 v2 v3) (fun r => r = 0 ∨ r = 1) := by
  unfold kf94
  repeat' (first
    | exact Ok.some' (Or.inl rfl)
    | exact Ok.some' (Or.inr rfl)
    | refine Ok.bind' (s44 h _ _) (fun r hr => ?_)
    | refine Ok.bind' (s40 h _ _) (fun r hr => ?_)
    | refine Ok.bind' (s95 hl hN (by decide)) (fun r hr => ?_)
    | refine Ok.bind' (s97 _) (fun r hr => ?_)
    | refine Ok.bind' (s96a h hN _) (fun r hr => ?_)
    | refine Ok.bind' (s96 h hN _) (fun r hr => ?_)
    | refine Ok.bind' (s29 h _ _) (fun r hr => ?_)
    | refine Ok.bind' (s52 h _) (fun r hr => ?_)
    | exact Ok.ret01 hr (Ok.some' hr)
    | refine Ok.ite' (fun _ => ?_) (fun _ => ?_))
theorem s93_146 (hl : hL b I) {N : Nat} (hN : 300 ≤ N) : Ok (kf93_146 b N I L) (fun _ => True) := by
  unfold kf93_146
  exact Ok.bind' (s95 hl hN (by decide)) (fun r hr => Ok.ret01 hr (Ok.some' trivial))
theorem s93_200 (N : Nat) (v2 v3 : Int32) : Ok (kf93_200 b N I L v2 v3) (fun _ => True) := by
  unfold kf93_200
  repeat' (first
    | exact Ok.some' trivial
    | refine Ok.ret01 ?_ ?_
    | refine Ok.bif' ?_ ?_
    | refine Ok.ite' (fun _ => ?_) (fun _ => ?_)
    | refine Ok.some' ?_)
theorem s93_110 (h : wP b Z I) (hl : hL b I) {N : Nat} (hN : 300 ≤ N) (v1 v2 v3 : Int32) : Ok (kf93_110 b N I L v1 v2 v3) (fun _ => True) := by
  unfold kf93_110
  have k := s93_146 (L := L) hl hN
  have k2 := s93_200 (b := b) (I := I) (L := L) N v2 v3
  refine Ok.ite' (fun _ => k) (fun _ => Ok.ite' (fun _ => k) (fun _ => Ok.ite' (fun _ => k) (fun _ => Ok.ite' (fun _ => Ok.ite' (fun _ => Ok.ite' (fun _ => ?_) (fun _ => ?_)) (fun _ => ?_)) (fun _ => k))))
  · exact Ok.bind' (s94 h hl hN v1 v2 v3) (fun r hr => Ok.ret01 hr (Ok.some' trivial))
  · exact Ok.bind' (s97 v2) (fun r _ => Ok.ite' (fun _ => Ok.some' trivial) (fun _ => Ok.bind' (s97 v3) (fun r _ => Ok.ite' (fun _ => Ok.some' trivial) (fun _ => Ok.ite' (fun _ => k2) (fun _ => Ok.ite' (fun _ => Ok.some' trivial) (fun _ => k2))))))
  · exact Ok.bind' (s97 v2) (fun r hr => Ok.ret01 hr (Ok.some' trivial))
theorem s93 (h : wP b Z I) (hl : hL b I) {N : Nat} (hN : 300 ≤ N) (v1 : Int32) : Ok (kf93 b N I L v1) (fun _ => True) := by
  unfold kf93
  have t : ∀ x : Int32, Ok (some x) (fun _ => True) := fun x => Ok.some' trivial
  refine Ok.bind' (s92 _) (fun r1 _ => Ok.bind' (s92 _) (fun r3 _ => Ok.ite' (fun _ => Ok.ite' (fun _ => Ok.ite' (fun _ => s93_110 h hl hN _ _ _) (fun _ => Ok.ite' (fun _ => s93_110 h hl hN _ _ _) (fun _ => Ok.ite' (fun _ => t _) (fun _ => Ok.ite' (fun _ => t _) (fun _ => Ok.ite' (fun _ => t _) (fun _ => t _)))))) (fun _ => ?_)) (fun _ => ?_)))
  · exact Ok.bind' (s98 _ _) (fun r _ => Ok.ite' (fun _ => t _) (fun _ => t _))
  · exact Ok.bind' (s98 _ _) (fun r _ => Ok.ite' (fun _ => t _) (fun _ => t _))
theorem s83_11 {N : Nat} (hN : 300 ≤ N) (v1 : Int32) {v2 : Int32} (h2 : v2.toInt ≤ 120) : ∀ (n : Nat) (v3 : Int32) (I : kjI) (L : kjL), wP b Z I → v2.toInt - v3.toInt < n → 0 < n → Ok (kf83_11 b N n v1 v2 v3 I L) (fun r => wP b Z r.2.1) := by
  intro n
  induction n with
  | zero => intro v3 I L _ _ h0; omega
  | succ n ih =>
    intro v3 I L h hn _
    unfold kf83_11 kf83_51
    refine Ok.ite' (fun _ => Ok.some' h) (fun g => ?_)
    rw [Int32.le_iff_toInt_le] at g
    have e := t_inc (x := v3) (m := 120) (by omega) (by omega)
    have k : ∀ (I' : kjI) (L' : kjL), wP b Z I' → Ok (kf83_11 b N n v1 v2 (v3 + (1 : Int32)) I' L') (fun r => wP b Z r.2.1) := fun I' L' w => ih _ _ _ w (by rw [e]; omega) (by omega)
    exact Ok.bind' (s78 h v1 v3) (fun r2 _ => Ok.ite' (fun _ => k _ _ h) (fun _ => Ok.bind' (s86 v1 v3 h) (fun r5 ⟨w, hl⟩ => Ok.ite' (fun _ => Ok.some' w) (fun _ => Ok.bind' (s93 w hl hN v1) (fun r8 _ => Ok.ite' (fun _ => k _ _ w) (fun _ => Ok.some' w))))))
theorem s83 {N : Nat} (hN : 300 ≤ N) (v1 : Int32) (h : wP b Z I) : Ok (kf83 b N v1 I L) (fun r => wP b Z r.2.1) := by
  unfold kf83
  exact Ok.bind' (s32 h v1) (fun r ⟨g1, g2, _⟩ => s83_11 hN v1 g2 N _ _ _ h (by rw [lt00]; omega) (by omega))
theorem s79 (v1 v2 : Int32) (h : wP b Z I) : Ok (kf79 b v1 v2 I L) (fun r => wP b Z r.2.1) := by
  unfold kf79
  exact Ok.bind' (s86 v1 v2 h) (fun r ⟨w, _⟩ => Ok.some' w)
theorem s17_17 {N : Nat} (v1 : Int32) {v3 : Int32} (h3 : v3.toInt ≤ 120) : ∀ (n : Nat) (v2 v4 : Int32) (I : kjI) (L : kjL), wP b Z I → v3.toInt - v4.toInt < n → 0 < n → Ok (kf17_17 b N n v1 v2 v3 v4 I L) (fun r => wP b Z r.2.1) := by
  intro n
  induction n with
  | zero => intro v2 v4 I L _ _ h0; omega
  | succ n ih =>
    intro v2 v4 I L h hn _
    unfold kf17_17 kf17_51
    refine Ok.ite' (fun _ => Ok.some' h) (fun g => ?_)
    rw [Int32.le_iff_toInt_le] at g
    have e := t_inc (x := v4) (m := 120) (by omega) (by omega)
    have k : ∀ (v2 : Int32) (I' : kjI) (L' : kjL), wP b Z I' → Ok (kf17_17 b N n v1 v2 v3 (v4 + (1 : Int32)) I' L') (fun r => wP b Z r.2.1) := fun v2 I' L' w => ih _ _ _ _ w (by rw [e]; omega) (by omega)
    exact Ok.bind' (s15 h v1 v4) (fun r2 _ => Ok.ite' (fun _ => k _ _ _ h) (fun _ => Ok.bind' (s79 v1 v4 h) (fun r5 w => k _ _ _ w)))
theorem s7 {N : Nat} (hN : 300 ≤ N) (v1 v2 : Int32) (h : wP b Z I) : Ok (kf7 b N v1 v2 I L) (fun r => wP b Z r.2.1) := by
  unfold kf7 kf7_52 kf17
  have k : ∀ s2, Ok ((kf16 b N I L v1 s2).bind fun r1 => some (r1, I, L)) (fun r => wP b Z r.2.1) := fun s2 => Ok.bind' (s16 h hN v1 s2) (fun r _ => Ok.some' h)
  refine Ok.bind' (s49 h v1) (fun r1 _ => Ok.ite' (fun _ => Ok.some' h) (fun _ => Ok.ite' (fun _ => Ok.some' h) (fun _ => Ok.ite' (fun _ => Ok.ite' (fun _ => Ok.ite' (fun _ => k _) (fun _ => k _)) (fun _ => Ok.bind' (P := fun r => wP b Z r.2.1) ?_ (fun r8 w => Ok.some' w))) (fun _ => Ok.some' h))))
  exact Ok.bind' (s32 h v1) (fun r ⟨g1, g2, _⟩ => s17_17 v1 g2 N _ _ _ _ h (by rw [lt00]; omega) (by omega))
end FLS
