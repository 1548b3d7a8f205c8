/-! A Book reads its bytes: it comes to an end, and keeps to its ranges. -/
section WRS
variable {b : Bool} {Z I : kjI} {L : kjL}
theorem up_eq2 {α : Type} {f : Nat → Nat → α} {k j : Nat} {x : α} : mv_up f k j x k j = x := by
  unfold mv_up
  rw [if_pos rfl, if_pos rfl]
theorem up_ne2 {α : Type} {f : Nat → Nat → α} {k j j' : Nat} {x : α} (h : j' ≠ j) : mv_up f k j x k j' = f k j' := by
  unfold mv_up
  rw [if_pos rfl, if_neg h]
theorem wP.f (h : wP b Z I) {k j : Nat} {x : Int32} (hk : k = 3 ∨ k = 8 ∨ k = 9 ∨ k = 12 ∨ k = 13 ∨ k = 16 ∨ k = 17 ∨ k = 20 ∨ k = 22 ∨ k = 23 ∨ k = 25 ∨ k = 26 ∨ k = 29) : wP b Z (mv_up I (kb b k) j x) := by
  refine wP_up h (by omega) ?_
  rcases hk with rfl | rfl | rfl | rfl | rfl | rfl | rfl | rfl | rfl | rfl | rfl | rfl | rfl <;> trivial
theorem s58 (h : wP b Z I) : Ok (kf58 b I L) (fun r => -1 ≤ r.toInt ∧ r.toInt ≤ 255) := by
  unfold kf58
  repeat' (first
    | exact Ok.some' trivial
    | refine Ok.bind' (s22 h _) (fun _ ⟨_, _⟩ => ?_)
    | refine Ok.ret01 ?_ ?_
    | refine Ok.bif' ?_ ?_
    | refine Ok.ite' (fun _ => ?_) (fun _ => ?_)
    | refine Ok.some' ?_)
  all_goals ((try simp only [Int32.lt_iff_toInt_lt, Int32.le_iff_toInt_le, cR, lt00, lt01, lt02, lt03, lt04, lt05, lt06, lt07, lt08, lt015, lt016, lt020, lt021, lt033, lt035, lt037, lt041, lt048, lt049, lt050, lt051, lt053, lt054, lt099, lt0100, lt0120, lt0255, lt01500, lt01000000, ltm1] at *); omega)
theorem s59 (h : wP b Z I) (v1 : Int32) : Ok (kf59 b v1 I L) (fun r => wP b Z r.2.1 ∧ (v1 = 0 → r.1 = 0)) := by
  unfold kf59 kf59_25
  refine Ok.ite' (fun _ => Ok.some' ⟨h.f (by decide), fun _ => rfl⟩) (fun g => Ok.ite' (fun _ => Ok.some' ⟨h.f (by decide), fun z => absurd z g⟩) (fun _ => Ok.ite' (fun _ => Ok.some' ⟨h.f (by decide), fun z => absurd z g⟩) (fun _ => Ok.some' ⟨h.f (by decide), fun z => absurd z g⟩)))
theorem s60 (h : wP b Z I) (v1 v2 : Int32) : Ok (kf60 b v1 v2 I L) (fun r => wP b Z r.2.1 ∧ (r.1 = v1 ∨ (v1.toInt ≤ r.1.toInt ∧ r.1.toInt ≤ v2.toInt))) := by
  unfold kf60 kf60_20 kf60_21
  have k : ∀ r1 : Int32, Ok ((kf59 b (0 : Int32) I L).bind fun r => if r.1 = 0 then (some (v1, r.2.1, r.2.2)) else (some (r1, r.2.1, r.2.2))) (fun r => wP b Z r.2.1 ∧ (r.1 = v1 ∨ (v1.toInt ≤ r.1.toInt ∧ r.1.toInt ≤ v2.toInt))) := fun r1 =>
    Ok.bind' (s59 h 0) (fun r ⟨g1, g2⟩ => Ok.ite' (fun _ => Ok.some' ⟨g1, Or.inl rfl⟩) (fun g3 => absurd (g2 rfl) g3))
  refine Ok.bind' (s58 h) (fun r1 _ => Ok.ite' (fun _ => k r1) (fun a1 => Ok.ite' (fun _ => k r1) (fun a2 => Ok.bind' (s59 h _) (fun r ⟨g1, g2⟩ => Ok.ite' (fun _ => Ok.some' ⟨g1, Or.inl rfl⟩) (fun g3 => Ok.some' ⟨g1, Or.inr ?_⟩)))))
  rw [Int32.lt_iff_toInt_lt] at a1 a2
  show v1.toInt ≤ r1.toInt ∧ r1.toInt ≤ v2.toInt
  omega
theorem s60r (h : wP b Z I) (v1 v2 : Int32) (h12 : v1.toInt ≤ v2.toInt) : Ok (kf60 b v1 v2 I L) (fun r => wP b Z r.2.1 ∧ v1.toInt ≤ r.1.toInt ∧ r.1.toInt ≤ v2.toInt) :=
  Ok.mono (s60 h v1 v2) (fun r ⟨g1, g2⟩ => by
    refine ⟨g1, ?_⟩
    rcases g2 with g2 | g2
    · rw [g2]
      omega
    · exact g2)
theorem s55 : Ok (kf55 b I L) (fun _ => True) := by
  unfold kf55
  repeat' (first
    | exact Ok.some' trivial
    | refine Ok.ret01 ?_ ?_
    | refine Ok.bif' ?_ ?_
    | refine Ok.ite' (fun _ => ?_) (fun _ => ?_)
    | refine Ok.some' ?_)
theorem s61 (h : wP b Z I) (v1 v2 : Int32) : Ok (kf61 b v1 v2 I L) (fun r => wP b Z r.2.1) := by
  unfold kf61 kf61_37 kf61_29 kf61_41 kf61_42
  repeat' (first
    | refine Ok.bind' (s58 h) (fun _ _ => ?_)
    | refine Ok.bind' (s59 h _) (fun _ ⟨_, _⟩ => ?_)
    | refine Ok.ite' (fun _ => ?_) (fun _ => ?_)
    | refine Ok.some' ?_
    | assumption)
theorem s36_131 (N : Nat) {v2 v4 v5 : Int32} (h2 : 0 ≤ v2.toInt ∧ v2.toInt < 8) (h45 : 0 ≤ v4.toInt ∧ 0 ≤ v5.toInt ∧ v4.toInt + v5.toInt ≤ 8) : ∀ (n : Nat) (v6 : Int32) (I : kjI) (L : kjL), wP b Z I → 0 ≤ v6.toInt → 8 - v6.toInt < n → 0 < n → Ok (kf36_131 b N n v2 v4 v5 v6 I L) (fun r => wP b Z r.1) := by
  intro n
  induction n with
  | zero => intro v6 I L _ _ _ h0; omega
  | succ n ih =>
    intro v6 I L h h6 hn _
    unfold kf36_131
    have e45 : (v4 + v5).toInt = v4.toInt + v5.toInt := t_add (by omega)
    refine Ok.ite' (fun _ => Ok.some' h) (fun g => Ok.bind' (s61 h _ _) (fun r g1 => ?_))
    rw [Int32.le_iff_toInt_le, e45] at g
    refine Ok.bif' (by rw [t_m8 (by omega) (by omega)]; omega) ?_
    have e := t_inc (x := v6) (m := 8) (by omega) (by omega)
    exact ih _ _ _ (wP.f g1 (by decide)) (by rw [e]; omega) (by rw [e]; omega) (by omega)
theorem s36_90 {N : Nat} (hN : 300 ≤ N) {v2 v3 v4 v5 : Int32} (h2 : 0 ≤ v2.toInt ∧ v2.toInt < 8) (h3 : v3.toInt < 8) (h43 : 0 < v4.toInt → 0 ≤ v3.toInt) (h45 : 0 ≤ v4.toInt ∧ 0 ≤ v5.toInt ∧ v4.toInt + v5.toInt ≤ 8) : ∀ (n : Nat) (v6 : Int32) (I : kjI) (L : kjL), wP b Z I → 0 ≤ v6.toInt → 8 - v6.toInt < n → 0 < n → Ok (kf36_90 b N n v2 v3 v4 v5 v6 I L) (fun r => wP b Z r.1) := by
  intro n
  induction n with
  | zero => intro v6 I L _ _ _ h0; omega
  | succ n ih =>
    intro v6 I L h h6 hn _
    unfold kf36_90
    refine Ok.ite' (fun _ => s36_131 N h2 h45 N v4 I L h h45.1 (by omega) (by omega)) (fun g => ?_)
    rw [Int32.le_iff_toInt_le] at g
    have a := h43 (by omega)
    refine Ok.bif' (by rw [t_m8 (by omega) (by omega)]; omega) (Ok.bif' (by rw [t_m8 (by omega) (by omega)]; omega) ?_)
    have e := t_inc (x := v6) (m := 8) (by omega) (by omega)
    exact ih _ _ _ (wP.f h (by decide)) (by rw [e]; omega) (by rw [e]; omega) (by omega)
theorem s36_23 {N : Nat} (hN : 300 ≤ N) {v2 v3 s0 : Int32} (h2 : 0 ≤ v2.toInt ∧ v2.toInt < 8) (h3 : -1 ≤ v3.toInt ∧ v3.toInt < 8) (h0 : 0 ≤ s0.toInt ∧ s0.toInt ≤ 8) (h03 : 0 < s0.toInt → 0 ≤ v3.toInt) (h : wP b Z I) : Ok (kf36_23 b N v2 v3 s0 I L) (fun r => wP b Z r.1) := by
  unfold kf36_23 kf36_87
  have e8 : ((8 : Int32) - s0).toInt = 8 - s0.toInt := by rw [t_sub (by rw [lt08]; omega), lt08]
  have em : 0 ≤ (if ((8 : Int32) - s0) < (4 : Int32) then ((8 : Int32) - s0) else (4 : Int32)).toInt ∧ (if ((8 : Int32) - s0) < (4 : Int32) then ((8 : Int32) - s0) else (4 : Int32)).toInt ≤ 8 - s0.toInt := by
    split
    · rw [e8]
      omega
    · rename_i g
      rw [Int32.lt_iff_toInt_lt, e8, lt04] at g
      rw [lt04]
      omega
  refine Ok.bind' (s60r h _ _ (by rw [lt00]; exact em.1)) (fun r ⟨g1, g2, g3⟩ => ?_)
  rw [lt00] at g2
  have es : (s0 + r.1).toInt = s0.toInt + r.1.toInt := t_add (by omega)
  have h45 : 0 ≤ s0.toInt ∧ 0 ≤ r.1.toInt ∧ s0.toInt + r.1.toInt ≤ 8 := ⟨h0.1, g2, by omega⟩
  have w1 : wP b Z (mv_up (mv_up (mv_up r.2.1 (kb b 6) (Int32.toNatClampNeg v2) v3) (kb b 7) (Int32.toNatClampNeg v2) (s0 + r.1)) (kb b 9) (Int32.toNatClampNeg v2) ((1 : Int32) <<< (v2 &&& 31))) := by
    refine wP.f (wP_up (wP_up g1 (by decide) ?_) (by decide) ?_) (by decide)
    · show -1 ≤ v3.toInt ∧ v3.toInt ≤ 7
      omega
    · show 0 ≤ (s0 + r.1).toInt ∧ (s0 + r.1).toInt ≤ 8
      rw [es]
      omega
  have i2 : 0 ≤ v2.toInt ∧ v2.toInt < ((8 : Nat) : Int) := by omega
  refine Ok.bif' i2 (Ok.bif' i2 (Ok.bif' i2 (Ok.ite' (fun _ => ?_) (fun g => Ok.bif' i2 (Ok.bif' ?_ (Ok.bif' i2 ?_))))))
  · exact s36_90 hN h2 h3.2 h03 h45 N _ _ _ w1 (by rw [lt00]; omega) (by rw [lt00]; omega) (by omega)
  · rw [Int32.lt_iff_toInt_lt, lt00] at g
    omega
  · exact s36_90 hN h2 h3.2 h03 h45 N _ _ _ (w1.f (by decide)) (by rw [lt00]; omega) (by rw [lt00]; omega) (by omega)
theorem s36 {N : Nat} (hN : 300 ≤ N) {v2 : Int32} (h2 : 0 ≤ v2.toInt ∧ v2.toInt < 8) (h : wP b Z I) : Ok (kf36 b N v2 I L) (fun r => wP b Z r.1) := by
  unfold kf36
  refine Ok.bind' (s60r h _ _ (by rw [lt00]; omega)) (fun r ⟨g1, g2, g3⟩ => ?_)
  rw [lt00] at g2
  have e : (r.1 - (1 : Int32)).toInt = r.1.toInt - 1 := by rw [t_sub (by rw [lt01]; omega), lt01]
  refine Ok.ite' (fun g => s36_23 hN h2 (by rw [e]; omega) (by rw [lt00]; omega) (by rw [lt00]; omega) g1) (fun g => Ok.bif' ?_ (s36_23 hN h2 (by rw [e]; omega) (g1.fc _) (fun _ => ?_) g1))
  · rw [Int32.lt_iff_toInt_lt, e, lt00] at g
    rw [e]
    omega
  · rw [Int32.lt_iff_toInt_lt, e, lt00] at g
    rw [e]
    omega
theorem s35_13 {N : Nat} (hN : 300 ≤ N) : ∀ (n : Nat) (v2 : Int32) (I : kjI) (L : kjL), wP b Z I → 0 ≤ v2.toInt → 8 - v2.toInt < n → 0 < n → Ok (kf35_13 b N n v2 I L) (fun r => wP b Z r.1) := by
  intro n
  induction n with
  | zero => intro v2 I L _ _ _ h0; omega
  | succ n ih =>
    intro v2 I L h h2 hn _
    unfold kf35_13
    have a := h.nc
    refine Ok.ite' (fun _ => Ok.some' h) (fun g => Ok.bind' s55 (fun r _ => Ok.ite' (fun _ => Ok.some' h) (fun _ => ?_)))
    rw [Int32.le_iff_toInt_le] at g
    have e := t_inc (x := v2) (m := 8) (by omega) (by omega)
    exact Ok.bind' (s36 hN ⟨h2, by omega⟩ h) (fun r5 g5 => ih _ _ _ g5 (by rw [e]; omega) (by rw [e]; omega) (by omega))
theorem s35 {N : Nat} (hN : 300 ≤ N) (h : wP b Z I) : Ok (kf35 b N I L) (fun r => wP b Z r.1) := by
  unfold kf35
  refine Ok.bind' (s60r h _ _ (by decide)) (fun r ⟨g1, g2, g3⟩ => s35_13 hN N _ _ _ (wP_up g1 (by decide) ?_) (by decide) (by rw [lt00]; omega) (by omega))
  rw [lt00] at g2
  rw [lt08] at g3
  exact fun _ => ⟨g2, g3⟩
theorem s47 (h : wP b Z I) : Ok (kf47 b (0 : Int32) (8 : Int32) I L) (fun r => wP b Z r.1) := by
  unfold kf47
  refine Ok.bind' (s60r h _ _ (by decide)) (fun r ⟨g1, g2, g3⟩ => Ok.some' (wP_up g1 (by decide) ?_))
  rw [if_neg (by decide), lt08] at g3
  rw [lt00] at g2
  exact fun _ => ⟨g2, g3⟩
theorem s47a (h : wP b Z I) : Ok (kf47a b (1 : Int32) (16 : Int32) I L) (fun r => wP b Z r.1) := by
  unfold kf47a
  refine Ok.bind' (s60r h _ _ (by decide)) (fun r ⟨g1, g2, g3⟩ => Ok.some' (wP_up g1 (by decide) ?_))
  rw [if_neg (by decide), lt016] at g3
  rw [lt01] at g2
  exact fun _ => ⟨by omega, g3⟩
theorem s48_30 (N : Nat) {v2 v4 : Int32} (h2 : 0 ≤ v2.toInt ∧ v2.toInt < 16) : ∀ (n : Nat) (v5 : Int32) (I : kjI) (L : kjL), wP b Z I → 0 ≤ v5.toInt → 4 - v5.toInt < n → 0 < n → Ok (kf48_30 b N n v2 v4 v5 I L) (fun r => wP b Z r.1) := by
  intro n
  induction n with
  | zero => intro v5 I L _ _ _ h0; omega
  | succ n ih =>
    intro v5 I L h h5 hn _
    unfold kf48_30
    have a := h.sc (Int32.toNatClampNeg v2)
    have i2 : 0 ≤ v2.toInt ∧ v2.toInt < ((16 : Nat) : Int) := by omega
    refine Ok.bif' i2 (Ok.ite' (fun _ => Ok.bind' (s61 h _ _) (fun r g1 => Ok.bif' i2 (Ok.some' (g1.f (by decide))))) (fun g => Ok.bind' (s61 h _ _) (fun r g1 => ?_)))
    rw [Int32.le_iff_toInt_le] at g
    have e := t_inc (x := v5) (m := 8) (by omega) (by omega)
    exact Ok.bif' (by rw [t_m4 (by omega) (by omega)]; omega) (ih _ _ _ (g1.f (by decide)) (by rw [e]; omega) (by rw [e]; omega) (by omega))
theorem s48 {N : Nat} (hN : 300 ≤ N) (v2 v4 : Int32) (h : wP b Z I) : Ok (kf48 b N v2 (3 : Int32) v4 I L) (fun r => wP b Z r.1) := by
  unfold kf48
  refine Ok.ite' (fun _ => Ok.some' h) (fun a1 => Ok.ite' (fun a2 => ?_) (fun _ => Ok.some' h))
  rw [Int32.lt_iff_toInt_lt, lt00] at a1
  rw [Int32.lt_iff_toInt_lt, lt016] at a2
  refine Ok.bind' (s60r h _ _ (by decide)) (fun r ⟨g1, g2, g3⟩ => Ok.bif' (by omega) (s48_30 N (by omega) N _ _ _ (wP_up g1 (by decide) ?_) (by decide) (by rw [lt00]; omega) (by omega)))
  rw [if_neg (by decide), lt03] at g3
  rw [lt00] at g2
  exact ⟨g2, by omega⟩
theorem s48a_30 (N : Nat) {v2 v4 : Int32} (h2 : 0 ≤ v2.toInt ∧ v2.toInt < 16) : ∀ (n : Nat) (v5 : Int32) (I : kjI) (L : kjL), wP b Z I → 0 ≤ v5.toInt → 4 - v5.toInt < n → 0 < n → Ok (kf48a_30 b N n v2 v4 v5 I L) (fun r => wP b Z r.1) := by
  intro n
  induction n with
  | zero => intro v5 I L _ _ _ h0; omega
  | succ n ih =>
    intro v5 I L h h5 hn _
    unfold kf48a_30
    have a := h.mc (Int32.toNatClampNeg v2)
    have i2 : 0 ≤ v2.toInt ∧ v2.toInt < ((16 : Nat) : Int) := by omega
    refine Ok.bif' i2 (Ok.ite' (fun _ => Ok.bind' (s61 h _ _) (fun r g1 => Ok.bif' i2 (Ok.some' (g1.f (by decide))))) (fun g => Ok.bind' (s61 h _ _) (fun r g1 => ?_)))
    rw [Int32.le_iff_toInt_le] at g
    have e := t_inc (x := v5) (m := 8) (by omega) (by omega)
    exact Ok.bif' (by rw [t_m4 (by omega) (by omega)]; omega) (ih _ _ _ (g1.f (by decide)) (by rw [e]; omega) (by rw [e]; omega) (by omega))
theorem s48a {N : Nat} (hN : 300 ≤ N) (v2 v4 : Int32) (h : wP b Z I) : Ok (kf48a b N v2 (4 : Int32) v4 I L) (fun r => wP b Z r.1) := by
  unfold kf48a
  refine Ok.ite' (fun _ => Ok.some' h) (fun a1 => Ok.ite' (fun a2 => ?_) (fun _ => Ok.some' h))
  rw [Int32.lt_iff_toInt_lt, lt00] at a1
  rw [Int32.lt_iff_toInt_lt, lt016] at a2
  refine Ok.bind' (s60r h _ _ (by decide)) (fun r ⟨g1, g2, g3⟩ => Ok.bif' (by omega) (s48a_30 N (by omega) N _ _ _ (wP_up g1 (by decide) ?_) (by decide) (by rw [lt00]; omega) (by omega)))
  rw [if_neg (by decide), lt04] at g3
  rw [lt00] at g2
  exact ⟨g2, g3⟩
theorem s62 (h : wP b Z I) (v1 : Int32) : Ok (kf62 b v1 I L) (fun r => wP b Z r.1) := by
  unfold kf62 kf62_23 kf62_45
  repeat' (first
    | refine Ok.ite' (fun _ => ?_) (fun _ => ?_)
    | refine Ok.some' ?_
    | assumption
    | refine wP.f ?_ (by decide))
theorem s57 : Ok (kf57 b I L) (fun _ => True) := Ok.some' trivial
theorem s26 {N : Nat} (hN : 300 ≤ N) (v1 : Int32) (h : wP b Z I) : Ok (kf26 b N v1 I L) (fun r => wP b Z r.1) := by
  unfold kf26
  refine Ok.bind' (s48a hN v1 _ h) (fun r1 g1 => Ok.bind' (s49 g1 v1) (fun r3 g3 => Ok.ite' (fun g4 => ?_) (fun _ => Ok.some' g1)))
  have a := g3 g4
  have i : 0 ≤ v1.toInt ∧ v1.toInt < ((16 : Nat) : Int) := by omega
  refine Ok.bind' (s50 g1 v1) (fun r6 ⟨g6, g7, _⟩ => Ok.bind' (s60r g1 r6 (8 : Int32) (by rw [lt08]; omega)) (fun r8 ⟨g8, g9, g10⟩ => Ok.bif' i ?_))
  rw [lt08] at g10
  have w8 : wP b Z (mv_up r8.2.1 (kb b 18) (Int32.toNatClampNeg v1) r8.1) := wP_up g8 (by decide) ⟨by omega, g10⟩
  refine Ok.bind' (s60r w8 _ _ (by decide)) (fun r11 ⟨g11, g12, g13⟩ => Ok.bif' i ?_)
  rw [lt00] at g12
  rw [lt08] at g13
  have w11 : wP b Z (mv_up r11.2.1 (kb b 19) (Int32.toNatClampNeg v1) r11.1) := wP_up g11 (by decide) ⟨g12, g13⟩
  refine Ok.bind' (s60r w11 _ _ (by decide)) (fun r14 ⟨g14, g15, g16⟩ => Ok.bif' i ?_)
  rw [lt01] at g15
  rw [lt0120] at g16
  have w14 : wP b Z (mv_up r14.2.1 (kb b 21) (Int32.toNatClampNeg v1) r14.1) := wP_up g14 (by decide) ⟨by omega, g16⟩
  exact Ok.bind' s57 (fun r17 _ => Ok.bif' i (Ok.bif' i (Ok.bind' (s62 (w14.f (by decide)) _) (fun r21 g21 => Ok.some' g21))))
theorem s28_62 (h : wP b Z I) (N : Nat) (v1 v2 v3 v4 : Int32) (h4 : v4.toInt ≤ 4) : ∀ (n : Nat) (v5 : Int32), v4.toInt - v5.toInt < n → 0 < n → Ok (kf28_62 b N I L n v1 v2 v3 v4 v5) (fun _ => True) := by
  intro n
  induction n with
  | zero => intro v5 _ h0; omega
  | succ n ih =>
    intro v5 hn _
    unfold kf28_62
    refine Ok.ite' (fun _ => Ok.bind' (s51 h _ _) (fun r2 _ => Ok.bind' (s41 h _ _) (fun r4 g => Ok.ret01 g (Ok.some' trivial)))) (fun g => Ok.bind' (s51 h _ _) (fun r7 _ => Ok.bind' (s51a h _ _) (fun r9 _ => Ok.ite' (fun _ => ?_) (fun _ => Ok.some' trivial))))
    rw [Int32.le_iff_toInt_le] at g
    have e := t_inc (x := v5) (m := 4) (by omega) (by omega)
    exact ih _ (by rw [e]; omega) (by omega)
theorem s28 (h : wP b Z I) {N : Nat} (hN : 300 ≤ N) (v1 v2 v3 : Int32) : Ok (kf28 b N I L v1 v2 v3) (fun _ => True) := by
  unfold kf28
  refine Ok.bind' (s50a h v3) (fun r1 ⟨g1, g2, _⟩ => Ok.bind' (s49 h v1) (fun r3 _ => Ok.ite' (fun _ => Ok.some' trivial) (fun _ => Ok.bind' (s50 h v1) (fun r6 _ => Ok.ite' (fun _ => Ok.bind' (s52 h v1) (fun r9 _ => Ok.bind' (s52a h v3) (fun r11 _ => Ok.ite' (fun _ => ?_) (fun _ => Ok.some' trivial)))) (fun _ => Ok.some' trivial)))))
  exact s28_62 h N v1 v2 v3 r1 g2 N _ (by rw [lt00]; omega) (by omega)
theorem s27_11 {N : Nat} (hN : 300 ≤ N) {v1 v2 : Int32} (h1 : 0 ≤ v1.toInt ∧ v1.toInt < 8) (h2 : v2.toInt < 8) : ∀ (n : Nat) (v3 : Int32) (I : kjI) (L : kjL), wP b Z I → 0 ≤ v3.toInt → 8 - v3.toInt < n → 0 < n → Ok (kf27_11 b N n v1 v2 v3 I L) (fun r => wP b Z r.1) := by
  intro n
  induction n with
  | zero => intro v3 I L _ _ _ h0; omega
  | succ n ih =>
    intro v3 I L h h3 hn _
    unfold kf27_11
    have a := h.ns
    refine Ok.ite' (fun _ => Ok.some' h) (fun g => Ok.bind' s55 (fun r _ => Ok.ite' (fun _ => Ok.some' h) (fun _ => ?_)))
    rw [Int32.le_iff_toInt_le] at g
    have e := t_inc (x := v3) (m := 8) (by omega) (by omega)
    have i1 : 0 ≤ ((v1 * (8 : Int32)) + v3).toInt ∧ ((v1 * (8 : Int32)) + v3).toInt < ((64 : Nat) : Int) := by
      rw [t_m8 (by omega) (by omega)]
      omega
    have k : ∀ (I' : kjI) (L' : kjL), wP b Z I' → Ok (kf27_11 b N n v1 v2 (v3 + (1 : Int32)) I' L') (fun r => wP b Z r.1) := fun I' L' w => ih _ _ _ w (by rw [e]; omega) (by rw [e]; omega) (by omega)
    have k106 : ∀ (I' : kjI) (L' : kjL), wP b Z I' → Ok (kf27_106 b N (fun v1 v2 v3 I L => kf27_11 b N n v1 v2 v3 I L) v1 v2 v3 I' L') (fun r => wP b Z r.1) := by
      intro I' L' w
      unfold kf27_106 kf27_135 kf27_136
      refine Ok.ite' (fun g2 => Ok.bif' ?_ (Ok.bif' i1 (k _ _ (w.f (by decide))))) (fun _ => Ok.bif' i1 (k _ _ (w.f (by decide))))
      rw [Int32.le_iff_toInt_le, lt00] at g2
      rw [t_m8 (by omega) (by omega)]
      omega
    have k73 : ∀ v4 s1 : Int32, Ok (kf27_73 b N (fun v1 v2 v3 I L => kf27_11 b N n v1 v2 v3 I L) v1 v2 v3 v4 s1 I L) (fun r => wP b Z r.1) := by
      intro v4 s1
      unfold kf27_73 kf27_136
      exact Ok.bind' (s59 h s1) (fun r ⟨w, _⟩ => Ok.ite' (fun _ => k106 _ _ w) (fun _ => Ok.ite' (fun _ => k106 _ _ w) (fun _ => Ok.bif' i1 (k _ _ (w.f (by decide))))))
    unfold kf27_68 kf27_72
    exact Ok.bind' (s58 h) (fun r5 _ => Ok.ite' (fun _ => k73 _ _) (fun _ => Ok.ite' (fun _ => k73 _ _) (fun _ => Ok.bind' (s28 h hN _ _ _) (fun r9 _ => Ok.ite' (fun _ => k73 _ _) (fun _ => k73 _ _)))))
theorem s27 {N : Nat} (hN : 300 ≤ N) {v1 : Int32} (h1 : 0 ≤ v1.toInt ∧ v1.toInt < 8) (h : wP b Z I) : Ok (kf27 b N v1 I L) (fun r => wP b Z r.1) := by
  unfold kf27
  exact Ok.bind' (s38 h v1) (fun r ⟨_, g⟩ => s27_11 hN h1 (by omega) N _ _ _ h (by decide) (by rw [lt00]; omega) (by omega))
theorem s24_163 (N : Nat) (h : wP b Z I) : Ok (kf24_163 b N I L) (fun r => wP b Z r.2.1) := by
  unfold kf24_163 kf56
  refine Ok.bind' (P := fun r => r = 0 ∨ r = 1) ?_ (fun r g => Ok.ret01 g (Ok.some' h))
  repeat' (first
    | exact Ok.some' trivial
    | refine Ok.ret01 ?_ ?_
    | refine Ok.bif' ?_ ?_
    | refine Ok.ite' (fun _ => ?_) (fun _ => ?_)
    | refine Ok.some' ?_)
  all_goals simp
theorem s24_131 {N : Nat} (hN : 300 ≤ N) : ∀ (n : Nat) (v1 : Int32) (I : kjI) (L : kjL), wP b Z I → 0 ≤ v1.toInt → 8 - v1.toInt < n → 0 < n → Ok (kf24_131 b N n v1 I L) (fun r => wP b Z r.2.1) := by
  intro n
  induction n with
  | zero => intro v1 I L _ _ _ h0; omega
  | succ n ih =>
    intro v1 I L h h1 hn _
    unfold kf24_131
    have a := h.nc
    refine Ok.ite' (fun _ => s24_163 N h) (fun g => Ok.bind' s55 (fun r _ => Ok.ite' (fun _ => s24_163 N h) (fun _ => ?_)))
    rw [Int32.le_iff_toInt_le] at g
    have e := t_inc (x := v1) (m := 8) (by omega) (by omega)
    exact Ok.bind' (s27 hN ⟨h1, by omega⟩ h) (fun r5 g5 => ih _ _ _ g5 (by rw [e]; omega) (by rw [e]; omega) (by omega))
theorem s24_97 {N : Nat} (hN : 300 ≤ N) : ∀ (n : Nat) (v1 : Int32) (I : kjI) (L : kjL), wP b Z I → 0 ≤ v1.toInt → 16 - v1.toInt < n → 0 < n → Ok (kf24_97 b N n v1 I L) (fun r => wP b Z r.2.1) := by
  intro n
  induction n with
  | zero => intro v1 I L _ _ _ h0; omega
  | succ n ih =>
    intro v1 I L h h1 hn _
    unfold kf24_97 kf24_129
    have a := h.nm
    have k := s24_131 (b := b) (Z := Z) hN N (0 : Int32) I L h (by decide) (by rw [lt00]; omega) (by omega)
    refine Ok.ite' (fun _ => k) (fun g => Ok.bind' s55 (fun r _ => Ok.ite' (fun _ => k) (fun _ => ?_)))
    rw [Int32.le_iff_toInt_le] at g
    have e := t_inc (x := v1) (m := 16) (by omega) (by omega)
    exact Ok.bind' (s26 hN v1 h) (fun r5 g5 => ih _ _ _ g5 (by rw [e]; omega) (by rw [e]; omega) (by omega))
theorem s24_34 {N : Nat} (hN : 300 ≤ N) : ∀ (n : Nat) (v1 : Int32) (I : kjI) (L : kjL), wP b Z I → 0 ≤ v1.toInt → 8 - v1.toInt < n → 0 < n → Ok (kf24_34 b N n v1 I L) (fun r => wP b Z r.2.1) := by
  intro n
  induction n with
  | zero => intro v1 I L _ _ _ h0; omega
  | succ n ih =>
    intro v1 I L h h1 hn _
    unfold kf24_34 kf24_81
    have a := h.ns
    have k : Ok ((kf47a b (1 : Int32) (16 : Int32) I L).bind fun r1 => kf24_97 b N N (0 : Int32) r1.1 r1.2) (fun r => wP b Z r.2.1) := Ok.bind' (s47a h) (fun r1 g => s24_97 hN N _ _ _ g (by decide) (by rw [lt00]; omega) (by omega))
    refine Ok.ite' (fun _ => k) (fun g => Ok.bind' s55 (fun r _ => Ok.ite' (fun _ => k) (fun _ => ?_)))
    rw [Int32.le_iff_toInt_le] at g
    have e := t_inc (x := v1) (m := 16) (by omega) (by omega)
    exact Ok.bind' (s48 hN v1 _ h) (fun r5 g5 => ih _ _ _ g5 (by rw [e]; omega) (by rw [e]; omega) (by omega))
theorem s24 {N : Nat} (hN : 300 ≤ N) (h : wP b Z I) : Ok (kf24 b N I L) (fun r => wP b Z r.2.1) := by
  unfold kf24 kf54
  exact Ok.bind' (P := fun r => wP b Z r.1) (Ok.some' ((h.f (by decide)).f (by decide))) (fun r1 g1 => Ok.bind' (s35 hN g1) (fun r3 g3 => Ok.bind' (s47 g3) (fun r5 g5 => s24_34 hN N _ _ _ g5 (by decide) (by rw [lt00]; omega) (by omega))))
end WRS
