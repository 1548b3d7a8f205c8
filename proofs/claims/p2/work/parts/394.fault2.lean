/-! FAULT 2. -/
def op_ (F : KF) (m p : Nat) : Nat := F.mb m p
def isLoc (op : Nat) : Prop := op = 3 ∨ op = 4 ∨ op = 20
def isCls (op : Nat) : Prop := op = 38 ∨ op = 45 ∨ op = 46
def isFld (op : Nat) : Prop := op = 39 ∨ op = 40
def nmOk (F : KF) (m p : Nat) : Prop :=
  ((F.mb m p = 3 ∨ F.mb m p = 4 ∨ F.mb m p = 20) → F.mb m (p + 1) < F.ml m) ∧ ((F.mb m p = 38 ∨ F.mb m p = 45 ∨ F.mb m p = 46) → F.mb m (p + 1) < F.nc) ∧ ((F.mb m p = 39 ∨ F.mb m p = 40) → F.mb m (p + 1) < F.nc ∧ F.mb m (p + 2) < F.nf (F.mb m (p + 1))) ∧ (F.mb m p = 47 → F.mb m (p + 1) < F.nm) ∧ (F.mb m p = 48 → F.mb m (p + 1) < F.ns) ∧ (F.mb m p = 53 → 1 ≤ F.mb m (p + 1) ∧ F.mb m (p + 1) ≤ 8)
/-- how many PLACES it tells to go on at, and which -/
def tg (F : KF) (m p : Nat) : Nat := if F.mb m p = 53 then F.mb m (p + 1) + 1 else if 21 ≤ F.mb m p ∧ F.mb m p ≤ 37 then 1 else 0
def tgt (F : KF) (m p k : Nat) : Nat := if F.mb m p = 53 then F.mb m (p + 2 + k) else F.mb m (p + 1 + k)
def gon (F : KF) (m p : Nat) : Prop := F.mb m p ≠ 21 ∧ F.mb m p ≠ 49 ∧ F.mb m p ≠ 50 ∧ F.mb m p ≠ 53
def tOk (F : KF) (m t : Nat) : Prop := t < F.mn m ∧ bg F m t = true
def Gd (F : KF) (m p : Nat) : Prop := osz F m p ≠ 0 ∧ nmOk F m p ∧ (∀ k, k < tg F m p → tOk F m (tgt F m p k)) ∧ (p + osz F m p = F.mn m → ¬ gon F m p)
theorem sz2 (op : Nat) (h : op = 0 ∨ op = 3 ∨ op = 4 ∨ (21 ≤ op ∧ op ≤ 38) ∨ (45 ≤ op ∧ op ≤ 48)) : SZ.getD op 0 = 2 := by
  have key : ∀ q : Fin 54, (q.1 = 0 ∨ q.1 = 3 ∨ q.1 = 4 ∨ (21 ≤ q.1 ∧ q.1 ≤ 38) ∨ (45 ≤ q.1 ∧ q.1 ≤ 48)) → SZ.getD q.1 0 = 2 := by decide +kernel
  exact key ⟨op, by omega⟩ h
theorem sz3 (op : Nat) (h : op = 1 ∨ op = 20 ∨ op = 39 ∨ op = 40 ∨ op = 53) : SZ.getD op 0 = 3 := by
  have key : ∀ q : Fin 54, (q.1 = 1 ∨ q.1 = 20 ∨ q.1 = 39 ∨ q.1 = 40 ∨ q.1 = 53) → SZ.getD q.1 0 = 3 := by decide +kernel
  exact key ⟨op, by omega⟩ h
section
variable {b : Bool} {F : KF} {I J : kjI} (L : kjL)
/-- operands lie in the CODE -/
theorem op1_lt {m p : Nat} (h : osz F m p ≠ 0) (h2 : F.mb m p = 0 ∨ F.mb m p = 3 ∨ F.mb m p = 4 ∨ (20 ≤ F.mb m p ∧ F.mb m p ≤ 40) ∨ (45 ≤ F.mb m p ∧ F.mb m p ≤ 48) ∨ F.mb m p = 53 ∨ F.mb m p = 1) : p + 1 < F.mn m := by
  obtain ⟨h3, h4, h5⟩ := osz_le h
  have : 2 ≤ SZ.getD (F.mb m p) 0 := by
    by_cases c : F.mb m p = 1 ∨ F.mb m p = 20 ∨ F.mb m p = 39 ∨ F.mb m p = 40 ∨ F.mb m p = 53
    · rw [sz3 _ c]
      omega
    · rw [sz2 _ (by omega)]
      omega
  have h6 : SZ.getD (F.mb m p) 0 ≤ osx F m p := Nat.le_add_right _ _
  omega
theorem op2_lt {m p : Nat} (h : osz F m p ≠ 0) (h2 : F.mb m p = 39 ∨ F.mb m p = 40) : p + 2 < F.mn m := by
  obtain ⟨h3, h4, h5⟩ := osz_le h
  have h6 : SZ.getD (F.mb m p) 0 ≤ osx F m p := Nat.le_add_right _ _
  rw [sz3 _ (by omega)] at h6
  omega
theorem op53 {m p : Nat} (h : osz F m p ≠ 0) (h2 : F.mb m p = 53) : osz F m p = 3 + F.mb m (p + 1) ∧ p + 3 + F.mb m (p + 1) ≤ F.mn m := by
  obtain ⟨h3, h4, h5⟩ := osz_le h
  have h6 := op1_lt h (by omega)
  have h7 : osx F m p = 3 + F.mb m (p + 1) := by
    unfold osx
    rw [if_pos ⟨h2, h6⟩, h2, sz3 53 (by omega)]
  omega
theorem tgt_in {m p k : Nat} (h : osz F m p ≠ 0) (hk : k < tg F m p) : (if F.mb m p = 53 then p + 2 + k else p + 1 + k) < F.mn m := by
  unfold tg at hk
  by_cases c : F.mb m p = 53
  · rw [if_pos c] at hk ⊢
    have := op53 h c
    omega
  · rw [if_neg c] at hk ⊢
    by_cases c2 : 21 ≤ F.mb m p ∧ F.mb m p ≤ 37
    · rw [if_pos c2] at hk
      have := op1_lt h (by omega)
      omega
    · rw [if_neg c2] at hk
      omega
theorem tgt_lt (hF : KFok F) {m p k : Nat} (hm : m < F.nm) (h : osz F m p ≠ 0) (hk : k < tg F m p) : tgt F m p k < 256 := by
  have := tgt_in h hk
  unfold tgt
  by_cases c : F.mb m p = 53
  · rw [if_pos c] at this ⊢
    exact hF.mb256 m hm _ this
  · rw [if_neg c] at this ⊢
    exact hF.mb256 m hm _ this
/-- KindJudge's -/
theorem c_op (hF : KFok F) (hC : CV b F I) {m : Nat} (hm : m < F.nm) {p : Nat} (hp : p < F.mn m) : kf67 b I L (w m) (w p) 0 = some (w (F.mb m p)) := by
  have := c_byte L hF hC hm (k := 0) hp
  exact this
theorem c_op1 (hF : KFok F) (hC : CV b F I) {m : Nat} (hm : m < F.nm) {p : Nat} (hp : p + 1 < F.mn m) : kf67 b I L (w m) (w p) 1 = some (w (F.mb m (p + 1))) := c_byte L hF hC hm (k := 1) hp
theorem c_op2 (hF : KFok F) (hC : CV b F I) {m : Nat} (hm : m < F.nm) {p : Nat} (hp : p + 2 < F.mn m) : kf67 b I L (w m) (w p) 2 = some (w (F.mb m (p + 2))) := c_byte L hF hC hm (k := 2) hp
theorem c_op1' (hF : KFok F) (hC : CV b F I) {m : Nat} (hm : m < F.nm) {p : Nat} (hp : p < F.mn m) : ∃ z : Int, -1 ≤ z ∧ z < 256 ∧ kf67 b I L (w m) (w p) 1 = some (w z) ∧ (p + 1 < F.mn m → z = F.mb m (p + 1)) := by
  have h2 := hF.mn120 m hm
  by_cases c : p + 1 < F.mn m
  · have := hF.mb256 m hm _ c
    exact ⟨F.mb m (p + 1), by omega, by omega, c_op1 L hF hC hm c, fun _ => rfl⟩
  · exact ⟨-1, by omega, by omega, c_byte_out L hF hC hm (k := 1) (by omega) (by omega), fun z => absurd z c⟩
theorem c_names (hF : KFok F) (hC : CV b F I) {m : Nat} (hm : m < F.nm) {p : Nat} (hp : p < F.mn m) (hs : osz F m p ≠ 0) : (nmOk F m p → kf72 b I L (w m) (w p) = some 0) ∧ (¬ nmOk F m p → kf72 b I L (w m) (w p) = some 1) := by
  have h1 := hF.nm16
  have h2 := hF.mn120 m hm
  have h3 := hF.ml8 m hm
  have h4 := hF.nc8
  have h5 := hF.ns8
  have hB := hF.mb256 m hm p hp
  obtain ⟨z, z1, z2, z3, z4⟩ := c_op1' L hF hC hm hp
  have cut : ∀ (P : Prop) (X Y : Option Int32), (nmOk F m p ↔ P) → (P → X = some 0) → (¬ P → X = some 1) → (nmOk F m p → X = some 0) ∧ (¬ nmOk F m p → X = some 1) := by
    intro P X Y e1 e2 e3
    exact ⟨fun q => e2 (e1.mp q), fun q => e3 (fun r => q (e1.mpr r))⟩
  unfold kf72
  rw [z3, sbind, c_op L hF hC hm hp, sbind]
  by_cases c1 : F.mb m p = 3 ∨ F.mb m p = 4 ∨ F.mb m p = 20
  · have hz := z4 (op1_lt hs (by omega))
    rw [if_pos (by (simp (disch := omega) only [w_lit, w_neg, w_add, w_sub, w_mul, w_lt, w_le, w_eq, w_clamp, w_toInt, w_in, not_true_eq_false, not_false_eq_true, Classical.not_not]); omega)]
    unfold kf30
    rw [hC.n14, if_neg (by (simp (disch := omega) only [w_lit, w_neg, w_add, w_sub, w_mul, w_lt, w_le, w_eq, w_clamp, w_toInt, w_in, not_true_eq_false, not_false_eq_true, Classical.not_not]); omega), if_neg (by (simp (disch := omega) only [w_lit, w_neg, w_add, w_sub, w_mul, w_lt, w_le, w_eq, w_clamp, w_toInt, w_in, not_true_eq_false, not_false_eq_true, Classical.not_not]); omega), bif_in (by omega) (by decide), w_clamp (by omega), Int.toNat_natCast, hC.v18 m hm, sbind]
    refine cut (F.mb m (p + 1) < F.ml m) _ none ⟨fun q => q.1 c1, fun q => ⟨fun _ => q, fun r => by omega, fun r => by omega, fun r => by omega, fun r => by omega, fun r => by omega⟩⟩ (fun q => ?_) (fun q => ?_)
    · rw [if_pos (by (simp (disch := omega) only [w_lit, w_neg, w_add, w_sub, w_mul, w_lt, w_le, w_eq, w_clamp, w_toInt, w_in, not_true_eq_false, not_false_eq_true, Classical.not_not]); omega)]
    · rw [if_neg (by (simp (disch := omega) only [w_lit, w_neg, w_add, w_sub, w_mul, w_lt, w_le, w_eq, w_clamp, w_toInt, w_in, not_true_eq_false, not_false_eq_true, Classical.not_not]); omega)]
  rw [if_neg (by (simp (disch := omega) only [w_lit, w_neg, w_add, w_sub, w_mul, w_lt, w_le, w_eq, w_clamp, w_toInt, w_in, not_true_eq_false, not_false_eq_true, Classical.not_not]); omega)]
  by_cases c2 : F.mb m p = 38 ∨ F.mb m p = 45 ∨ F.mb m p = 46
  · have hz := z4 (op1_lt hs (by omega))
    rw [if_pos (by (simp (disch := omega) only [w_lit, w_neg, w_add, w_sub, w_mul, w_lt, w_le, w_eq, w_clamp, w_toInt, w_in, not_true_eq_false, not_false_eq_true, Classical.not_not]); omega)]
    unfold kf37
    rw [hC.n5]
    refine cut (F.mb m (p + 1) < F.nc) _ none ⟨fun q => q.2.1 c2, fun q => ⟨fun r => by omega, fun _ => q, fun r => by omega, fun r => by omega, fun r => by omega, fun r => by omega⟩⟩ (fun q => ?_) (fun q => ?_)
    · (simp (disch := first | omega | (simp (disch := omega) only [w_lit, w_neg, w_add, w_sub, w_mul, w_lt, w_le, w_eq, w_clamp, w_toInt, w_in, not_true_eq_false, not_false_eq_true, Classical.not_not] <;> omega) | fail) only [↓if_pos, ↓if_neg, ↓bif_in, sbind, w_clamp])
    · (simp (disch := first | omega | (simp (disch := omega) only [w_lit, w_neg, w_add, w_sub, w_mul, w_lt, w_le, w_eq, w_clamp, w_toInt, w_in, not_true_eq_false, not_false_eq_true, Classical.not_not] <;> omega) | fail) only [↓if_pos, ↓if_neg, ↓bif_in, sbind, w_clamp])
  rw [if_neg (by (simp (disch := omega) only [w_lit, w_neg, w_add, w_sub, w_mul, w_lt, w_le, w_eq, w_clamp, w_toInt, w_in, not_true_eq_false, not_false_eq_true, Classical.not_not]); omega)]
  by_cases c3 : F.mb m p = 39 ∨ F.mb m p = 40
  · have hz := z4 (op1_lt hs (by omega))
    have hB2 := hF.mb256 m hm (p + 2) (op2_lt hs c3)
    rw [if_pos (by (simp (disch := omega) only [w_lit, w_neg, w_add, w_sub, w_mul, w_lt, w_le, w_eq, w_clamp, w_toInt, w_in, not_true_eq_false, not_false_eq_true, Classical.not_not]); omega), c_op2 L hF hC hm (op2_lt hs c3), sbind]
    unfold kf39
    rw [hC.n5]
    refine cut (F.mb m (p + 1) < F.nc ∧ F.mb m (p + 2) < F.nf (F.mb m (p + 1))) _ none ⟨fun q => q.2.2.1 c3, fun q => ⟨fun r => by omega, fun r => by omega, fun _ => q, fun r => by omega, fun r => by omega, fun r => by omega⟩⟩ (fun q => ?_) (fun q => ?_)
    · have := hF.nf8 _ q.1
      rw [hz, if_neg (by (simp (disch := omega) only [w_lit, w_neg, w_add, w_sub, w_mul, w_lt, w_le, w_eq, w_clamp, w_toInt, w_in, not_true_eq_false, not_false_eq_true, Classical.not_not]); omega), if_neg (by (simp (disch := omega) only [w_lit, w_neg, w_add, w_sub, w_mul, w_lt, w_le, w_eq, w_clamp, w_toInt, w_in, not_true_eq_false, not_false_eq_true, Classical.not_not]); omega), bif_in (by omega) (by decide), w_clamp (by omega), Int.toNat_natCast, hC.v7 _ q.1, sbind, if_pos (by (simp (disch := omega) only [w_lit, w_neg, w_add, w_sub, w_mul, w_lt, w_le, w_eq, w_clamp, w_toInt, w_in, not_true_eq_false, not_false_eq_true, Classical.not_not]); omega)]
    · by_cases d1 : F.mb m (p + 1) < F.nc
      · have := hF.nf8 _ d1
        rw [hz, if_neg (by (simp (disch := omega) only [w_lit, w_neg, w_add, w_sub, w_mul, w_lt, w_le, w_eq, w_clamp, w_toInt, w_in, not_true_eq_false, not_false_eq_true, Classical.not_not]); omega), if_neg (by (simp (disch := omega) only [w_lit, w_neg, w_add, w_sub, w_mul, w_lt, w_le, w_eq, w_clamp, w_toInt, w_in, not_true_eq_false, not_false_eq_true, Classical.not_not]); omega), bif_in (by omega) (by decide), w_clamp (by omega), Int.toNat_natCast, hC.v7 _ d1, sbind, if_neg (by (simp (disch := omega) only [w_lit, w_neg, w_add, w_sub, w_mul, w_lt, w_le, w_eq, w_clamp, w_toInt, w_in, not_true_eq_false, not_false_eq_true, Classical.not_not]); omega)]
      · rw [hz, if_neg (by (simp (disch := omega) only [w_lit, w_neg, w_add, w_sub, w_mul, w_lt, w_le, w_eq, w_clamp, w_toInt, w_in, not_true_eq_false, not_false_eq_true, Classical.not_not]); omega), if_pos (by (simp (disch := omega) only [w_lit, w_neg, w_add, w_sub, w_mul, w_lt, w_le, w_eq, w_clamp, w_toInt, w_in, not_true_eq_false, not_false_eq_true, Classical.not_not]); omega), sbind, if_neg (by (simp (disch := omega) only [w_lit, w_neg, w_add, w_sub, w_mul, w_lt, w_le, w_eq, w_clamp, w_toInt, w_in, not_true_eq_false, not_false_eq_true, Classical.not_not]); omega)]
  rw [if_neg (by (simp (disch := omega) only [w_lit, w_neg, w_add, w_sub, w_mul, w_lt, w_le, w_eq, w_clamp, w_toInt, w_in, not_true_eq_false, not_false_eq_true, Classical.not_not]); omega)]
  by_cases c4 : F.mb m p = 47
  · have hz := z4 (op1_lt hs (by omega))
    rw [if_pos (by (simp (disch := omega) only [w_lit, w_neg, w_add, w_sub, w_mul, w_lt, w_le, w_eq, w_clamp, w_toInt, w_in, not_true_eq_false, not_false_eq_true, Classical.not_not]); omega)]
    unfold kf49
    rw [hC.n14]
    refine cut (F.mb m (p + 1) < F.nm) _ none ⟨fun q => q.2.2.2.1 c4, fun q => ⟨fun r => by omega, fun r => by omega, fun r => by omega, fun _ => q, fun r => by omega, fun r => by omega⟩⟩ (fun q => ?_) (fun q => ?_)
    · (simp (disch := first | omega | (simp (disch := omega) only [w_lit, w_neg, w_add, w_sub, w_mul, w_lt, w_le, w_eq, w_clamp, w_toInt, w_in, not_true_eq_false, not_false_eq_true, Classical.not_not] <;> omega) | fail) only [↓if_pos, ↓if_neg, ↓bif_in, sbind, w_clamp])
    · (simp (disch := first | omega | (simp (disch := omega) only [w_lit, w_neg, w_add, w_sub, w_mul, w_lt, w_le, w_eq, w_clamp, w_toInt, w_in, not_true_eq_false, not_false_eq_true, Classical.not_not] <;> omega) | fail) only [↓if_pos, ↓if_neg, ↓bif_in, sbind, w_clamp])
  rw [if_neg (by (simp (disch := omega) only [w_lit, w_neg, w_add, w_sub, w_mul, w_lt, w_le, w_eq, w_clamp, w_toInt, w_in, not_true_eq_false, not_false_eq_true, Classical.not_not]); omega)]
  by_cases c5 : F.mb m p = 48
  · have hz := z4 (op1_lt hs (by omega))
    rw [if_pos (by (simp (disch := omega) only [w_lit, w_neg, w_add, w_sub, w_mul, w_lt, w_le, w_eq, w_clamp, w_toInt, w_in, not_true_eq_false, not_false_eq_true, Classical.not_not]); omega)]
    unfold kf49a
    rw [hC.n10]
    refine cut (F.mb m (p + 1) < F.ns) _ none ⟨fun q => q.2.2.2.2.1 c5, fun q => ⟨fun r => by omega, fun r => by omega, fun r => by omega, fun r => by omega, fun _ => q, fun r => by omega⟩⟩ (fun q => ?_) (fun q => ?_)
    · (simp (disch := first | omega | (simp (disch := omega) only [w_lit, w_neg, w_add, w_sub, w_mul, w_lt, w_le, w_eq, w_clamp, w_toInt, w_in, not_true_eq_false, not_false_eq_true, Classical.not_not] <;> omega) | fail) only [↓if_pos, ↓if_neg, ↓bif_in, sbind, w_clamp])
    · (simp (disch := first | omega | (simp (disch := omega) only [w_lit, w_neg, w_add, w_sub, w_mul, w_lt, w_le, w_eq, w_clamp, w_toInt, w_in, not_true_eq_false, not_false_eq_true, Classical.not_not] <;> omega) | fail) only [↓if_pos, ↓if_neg, ↓bif_in, sbind, w_clamp])
  rw [if_neg (by (simp (disch := omega) only [w_lit, w_neg, w_add, w_sub, w_mul, w_lt, w_le, w_eq, w_clamp, w_toInt, w_in, not_true_eq_false, not_false_eq_true, Classical.not_not]); omega)]
  by_cases c6 : F.mb m p = 53
  · have hz := z4 (op1_lt hs (by omega))
    rw [if_pos (by (simp (disch := omega) only [w_lit, w_neg, w_add, w_sub, w_mul, w_lt, w_le, w_eq, w_clamp, w_toInt, w_in, not_true_eq_false, not_false_eq_true, Classical.not_not]); omega)]
    refine cut (1 ≤ F.mb m (p + 1) ∧ F.mb m (p + 1) ≤ 8) _ none ⟨fun q => q.2.2.2.2.2 c6, fun q => ⟨fun r => by omega, fun r => by omega, fun r => by omega, fun r => by omega, fun r => by omega, fun _ => q⟩⟩ (fun q => ?_) (fun q => ?_)
    · (simp (disch := first | omega | (simp (disch := omega) only [w_lit, w_neg, w_add, w_sub, w_mul, w_lt, w_le, w_eq, w_clamp, w_toInt, w_in, not_true_eq_false, not_false_eq_true, Classical.not_not] <;> omega) | fail) only [↓if_pos, ↓if_neg, ↓bif_in, sbind, w_clamp])
    · by_cases d : F.mb m (p + 1) < 1
      · (simp (disch := first | omega | (simp (disch := omega) only [w_lit, w_neg, w_add, w_sub, w_mul, w_lt, w_le, w_eq, w_clamp, w_toInt, w_in, not_true_eq_false, not_false_eq_true, Classical.not_not] <;> omega) | fail) only [↓if_pos, ↓if_neg, ↓bif_in, sbind, w_clamp])
      · (simp (disch := first | omega | (simp (disch := omega) only [w_lit, w_neg, w_add, w_sub, w_mul, w_lt, w_le, w_eq, w_clamp, w_toInt, w_in, not_true_eq_false, not_false_eq_true, Classical.not_not] <;> omega) | fail) only [↓if_pos, ↓if_neg, ↓bif_in, sbind, w_clamp])
  rw [if_neg (by (simp (disch := omega) only [w_lit, w_neg, w_add, w_sub, w_mul, w_lt, w_le, w_eq, w_clamp, w_toInt, w_in, not_true_eq_false, not_false_eq_true, Classical.not_not]); omega)]
  exact cut True _ none ⟨fun _ => trivial, fun _ => ⟨fun r => by omega, fun r => by omega, fun r => by omega, fun r => by omega, fun r => by omega, fun r => by omega⟩⟩ (fun _ => rfl) (fun q => absurd trivial q)
theorem c_tg (hF : KFok F) (hC : CV b F I) {m : Nat} (hm : m < F.nm) {p : Nat} (hp : p < F.mn m) (hs : osz F m p ≠ 0) : kf73 b I L (w m) (w p) = some (w (tg F m p)) := by
  have hB := hF.mb256 m hm p hp
  unfold kf73 tg
  rw [c_op L hF hC hm hp, sbind]
  by_cases c : F.mb m p = 53
  · rw [if_neg (show ¬ ¬ w (F.mb m p) = 53 by (simp (disch := omega) only [w_lit, w_neg, w_add, w_sub, w_mul, w_lt, w_le, w_eq, w_clamp, w_toInt, w_in, not_true_eq_false, not_false_eq_true, Classical.not_not]); omega), if_pos c, c_op1 L hF hC hm (op1_lt hs (by omega)), sbind]
    (simp only [w_lit, w_neg, w_add, w_sub, w_mul])
    rfl
  · rw [if_pos (show ¬ w (F.mb m p) = 53 by (simp (disch := omega) only [w_lit, w_neg, w_add, w_sub, w_mul, w_lt, w_le, w_eq, w_clamp, w_toInt, w_in, not_true_eq_false, not_false_eq_true, Classical.not_not]); omega), if_neg c]
    by_cases c2 : 21 ≤ F.mb m p ∧ F.mb m p ≤ 37
    · rw [if_neg (by (simp (disch := omega) only [w_lit, w_neg, w_add, w_sub, w_mul, w_lt, w_le, w_eq, w_clamp, w_toInt, w_in, not_true_eq_false, not_false_eq_true, Classical.not_not]); omega), if_neg (by (simp (disch := omega) only [w_lit, w_neg, w_add, w_sub, w_mul, w_lt, w_le, w_eq, w_clamp, w_toInt, w_in, not_true_eq_false, not_false_eq_true, Classical.not_not]); omega), if_pos c2]
      rfl
    · rw [if_neg c2]
      by_cases c3 : F.mb m p < 21
      · rw [if_pos (by (simp (disch := omega) only [w_lit, w_neg, w_add, w_sub, w_mul, w_lt, w_le, w_eq, w_clamp, w_toInt, w_in, not_true_eq_false, not_false_eq_true, Classical.not_not]); omega)]
        rfl
      · rw [if_neg (by (simp (disch := omega) only [w_lit, w_neg, w_add, w_sub, w_mul, w_lt, w_le, w_eq, w_clamp, w_toInt, w_in, not_true_eq_false, not_false_eq_true, Classical.not_not]); omega), if_pos (by (simp (disch := omega) only [w_lit, w_neg, w_add, w_sub, w_mul, w_lt, w_le, w_eq, w_clamp, w_toInt, w_in, not_true_eq_false, not_false_eq_true, Classical.not_not]); omega)]
        rfl
theorem c_tgt (hF : KFok F) (hC : CV b F I) {m : Nat} (hm : m < F.nm) {p : Nat} (hp : p < F.mn m) (hs : osz F m p ≠ 0) {k : Nat} (hk : k < tg F m p) : kf74 b I L (w m) (w p) (w k) = some (w (tgt F m p k)) := by
  have hB := hF.mb256 m hm p hp
  have hi := tgt_in hs hk
  unfold kf74 kf74_24 tgt
  rw [c_op L hF hC hm hp, sbind]
  by_cases c : F.mb m p = 53
  · rw [if_pos c] at hi ⊢
    rw [if_neg (show ¬ ¬ w (F.mb m p) = 53 by (simp (disch := omega) only [w_lit, w_neg, w_add, w_sub, w_mul, w_lt, w_le, w_eq, w_clamp, w_toInt, w_in, not_true_eq_false, not_false_eq_true, Classical.not_not]); omega)]
    (simp only [w_lit, w_neg, w_add, w_sub, w_mul])
    rw [show ((k : Int) + 2) = ((k + 2 : Nat) : Int) by omega, c_byte L hF hC hm (by omega), sbind, show p + (k + 2) = p + 2 + k by omega]
  · rw [if_neg c] at hi ⊢
    rw [if_pos (show ¬ w (F.mb m p) = 53 by (simp (disch := omega) only [w_lit, w_neg, w_add, w_sub, w_mul, w_lt, w_le, w_eq, w_clamp, w_toInt, w_in, not_true_eq_false, not_false_eq_true, Classical.not_not]); omega)]
    (simp only [w_lit, w_neg, w_add, w_sub, w_mul])
    rw [show ((k : Int) + 1) = ((k + 1 : Nat) : Int) by omega, c_byte L hF hC hm (by omega), sbind, show p + (k + 1) = p + 1 + k by omega]
theorem c_gon (hF : KFok F) (hC : CV b F I) {m : Nat} (hm : m < F.nm) {p : Nat} (hp : p < F.mn m) : (gon F m p → kf75 b I L (w m) (w p) = some 1) ∧ (¬ gon F m p → kf75 b I L (w m) (w p) = some 0) := by
  have hB := hF.mb256 m hm p hp
  unfold kf75 gon
  rw [c_op L hF hC hm hp, sbind]
  constructor
  · intro q
    rw [if_neg (by (simp (disch := omega) only [w_lit, w_neg, w_add, w_sub, w_mul, w_lt, w_le, w_eq, w_clamp, w_toInt, w_in, not_true_eq_false, not_false_eq_true, Classical.not_not]); omega), if_neg (by (simp (disch := omega) only [w_lit, w_neg, w_add, w_sub, w_mul, w_lt, w_le, w_eq, w_clamp, w_toInt, w_in, not_true_eq_false, not_false_eq_true, Classical.not_not]); omega), if_neg (by (simp (disch := omega) only [w_lit, w_neg, w_add, w_sub, w_mul, w_lt, w_le, w_eq, w_clamp, w_toInt, w_in, not_true_eq_false, not_false_eq_true, Classical.not_not]); omega), if_neg (by (simp (disch := omega) only [w_lit, w_neg, w_add, w_sub, w_mul, w_lt, w_le, w_eq, w_clamp, w_toInt, w_in, not_true_eq_false, not_false_eq_true, Classical.not_not]); omega)]
  · intro q
    by_cases c1 : F.mb m p = 21
    · rw [if_pos (by (simp (disch := omega) only [w_lit, w_neg, w_add, w_sub, w_mul, w_lt, w_le, w_eq, w_clamp, w_toInt, w_in, not_true_eq_false, not_false_eq_true, Classical.not_not]); omega)]
    rw [if_neg (by (simp (disch := omega) only [w_lit, w_neg, w_add, w_sub, w_mul, w_lt, w_le, w_eq, w_clamp, w_toInt, w_in, not_true_eq_false, not_false_eq_true, Classical.not_not]); omega)]
    by_cases c2 : F.mb m p = 49
    · rw [if_pos (by (simp (disch := omega) only [w_lit, w_neg, w_add, w_sub, w_mul, w_lt, w_le, w_eq, w_clamp, w_toInt, w_in, not_true_eq_false, not_false_eq_true, Classical.not_not]); omega)]
    rw [if_neg (by (simp (disch := omega) only [w_lit, w_neg, w_add, w_sub, w_mul, w_lt, w_le, w_eq, w_clamp, w_toInt, w_in, not_true_eq_false, not_false_eq_true, Classical.not_not]); omega)]
    by_cases c3 : F.mb m p = 50
    · rw [if_pos (by (simp (disch := omega) only [w_lit, w_neg, w_add, w_sub, w_mul, w_lt, w_le, w_eq, w_clamp, w_toInt, w_in, not_true_eq_false, not_false_eq_true, Classical.not_not]); omega)]
    rw [if_neg (by (simp (disch := omega) only [w_lit, w_neg, w_add, w_sub, w_mul, w_lt, w_le, w_eq, w_clamp, w_toInt, w_in, not_true_eq_false, not_false_eq_true, Classical.not_not]); omega), if_pos (by (simp (disch := omega) only [w_lit, w_neg, w_add, w_sub, w_mul, w_lt, w_le, w_eq, w_clamp, w_toInt, w_in, not_true_eq_false, not_false_eq_true, Classical.not_not]); omega)]
end
