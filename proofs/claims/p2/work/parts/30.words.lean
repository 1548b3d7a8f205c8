/-! Words: an int of the machine as a whole number; what its instructions do there. -/
def w (z : Int) : Int32 := Int32.ofInt z
theorem w_toInt {z : Int} (h : -2147483648 ≤ z ∧ z < 2147483648) : (w z).toInt = z := by
  unfold w
  rw [Int32.toInt_ofInt]
  simp only [Int32.size]
  rw [Int.bmod_eq_of_le] <;> omega
theorem w_of (x : Int32) : w x.toInt = x := Int32.ofInt_toInt x
theorem w_rng (x : Int32) : -2147483648 ≤ x.toInt ∧ x.toInt < 2147483648 := by
  have h1 := Int32.le_toInt x
  have h2 := Int32.toInt_lt x
  omega
theorem w_add (a b : Int) : w a + w b = w (a + b) := (Int32.ofInt_add a b).symm
theorem w_sub (a b : Int) : w a - w b = w (a - b) := (Int32.ofInt_sub a b).symm
theorem w_mul (a b : Int) : w a * w b = w (a * b) := (Int32.ofInt_mul a b).symm
theorem w_neg (a : Int) : -(w a) = w (-a) := (Int32.ofInt_neg a).symm
theorem w_lt {a b : Int} (ha : -2147483648 ≤ a ∧ a < 2147483648) (hb : -2147483648 ≤ b ∧ b < 2147483648) : (w a < w b) = (a < b) := by
  rw [Int32.lt_iff_toInt_lt, w_toInt ha, w_toInt hb]
theorem w_le {a b : Int} (ha : -2147483648 ≤ a ∧ a < 2147483648) (hb : -2147483648 ≤ b ∧ b < 2147483648) : (w a ≤ w b) = (a ≤ b) := by
  rw [Int32.le_iff_toInt_le, w_toInt ha, w_toInt hb]
theorem w_eq {a b : Int} (ha : -2147483648 ≤ a ∧ a < 2147483648) (hb : -2147483648 ≤ b ∧ b < 2147483648) : (w a = w b) = (a = b) := by
  rw [← Int32.toInt_inj, w_toInt ha, w_toInt hb]
theorem w_clamp {a : Int} (ha : -2147483648 ≤ a ∧ a < 2147483648) : (w a).toNatClampNeg = a.toNat := by
  show (w a).toInt.toNat = _
  rw [w_toInt ha]
theorem w_in {a : Int} {n : Nat} (ha : -2147483648 ≤ a ∧ a < 2147483648) : mv_in (w a) n = decide (0 ≤ a ∧ a < n) := by
  unfold mv_in
  rw [w_clamp ha]
  have h0 : (0 : Int32) = w 0 := rfl
  rw [h0]
  simp only [w_lt ha (show -2147483648 ≤ (0:Int) ∧ (0:Int) < 2147483648 by omega)]
  rw [Bool.eq_iff_iff, Bool.and_eq_true, Nat.blt_eq]
  simp only [Bool.not_eq_true', decide_eq_false_iff_not, decide_eq_true_eq]
  omega
theorem w_in_t {a : Int} {n : Nat} (ha : 0 ≤ a ∧ a < n) (hn : n < 2147483648 := by decide) : mv_in (w a) n = true := by
  rw [w_in (by omega)]
  simp [ha]

theorem w_lit (n : Nat) : (OfNat.ofNat n : Int32) = w (OfNat.ofNat n : Int) := by
  show Int32.ofNat n = Int32.ofInt (n : Int)
  exact (Int32.ofInt_eq_ofNat).symm
theorem kb_inj (b : Bool) (i j : Nat) : (kb b i = kb b j) = (i = j) := by
  cases b <;> simp [kb]
theorem kb_lt (b : Bool) (i : Nat) (h : i < 30) : kb b i < 59 := by
  cases b <;> simp [kb] <;> omega
theorem kb_pos (b : Bool) (i : Nat) (h : 0 < i) : 0 < kb b i := by
  cases b <;> simp [kb] <;> omega
theorem kb_ne_not (b : Bool) (i j : Nat) (hi : 0 < i ∧ i < 30) (hj : 0 < j ∧ j < 30) : kb b i ≠ kb (!b) j := by
  cases b <;> simp [kb] <;> omega
theorem bif_in {α : Type} {a : Int} {n : Nat} {x y : α} (ha : 0 ≤ a ∧ a < n) (hn : n < 2147483648) : (bif mv_in (w a) n then x else y) = x := by
  rw [w_in_t ha hn]
  rfl
theorem sbind {α β : Type} (x : α) (g : α → Option β) : (some x).bind g = g x := by simp
theorem up_eq (I : kjI) (k j : Nat) (v : Int32) : mv_up I k j v k j = v := by simp [mv_up]
theorem up_k {I : kjI} {k j k' j' : Nat} {v : Int32} (h : k' ≠ k) : mv_up I k j v k' j' = I k' j' := by simp [mv_up, h]
theorem up_j {I : kjI} {k j k' j' : Nat} {v : Int32} (h : j' ≠ j) : mv_up I k j v k' j' = I k' j' := by
  unfold mv_up
  split <;> simp [h]
theorem up1_ne {I : kjI} {k j q i : Nat} {v : Int32} (h : ¬ (q = k ∧ i = j)) : mv_up I k j v q i = I q i := by
  unfold mv_up
  by_cases h1 : q = k
  · rw [if_pos h1, if_neg (fun z => h ⟨h1, z⟩)]
  · rw [if_neg h1]
theorem up3_ne {I : kjI} {k j k2 j2 k3 j3 q i : Nat} {v v2 v3 : Int32} (h : ¬ (q = k ∧ i = j) ∧ ¬ (q = k2 ∧ i = j2) ∧ ¬ (q = k3 ∧ i = j3)) : mv_up (mv_up (mv_up I k j v) k2 j2 v2) k3 j3 v3 q i = I q i := by
  rw [up1_ne h.2.2, up1_ne h.2.1, up1_ne h.1]
theorem up_self (I : kjI) (k j : Nat) : mv_up I k j (I k j) = I := by
  funext a c
  unfold mv_up
  split
  · split
    · subst_vars; rfl
    · rfl
  · rfl
theorem kb_ne {b : Bool} {i j : Nat} (h : i ≠ j) : kb b i ≠ kb b j := by rw [Ne, kb_inj]; exact h
theorem kb_59 {b : Bool} {i : Nat} {j : Nat} (h : i < 30 ∧ 59 ≤ j) : kb b i ≠ j := by have := kb_lt b i h.1; omega
theorem kb_59' {b : Bool} {i : Nat} {j : Nat} (h : i < 30 ∧ 59 ≤ j) : j ≠ kb b i := by have := kb_lt b i h.1; omega

