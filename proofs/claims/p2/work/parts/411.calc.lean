/-! The calculus of answers: an answer is there, and keeps to Q. -/
def Ok {α : Type} (o : Option α) (Q : α → Prop) : Prop := ∃ r, o = some r ∧ Q r
section OKS
variable {α β : Type} {Q : β → Prop} {a c : Option β}
theorem Ok.some' {r : β} (h : Q r) : Ok (some r) Q := ⟨r, rfl, h⟩
theorem Ok.bind' {o : Option α} {f : α → Option β} {P : α → Prop} (h : Ok o P) (k : ∀ r, P r → Ok (f r) Q) : Ok (o.bind f) Q := by
  obtain ⟨r, e, hr⟩ := h
  obtain ⟨q, e2, hq⟩ := k r hr
  exact ⟨q, by rw [e]; exact e2, hq⟩
theorem Ok.ite' {p : Prop} {d : Decidable p} (h1 : p → Ok a Q) (h2 : ¬ p → Ok c Q) : Ok (if p then a else c) Q := by
  by_cases h : p
  · rw [if_pos h]
    exact h1 h
  · rw [if_neg h]
    exact h2 h
theorem Ok.ret' {p : Prop} {d : Decidable p} (h1 : p) (h2 : Ok a Q) : Ok (if p then a else none) Q := by
  rw [if_pos h1]
  exact h2
theorem Ok.ret01 {r : Int32} {d : Decidable (r = 0 ∨ r = 1)} (h1 : r = 0 ∨ r = 1) (h2 : Ok a Q) : Ok (if r = 0 ∨ r = 1 then a else none) Q := Ok.ret' h1 h2
theorem mv_in_of {i : Int32} {n : Nat} (h : 0 ≤ i.toInt ∧ i.toInt < n) : mv_in i n = true := by
  unfold mv_in
  have h1 : ¬ i < 0 := by
    rw [Int32.lt_iff_toInt_lt]
    have : (0 : Int32).toInt = 0 := rfl
    omega
  have h2 : i.toNatClampNeg < n := by
    show i.toInt.toNat < n
    omega
  simp only [h1, decide_false, Bool.not_false, Bool.true_and]
  exact Nat.ble_eq_true_of_le h2
theorem Ok.bif' {i : Int32} {n : Nat} (h : 0 ≤ i.toInt ∧ i.toInt < n) (k : Ok a Q) : Ok (bif mv_in i n then a else none) Q := by
  rw [mv_in_of h]
  exact k
theorem Ok.mono {P : β → Prop} (h : Ok a P) (k : ∀ r, P r → Q r) : Ok a Q := by
  obtain ⟨r, e, hr⟩ := h
  exact ⟨r, e, k r hr⟩
end OKS
theorem rg (x : Int32) : -2147483648 ≤ x.toInt ∧ x.toInt < 2147483648 := w_rng x
theorem t_add {x y : Int32} (h : -2147483648 ≤ x.toInt + y.toInt ∧ x.toInt + y.toInt < 2147483648) : (x + y).toInt = x.toInt + y.toInt := by
  have e : x + y = w (x.toInt + y.toInt) := by rw [← w_add, w_of, w_of]
  rw [e, w_toInt h]
theorem t_sub {x y : Int32} (h : -2147483648 ≤ x.toInt - y.toInt ∧ x.toInt - y.toInt < 2147483648) : (x - y).toInt = x.toInt - y.toInt := by
  have e : x - y = w (x.toInt - y.toInt) := by rw [← w_sub, w_of, w_of]
  rw [e, w_toInt h]
theorem t_mul {x y : Int32} (h : -2147483648 ≤ x.toInt * y.toInt ∧ x.toInt * y.toInt < 2147483648) : (x * y).toInt = x.toInt * y.toInt := by
  have e : x * y = w (x.toInt * y.toInt) := by rw [← w_mul, w_of, w_of]
  rw [e, w_toInt h]
theorem lt00 : (0 : Int32).toInt = 0 := rfl
theorem lt01 : (1 : Int32).toInt = 1 := rfl
theorem lt02 : (2 : Int32).toInt = 2 := rfl
theorem lt03 : (3 : Int32).toInt = 3 := rfl
theorem lt04 : (4 : Int32).toInt = 4 := rfl
theorem lt05 : (5 : Int32).toInt = 5 := rfl
theorem lt06 : (6 : Int32).toInt = 6 := rfl
theorem lt07 : (7 : Int32).toInt = 7 := rfl
theorem lt08 : (8 : Int32).toInt = 8 := rfl
theorem lt015 : (15 : Int32).toInt = 15 := rfl
theorem lt016 : (16 : Int32).toInt = 16 := rfl
theorem lt020 : (20 : Int32).toInt = 20 := rfl
theorem lt021 : (21 : Int32).toInt = 21 := rfl
theorem lt033 : (33 : Int32).toInt = 33 := rfl
theorem lt035 : (35 : Int32).toInt = 35 := rfl
theorem lt037 : (37 : Int32).toInt = 37 := rfl
theorem lt041 : (41 : Int32).toInt = 41 := rfl
theorem lt048 : (48 : Int32).toInt = 48 := rfl
theorem lt049 : (49 : Int32).toInt = 49 := rfl
theorem lt050 : (50 : Int32).toInt = 50 := rfl
theorem lt051 : (51 : Int32).toInt = 51 := rfl
theorem lt053 : (53 : Int32).toInt = 53 := rfl
theorem lt054 : (54 : Int32).toInt = 54 := rfl
theorem lt099 : (99 : Int32).toInt = 99 := rfl
theorem lt0100 : (100 : Int32).toInt = 100 := rfl
theorem lt0120 : (120 : Int32).toInt = 120 := rfl
theorem lt0255 : (255 : Int32).toInt = 255 := rfl
theorem lt01500 : (1500 : Int32).toInt = 1500 := rfl
theorem lt01000000 : (1000000 : Int32).toInt = 1000000 := rfl
theorem ltm1 : (-1 : Int32).toInt = -1 := rfl

/-- x * 8 + y, x * 4 + y where they are small -/
theorem t_m8 {x y : Int32} (hx : 0 ≤ x.toInt ∧ x.toInt < 16) (hy : 0 ≤ y.toInt ∧ y.toInt < 16) : (x * (8 : Int32) + y).toInt = 8 * x.toInt + y.toInt := by
  have h8 : (8 : Int32).toInt = 8 := rfl
  have e : (x * (8 : Int32)).toInt = x.toInt * 8 := by
    rw [t_mul (by rw [h8]; omega), h8]
  rw [t_add (by rw [e]; omega), e]
  omega
theorem t_m4 {x y : Int32} (hx : 0 ≤ x.toInt ∧ x.toInt < 16) (hy : 0 ≤ y.toInt ∧ y.toInt < 16) : (x * (4 : Int32) + y).toInt = 4 * x.toInt + y.toInt := by
  have h4 : (4 : Int32).toInt = 4 := rfl
  have e : (x * (4 : Int32)).toInt = x.toInt * 4 := by
    rw [t_mul (by rw [h4]; omega), h4]
  rw [t_add (by rw [e]; omega), e]
  omega
theorem t_and255 (x : Int32) : 0 ≤ (x &&& (255 : Int32)).toInt ∧ (x &&& (255 : Int32)).toInt ≤ 255 := by
  have h : (x &&& (255 : Int32)).toInt = ((x.toBitVec &&& 255#32).toNat : Int) := by
    show (x.toBitVec &&& 255#32).toInt = _
    rw [BitVec.toInt_eq_toNat_of_lt]
    rw [BitVec.toNat_and]
    have := Nat.and_le_right (n := x.toBitVec.toNat) (m := (255#32).toNat)
    have e : (255#32).toNat = 255 := rfl
    omega
  rw [h, BitVec.toNat_and]
  have := Nat.and_le_right (n := x.toBitVec.toNat) (m := (255#32).toNat)
  have e : (255#32).toNat = 255 := rfl
  omega
theorem t_and15 (x : Int32) : 0 ≤ (x &&& (15 : Int32)).toInt ∧ (x &&& (15 : Int32)).toInt ≤ 15 := by
  have h : (x &&& (15 : Int32)).toInt = ((x.toBitVec &&& 15#32).toNat : Int) := by
    show (x.toBitVec &&& 15#32).toInt = _
    rw [BitVec.toInt_eq_toNat_of_lt]
    rw [BitVec.toNat_and]
    have := Nat.and_le_right (n := x.toBitVec.toNat) (m := (15#32).toNat)
    have e : (15#32).toNat = 15 := rfl
    omega
  rw [h, BitVec.toNat_and]
  have := Nat.and_le_right (n := x.toBitVec.toNat) (m := (15#32).toNat)
  have e : (15#32).toNat = 15 := rfl
  omega
theorem t_i8 (x : Int32) : -128 ≤ (Int8.toInt32 (Int32.toInt8 x)).toInt ∧ (Int8.toInt32 (Int32.toInt8 x)).toInt ≤ 127 := by
  have h1 := Int8.le_toInt (Int32.toInt8 x)
  have h2 := Int8.toInt_lt (Int32.toInt8 x)
  have e : (Int8.toInt32 (Int32.toInt8 x)).toInt = (Int32.toInt8 x).toInt := Int8.toInt_toInt32 _
  rw [e]
  omega
/-! What the ints of a Book keep to: by cell and slot. -/
def cR (k j : Nat) (z : Int) : Prop := match k with
  | 2 => j = 1 → 0 ≤ z ∧ z ≤ 1500
  | 5 => j = 4 → 0 ≤ z ∧ z ≤ 8
  | 6 => -1 ≤ z ∧ z ≤ 7
  | 7 => 0 ≤ z ∧ z ≤ 8
  | 10 => j = 3 → 0 ≤ z ∧ z ≤ 8
  | 11 => 0 ≤ z ∧ z ≤ 4
  | 14 => j = 3 → 0 ≤ z ∧ z ≤ 16
  | 15 => 0 ≤ z ∧ z ≤ 4
  | 18 => 0 ≤ z ∧ z ≤ 8
  | 19 => 0 ≤ z ∧ z ≤ 8
  | 21 => 0 ≤ z ∧ z ≤ 120
  | 27 => -128 ≤ z ∧ z ≤ 127
  | _ => True
/-- Z: what stood before; only the Book's cells may have changed -/
def wP (b : Bool) (Z I : kjI) : Prop := (∀ k, 1 ≤ k → k ≤ 29 → ∀ j, cR k j (I (kb b k) j).toInt) ∧ ∀ q, (∀ k, 1 ≤ k → k ≤ 29 → q ≠ kb b k) → I q = Z q
theorem kb_inj2 {b : Bool} {k k' : Nat} (h : kb b k = kb b k') : k = k' := by
  cases b
  · exact h
  · have h : k + 29 = k' + 29 := h
    omega
theorem wP_up {b : Bool} {Z I : kjI} {k j : Nat} {x : Int32} (h : wP b Z I) (hk : 1 ≤ k ∧ k ≤ 29) (hx : cR k j x.toInt) : wP b Z (mv_up I (kb b k) j x) := by
  refine ⟨fun k' h1 h2 j' => ?_, fun q hq => ?_⟩
  · unfold mv_up
    by_cases e : kb b k' = kb b k
    · rw [if_pos e]
      have e' := kb_inj2 e
      subst e'
      by_cases ej : j' = j
      · rw [if_pos ej, ej]
        exact hx
      · rw [if_neg ej]
        exact h.1 k' h1 h2 j'
    · rw [if_neg e]
      exact h.1 k' h1 h2 j'
  · rw [← h.2 q hq]
    funext j'
    unfold mv_up
    rw [if_neg (hq k hk.1 hk.2)]
section WPA
variable {b : Bool} {Z I : kjI}
theorem wP.len (h : wP b Z I) : 0 ≤ (I (kb b 2) 1).toInt ∧ (I (kb b 2) 1).toInt ≤ 1500 := h.1 2 (by decide) (by decide) 1 rfl
theorem wP.nc (h : wP b Z I) : 0 ≤ (I (kb b 5) 4).toInt ∧ (I (kb b 5) 4).toInt ≤ 8 := h.1 5 (by decide) (by decide) 4 rfl
theorem wP.sup (h : wP b Z I) (j : Nat) : -1 ≤ (I (kb b 6) j).toInt ∧ (I (kb b 6) j).toInt ≤ 7 := h.1 6 (by decide) (by decide) j
theorem wP.fc (h : wP b Z I) (j : Nat) : 0 ≤ (I (kb b 7) j).toInt ∧ (I (kb b 7) j).toInt ≤ 8 := h.1 7 (by decide) (by decide) j
theorem wP.ns (h : wP b Z I) : 0 ≤ (I (kb b 10) 3).toInt ∧ (I (kb b 10) 3).toInt ≤ 8 := h.1 10 (by decide) (by decide) 3 rfl
theorem wP.sc (h : wP b Z I) (j : Nat) : 0 ≤ (I (kb b 11) j).toInt ∧ (I (kb b 11) j).toInt ≤ 4 := h.1 11 (by decide) (by decide) j
theorem wP.nm (h : wP b Z I) : 0 ≤ (I (kb b 14) 3).toInt ∧ (I (kb b 14) 3).toInt ≤ 16 := h.1 14 (by decide) (by decide) 3 rfl
theorem wP.mc (h : wP b Z I) (j : Nat) : 0 ≤ (I (kb b 15) j).toInt ∧ (I (kb b 15) j).toInt ≤ 4 := h.1 15 (by decide) (by decide) j
theorem wP.lo (h : wP b Z I) (j : Nat) : 0 ≤ (I (kb b 18) j).toInt ∧ (I (kb b 18) j).toInt ≤ 8 := h.1 18 (by decide) (by decide) j
theorem wP.sk (h : wP b Z I) (j : Nat) : 0 ≤ (I (kb b 19) j).toInt ∧ (I (kb b 19) j).toInt ≤ 8 := h.1 19 (by decide) (by decide) j
theorem wP.ln (h : wP b Z I) (j : Nat) : 0 ≤ (I (kb b 21) j).toInt ∧ (I (kb b 21) j).toInt ≤ 120 := h.1 21 (by decide) (by decide) j
theorem wP.hh (h : wP b Z I) (j : Nat) : -128 ≤ (I (kb b 27) j).toInt ∧ (I (kb b 27) j).toInt ≤ 127 := h.1 27 (by decide) (by decide) j
end WPA
