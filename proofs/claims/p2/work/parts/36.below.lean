/-! Which one is which or BELOW which. -/
def anc (P : Nat → Int) : Nat → Nat → Nat → Bool
  | 0, c, d => decide (c = d)
  | k + 1, c, d => decide (c = d) || (decide (0 ≤ P c) && anc P k (P c).toNat d)
def HP (nc : Nat) (P : Nat → Int) : Prop := ∀ c, c < nc → -1 ≤ P c ∧ P c < c
theorem anc_fuel {nc : Nat} {P : Nat → Int} (h : HP nc P) (d : Nat) : ∀ (c k k' : Nat), c < nc → c ≤ k → c ≤ k' → anc P k c d = anc P k' c d := by
  intro c
  induction c using Nat.strongRecOn with
  | ind c ih =>
    intro k k' hc hk hk'
    have hp := h c hc
    match k, k' with
    | 0, 0 => rfl
    | 0, k' + 1 =>
      have : ¬ (0 ≤ P c) := by omega
      simp [anc, this]
    | k + 1, 0 =>
      have : ¬ (0 ≤ P c) := by omega
      simp [anc, this]
    | k + 1, k' + 1 =>
      simp only [anc]
      by_cases h0 : 0 ≤ P c
      · rw [ih (P c).toNat (by omega) k k' (by omega) (by omega) (by omega)]
      · simp [h0]
theorem anc_rec {nc : Nat} {P : Nat → Int} (h : HP nc P) (hnc : nc ≤ 8) {c : Nat} (hc : c < nc) (d : Nat) : anc P 8 c d = (decide (c = d) || (decide (0 ≤ P c) && anc P 8 (P c).toNat d)) := by
  have hp := h c hc
  show (decide (c = d) || (decide (0 ≤ P c) && anc P 7 (P c).toNat d)) = _
  by_cases h0 : 0 ≤ P c
  · rw [anc_fuel h d (P c).toNat 7 8 (by omega) (by omega) (by omega)]
  · simp [h0]
theorem anc_le {nc : Nat} {P : Nat → Int} (h : HP nc P) (hnc : nc ≤ 8) {c : Nat} (hc : c < nc) {d : Nat} (ha : anc P 8 c d = true) : d ≤ c := by
  induction c using Nat.strongRecOn with
  | ind c ih =>
    rw [anc_rec h hnc hc] at ha
    have hp := h c hc
    by_cases h1 : c = d
    · omega
    · simp [h1] at ha
      have := ih (P c).toNat (by omega) (by omega) ha.2
      omega
theorem w_bit (A d : Nat) (hA : A < 256) (hd : d < 8) : (((w A) >>> (w d &&& 31)) &&& 1 = 1) ↔ A.testBit d = true := by
  have key : ∀ (A : Fin 256) (d : Fin 8), (((Int32.ofInt ((A.1 : Nat) : Int)) >>> (Int32.ofInt ((d.1 : Nat) : Int) &&& 31)) &&& 1 = 1) ↔ A.1.testBit d.1 = true := by decide +kernel
  exact key ⟨A, hA⟩ ⟨d, hd⟩
/-- the relation of below, in both stores -/
abbrev AB (b : Bool) (nc : Nat) (P : Nat → Int) (I J : kjI) : Prop := (HP nc P) ∧ (nc ≤ 8) ∧ (I (kb b 5) 4 = w nc) ∧ (J 59 12 = w nc) ∧ (∀ c, c < nc → I (kb b 6) c = w (P c)) ∧ (∀ c, c < nc → J 63 c = w (P c)) ∧ (∀ c, c < nc → ∃ A : Nat, A < 256 ∧ I (kb b 9) c = w A ∧ ∀ d, d < 8 → A.testBit d = anc P 8 c d)
theorem AB.hp {b : Bool} {nc : Nat} {P : Nat → Int} {I J : kjI} (h : AB b nc P I J) : HP nc P := h.1
theorem AB.le {b : Bool} {nc : Nat} {P : Nat → Int} {I J : kjI} (h : AB b nc P I J) : nc ≤ 8 := h.2.1
theorem AB.n1 {b : Bool} {nc : Nat} {P : Nat → Int} {I J : kjI} (h : AB b nc P I J) : I (kb b 5) 4 = w nc := h.2.2.1
theorem AB.n2 {b : Bool} {nc : Nat} {P : Nat → Int} {I J : kjI} (h : AB b nc P I J) : J 59 12 = w nc := h.2.2.2.1
theorem AB.sup1 {b : Bool} {nc : Nat} {P : Nat → Int} {I J : kjI} (h : AB b nc P I J) : ∀ c, c < nc → I (kb b 6) c = w (P c) := h.2.2.2.2.1
theorem AB.sup2 {b : Bool} {nc : Nat} {P : Nat → Int} {I J : kjI} (h : AB b nc P I J) : ∀ c, c < nc → J 63 c = w (P c) := h.2.2.2.2.2.1
theorem AB.bits {b : Bool} {nc : Nat} {P : Nat → Int} {I J : kjI} (h : AB b nc P I J) : ∀ c, c < nc → ∃ A : Nat, A < 256 ∧ I (kb b 9) c = w A ∧ ∀ d, d < 8 → A.testBit d = anc P 8 c d := h.2.2.2.2.2.2
theorem CD.ab {b : Bool} {nc : Nat} {I J : kjI} (h : CD b nc nc I J) (hnc : nc ≤ 8) (h1 : I (kb b 5) 4 = w nc) (h2 : J 59 12 = w nc) : AB b nc (fun c => (J 63 c).toInt) I J := by
  have hP : HP nc (fun c => (J 63 c).toInt) := by
    intro c hc
    obtain ⟨p, f, A, hA⟩ := h c hc
    have := hA.supr
    show -1 ≤ (J 63 c).toInt ∧ (J 63 c).toInt < c
    rw [hA.sup2, w_toInt (by omega)]
    exact this
  refine ⟨hP, hnc, h1, h2, fun c hc => ?_, fun c hc => (w_of _).symm, ?_⟩
  · obtain ⟨p, f, A, hA⟩ := h c hc
    rw [w_of, hA.sup1, hA.sup2]
  · intro c
    induction c using Nat.strongRecOn with
    | ind c ih =>
      intro hc
      obtain ⟨p, f, A, hA⟩ := h c hc
      have hr := hA.supr
      have hp : (J 63 c).toInt = p := by rw [hA.sup2, w_toInt (by omega)]
      refine ⟨A, hA.abr, hA.ab, fun d hd => ?_⟩
      rw [anc_rec hP hnc hc, hp]
      by_cases h0 : p < 0
      · rw [hA.ab0 h0, Nat.testBit_two_pow]
        have : ¬ (0 ≤ p) := by omega
        simp [this]
      · obtain ⟨A', g1, g2, g3⟩ := hA.ab1 (by omega)
        obtain ⟨A2, k1, k2, k3⟩ := ih p.toNat (by omega) (by omega)
        have hAA : A' = A2 := by
          rw [g1] at k2
          have := congrArg Int32.toInt k2
          rw [w_toInt (by omega), w_toInt (by omega)] at this
          omega
        subst hAA
        rw [g3, Nat.testBit_or, Nat.testBit_two_pow, k3 d hd]
        have : 0 ≤ p := by omega
        simp [this]
theorem c_below {b : Bool} {nc : Nat} {P : Nat → Int} {I J : kjI} (h : AB b nc P I J) (L : kjL) {c d : Int} (hc : -2147483648 ≤ c ∧ c < 2147483648) (hd : -2147483648 ≤ d ∧ d < 2147483648) :
    kf41 b I L (w c) (w d) = some (w (bi (decide (0 ≤ c ∧ c < nc ∧ 0 ≤ d ∧ d < nc) && anc P 8 c.toNat d.toNat))) := by
  have hnc := h.le
  unfold kf41
  rw [h.n1]
  by_cases c1 : 0 ≤ c ∧ c < nc ∧ 0 ≤ d ∧ d < nc
  · obtain ⟨A, k1, k2, k3⟩ := h.bits c.toNat (by omega)
    obtain ⟨d, rfl⟩ : ∃ q : Nat, d = q := ⟨d.toNat, by omega⟩
    rw [if_neg (by (simp (disch := omega) only [w_lit, w_neg, w_add, w_sub, w_mul, w_lt, w_le, w_eq, w_clamp, w_in, not_true_eq_false, not_false_eq_true, Classical.not_not]); omega), if_neg (by (simp (disch := omega) only [w_lit, w_neg, w_add, w_sub, w_mul, w_lt, w_le, w_eq, w_clamp, w_in, not_true_eq_false, not_false_eq_true, Classical.not_not]); omega), if_neg (by (simp (disch := omega) only [w_lit, w_neg, w_add, w_sub, w_mul, w_lt, w_le, w_eq, w_clamp, w_in, not_true_eq_false, not_false_eq_true, Classical.not_not]); omega), if_neg (by (simp (disch := omega) only [w_lit, w_neg, w_add, w_sub, w_mul, w_lt, w_le, w_eq, w_clamp, w_in, not_true_eq_false, not_false_eq_true, Classical.not_not]); omega), bif_in (by omega) (by decide), w_clamp (by omega), k2]
    have hb := w_bit A d k1 (by omega)
    have k4 := k3 d (by omega)
    rw [Int.toNat_natCast, ← k4]
    simp only [c1, and_self, decide_true, Bool.true_and]
    by_cases hx : A.testBit d = true
    · rw [if_neg (fun z => z (hb.mpr hx)), hx]
      rfl
    · rw [if_pos (fun z => hx (hb.mp z))]
      simp only [Bool.not_eq_true] at hx
      rw [hx]
      rfl
  · have e : (decide (0 ≤ c ∧ c < nc ∧ 0 ≤ d ∧ d < nc) && anc P 8 c.toNat d.toNat) = false := by
      simp only [c1, decide_false, Bool.false_and]
    rw [e]
    by_cases d1 : c < 0
    · rw [if_pos (by (simp (disch := omega) only [w_lit, w_neg, w_add, w_sub, w_mul, w_lt, w_le, w_eq, w_clamp, w_in, not_true_eq_false, not_false_eq_true, Classical.not_not]); omega)]; rfl
    rw [if_neg (by (simp (disch := omega) only [w_lit, w_neg, w_add, w_sub, w_mul, w_lt, w_le, w_eq, w_clamp, w_in, not_true_eq_false, not_false_eq_true, Classical.not_not]); omega)]
    by_cases d2 : (nc : Int) ≤ c
    · rw [if_pos (by (simp (disch := omega) only [w_lit, w_neg, w_add, w_sub, w_mul, w_lt, w_le, w_eq, w_clamp, w_in, not_true_eq_false, not_false_eq_true, Classical.not_not]); omega)]; rfl
    rw [if_neg (by (simp (disch := omega) only [w_lit, w_neg, w_add, w_sub, w_mul, w_lt, w_le, w_eq, w_clamp, w_in, not_true_eq_false, not_false_eq_true, Classical.not_not]); omega)]
    by_cases d3 : d < 0
    · rw [if_pos (by (simp (disch := omega) only [w_lit, w_neg, w_add, w_sub, w_mul, w_lt, w_le, w_eq, w_clamp, w_in, not_true_eq_false, not_false_eq_true, Classical.not_not]); omega)]; rfl
    rw [if_neg (by (simp (disch := omega) only [w_lit, w_neg, w_add, w_sub, w_mul, w_lt, w_le, w_eq, w_clamp, w_in, not_true_eq_false, not_false_eq_true, Classical.not_not]); omega), if_pos (by (simp (disch := omega) only [w_lit, w_neg, w_add, w_sub, w_mul, w_lt, w_le, w_eq, w_clamp, w_in, not_true_eq_false, not_false_eq_true, Classical.not_not]); omega)]; rfl
theorem m_below_loop {b : Bool} {nc : Nat} {P : Nat → Int} {I J : kjI} (h : AB b nc P I J) (N : Nat) (L : kjL) {d : Int} (hd : -2147483648 ≤ d ∧ d < 2147483648) : ∀ (k : Nat) (z : Int) (m : Nat), -1 ≤ z → z < nc → z < k → k < m →
    kf109_7 N J L m (w d) (w z) = some (w (bi (decide (0 ≤ z ∧ 0 ≤ d) && anc P 8 z.toNat d.toNat))) := by
  have hnc := h.le
  intro k
  induction k with
  | zero =>
    intro z m h1 h2 h3 h4
    obtain ⟨m, rfl⟩ : ∃ q, m = q + 1 := ⟨m - 1, by omega⟩
    unfold kf109_7 kf109_26
    rw [if_pos (by (simp (disch := omega) only [w_lit, w_neg, w_add, w_sub, w_mul, w_lt, w_le, w_eq, w_clamp, w_in, not_true_eq_false, not_false_eq_true, Classical.not_not]); omega), if_pos (by (simp (disch := omega) only [w_lit, w_neg, w_add, w_sub, w_mul, w_lt, w_le, w_eq, w_clamp, w_in, not_true_eq_false, not_false_eq_true, Classical.not_not]); omega)]
    have : ¬ (0 ≤ z ∧ 0 ≤ d) := by omega
    simp only [this, decide_false, Bool.false_and]
    rfl
  | succ k ih =>
    intro z m h1 h2 h3 h4
    obtain ⟨m, rfl⟩ : ∃ q, m = q + 1 := ⟨m - 1, by omega⟩
    unfold kf109_7 kf109_26
    by_cases hz : z < 0
    · rw [if_pos (by (simp (disch := omega) only [w_lit, w_neg, w_add, w_sub, w_mul, w_lt, w_le, w_eq, w_clamp, w_in, not_true_eq_false, not_false_eq_true, Classical.not_not]); omega), if_pos (by (simp (disch := omega) only [w_lit, w_neg, w_add, w_sub, w_mul, w_lt, w_le, w_eq, w_clamp, w_in, not_true_eq_false, not_false_eq_true, Classical.not_not]); omega)]
      have : ¬ (0 ≤ z ∧ 0 ≤ d) := by omega
      simp only [this, decide_false, Bool.false_and]
      rfl
    · rw [if_neg (by (simp (disch := omega) only [w_lit, w_neg, w_add, w_sub, w_mul, w_lt, w_le, w_eq, w_clamp, w_in, not_true_eq_false, not_false_eq_true, Classical.not_not]); omega)]
      have hzc : z.toNat < nc := by omega
      have hp := h.hp z.toNat hzc
      rw [anc_rec h.hp hnc hzc]
      by_cases hzd : z = d
      · rw [if_pos (by rw [hzd]), if_neg (by (simp (disch := omega) only [w_lit, w_neg, w_add, w_sub, w_mul, w_lt, w_le, w_eq, w_clamp, w_in, not_true_eq_false, not_false_eq_true, Classical.not_not]); omega)]
        subst hzd
        have : 0 ≤ z ∧ 0 ≤ z := by omega
        simp only [this, decide_true, Bool.true_and, and_self, Bool.true_or]
        rfl
      · rw [if_neg (by (simp (disch := omega) only [w_lit, w_neg, w_add, w_sub, w_mul, w_lt, w_le, w_eq, w_clamp, w_in, not_true_eq_false, not_false_eq_true, Classical.not_not]); omega), bif_in (by omega) (by decide), w_clamp (by omega), h.sup2 _ hzc]
        have := ih (P z.toNat) m (by omega) (by omega) (by omega) (by omega)
        simp only
        rw [this]
        by_cases hd0 : 0 ≤ d
        · have e1 : ¬ z.toNat = d.toNat := by omega
          have e2 : 0 ≤ z := by omega
          by_cases hP0 : 0 ≤ P z.toNat
          · simp [e1, e2, hd0, hP0]
          · simp [e1, e2, hd0, hP0]
        · simp [hd0]
theorem m_below {b : Bool} {nc : Nat} {P : Nat → Int} {I J : kjI} (h : AB b nc P I J) (N : Nat) (hN : 20 ≤ N) (L : kjL) {c : Nat} {d : Int} (hc : c < nc) (hd : -2147483648 ≤ d ∧ d < 2147483648) :
    kf109 N J L (w c) (w d) = some (w (bi (decide (0 ≤ P c ∧ 0 ≤ d) && anc P 8 (P c).toNat d.toNat))) := by
  have hnc := h.le
  have hp := h.hp c hc
  unfold kf109
  rw [bif_in (by omega) (by decide), w_clamp (by omega), Int.toNat_natCast, h.sup2 c hc]
  exact m_below_loop h N L hd 8 (P c) N (by omega) (by omega) (by omega) (by omega)
theorem m_isOf {b : Bool} {nc : Nat} {P : Nat → Int} {I J : kjI} (h : AB b nc P I J) (N : Nat) (hN : 20 ≤ N) (L : kjL) {c d : Nat} (hc : c < nc) (hd : d < 2147483648) :
    kf110 N J L (w c) (w d) = some (w (bi (anc P 8 c d))) := by
  have hnc := h.le
  have hp := h.hp c hc
  unfold kf110
  rw [m_below h N hN L hc (by omega), anc_rec h.hp hnc hc]
  by_cases e : c = d
  · subst e
    rw [if_pos rfl]
    simp
    rfl
  · rw [if_neg (by (simp (disch := omega) only [w_lit, w_neg, w_add, w_sub, w_mul, w_lt, w_le, w_eq, w_clamp, w_in, not_true_eq_false, not_false_eq_true, Classical.not_not]); omega)]
    have e1 : (decide (0 ≤ P c ∧ (0 : Int) ≤ (d : Int)) && anc P 8 (P c).toNat (d : Int).toNat) = (decide (0 ≤ P c) && anc P 8 (P c).toNat d) := by
      have : (0 : Int) ≤ (d : Int) := by omega
      simp [this]
    rw [e1, sbind]
    have e2 : (decide (c = d)) = false := by simp [e]
    rw [e2, Bool.false_or]
    cases (decide (0 ≤ P c) && anc P 8 (P c).toNat d)
    · rfl
    · rfl
