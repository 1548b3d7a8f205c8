/-! Which METHOD may stand for which SELECTOR; the table. -/
theorem w_div (a b : Nat) (ha : a < 2147483648) (hb : 0 < b ∧ b < 2147483648) : w a / w b = w (a / b : Nat) := by
  apply Int32.toInt_inj.mp
  have h1 : a / b ≤ a := Nat.div_le_self a b
  have h2 : ((a : Int).tdiv (b : Int)) = ((a / b : Nat) : Int) := rfl
  rw [Int32.toInt_div, w_toInt (z := (a : Int)) (by omega), w_toInt (z := (b : Int)) (by omega), h2]
  generalize a / b = q at h1
  rw [w_toInt (by omega), Int.bmod_eq_of_le] <;> omega
theorem c_npar {b : Bool} {n nc nm a : Nat} {B : Nat → Nat} {I J : kjI} (hM : MD b n B nc nm a I J) (hnm : nm ≤ 16) (h1 : I (kb b 14) 3 = w nm) (L : kjL) {m : Nat} (hm : m < nm) : kf50 b I L (w m) = some (I (kb b 15) m) := by
  unfold kf50
  rw [h1, if_neg (by (simp (disch := omega) only [w_lit, w_neg, w_add, w_sub, w_mul, w_lt, w_le, w_eq, w_clamp, w_in, not_true_eq_false, not_false_eq_true, Classical.not_not]); omega), if_neg (by (simp (disch := omega) only [w_lit, w_neg, w_add, w_sub, w_mul, w_lt, w_le, w_eq, w_clamp, w_in, not_true_eq_false, not_false_eq_true, Classical.not_not]); omega), bif_in (by omega) (by decide), w_clamp (by omega), Int.toNat_natCast]
theorem c_nsel {b : Bool} {ns : Nat} {I : kjI} (hns : ns ≤ 8) (h1 : I (kb b 10) 3 = w ns) (L : kjL) {m : Nat} (hm : m < ns) : kf50a b I L (w m) = some (I (kb b 11) m) := by
  unfold kf50a
  rw [h1, if_neg (by (simp (disch := omega) only [w_lit, w_neg, w_add, w_sub, w_mul, w_lt, w_le, w_eq, w_clamp, w_in, not_true_eq_false, not_false_eq_true, Classical.not_not]); omega), if_neg (by (simp (disch := omega) only [w_lit, w_neg, w_add, w_sub, w_mul, w_lt, w_le, w_eq, w_clamp, w_in, not_true_eq_false, not_false_eq_true, Classical.not_not]); omega), bif_in (by omega) (by decide), w_clamp (by omega), Int.toNat_natCast]
/-- what is known ahead of the table -/
abbrev PD (b : Bool) (n : Nat) (B : Nat → Nat) (nc ns nm a : Nat) (P : Nat → Int) (I J : kjI) : Prop := (CD b nc nc I J) ∧ (AB b nc P I J) ∧ (SD b nc ns I J) ∧ (MD b n B nc nm a I J) ∧ (ns ≤ 8) ∧ (1 ≤ nm ∧ nm ≤ 16) ∧ (I (kb b 10) 3 = w ns) ∧ (J 59 16 = w ns) ∧ (I (kb b 14) 3 = w nm) ∧ (J 59 20 = w nm)
theorem PD.cd {b : Bool} {n : Nat} {B : Nat → Nat} {nc ns nm a : Nat} {P : Nat → Int} {I J : kjI} (h : PD b n B nc ns nm a P I J) : CD b nc nc I J := h.1
theorem PD.ab {b : Bool} {n : Nat} {B : Nat → Nat} {nc ns nm a : Nat} {P : Nat → Int} {I J : kjI} (h : PD b n B nc ns nm a P I J) : AB b nc P I J := h.2.1
theorem PD.sd {b : Bool} {n : Nat} {B : Nat → Nat} {nc ns nm a : Nat} {P : Nat → Int} {I J : kjI} (h : PD b n B nc ns nm a P I J) : SD b nc ns I J := h.2.2.1
theorem PD.md {b : Bool} {n : Nat} {B : Nat → Nat} {nc ns nm a : Nat} {P : Nat → Int} {I J : kjI} (h : PD b n B nc ns nm a P I J) : MD b n B nc nm a I J := h.2.2.2.1
theorem PD.ns8 {b : Bool} {n : Nat} {B : Nat → Nat} {nc ns nm a : Nat} {P : Nat → Int} {I J : kjI} (h : PD b n B nc ns nm a P I J) : ns ≤ 8 := h.2.2.2.2.1
theorem PD.nm16 {b : Bool} {n : Nat} {B : Nat → Nat} {nc ns nm a : Nat} {P : Nat → Int} {I J : kjI} (h : PD b n B nc ns nm a P I J) : 1 ≤ nm ∧ nm ≤ 16 := h.2.2.2.2.2.1
theorem PD.ns1 {b : Bool} {n : Nat} {B : Nat → Nat} {nc ns nm a : Nat} {P : Nat → Int} {I J : kjI} (h : PD b n B nc ns nm a P I J) : I (kb b 10) 3 = w ns := h.2.2.2.2.2.2.1
theorem PD.ns2 {b : Bool} {n : Nat} {B : Nat → Nat} {nc ns nm a : Nat} {P : Nat → Int} {I J : kjI} (h : PD b n B nc ns nm a P I J) : J 59 16 = w ns := h.2.2.2.2.2.2.2.1
theorem PD.nm1 {b : Bool} {n : Nat} {B : Nat → Nat} {nc ns nm a : Nat} {P : Nat → Int} {I J : kjI} (h : PD b n B nc ns nm a P I J) : I (kb b 14) 3 = w nm := h.2.2.2.2.2.2.2.2.1
theorem PD.nm2 {b : Bool} {n : Nat} {B : Nat → Nat} {nc ns nm a : Nat} {P : Nat → Int} {I J : kjI} (h : PD b n B nc ns nm a P I J) : J 59 20 = w nm := h.2.2.2.2.2.2.2.2.2
theorem r_good_loop {b : Bool} {n nc ns nm a : Nat} {B : Nat → Nat} {P : Nat → Int} {I J : kjI} (h : PD b n B nc ns nm a P I J) (N : Nat) (L L' : kjL) {m c s : Nat} (hm : m < nm) (hc : c < nc) (hs : s < ns) {q : Nat} (hq : q ≤ 3) (g1 : I (kb b 15) m = w (q + 1 : Nat)) (g2 : I (kb b 11) s = w q) {t0 : Nat} (ht : I (kb b 16) (4 * m) = w t0) (hty : tyOk nc false t0) :
    ∀ (k i f f' : Nat), q - i < f → q - i < f' → q - i = k → i ≤ q → ∃ g : Bool, kf28_62 b N I L f (w m) (w c) (w s) (w q) (w i) = some (w (bi (g && (decide (16 ≤ t0) && anc P 8 c (t0 - 16))))) ∧ kf111_69 N J L' f' (w s) (w m) (w i) = some (w (bi g)) := by
  have hnc := h.ab.le
  have hns := h.ns8
  have hnm := h.nm16
  have hJ : J 66 s = w q := by
    obtain ⟨p, r, hA⟩ := h.sd s hs
    rw [hA.n2, ← hA.n1, g2]
  intro k
  induction k with
  | zero =>
    intro i f f' hf hf' hk hi
    obtain ⟨f, rfl⟩ : ∃ q, f = q + 1 := ⟨f - 1, by omega⟩
    obtain ⟨f', rfl⟩ : ∃ q, f' = q + 1 := ⟨f' - 1, by omega⟩
    refine ⟨true, ?_, ?_⟩
    · unfold kf28_62 kf51
      rw [if_pos (by (simp (disch := omega) only [w_lit, w_neg, w_add, w_sub, w_mul, w_lt, w_le, w_eq, w_clamp, w_in, not_true_eq_false, not_false_eq_true, Classical.not_not]); omega), if_neg (by decide), c_npar h.md hnm.2 h.nm1 L hm, sbind, g1, if_neg (by (simp (disch := omega) only [w_lit, w_neg, w_add, w_sub, w_mul, w_lt, w_le, w_eq, w_clamp, w_in, not_true_eq_false, not_false_eq_true, Classical.not_not]); omega)]
      (simp only [w_lit, w_neg, w_add, w_sub, w_mul])
      rw [bif_in (by omega) (by decide), w_clamp (by omega), sbind, show ((m : Int) * 4 + 0).toNat = 4 * m by omega, ht, w_sub]
      have hr : t0 < 24 := by
        unfold tyOk at hty
        omega
      rw [c_below h.ab L (by omega) (by omega), sbind]
      have e : (decide ((0:Int) ≤ (c:Int) ∧ (c:Int) < nc ∧ 0 ≤ ((t0 : Int) - 16) ∧ ((t0 : Int) - 16) < nc) && anc P 8 (c : Int).toNat ((t0 : Int) - 16).toNat) = (true && (decide (16 ≤ t0) && anc P 8 c (t0 - 16))) := by
        rw [Int.toNat_natCast, show ((t0 : Int) - 16).toNat = t0 - 16 by omega]
        by_cases h16 : 16 ≤ t0
        · have h1 : ((0:Int) ≤ (c:Int) ∧ (c:Int) < nc ∧ 0 ≤ ((t0 : Int) - 16) ∧ ((t0 : Int) - 16) < nc) := by
            unfold tyOk at hty
            omega
          simp only [h1, h16, and_self, decide_true, Bool.true_and]
        · have h1 : ¬ ((0:Int) ≤ (c:Int) ∧ (c:Int) < nc ∧ 0 ≤ ((t0 : Int) - 16) ∧ ((t0 : Int) - 16) < nc) := by omega
          simp only [h1, h16, decide_false, Bool.false_and, Bool.and_false]
      rw [e]
      cases (true && (decide (16 ≤ t0) && anc P 8 c (t0 - 16)))
      · rfl
      · rfl
    · unfold kf111_69
      rw [bif_in (by omega) (by decide), w_clamp (by omega), Int.toNat_natCast, hJ, if_pos (by (simp (disch := omega) only [w_lit, w_neg, w_add, w_sub, w_mul, w_lt, w_le, w_eq, w_clamp, w_in, not_true_eq_false, not_false_eq_true, Classical.not_not]); omega)]
      rfl
  | succ k ih =>
    intro i f f' hf hf' hk hi
    obtain ⟨f, rfl⟩ : ∃ q, f = q + 1 := ⟨f - 1, by omega⟩
    obtain ⟨f', rfl⟩ : ∃ q, f' = q + 1 := ⟨f' - 1, by omega⟩
    obtain ⟨p, r, hA⟩ := h.sd s hs
    obtain ⟨pm, rm, lom, stm, lnm, sam, hM, -⟩ := h.md m hm
    have ep : p = q := by
      have := hA.n1
      rw [g2] at this
      have := congrArg Int32.toInt this
      have h3 := hA.nr
      rw [w_toInt (by omega), w_toInt (by omega)] at this
      omega
    have epm : pm = q + 1 := by
      have := hM.n1
      rw [g1] at this
      have := congrArg Int32.toInt this
      have h3 := hM.nr
      rw [w_toInt (by omega), w_toInt (by omega)] at this
      omega
    obtain ⟨ts, a1, a2, a3⟩ := hA.ty i (by omega)
    obtain ⟨tm, b1, b2, b3⟩ := hM.ty (i + 1) (by omega)
    have hts : ts < 24 := by
      unfold tyOk at a3
      omega
    have htm : tm < 24 := by
      unfold tyOk at b3
      omega
    obtain ⟨g, q1, q2⟩ := ih (i + 1) f f' (by omega) (by omega) (by omega) (by omega)
    refine ⟨decide (tm = ts) && g, ?_, ?_⟩
    · unfold kf28_62 kf51 kf51a
      rw [if_neg (by (simp (disch := omega) only [w_lit, w_neg, w_add, w_sub, w_mul, w_lt, w_le, w_eq, w_clamp, w_in, not_true_eq_false, not_false_eq_true, Classical.not_not]); omega)]
      (simp only [w_lit, w_neg, w_add, w_sub, w_mul])
      rw [if_neg (by (simp (disch := omega) only [w_lit, w_neg, w_add, w_sub, w_mul, w_lt, w_le, w_eq, w_clamp, w_in, not_true_eq_false, not_false_eq_true, Classical.not_not]); omega), if_neg (by (simp (disch := omega) only [w_lit, w_neg, w_add, w_sub, w_mul, w_lt, w_le, w_eq, w_clamp, w_in, not_true_eq_false, not_false_eq_true, Classical.not_not]); omega), c_npar h.md hnm.2 h.nm1 L hm, sbind, g1, if_neg (by (simp (disch := omega) only [w_lit, w_neg, w_add, w_sub, w_mul, w_lt, w_le, w_eq, w_clamp, w_in, not_true_eq_false, not_false_eq_true, Classical.not_not]); omega), bif_in (by omega) (by decide), w_clamp (by omega), sbind, c_nsel hns h.ns1 L hs, sbind, g2, if_neg (by (simp (disch := omega) only [w_lit, w_neg, w_add, w_sub, w_mul, w_lt, w_le, w_eq, w_clamp, w_in, not_true_eq_false, not_false_eq_true, Classical.not_not]); omega), bif_in (by omega) (by decide), w_clamp (by omega), sbind]
      rw [show ((m : Int) * 4 + ((i : Int) + 1)).toNat = 4 * m + (i + 1) by omega, show ((s : Int) * 4 + (i : Int)).toNat = 4 * s + i by omega, a1, b1]
      by_cases ht : tm = ts
      · rw [if_pos (by rw [ht]), show ((i : Int) + 1) = ((i + 1 : Nat) : Int) by omega, q1]
        simp [ht]
      · rw [if_neg (by (simp (disch := omega) only [w_lit, w_neg, w_add, w_sub, w_mul, w_lt, w_le, w_eq, w_clamp, w_in, not_true_eq_false, not_false_eq_true, Classical.not_not]); omega)]
        simp [ht]
        rfl
    · unfold kf111_69
      rw [bif_in (by omega) (by decide), w_clamp (by omega), Int.toNat_natCast, hJ, if_neg (by (simp (disch := omega) only [w_lit, w_neg, w_add, w_sub, w_mul, w_lt, w_le, w_eq, w_clamp, w_in, not_true_eq_false, not_false_eq_true, Classical.not_not]); omega)]
      (simp only [w_lit, w_neg, w_add, w_sub, w_mul])
      rw [bif_in (by omega) (by decide), bif_in (by omega) (by decide), w_clamp (by omega), w_clamp (by omega)]
      rw [show (4 * (m : Int) + 1 + (i : Int)).toNat = 4 * m + (i + 1) by omega, show (3 * (s : Int) + (i : Int)).toNat = 3 * s + i by omega, a2, b2]
      by_cases ht : tm = ts
      · rw [if_pos (by rw [ht]), show ((i : Int) + 1) = ((i + 1 : Nat) : Int) by omega, q2]
        simp [ht]
      · rw [if_neg (by (simp (disch := omega) only [w_lit, w_neg, w_add, w_sub, w_mul, w_lt, w_le, w_eq, w_clamp, w_in, not_true_eq_false, not_false_eq_true, Classical.not_not]); omega)]
        simp [ht]
        rfl
theorem r_good {b : Bool} {n nc ns nm a : Nat} {B : Nat → Nat} {P : Nat → Int} {I J : kjI} (h : PD b n B nc ns nm a P I J) (N : Nat) (hN : 20 ≤ N) (L L' : kjL) {m c s : Nat} (hm : m < nm) (hc : c < nc) (hs : s < ns) :
    ∃ g : Bool, kf28 b N I L (w m) (w c) (w s) = some (w (bi g)) ∧ kf111 N J L' (w c) (w s) (w m) = some (w (bi g)) := by
  have hnc := h.ab.le
  have hns := h.ns8
  have hnm := h.nm16
  obtain ⟨q, r, hA⟩ := h.sd s hs
  obtain ⟨pm, rm, lom, stm, lnm, sam, hM, -⟩ := h.md m hm
  have hq := hA.nr
  have hpm := hM.nr
  have hrr := hA.rr
  have hrm := hM.rr
  have hr1 : r < 24 := by
    unfold tyOk at hrr
    omega
  have hr2 : rm < 24 := by
    unfold tyOk at hrm
    omega
  unfold kf28 kf111 kf49 kf52 kf52a
  rw [c_nsel hns h.ns1 L hs, sbind, h.nm1, h.ns1, if_neg (by (simp (disch := omega) only [w_lit, w_neg, w_add, w_sub, w_mul, w_lt, w_le, w_eq, w_clamp, w_in, not_true_eq_false, not_false_eq_true, Classical.not_not]); omega), if_neg (by (simp (disch := omega) only [w_lit, w_neg, w_add, w_sub, w_mul, w_lt, w_le, w_eq, w_clamp, w_in, not_true_eq_false, not_false_eq_true, Classical.not_not]); omega), sbind, if_neg (by decide), c_npar h.md hnm.2 h.nm1 L hm, sbind, hM.n1, hA.n1]
  rw [if_neg (show ¬ w m < 0 by (simp (disch := omega) only [w_lit, w_neg, w_add, w_sub, w_mul, w_lt, w_le, w_eq, w_clamp, w_in, not_true_eq_false, not_false_eq_true, Classical.not_not]); omega), if_neg (show ¬ w nm ≤ w m by (simp (disch := omega) only [w_lit, w_neg, w_add, w_sub, w_mul, w_lt, w_le, w_eq, w_clamp, w_in, not_true_eq_false, not_false_eq_true, Classical.not_not]); omega), if_neg (show ¬ w s < 0 by (simp (disch := omega) only [w_lit, w_neg, w_add, w_sub, w_mul, w_lt, w_le, w_eq, w_clamp, w_in, not_true_eq_false, not_false_eq_true, Classical.not_not]); omega), if_neg (show ¬ w ns ≤ w s by (simp (disch := omega) only [w_lit, w_neg, w_add, w_sub, w_mul, w_lt, w_le, w_eq, w_clamp, w_in, not_true_eq_false, not_false_eq_true, Classical.not_not]); omega)]
  simp only [w_in_t (n := 16) (show (0:Int) ≤ m ∧ (m:Int) < (16:Nat) by omega), w_in_t (n := 16) (show (0:Int) ≤ s ∧ (s:Int) < (16:Nat) by omega), w_in_t (n := 8) (show (0:Int) ≤ s ∧ (s:Int) < (8:Nat) by omega), cond_true, w_clamp (show -2147483648 ≤ (m : Int) ∧ (m : Int) < 2147483648 by omega), w_clamp (show -2147483648 ≤ (s : Int) ∧ (s : Int) < 2147483648 by omega), Int.toNat_natCast, sbind]
  (simp only [w_lit, w_neg, w_add, w_sub, w_mul])
  rw [hM.r1, hA.r1, hM.n2, hA.n2, hM.r2, hA.r2, bif_in (show (0:Int) ≤ 4 * (m : Int) ∧ 4 * (m : Int) < (64 : Nat) by omega) (by decide), w_clamp (show -2147483648 ≤ 4 * (m : Int) ∧ 4 * (m : Int) < 2147483648 by omega), show (4 * (m : Int)).toNat = 4 * m by omega]
  (simp only [w_lit, w_neg, w_add, w_sub, w_mul])
  by_cases c1 : pm = q + 1
  · subst c1
    obtain ⟨t0, d1, d2, d3⟩ := hM.ty 0 (by omega)
    have ht0 : t0 < 24 := by
      unfold tyOk at d3
      omega
    have hqq : w ((q + 1 : Nat) : Int) = w ((q : Int) + 1) := rfl
    rw [if_pos hqq, if_neg (show ¬ ¬ w ((q + 1 : Nat) : Int) = w ((q : Int) + 1) from fun z => z hqq)]
    by_cases c2 : rm = r
    · subst c2
      rw [if_pos rfl, if_neg (show ¬ ¬ w (rm : Int) = w (rm : Int) from fun z => z rfl)]
      obtain ⟨g, q1, q2⟩ := r_good_loop h N L L' hm hc hs hq hM.n1 hA.n1 (t0 := t0) d1 d3 (q - 0) 0 N N (by omega) (by omega) rfl (by omega)
      refine ⟨g && (decide (16 ≤ t0) && anc P 8 c (t0 - 16)), q1, ?_⟩
      rw [show J 70 (4 * m) = w t0 from d2]
      by_cases h16 : 16 ≤ t0
      · rw [if_neg (by (simp (disch := omega) only [w_lit, w_neg, w_add, w_sub, w_mul, w_lt, w_le, w_eq, w_clamp, w_in, not_true_eq_false, not_false_eq_true, Classical.not_not]); omega), bif_in (by omega) (by decide), w_sub, show ((t0 : Int) - 16) = ((t0 - 16 : Nat) : Int) by omega, m_isOf h.ab N hN L' hc (d := t0 - 16) (by omega), sbind]
        cases hx : anc P 8 c (t0 - 16)
        · rw [if_neg (by decide)]
          simp
          rfl
        · rw [if_pos (by decide)]
          simp only [h16, decide_true, Bool.true_and, Bool.and_true]
          exact q2
      · rw [if_pos (by (simp (disch := omega) only [w_lit, w_neg, w_add, w_sub, w_mul, w_lt, w_le, w_eq, w_clamp, w_in, not_true_eq_false, not_false_eq_true, Classical.not_not]); omega)]
        simp [h16]
        rfl
    · refine ⟨false, ?_, ?_⟩
      · rw [if_neg (by (simp (disch := omega) only [w_lit, w_neg, w_add, w_sub, w_mul, w_lt, w_le, w_eq, w_clamp, w_in, not_true_eq_false, not_false_eq_true, Classical.not_not]); omega)]
        rfl
      · rw [if_pos (by (simp (disch := omega) only [w_lit, w_neg, w_add, w_sub, w_mul, w_lt, w_le, w_eq, w_clamp, w_in, not_true_eq_false, not_false_eq_true, Classical.not_not]); omega)]
        rfl
  · refine ⟨false, ?_, ?_⟩
    · rw [if_neg (by (simp (disch := omega) only [w_lit, w_neg, w_add, w_sub, w_mul, w_lt, w_le, w_eq, w_clamp, w_in, not_true_eq_false, not_false_eq_true, Classical.not_not]); omega)]
      rfl
    · rw [if_pos (by (simp (disch := omega) only [w_lit, w_neg, w_add, w_sub, w_mul, w_lt, w_le, w_eq, w_clamp, w_in, not_true_eq_false, not_false_eq_true, Classical.not_not]); omega)]
      rfl
abbrev TDa (b : Bool) (nm : Nat) (P : Nat → Int) (c' s' : Nat) (I J : kjI) (e : Int) (v : Nat) : Prop := (I (kb b 22) (8 * c' + s') = w e) ∧ (J 77 (8 * c' + s') = w v) ∧ (-1 ≤ e ∧ e < nm) ∧ (v ≤ nm) ∧ (0 < v → e = (v : Int) - 1) ∧ (v = 0 → P c' < 0 → e = -1) ∧ (v = 0 → 0 ≤ P c' → I (kb b 22) (8 * (P c').toNat + s') = w e)
theorem TDa.t1 {b : Bool} {nm : Nat} {P : Nat → Int} {c' s' : Nat} {I J : kjI} {e : Int} {v : Nat} (h : TDa b nm P c' s' I J e v) : I (kb b 22) (8 * c' + s') = w e := h.1
theorem TDa.t2 {b : Bool} {nm : Nat} {P : Nat → Int} {c' s' : Nat} {I J : kjI} {e : Int} {v : Nat} (h : TDa b nm P c' s' I J e v) : J 77 (8 * c' + s') = w v := h.2.1
theorem TDa.er {b : Bool} {nm : Nat} {P : Nat → Int} {c' s' : Nat} {I J : kjI} {e : Int} {v : Nat} (h : TDa b nm P c' s' I J e v) : -1 ≤ e ∧ e < nm := h.2.2.1
theorem TDa.vr {b : Bool} {nm : Nat} {P : Nat → Int} {c' s' : Nat} {I J : kjI} {e : Int} {v : Nat} (h : TDa b nm P c' s' I J e v) : v ≤ nm := h.2.2.2.1
theorem TDa.own {b : Bool} {nm : Nat} {P : Nat → Int} {c' s' : Nat} {I J : kjI} {e : Int} {v : Nat} (h : TDa b nm P c' s' I J e v) : 0 < v → e = (v : Int) - 1 := h.2.2.2.2.1
theorem TDa.none' {b : Bool} {nm : Nat} {P : Nat → Int} {c' s' : Nat} {I J : kjI} {e : Int} {v : Nat} (h : TDa b nm P c' s' I J e v) : v = 0 → P c' < 0 → e = -1 := h.2.2.2.2.2.1
theorem TDa.inh {b : Bool} {nm : Nat} {P : Nat → Int} {c' s' : Nat} {I J : kjI} {e : Int} {v : Nat} (h : TDa b nm P c' s' I J e v) : v = 0 → 0 ≤ P c' → I (kb b 22) (8 * (P c').toNat + s') = w e := h.2.2.2.2.2.2
def TD (b : Bool) (nm : Nat) (P : Nat → Int) (ns c s : Nat) (I J : kjI) : Prop := ∀ c' s', s' < ns → (c' < c ∨ (c' = c ∧ s' < s)) → ∃ (e : Int) (v : Nat), TDa b nm P c' s' I J e v
def FE (b : Bool) (I I' : kjI) : Prop := ∀ q j, q ≠ kb b 23 → q ≠ kb b 22 → I' q j = I q j
def FEm (J J' : kjI) : Prop := ∀ q j, ¬ (q = 59 ∧ (j = 35 ∨ j = 36)) → q ≠ 77 → J' q j = J q j
theorem AB.keep {b : Bool} {nc : Nat} {P : Nat → Int} {I J I' J' : kjI} (h : AB b nc P I J) (h1 : ∀ q, q = 5 ∨ q = 6 ∨ q = 9 → ∀ j, I' (kb b q) j = I (kb b q) j) (h2 : J' 59 12 = J 59 12) (h3 : ∀ j, J' 63 j = J 63 j) : AB b nc P I' J' := by
  refine ⟨h.hp, h.le, ?_, ?_, ?_, ?_, ?_⟩
  · rw [h1 _ (by omega)]; exact h.n1
  · rw [h2]; exact h.n2
  · intro c hc; rw [h1 _ (by omega)]; exact h.sup1 c hc
  · intro c hc; rw [h3]; exact h.sup2 c hc
  · intro c hc
    obtain ⟨A, q1, q2, q3⟩ := h.bits c hc
    exact ⟨A, q1, by rw [h1 _ (by omega)]; exact q2, q3⟩
theorem CD.keep {b : Bool} {nc c : Nat} {I J I' J' : kjI} (h : CD b nc c I J) (h1 : ∀ q, 6 ≤ q → q ≤ 9 → ∀ j, I' (kb b q) j = I (kb b q) j) (h2 : ∀ q, 63 ≤ q → q ≤ 65 → ∀ j, J' q j = J q j) : CD b nc c I' J' := by
  intro c' hc'
  obtain ⟨p, f, A, hA⟩ := h c' hc'
  refine ⟨p, f, A, ?_, ?_, hA.supr, ?_, ?_, hA.fcr, ?_, hA.abr, hA.ab0, ?_, ?_⟩
  · rw [h1 _ (by omega) (by omega)]; exact hA.sup1
  · rw [h2 _ (by omega) (by omega)]; exact hA.sup2
  · rw [h1 _ (by omega) (by omega)]; exact hA.fc1
  · rw [h2 _ (by omega) (by omega)]; exact hA.fc2
  · rw [h1 _ (by omega) (by omega)]; exact hA.ab
  · rw [h1 _ (by omega) (by omega)]; exact hA.ab1
  · intro i hi
    obtain ⟨t, q1, q2, q3⟩ := hA.ft i hi
    exact ⟨t, by rw [h1 _ (by omega) (by omega)]; exact q1, by rw [h2 _ (by omega) (by omega)]; exact q2, q3⟩
theorem SD.keep {b : Bool} {nc s : Nat} {I J I' J' : kjI} (h : SD b nc s I J) (h1 : ∀ q, 11 ≤ q → q ≤ 13 → ∀ j, I' (kb b q) j = I (kb b q) j) (h2 : ∀ q, 66 ≤ q → q ≤ 68 → ∀ j, J' q j = J q j) : SD b nc s I' J' := by
  intro s' hs'
  obtain ⟨p, r, hA⟩ := h s' hs'
  refine ⟨p, r, ?_, ?_, hA.nr, ?_, ?_, hA.rr, ?_⟩
  · rw [h1 _ (by omega) (by omega)]; exact hA.n1
  · rw [h2 _ (by omega) (by omega)]; exact hA.n2
  · rw [h1 _ (by omega) (by omega)]; exact hA.r1
  · rw [h2 _ (by omega) (by omega)]; exact hA.r2
  · intro i hi
    obtain ⟨t, q1, q2, q3⟩ := hA.ty i hi
    exact ⟨t, by rw [h1 _ (by omega) (by omega)]; exact q1, by rw [h2 _ (by omega) (by omega)]; exact q2, q3⟩
theorem MD.keep {b : Bool} {n : Nat} {B : Nat → Nat} {nc m a a' : Nat} {I J I' J' : kjI} (h : MD b n B nc m a I J) (ha : a ≤ a') (h1 : ∀ q, 15 ≤ q → q ≤ 21 → ∀ j, I' (kb b q) j = I (kb b q) j) (h2 : ∀ q, 69 ≤ q → q ≤ 75 → ∀ j, J' q j = J q j) : MD b n B nc m a' I' J' := by
  intro m' hm'
  obtain ⟨p, r, lo, st, ln, sta, hA, hB⟩ := h m' hm'
  refine ⟨p, r, lo, st, ln, sta, ⟨?_, ?_, hA.nr, ?_, ?_, hA.rr, ?_, ?_, ?_, hA.lor, ?_, ?_, hA.str, ?_, ?_, hA.lnr, ?_, hA.sar, ?_, ?_⟩, by omega⟩
  · rw [h1 _ (by omega) (by omega)]; exact hA.n1
  · rw [h2 _ (by omega) (by omega)]; exact hA.n2
  · rw [h1 _ (by omega) (by omega)]; exact hA.r1
  · rw [h2 _ (by omega) (by omega)]; exact hA.r2
  · intro i hi
    obtain ⟨t, q1, q2, q3⟩ := hA.ty i hi
    exact ⟨t, by rw [h1 _ (by omega) (by omega)]; exact q1, by rw [h2 _ (by omega) (by omega)]; exact q2, q3⟩
  · rw [h1 _ (by omega) (by omega)]; exact hA.lo1
  · rw [h2 _ (by omega) (by omega)]; exact hA.lo2
  · rw [h1 _ (by omega) (by omega)]; exact hA.st1
  · rw [h2 _ (by omega) (by omega)]; exact hA.st2
  · rw [h1 _ (by omega) (by omega)]; exact hA.ln1
  · rw [h2 _ (by omega) (by omega)]; exact hA.ln2
  · rw [h1 _ (by omega) (by omega)]; exact hA.sa
  · intro i hi
    rw [h2 _ (by omega) (by omega)]; exact hA.cd i hi
  · intro m2 hm2
    obtain ⟨s2, l2, q1, q2, q3⟩ := hA.dis m2 hm2
    exact ⟨s2, l2, by rw [h1 _ (by omega) (by omega)]; exact q1, by rw [h1 _ (by omega) (by omega)]; exact q2, q3⟩
theorem PD.keep {b : Bool} {n : Nat} {B : Nat → Nat} {nc ns nm a a' : Nat} {P : Nat → Int} {I J I' J' : kjI} (h : PD b n B nc ns nm a P I J) (ha : a ≤ a') (h1 : FE b I I') (h2 : FEm J J') : PD b n B nc ns nm a' P I' J' := by
  have k1 : ∀ q, q ≤ 21 → ∀ j, I' (kb b q) j = I (kb b q) j := fun q hq j => h1 _ _ (kb_ne (by omega)) (kb_ne (by omega))
  have k2 : ∀ q, 60 ≤ q → q ≤ 76 → ∀ j, J' q j = J q j := fun q hq hq' j => h2 _ _ (by omega) (by omega)
  have k3 : ∀ j, j < 35 → J' 59 j = J 59 j := fun j hj => h2 _ _ (by omega) (by omega)
  refine ⟨h.cd.keep (fun q _ _ j => k1 q (by omega) j) (fun q _ _ j => k2 q (by omega) (by omega) j), h.ab.keep (fun q _ j => k1 q (by omega) j) (k3 _ (by omega)) (fun j => k2 _ (by omega) (by omega) j), h.sd.keep (fun q _ _ j => k1 q (by omega) j) (fun q _ _ j => k2 q (by omega) (by omega) j), h.md.keep ha (fun q _ _ j => k1 q (by omega) j) (fun q _ _ j => k2 q (by omega) (by omega) j), h.ns8, h.nm16, ?_, ?_, ?_, ?_⟩
  · rw [k1 _ (by omega)]; exact h.ns1
  · rw [k3 _ (by omega)]; exact h.ns2
  · rw [k1 _ (by omega)]; exact h.nm1
  · rw [k3 _ (by omega)]; exact h.nm2
theorem m_num_t {n a : Nat} {B : Nat → Nat} {J : kjI} (L : kjL) (h : MR n a false B J) {lo hi : Int} (hl : 0 ≤ lo ∧ hi < 1000) (c : a < n) (c2 : lo ≤ (B a : Int) ∧ (B a : Int) ≤ hi) : kf104 (w lo) (w hi) J L = some (w (B a), mv_up J 59 35 (w (a + 1 : Nat)), L) := by
  have hn := h.nn
  have hB := h.by' a c
  unfold kf104 kf104_37 kf102
  rw [h.st2, h.len, h.at2]
  have e : w (a : Int) + 1 = w (a + 1 : Nat) := by
    (simp only [w_lit, w_neg, w_add, w_sub, w_mul])
    rfl
  have e2 : w ((a + 1 : Nat) : Int) - 1 = w a := by
    (simp only [w_lit, w_neg, w_add, w_sub, w_mul])
    congr 1
    omega
  rw [e]
  simp only [bi_f]
  (simp (disch := first | (apply kb_ne; omega) | omega | (apply kb_59; omega) | (apply kb_59'; omega) | fail) only [up_eq, up_k, up_j])
  rw [e2]
  (simp (disch := first | omega | (simp (disch := omega) only [w_lit, w_neg, w_add, w_sub, w_mul, w_lt, w_le, w_eq, w_clamp, w_in, not_true_eq_false, not_false_eq_true, Classical.not_not] <;> omega) | fail) only [↓if_pos, ↓if_neg, ↓bif_in, sbind, w_clamp])
  rw [Int.toNat_natCast, h.read a c]
  (simp (disch := first | omega | (simp (disch := omega) only [w_lit, w_neg, w_add, w_sub, w_mul, w_lt, w_le, w_eq, w_clamp, w_in, not_true_eq_false, not_false_eq_true, Classical.not_not] <;> omega) | fail) only [↓if_pos, ↓if_neg, ↓bif_in, sbind, w_clamp])
theorem m_num_f {n a : Nat} {B : Nat → Nat} {J : kjI} (L : kjL) (h : MR n a false B J) {lo hi : Int} (hl : 0 ≤ lo ∧ lo < 1000 ∧ 0 ≤ hi ∧ hi < 1000) (c : n ≤ a ∨ (B a : Int) < lo ∨ hi < (B a : Int)) : kf104 (w lo) (w hi) J L = some (0, mv_up J 59 36 1, L) := by
  have hn := h.nn
  have ha := h.le
  unfold kf104 kf104_37 kf102
  rw [h.st2, h.len, h.at2]
  simp only [bi_f]
  by_cases c0 : n ≤ a
  · (simp (disch := first | omega | (simp (disch := omega) only [w_lit, w_neg, w_add, w_sub, w_mul, w_lt, w_le, w_eq, w_clamp, w_in, not_true_eq_false, not_false_eq_true, Classical.not_not] <;> omega) | fail) only [↓if_pos, ↓if_neg, ↓bif_in, sbind, w_clamp])
  · have hB := h.by' a (by omega)
    rcases c with c | c | c
    · omega
    · rw [if_pos (by decide), if_neg (by (simp (disch := omega) only [w_lit, w_neg, w_add, w_sub, w_mul, w_lt, w_le, w_eq, w_clamp, w_in, not_true_eq_false, not_false_eq_true, Classical.not_not]); omega), bif_in (by omega) (by decide), w_clamp (by omega), Int.toNat_natCast, h.read a (by omega)]
      (simp (disch := first | omega | (simp (disch := omega) only [w_lit, w_neg, w_add, w_sub, w_mul, w_lt, w_le, w_eq, w_clamp, w_in, not_true_eq_false, not_false_eq_true, Classical.not_not] <;> omega) | fail) only [↓if_pos, ↓if_neg, ↓bif_in, sbind, w_clamp])
    · rw [if_pos (by decide), if_neg (by (simp (disch := omega) only [w_lit, w_neg, w_add, w_sub, w_mul, w_lt, w_le, w_eq, w_clamp, w_in, not_true_eq_false, not_false_eq_true, Classical.not_not]); omega), bif_in (by omega) (by decide), w_clamp (by omega), Int.toNat_natCast, h.read a (by omega)]
      by_cases c5 : (B a : Int) < lo
      · (simp (disch := first | omega | (simp (disch := omega) only [w_lit, w_neg, w_add, w_sub, w_mul, w_lt, w_le, w_eq, w_clamp, w_in, not_true_eq_false, not_false_eq_true, Classical.not_not] <;> omega) | fail) only [↓if_pos, ↓if_neg, ↓bif_in, sbind, w_clamp])
      · (simp (disch := first | omega | (simp (disch := omega) only [w_lit, w_neg, w_add, w_sub, w_mul, w_lt, w_le, w_eq, w_clamp, w_in, not_true_eq_false, not_false_eq_true, Classical.not_not] <;> omega) | fail) only [↓if_pos, ↓if_neg, ↓bif_in, sbind, w_clamp])
/-- what KindJudge writes for an entry that tells nothing -/
theorem c_inherit {b : Bool} {nc ns nm a n : Nat} {B : Nat → Nat} {P : Nat → Int} {I J I1 : kjI} (h : PD b n B nc ns nm a P I J) {c s : Nat} (hc : c < nc) (hs : s < ns) (hT : TD b nm P ns c s I J) (hI : ∀ j, I1 (kb b 22) j = I (kb b 22) j) (N : Nat) (L : kjL) (k11 : Int32 → Int32 → Int32 → kjI → kjL → Option (kjI × kjL)) :
    ∃ e : Int, kf27_106 b N k11 (w c) (w (P c)) (w s) I1 L = k11 (w c) (w (P c)) (w (s + 1 : Nat)) (mv_up I1 (kb b 22) (8 * c + s) (w e)) L ∧ (-1 ≤ e ∧ e < nm) ∧ (P c < 0 → e = -1) ∧ (0 ≤ P c → I (kb b 22) (8 * (P c).toNat + s) = w e) := by
  have hnc := h.ab.le
  have hns := h.ns8
  have hnm := h.nm16
  have hp := h.ab.hp c hc
  unfold kf27_106 kf27_135 kf27_136
  by_cases h0 : 0 ≤ P c
  · obtain ⟨e, v, hA⟩ := hT (P c).toNat s hs (Or.inl (by omega))
    refine ⟨e, ?_, hA.er, fun z => by omega, fun _ => hA.t1⟩
    rw [if_pos (by (simp (disch := omega) only [w_lit, w_neg, w_add, w_sub, w_mul, w_lt, w_le, w_eq, w_clamp, w_in, not_true_eq_false, not_false_eq_true, Classical.not_not]); omega)]
    (simp only [w_lit, w_neg, w_add, w_sub, w_mul])
    rw [bif_in (by omega) (by decide), bif_in (by omega) (by decide), w_clamp (by omega), w_clamp (by omega), show (P c * 8 + (s : Int)).toNat = 8 * (P c).toNat + s by omega, show ((c : Int) * 8 + (s : Int)).toNat = 8 * c + s by omega, hI, hA.t1]
    rfl
  · refine ⟨-1, ?_, by omega, fun _ => rfl, fun z => by omega⟩
    rw [if_neg (by (simp (disch := omega) only [w_lit, w_neg, w_add, w_sub, w_mul, w_lt, w_le, w_eq, w_clamp, w_in, not_true_eq_false, not_false_eq_true, Classical.not_not]); omega)]
    (simp only [w_lit, w_neg, w_add, w_sub, w_mul])
    rw [bif_in (by omega) (by decide), w_clamp (by omega), show ((c : Int) * 8 + (s : Int)).toNat = 8 * c + s by omega]
    rfl
def FE1 (b : Bool) (k : Nat) (I I' : kjI) : Prop := ∀ q j, q ≠ kb b 23 → ¬ (q = kb b 22 ∧ j = k) → I' q j = I q j
def FEm1 (k : Nat) (J J' : kjI) : Prop := ∀ q j, ¬ (q = 59 ∧ (j = 35 ∨ j = 36)) → ¬ (q = 77 ∧ j = k) → J' q j = J q j
theorem TD.step {b : Bool} {nm : Nat} {P : Nat → Int} {nc ns c s : Nat} {I J I' J' : kjI} (h : TD b nm P ns c s I J) (hP : HP nc P) (hc : c < nc) (hns : ns ≤ 8) (hs : s < ns) (h1 : FE1 b (8 * c + s) I I') (h2 : FEm1 (8 * c + s) J J') {e : Int} {v : Nat} (hA : TDa b nm P c s I' J' e v) : TD b nm P ns c (s + 1) I' J' := by
  intro c' s' hs' hlt
  by_cases hcs : c' = c ∧ s' = s
  · obtain ⟨rfl, rfl⟩ := hcs
    exact ⟨e, v, hA⟩
  · obtain ⟨e, v, hB⟩ := h c' s' hs' (by omega)
    have hp := hP c' (by omega)
    refine ⟨e, v, ?_, ?_, hB.er, hB.vr, hB.own, hB.none', ?_⟩
    · rw [h1 _ _ (kb_ne (by decide)) (by omega)]; exact hB.t1
    · rw [h2 _ _ (by omega) (by omega)]; exact hB.t2
    · intro z1 z2
      rw [h1 _ _ (kb_ne (by decide)) (by omega)]
      exact hB.inh z1 z2
theorem r_entry {b : Bool} {n nc ns nm a0 a : Nat} {B : Nat → Nat} {P : Nat → Int} {I J : kjI} (h : PD b n B nc ns nm a0 P I J) (hR : RR b n a false B I J) (N : Nat) (hN : 20 ≤ N) (L L' : kjL) {c s : Nat} (hc : c < nc) (hs : s < ns) (hT : TD b nm P ns c s I J) (m : Nat) :
    ∃ (I' J' : kjI) (a' : Nat) (s' : Bool), kf27_11 b N (m + 1) (w c) (w (P c)) (w s) I L = kf27_11 b N m (w c) (w (P c)) (w (s + 1 : Nat)) I' L ∧ kf112 N (w c) (w s) J L' = some (J', L') ∧ RR b n a' s' B I' J' ∧ FE1 b (8 * c + s) I I' ∧ FEm1 (8 * c + s) J J' ∧ (s' = false → a ≤ a' ∧ TD b nm P ns c (s + 1) I' J') := by
  have hnc := h.ab.le
  have hns := h.ns8
  have hnm := h.nm16
  have hp := h.ab.hp c hc
  have hn := hR.row.1
  have ha := hR.le
  have ecs : (8 * (c : Int) + (s : Int)).toNat = 8 * c + s := by omega
  -- the stop
  have stop : ∀ e : Int, ∀ v : Nat, RR b n a true B (mv_up (mv_up I (kb b 23) 2 1) (kb b 22) (8 * c + s) (w e)) (mv_up (mv_up J 59 36 1) 77 (8 * c + s) (w v)) ∧ FE1 b (8 * c + s) I (mv_up (mv_up I (kb b 23) 2 1) (kb b 22) (8 * c + s) (w e)) ∧ FEm1 (8 * c + s) J (mv_up (mv_up J 59 36 1) 77 (8 * c + s) (w v)) := by
    intro e v
    refine ⟨hR.stop.keep (fun j => by (simp (disch := first | (apply kb_ne; omega) | omega | (apply kb_59; omega) | (apply kb_59'; omega) | fail) only [up_eq, up_k, up_j])) (fun j => by (simp (disch := first | (apply kb_ne; omega) | omega | (apply kb_59; omega) | (apply kb_59'; omega) | fail) only [up_eq, up_k, up_j])) (fun j => by (simp (disch := first | (apply kb_ne; omega) | omega | (apply kb_59; omega) | (apply kb_59'; omega) | fail) only [up_eq, up_k, up_j])) ⟨by (simp (disch := first | (apply kb_ne; omega) | omega | (apply kb_59; omega) | (apply kb_59'; omega) | fail) only [up_eq, up_k, up_j]), by (simp (disch := first | (apply kb_ne; omega) | omega | (apply kb_59; omega) | (apply kb_59'; omega) | fail) only [up_eq, up_k, up_j]), by (simp (disch := first | (apply kb_ne; omega) | omega | (apply kb_59; omega) | (apply kb_59'; omega) | fail) only [up_eq, up_k, up_j])⟩ (fun j => by (simp (disch := first | (apply kb_ne; omega) | omega | (apply kb_59; omega) | (apply kb_59'; omega) | fail) only [up_eq, up_k, up_j])), fun q j d1 d2 => ?_, fun q j d1 d2 => ?_⟩
    · rw [up1_ne (by omega), FI_up _ _ _ _ q j d1]
    · rw [up1_ne (by omega), FJ_36 _ _ q j d1]
  obtain ⟨e1, i1, i2, i3, i4⟩ := c_inherit (I1 := mv_up I (kb b 23) 2 1) h hc hs hT (fun j => by (simp (disch := first | (apply kb_ne; omega) | omega | (apply kb_59; omega) | (apply kb_59'; omega) | fail) only [up_eq, up_k, up_j])) N L (fun v1 v2 v3 I L => kf27_11 b N m v1 v2 v3 I L)
  have u1 : kf27_11 b N (m + 1) (w c) (w (P c)) (w s) I L = ((kf58 b I L).bind fun r5 => if r5 = 0 then (kf27_68 b N (fun v1 v2 v3 I L => kf27_11 b N m v1 v2 v3 I L) (w c) (w (P c)) (w s) r5 I L) else (if r5 ≤ 0 then (kf27_72 b N (fun v1 v2 v3 I L => kf27_11 b N m v1 v2 v3 I L) (w c) (w (P c)) (w s) r5 I L) else ((kf28 b N I L (r5 - (1 : Int32)) (w c) (w s)).bind fun r9 => if r9 = 0 then (kf27_72 b N (fun v1 v2 v3 I L => kf27_11 b N m v1 v2 v3 I L) (w c) (w (P c)) (w s) r5 I L) else (kf27_68 b N (fun v1 v2 v3 I L => kf27_11 b N m v1 v2 v3 I L) (w c) (w (P c)) (w s) r5 I L)))) := by
    conv => lhs; unfold kf27_11
    rw [h.ns1, if_neg (by (simp (disch := omega) only [w_lit, w_neg, w_add, w_sub, w_mul, w_lt, w_le, w_eq, w_clamp, w_in, not_true_eq_false, not_false_eq_true, Classical.not_not]); omega)]
    unfold kf55
    rw [hR.st1, bi_f, if_neg (by decide), sbind, if_neg (by decide)]
  have u2 : ∀ t : Int32, kf27_72 b N (fun v1 v2 v3 I L => kf27_11 b N m v1 v2 v3 I L) (w c) (w (P c)) (w s) t I L = kf27_11 b N m (w c) (w (P c)) (w (s + 1 : Nat)) (mv_up (mv_up I (kb b 23) 2 1) (kb b 22) (8 * c + s) (w e1)) L := by
    intro t
    unfold kf27_72 kf27_73
    rw [c_pass_f (v := 0) L hR (Or.inl rfl), sbind, if_pos rfl]
    exact i1
  rw [u1]
  unfold kf112
  rw [h.nm2]
  by_cases c1 : n ≤ a
  · obtain ⟨k1, k2, k3⟩ := stop e1 0
    refine ⟨_, _, a, true, ?_, ?_, k1, k2, k3, fun z => by cases z⟩
    · rw [c_ahead_f L hR (Or.inr c1), sbind, if_neg (by decide), if_pos (by decide), u2]
    · have e0 : (0 : Int32) = w 0 := rfl
      rw [e0, m_num_f L' hR.mr (by omega) (Or.inl c1), sbind]
      (simp only [w_lit, w_neg, w_add, w_sub, w_mul])
      rw [bif_in (by omega) (by decide), w_clamp (by omega), ecs]
      (simp (disch := first | (apply kb_ne; omega) | omega | (apply kb_59; omega) | (apply kb_59'; omega) | fail) only [up_eq, up_k, up_j])
      rw [if_pos (by decide)]
      rfl
  · have hB := (hR.row.2.2 a (by omega)).2
    rw [c_ahead_t L hR (by omega), sbind]
    have go : ∀ e : Int, ∀ v : Nat, RR b n (a + 1) false B (mv_up (mv_up I (kb b 23) 1 (w (a + 1 : Nat))) (kb b 22) (8 * c + s) (w e)) (mv_up (mv_up J 59 35 (w (a + 1 : Nat))) 77 (8 * c + s) (w v)) ∧ FE1 b (8 * c + s) I (mv_up (mv_up I (kb b 23) 1 (w (a + 1 : Nat))) (kb b 22) (8 * c + s) (w e)) ∧ FEm1 (8 * c + s) J (mv_up (mv_up J 59 35 (w (a + 1 : Nat))) 77 (8 * c + s) (w v)) := by
      intro e v
      refine ⟨(hR.go (by omega)).keep (fun j => by (simp (disch := first | (apply kb_ne; omega) | omega | (apply kb_59; omega) | (apply kb_59'; omega) | fail) only [up_eq, up_k, up_j])) (fun j => by (simp (disch := first | (apply kb_ne; omega) | omega | (apply kb_59; omega) | (apply kb_59'; omega) | fail) only [up_eq, up_k, up_j])) (fun j => by (simp (disch := first | (apply kb_ne; omega) | omega | (apply kb_59; omega) | (apply kb_59'; omega) | fail) only [up_eq, up_k, up_j])) ⟨by (simp (disch := first | (apply kb_ne; omega) | omega | (apply kb_59; omega) | (apply kb_59'; omega) | fail) only [up_eq, up_k, up_j]), by (simp (disch := first | (apply kb_ne; omega) | omega | (apply kb_59; omega) | (apply kb_59'; omega) | fail) only [up_eq, up_k, up_j]), by (simp (disch := first | (apply kb_ne; omega) | omega | (apply kb_59; omega) | (apply kb_59'; omega) | fail) only [up_eq, up_k, up_j])⟩ (fun j => by (simp (disch := first | (apply kb_ne; omega) | omega | (apply kb_59; omega) | (apply kb_59'; omega) | fail) only [up_eq, up_k, up_j])), fun q j d1 d2 => ?_, fun q j d1 d2 => ?_⟩
      · rw [up1_ne (by omega), FI_up _ _ _ _ q j d1]
      · rw [up1_ne (by omega), FJ_35 _ _ q j d1]
    by_cases c2 : B a = 0
    · -- nothing told
      obtain ⟨e2, j1, j2, j3, j4⟩ := c_inherit (I1 := mv_up I (kb b 23) 1 (w (a + 1 : Nat))) h hc hs hT (fun j => by (simp (disch := first | (apply kb_ne; omega) | omega | (apply kb_59; omega) | (apply kb_59'; omega) | fail) only [up_eq, up_k, up_j])) N L (fun v1 v2 v3 I L => kf27_11 b N m v1 v2 v3 I L)
      obtain ⟨k1, k2, k3⟩ := go e2 0
      refine ⟨_, _, a + 1, false, ?_, ?_, k1, k2, k3, fun _ => ⟨by omega, hT.step h.ab.hp hc hns hs k2 k3 (e := e2) (v := 0) ⟨by (simp (disch := first | (apply kb_ne; omega) | omega | (apply kb_59; omega) | (apply kb_59'; omega) | fail) only [up_eq, up_k, up_j]), by (simp (disch := first | (apply kb_ne; omega) | omega | (apply kb_59; omega) | (apply kb_59'; omega) | fail) only [up_eq, up_k, up_j]), j2, by omega, fun z => by omega, fun _ z => j3 z, fun _ z => ?_⟩⟩⟩
      · rw [c2, if_pos (by decide)]
        unfold kf27_68 kf27_73
        rw [c_pass_t L hR (by omega), sbind, if_neg (show ¬ (1 : Int32) = 0 by decide), if_pos (show w ((0 : Nat) : Int) ≤ 0 by decide)]
        exact j1
      · have e0 : (0 : Int32) = w 0 := rfl
        rw [e0, m_num_t L' hR.mr (by omega) (by omega) (by omega), sbind]
        (simp only [w_lit, w_neg, w_add, w_sub, w_mul])
        rw [bif_in (by omega) (by decide), w_clamp (by omega), ecs]
        (simp (disch := first | (apply kb_ne; omega) | omega | (apply kb_59; omega) | (apply kb_59'; omega) | fail) only [up_eq, up_k, up_j])
        rw [hR.st2, bi_f, c2, if_neg (by decide), if_pos (by decide)]
      · rw [k2 _ _ (kb_ne (by decide)) (by omega)]
        exact j4 z
    · rw [if_neg (by (simp (disch := omega) only [w_lit, w_neg, w_add, w_sub, w_mul, w_lt, w_le, w_eq, w_clamp, w_in, not_true_eq_false, not_false_eq_true, Classical.not_not]); omega), if_neg (by (simp (disch := omega) only [w_lit, w_neg, w_add, w_sub, w_mul, w_lt, w_le, w_eq, w_clamp, w_in, not_true_eq_false, not_false_eq_true, Classical.not_not]); omega)]
      have em : w (B a : Int) - 1 = w (B a - 1 : Nat) := by
        (simp only [w_lit, w_neg, w_add, w_sub, w_mul])
        congr 1
        omega
      rw [em]
      by_cases c3 : B a ≤ nm
      · obtain ⟨g, g1, g2⟩ := r_good h N hN L L' (m := B a - 1) (by omega) hc hs
        rw [g1, sbind]
        have e0 : (0 : Int32) = w 0 := rfl
        rw [show kf104 (0 : Int32) (w nm) J L' = _ from m_num_t L' hR.mr (lo := 0) (by omega) (by omega) (by omega), sbind]
        simp only
        have em2 : (8 : Int32) * w c + w s = w (8 * c + s : Nat) := by
          (simp only [w_lit, w_neg, w_add, w_sub, w_mul])
          congr 1
        rw [em2, bif_in (by omega) (by decide), w_clamp (by omega), Int.toNat_natCast]
        obtain ⟨k1, k2, k3⟩ := go ((B a : Int) - 1) (B a)
        -- the reference looks in the store behind
        have hPD : PD b n B nc ns nm a0 P I (mv_up (mv_up J 59 35 (w (a + 1 : Nat))) 77 (8 * c + s) (w (B a))) := h.keep (Nat.le_refl _) (fun _ _ _ _ => rfl) (fun q j d1 d2 => k3 q j d1 (by omega))
        obtain ⟨g', g1', g2'⟩ := r_good hPD N hN L L' (m := B a - 1) (by omega) hc hs
        have egg : g' = g := by
          rw [g1] at g1'
          have := Option.some.inj g1'
          cases g <;> cases g' <;> first | rfl | exact absurd this (by decide)
        subst egg
        rw [em, g2', sbind]
        (simp (disch := first | (apply kb_ne; omega) | omega | (apply kb_59; omega) | (apply kb_59'; omega) | fail) only [up_eq, up_k, up_j])
        rw [hR.st2, bi_f]
        rw [if_neg (show ¬ ¬ w 0 = 0 by decide), if_neg (show ¬ w (B a) = 0 by (simp (disch := omega) only [w_lit, w_neg, w_add, w_sub, w_mul, w_lt, w_le, w_eq, w_clamp, w_in, not_true_eq_false, not_false_eq_true, Classical.not_not]); omega)]
        cases g'
        · rw [if_pos (show w (bi false) = 0 by decide), if_pos (show w (bi false) = 0 by decide)]
          have em3 : w ((a + 1 : Nat) : Int) - 1 = w a := by
            (simp only [w_lit, w_neg, w_add, w_sub, w_mul])
            congr 1
            omega
          rw [em3, u2]
          obtain ⟨k1, k2, k3⟩ := stop e1 (B a)
          have eJ : mv_up (mv_up (mv_up (mv_up J 59 35 (w (a + 1 : Nat))) 77 (8 * c + s) (w (B a))) 59 35 (w a)) 59 36 1 = mv_up (mv_up J 59 36 1) 77 (8 * c + s) (w (B a)) := by
            funext q j
            by_cases q1 : q = 77
            · subst q1
              by_cases q2 : j = 8 * c + s
              · subst q2
                (simp (disch := first | (apply kb_ne; omega) | omega | (apply kb_59; omega) | (apply kb_59'; omega) | fail) only [up_eq, up_k, up_j])
              · (simp (disch := first | (apply kb_ne; omega) | omega | (apply kb_59; omega) | (apply kb_59'; omega) | fail) only [up_eq, up_k, up_j])
            · by_cases q2 : q = 59
              · subst q2
                by_cases q3 : j = 36
                · subst q3
                  (simp (disch := first | (apply kb_ne; omega) | omega | (apply kb_59; omega) | (apply kb_59'; omega) | fail) only [up_eq, up_k, up_j])
                · by_cases q4 : j = 35
                  · subst q4
                    (simp (disch := first | (apply kb_ne; omega) | omega | (apply kb_59; omega) | (apply kb_59'; omega) | fail) only [up_eq, up_k, up_j])
                    exact hR.at2.symm
                  · (simp (disch := first | (apply kb_ne; omega) | omega | (apply kb_59; omega) | (apply kb_59'; omega) | fail) only [up_eq, up_k, up_j])
              · (simp (disch := first | (apply kb_ne; omega) | omega | (apply kb_59; omega) | (apply kb_59'; omega) | fail) only [up_eq, up_k, up_j])
          rw [eJ]
          exact ⟨_, _, a, true, rfl, rfl, k1, k2, k3, fun z => by cases z⟩
        · rw [if_neg (show ¬ w (bi true) = 0 by decide), if_neg (show ¬ w (bi true) = 0 by decide)]
          refine ⟨_, _, a + 1, false, ?_, rfl, k1, k2, k3, fun _ => ⟨by omega, hT.step h.ab.hp hc hns hs k2 k3 (e := (B a : Int) - 1) (v := B a) ⟨by (simp (disch := first | (apply kb_ne; omega) | omega | (apply kb_59; omega) | (apply kb_59'; omega) | fail) only [up_eq, up_k, up_j]), by (simp (disch := first | (apply kb_ne; omega) | omega | (apply kb_59; omega) | (apply kb_59'; omega) | fail) only [up_eq, up_k, up_j]), by omega, c3, fun _ => rfl, fun z => by omega, fun z => by omega⟩⟩⟩
          unfold kf27_68 kf27_73 kf27_136
          rw [c_pass_t L hR (by omega), sbind, if_neg (show ¬ (1 : Int32) = 0 by decide), if_neg (by (simp (disch := omega) only [w_lit, w_neg, w_add, w_sub, w_mul, w_lt, w_le, w_eq, w_clamp, w_in, not_true_eq_false, not_false_eq_true, Classical.not_not]); omega)]
          (simp only [w_lit, w_neg, w_add, w_sub, w_mul])
          rw [bif_in (by omega) (by decide), w_clamp (by omega), show ((c : Int) * 8 + (s : Int)).toNat = 8 * c + s by omega]
          rfl
      · obtain ⟨k1, k2, k3⟩ := stop e1 0
        refine ⟨_, _, a, true, ?_, ?_, k1, k2, k3, fun z => by cases z⟩
        · unfold kf28 kf49
          rw [c_nsel hns h.ns1 L hs, sbind, h.nm1, if_neg (by (simp (disch := omega) only [w_lit, w_neg, w_add, w_sub, w_mul, w_lt, w_le, w_eq, w_clamp, w_in, not_true_eq_false, not_false_eq_true, Classical.not_not]); omega), if_pos (by (simp (disch := omega) only [w_lit, w_neg, w_add, w_sub, w_mul, w_lt, w_le, w_eq, w_clamp, w_in, not_true_eq_false, not_false_eq_true, Classical.not_not]); omega), sbind, if_pos rfl, sbind, if_pos rfl, u2]
        · have e0 : (0 : Int32) = w 0 := rfl
          rw [e0, m_num_f L' hR.mr (by omega) (Or.inr (Or.inr (by omega))), sbind]
          (simp only [w_lit, w_neg, w_add, w_sub, w_mul])
          rw [bif_in (by omega) (by decide), w_clamp (by omega), ecs]
          (simp (disch := first | (apply kb_ne; omega) | omega | (apply kb_59; omega) | (apply kb_59'; omega) | fail) only [up_eq, up_k, up_j])
          rw [if_pos (by decide)]
          rfl
