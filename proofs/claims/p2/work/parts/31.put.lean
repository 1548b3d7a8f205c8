/-! Bytes, and put. -/
theorem k_byte_eq (x : Int64) : (Int8.toInt32 (Int32.toInt8 (Int8.toInt32 (Int32.toInt8 (Int64.toInt32 x))))) &&& 255 = Int64.toInt32 (x &&& 255) := by
  apply Int32.toBitVec_inj.mp
  simp only [Int32.toBitVec_and, Int8.toBitVec_toInt32, Int32.toBitVec_toInt8, Int64.toBitVec_toInt32, Int64.toBitVec_and]
  apply BitVec.eq_of_getLsbD_eq
  intro i hi
  simp only [BitVec.getLsbD_and, BitVec.getLsbD_setWidth, BitVec.getLsbD_signExtend]
  have h1 : (255 : Int32).toBitVec = BitVec.ofNat 32 255 := rfl
  have h2 : (255 : Int64).toBitVec = BitVec.ofNat 64 255 := rfl
  rw [h1, h2]
  by_cases h : i < 8
  · have h3 : i < 64 := by omega
    simp only [hi, h, BitVec.getLsbD_ofNat, h3, decide_true, Bool.true_and, if_true]
  · have e : (255 : Nat).testBit i = false := by
      apply Nat.testBit_lt_two_pow
      calc 255 < 2 ^ 8 := by decide
        _ ≤ 2 ^ i := Nat.pow_le_pow_right (by decide) (by omega)
    simp [BitVec.getLsbD_ofNat, e]
    omega
theorem k_byte_rng (x : Int64) : ∃ v : Nat, v < 256 ∧ Int64.toInt32 (x &&& 255) = w v := by
  refine ⟨(x &&& 255).toBitVec.toNat, ?_, ?_⟩
  · simp only [Int64.toBitVec_and, BitVec.toNat_and]
    have : (255 : Int64).toBitVec.toNat = 255 := by decide
    rw [this]
    exact Nat.lt_of_le_of_lt Nat.and_le_right (by decide)
  · apply Int32.toBitVec_inj.mp
    show _ = (Int32.ofInt _).toBitVec
    rw [Int64.toBitVec_toInt32]
    simp
    rw [BitVec.signExtend_eq_setWidth_of_le _ (by decide)]
/-- n bytes B lie in the row of a Book -/
def k_row (b : Bool) (n : Nat) (B : Nat → Nat) (I : kjI) : Prop := n ≤ 1500 ∧ I (kb b 2) 1 = w n ∧ ∀ i, i < n → I (kb b 3) i &&& 255 = w (B i) ∧ B i < 256
def k_mrow (n : Nat) (B : Nat → Nat) (J : kjI) : Prop := J 59 2 = w n ∧ ∀ i, i < n → J 60 i = w (B i)
def k_fr (Z : Nat → Prop) (I I' : kjI) : Prop := ∀ k, ¬ Z k → I' k = I k
theorem k_put_loop (b : Bool) (N : Nat) (x : Int64) (L L' : kjL) : ∀ (k m m' : Nat) (n : Nat) (B : Nat → Nat) (I J : kjI), k < m → k < m' → k ≤ 8 → n + k ≤ 1500 → k_row b n B I → k_mrow n B J →
    ∃ (B' : Nat → Nat) (I' J' : kjI), kf20_33 b N m x (w (8 * (k : Int) - 8)) I L = some (1, I', L) ∧ kf103_35 N m' x (w ((k : Int) - 1)) J L' = some (1, J', L') ∧ k_row b (n + k) B' I' ∧ k_mrow (n + k) B' J' ∧ k_fr (fun q => q = kb b 2 ∨ q = kb b 3) I I' ∧ k_fr (fun q => q = 59 ∨ q = 60) J J' ∧ (∀ j, j ≠ 2 → J' 59 j = J 59 j) := by
  intro k
  induction k with
  | zero =>
    intro m m' n B I J h1 h2 h3 h4 hr hm
    obtain ⟨m, rfl⟩ : ∃ q, m = q + 1 := ⟨m - 1, by omega⟩
    obtain ⟨m', rfl⟩ : ∃ q, m' = q + 1 := ⟨m' - 1, by omega⟩
    refine ⟨B, I, J, ?_, ?_, hr, hm, fun _ _ => rfl, fun _ _ => rfl, fun _ _ => rfl⟩
    · unfold kf20_33
      rw [if_pos (by (simp (disch := omega) only [w_lit, w_neg, w_add, w_sub, w_mul, w_lt, w_le, w_eq, w_clamp, w_in, not_true_eq_false, not_false_eq_true, Classical.not_not]); omega)]
    · unfold kf103_35
      rw [if_pos (by (simp (disch := omega) only [w_lit, w_neg, w_add, w_sub, w_mul, w_lt, w_le, w_eq, w_clamp, w_in, not_true_eq_false, not_false_eq_true, Classical.not_not]); omega)]
  | succ k ih =>
    intro m m' n B I J h1 h2 h3 h4 hr hm
    obtain ⟨m, rfl⟩ : ∃ q, m = q + 1 := ⟨m - 1, by omega⟩
    obtain ⟨m', rfl⟩ : ∃ q, m' = q + 1 := ⟨m' - 1, by omega⟩
    obtain ⟨hr1, hr2, hr3⟩ := hr
    obtain ⟨hm1, hm2⟩ := hm
    unfold kf20_33 kf103_35
    have hx : Int32.toInt64 ((8 : Int32) * w (((k + 1 : Nat) : Int) - 1)) = Int32.toInt64 (w (8 * ((k + 1 : Nat) : Int) - 8)) := by
      (simp only [w_lit, w_neg, w_add, w_sub, w_mul])
      congr 2
      omega
    rw [if_neg (by (simp (disch := omega) only [w_lit, w_neg, w_add, w_sub, w_mul, w_lt, w_le, w_eq, w_clamp, w_in, not_true_eq_false, not_false_eq_true, Classical.not_not]); omega), if_neg (by (simp (disch := omega) only [w_lit, w_neg, w_add, w_sub, w_mul, w_lt, w_le, w_eq, w_clamp, w_in, not_true_eq_false, not_false_eq_true, Classical.not_not]); omega), hx, hr2, hm1, w_in_t (by omega)]
    simp only [cond_true, w_clamp (show -2147483648 ≤ (n : Int) ∧ (n : Int) < 2147483648 by omega)]
    generalize x >>> (Int32.toInt64 (w (8 * ((k + 1 : Nat) : Int) - 8)) &&& 63) = y
    obtain ⟨v, hv1, hv2⟩ := k_byte_rng y
    have hv3 := k_byte_eq y
    have e1 : w (8 * ((k + 1 : Nat) : Int) - 8) + (-8 : Int32) = w (8 * (k : Int) - 8) := by
      (simp only [w_lit, w_neg, w_add, w_sub, w_mul])
      congr 1
      omega
    have e2 : w (((k + 1 : Nat) : Int) - 1) + (-1 : Int32) = w ((k : Int) - 1) := by
      (simp only [w_lit, w_neg, w_add, w_sub, w_mul])
      congr 1
      omega
    have e3 : w (n : Int) + 1 = w ((n + 1 : Nat) : Int) := by
      (simp only [w_lit, w_neg, w_add, w_sub, w_mul])
      congr 1
    have ne1 : (kb b 2 = kb b 3) = False := by rw [kb_inj]; simp
    have ne2 : (kb b 3 = kb b 2) = False := by rw [kb_inj]; simp
    rw [e1, e2, hv2]
    generalize hI1 : mv_up (mv_up I (kb b 3) (Int.toNat n) (Int8.toInt32 (Int32.toInt8 (Int8.toInt32 (Int32.toInt8 (Int64.toInt32 y)))))) (kb b 2) 1 (((mv_up I (kb b 3) (Int.toNat n) (Int8.toInt32 (Int32.toInt8 (Int8.toInt32 (Int32.toInt8 (Int64.toInt32 y)))))) (kb b 2) 1) + (1 : Int32)) = I1
    generalize hJ1 : mv_up (mv_up J 60 (Int.toNat n) (w v)) 59 2 (((mv_up J 60 (Int.toNat n) (w v)) 59 2) + (1 : Int32)) = J1
    have a1 : k_row b (n + 1) (fun i => if i = n then v else B i) I1 := by
      subst hI1
      refine ⟨by omega, ?_, ?_⟩
      · simp only [mv_up, ne1, if_true, if_false, hr2, e3]
      · intro i hi
        simp only [mv_up, ne2, if_true, if_false, Int.toNat_natCast]
        by_cases hin : i = n
        · simp only [hin, if_true]
          exact ⟨by rw [hv3, hv2], hv1⟩
        · simp only [hin, if_false]
          exact hr3 i (by omega)
    have a2 : k_mrow (n + 1) (fun i => if i = n then v else B i) J1 := by
      subst hJ1
      refine ⟨?_, ?_⟩
      · simp [mv_up, hm1, e3]
      · intro i hi
        simp only [mv_up, if_true, Int.toNat_natCast]
        by_cases hin : i = n
        · simp [hin]
        · simp [hin]
          exact hm2 i (by omega)
    obtain ⟨B', I', J', q1, q2, q3, q4, q5, q6, q7⟩ := ih m m' (n + 1) _ I1 J1 (by omega) (by omega) (by omega) (by omega) a1 a2
    refine ⟨B', I', J', q1, q2, by rw [show n + (k + 1) = n + 1 + k by omega]; exact q3, by rw [show n + (k + 1) = n + 1 + k by omega]; exact q4, ?_, ?_, ?_⟩
    · intro q hq
      rw [q5 q hq]
      simp only [not_or] at hq
      funext j
      simp only [← hI1, mv_up, hq.1, hq.2, if_false]
    · intro q hq
      rw [q6 q hq]
      simp only [not_or] at hq
      funext j
      simp only [← hJ1, mv_up, hq.1, hq.2, if_false]
    · intro j hj
      rw [q7 j hj]
      simp [← hJ1, mv_up, hj]
theorem k_put (b : Bool) (N : Nat) (hN : 9 ≤ N) (x : Int64) (v : Int32) (L L' : kjL) (n : Nat) (B : Nat → Nat) (I J : kjI) (hr : k_row b n B I) (hm : k_mrow n B J) :
    ∃ (r : Int32) (n' : Nat) (B' : Nat → Nat) (I' J' : kjI), kf20 b N x v I L = some (r, I', L) ∧ kf103 N x v J L' = some (r, J', L') ∧ (r = 0 ∨ r = 1) ∧ k_row b n' B' I' ∧ k_mrow n' B' J' ∧ k_fr (fun q => q = kb b 2 ∨ q = kb b 3) I I' ∧ k_fr (fun q => q = 59 ∨ q = 60) J J' ∧ (∀ j, j ≠ 2 → j ≠ 0 → J' 59 j = J 59 j) ∧ J' 59 0 = 0 := by
  have hm' : k_mrow n B (mv_up J 59 0 0) := ⟨by simp [mv_up]; exact hm.1, fun i hi => by simp [mv_up]; exact hm.2 i hi⟩
  have hf0 : k_fr (fun q => q = 59 ∨ q = 60) J (mv_up J 59 0 0) := by
    intro q hq
    simp only [not_or] at hq
    funext j
    simp [mv_up, hq.1]
  have hz : ∀ j, j ≠ 2 → j ≠ 0 → (mv_up J 59 0 0) 59 j = J 59 j := fun j _ h => by simp [mv_up, h]
  have hout : kf20 b N x v I L = some (0, I, L) → kf103 N x v J L' = some (0, mv_up J 59 0 0, L') → ∃ (r : Int32) (n' : Nat) (B' : Nat → Nat) (I' J' : kjI), kf20 b N x v I L = some (r, I', L) ∧ kf103 N x v J L' = some (r, J', L') ∧ (r = 0 ∨ r = 1) ∧ k_row b n' B' I' ∧ k_mrow n' B' J' ∧ k_fr (fun q => q = kb b 2 ∨ q = kb b 3) I I' ∧ k_fr (fun q => q = 59 ∨ q = 60) J J' ∧ (∀ j, j ≠ 2 → j ≠ 0 → J' 59 j = J 59 j) ∧ J' 59 0 = 0 :=
    fun h1 h2 => ⟨0, n, B, I, _, h1, h2, Or.inl rfl, hr, hm', fun _ _ => rfl, hf0, hz, by simp [mv_up]⟩
  obtain ⟨z, hz1, rfl⟩ : ∃ z : Int, (-2147483648 ≤ z ∧ z < 2147483648) ∧ v = w z := ⟨v.toInt, w_rng v, (w_of v).symm⟩
  have hs1 : (mv_up J 59 0 0) 59 2 = w n := hm'.1
  by_cases c1 : z < 1
  · refine hout ?_ ?_
    · unfold kf20; rw [if_pos (by (simp (disch := omega) only [w_lit, w_neg, w_add, w_sub, w_mul, w_lt, w_le, w_eq, w_clamp, w_in, not_true_eq_false, not_false_eq_true, Classical.not_not]); exact c1)]
    · unfold kf103; rw [if_pos (by (simp (disch := omega) only [w_lit, w_neg, w_add, w_sub, w_mul, w_lt, w_le, w_eq, w_clamp, w_in, not_true_eq_false, not_false_eq_true, Classical.not_not]); exact c1)]
  by_cases c2 : 8 < z
  · refine hout ?_ ?_
    · unfold kf20; rw [if_neg (by (simp (disch := omega) only [w_lit, w_neg, w_add, w_sub, w_mul, w_lt, w_le, w_eq, w_clamp, w_in, not_true_eq_false, not_false_eq_true, Classical.not_not]); exact c1), if_pos (by (simp (disch := omega) only [w_lit, w_neg, w_add, w_sub, w_mul, w_lt, w_le, w_eq, w_clamp, w_in, not_true_eq_false, not_false_eq_true, Classical.not_not]); exact c2)]
    · unfold kf103; rw [if_neg (by (simp (disch := omega) only [w_lit, w_neg, w_add, w_sub, w_mul, w_lt, w_le, w_eq, w_clamp, w_in, not_true_eq_false, not_false_eq_true, Classical.not_not]); exact c1), if_pos (by (simp (disch := omega) only [w_lit, w_neg, w_add, w_sub, w_mul, w_lt, w_le, w_eq, w_clamp, w_in, not_true_eq_false, not_false_eq_true, Classical.not_not]); exact c2)]
  have hn := hr.1
  by_cases c3 : z ≤ 1500 - n
  · obtain ⟨k, rfl⟩ : ∃ k : Nat, z = k := ⟨z.toNat, by omega⟩
    obtain ⟨B', I', J', q1, q2, q3, q4, q5, q6, q7⟩ := k_put_loop b N x L L' k N N n B I (mv_up J 59 0 0) (by omega) (by omega) (by omega) (by omega) hr hm'
    refine ⟨1, n + k, B', I', J', ?_, ?_, Or.inr rfl, q3, q4, q5, ?_, ?_, ?_⟩
    · unfold kf20
      rw [if_neg (by (simp (disch := omega) only [w_lit, w_neg, w_add, w_sub, w_mul, w_lt, w_le, w_eq, w_clamp, w_in, not_true_eq_false, not_false_eq_true, Classical.not_not]); exact c1), if_neg (by (simp (disch := omega) only [w_lit, w_neg, w_add, w_sub, w_mul, w_lt, w_le, w_eq, w_clamp, w_in, not_true_eq_false, not_false_eq_true, Classical.not_not]); exact c2), hr.2.1, if_pos (by (simp (disch := omega) only [w_lit, w_neg, w_add, w_sub, w_mul, w_lt, w_le, w_eq, w_clamp, w_in, not_true_eq_false, not_false_eq_true, Classical.not_not]); omega), ← q1]
      congr 1
      (simp only [w_lit, w_neg, w_add, w_sub, w_mul])
      congr 1
      omega
    · unfold kf103
      rw [if_neg (by (simp (disch := omega) only [w_lit, w_neg, w_add, w_sub, w_mul, w_lt, w_le, w_eq, w_clamp, w_in, not_true_eq_false, not_false_eq_true, Classical.not_not]); exact c1), if_neg (by (simp (disch := omega) only [w_lit, w_neg, w_add, w_sub, w_mul, w_lt, w_le, w_eq, w_clamp, w_in, not_true_eq_false, not_false_eq_true, Classical.not_not]); exact c2), hs1, if_pos (by (simp (disch := omega) only [w_lit, w_neg, w_add, w_sub, w_mul, w_lt, w_le, w_eq, w_clamp, w_in, not_true_eq_false, not_false_eq_true, Classical.not_not]); omega), ← q2]
      congr 1
      (simp only [w_lit, w_neg, w_add, w_sub, w_mul])
    · intro q hq
      rw [q6 q hq, hf0 q hq]
    · intro j h1 h2
      rw [q7 j h1, hz j h1 h2]
    · rw [q7 0 (by decide)]
      simp [mv_up]
  · refine hout ?_ ?_
    · unfold kf20; rw [if_neg (by (simp (disch := omega) only [w_lit, w_neg, w_add, w_sub, w_mul, w_lt, w_le, w_eq, w_clamp, w_in, not_true_eq_false, not_false_eq_true, Classical.not_not]); exact c1), if_neg (by (simp (disch := omega) only [w_lit, w_neg, w_add, w_sub, w_mul, w_lt, w_le, w_eq, w_clamp, w_in, not_true_eq_false, not_false_eq_true, Classical.not_not]); exact c2), hr.2.1, if_neg (by (simp (disch := omega) only [w_lit, w_neg, w_add, w_sub, w_mul, w_lt, w_le, w_eq, w_clamp, w_in, not_true_eq_false, not_false_eq_true, Classical.not_not]); omega)]
    · unfold kf103; rw [if_neg (by (simp (disch := omega) only [w_lit, w_neg, w_add, w_sub, w_mul, w_lt, w_le, w_eq, w_clamp, w_in, not_true_eq_false, not_false_eq_true, Classical.not_not]); exact c1), if_neg (by (simp (disch := omega) only [w_lit, w_neg, w_add, w_sub, w_mul, w_lt, w_le, w_eq, w_clamp, w_in, not_true_eq_false, not_false_eq_true, Classical.not_not]); exact c2), hs1, if_neg (by (simp (disch := omega) only [w_lit, w_neg, w_add, w_sub, w_mul, w_lt, w_le, w_eq, w_clamp, w_in, not_true_eq_false, not_false_eq_true, Classical.not_not]); omega)]
