/-! INSTRUCTIONS one by one, as both look at them. -/
def SZ : List Nat := [2, 3, 1, 2, 2, 1, 1, 1, 1, 1, 1, 1, 1, 1, 1, 1, 1, 1, 1, 1, 3, 2, 2, 2, 2, 2, 2, 2, 2, 2, 2, 2, 2, 2, 2, 2, 2, 2, 2, 3, 3, 1, 1, 1, 1, 2, 2, 2, 2, 1, 1, 1, 1, 3]
def osx (F : KF) (m p : Nat) : Nat := SZ.getD (F.mb m p) 0 + (if F.mb m p = 53 ∧ p + 1 < F.mn m then F.mb m (p + 1) else 0)
/-- the size of an INSTRUCTION, 0 if it is none -/
def osz (F : KF) (m p : Nat) : Nat := if F.mb m p < 54 then (if p + osx F m p ≤ F.mn m then osx F m p else 0) else 0
section
variable {b : Bool} {F : KF} {I J : kjI} (L : kjL)
theorem c_len (hF : KFok F) (hC : CV b F I) {m : Nat} (hm : m < F.nm) : kf32 b I L (w m) = some (w (F.mn m)) := by
  have h1 := hF.nm16
  unfold kf32
  rw [hC.n14, if_neg (by (simp (disch := omega) only [w_lit, w_neg, w_add, w_sub, w_mul, w_lt, w_le, w_eq, w_clamp, w_in, not_true_eq_false, not_false_eq_true, Classical.not_not]); omega), if_neg (by (simp (disch := omega) only [w_lit, w_neg, w_add, w_sub, w_mul, w_lt, w_le, w_eq, w_clamp, w_in, not_true_eq_false, not_false_eq_true, Classical.not_not]); omega), bif_in (by omega) (by decide), w_clamp (by omega), Int.toNat_natCast, hC.v21 m hm]
theorem c_len_out (hF : KFok F) (hC : CV b F I) {z : Int} (hz : -2147483648 ≤ z ∧ z < 2147483648) (h : z < 0 ∨ (F.nm : Int) ≤ z) : kf32 b I L (w z) = some (w 0) := by
  have h1 := hF.nm16
  unfold kf32
  rw [hC.n14]
  by_cases c : z < 0
  · rw [if_pos (by (simp (disch := omega) only [w_lit, w_neg, w_add, w_sub, w_mul, w_lt, w_le, w_eq, w_clamp, w_in, not_true_eq_false, not_false_eq_true, Classical.not_not]); omega)]
    rfl
  · rw [if_neg (by (simp (disch := omega) only [w_lit, w_neg, w_add, w_sub, w_mul, w_lt, w_le, w_eq, w_clamp, w_in, not_true_eq_false, not_false_eq_true, Classical.not_not]); omega), if_pos (by (simp (disch := omega) only [w_lit, w_neg, w_add, w_sub, w_mul, w_lt, w_le, w_eq, w_clamp, w_in, not_true_eq_false, not_false_eq_true, Classical.not_not]); omega)]
    rfl
theorem c_off (hF : KFok F) (hC : CV b F I) {m : Nat} (hm : m < F.nm) {p : Nat} (hp : p < F.mn m) : kf33 b I L (w m) (w p) = some (w (F.ma m + p : Nat)) := by
  have h1 := hF.nm16
  have h2 := hF.mn120 m hm
  unfold kf33
  rw [if_neg (by (simp (disch := omega) only [w_lit, w_neg, w_add, w_sub, w_mul, w_lt, w_le, w_eq, w_clamp, w_in, not_true_eq_false, not_false_eq_true, Classical.not_not]); omega), c_len L hF hC hm, sbind, if_neg (by (simp (disch := omega) only [w_lit, w_neg, w_add, w_sub, w_mul, w_lt, w_le, w_eq, w_clamp, w_in, not_true_eq_false, not_false_eq_true, Classical.not_not]); omega), bif_in (by omega) (by decide), w_clamp (by omega), Int.toNat_natCast, hC.v20 m hm, w_add]
  rfl
theorem c_off_out (hF : KFok F) (hC : CV b F I) {m : Nat} (hm : m < F.nm) {z : Int} (hz : -2147483648 ≤ z ∧ z < 2147483648) (h : z < 0 ∨ (F.mn m : Int) ≤ z) : kf33 b I L (w m) (w z) = some (w (-1)) := by
  have h1 := hF.nm16
  have h2 := hF.mn120 m hm
  unfold kf33
  by_cases c : z < 0
  · rw [if_pos (by (simp (disch := omega) only [w_lit, w_neg, w_add, w_sub, w_mul, w_lt, w_le, w_eq, w_clamp, w_in, not_true_eq_false, not_false_eq_true, Classical.not_not]); omega)]
    rfl
  · rw [if_neg (by (simp (disch := omega) only [w_lit, w_neg, w_add, w_sub, w_mul, w_lt, w_le, w_eq, w_clamp, w_in, not_true_eq_false, not_false_eq_true, Classical.not_not]); omega), c_len L hF hC hm, sbind, if_pos (by (simp (disch := omega) only [w_lit, w_neg, w_add, w_sub, w_mul, w_lt, w_le, w_eq, w_clamp, w_in, not_true_eq_false, not_false_eq_true, Classical.not_not]); omega)]
    rfl
theorem c_off_no (hF : KFok F) (hC : CV b F I) {y z : Int} (hy : -2147483648 ≤ y ∧ y < 2147483648) (h : y < 0 ∨ (F.nm : Int) ≤ y) (hz : -2147483648 ≤ z ∧ z < 2147483648) : kf33 b I L (w y) (w z) = some (w (-1)) := by
  unfold kf33
  by_cases c : z < 0
  · rw [if_pos (by (simp (disch := omega) only [w_lit, w_neg, w_add, w_sub, w_mul, w_lt, w_le, w_eq, w_clamp, w_in, not_true_eq_false, not_false_eq_true, Classical.not_not]); omega)]
    rfl
  · rw [if_neg (by (simp (disch := omega) only [w_lit, w_neg, w_add, w_sub, w_mul, w_lt, w_le, w_eq, w_clamp, w_in, not_true_eq_false, not_false_eq_true, Classical.not_not]); omega), c_len_out L hF hC hy h, sbind, if_pos (by (simp (disch := omega) only [w_lit, w_neg, w_add, w_sub, w_mul, w_lt, w_le, w_eq, w_clamp, w_in, not_true_eq_false, not_false_eq_true, Classical.not_not]); omega)]
    rfl
theorem c_byte (hF : KFok F) (hC : CV b F I) {m : Nat} (hm : m < F.nm) {p k : Nat} (hp : p + k < F.mn m) : kf67 b I L (w m) (w p) (w k) = some (w (F.mb m (p + k))) := by
  have h1 := hF.ma1500 m hm
  obtain ⟨n, n1, n2, n3⟩ := hC.n2
  have n4 := n3 m hm
  unfold kf67 kf22
  rw [w_add, show ((p : Int) + k) = ((p + k : Nat) : Int) by omega, c_off L hF hC hm hp, sbind, n2, if_neg (by (simp (disch := omega) only [w_lit, w_neg, w_add, w_sub, w_mul, w_lt, w_le, w_eq, w_clamp, w_in, not_true_eq_false, not_false_eq_true, Classical.not_not]); omega), if_neg (by (simp (disch := omega) only [w_lit, w_neg, w_add, w_sub, w_mul, w_lt, w_le, w_eq, w_clamp, w_in, not_true_eq_false, not_false_eq_true, Classical.not_not]); omega), bif_in (by omega) (by decide), w_clamp (by omega), Int.toNat_natCast, hC.v3 m hm _ hp, sbind]
theorem c_byte_out (hF : KFok F) (hC : CV b F I) {m : Nat} (hm : m < F.nm) {p k : Nat} (hk : p + k < 2147483648) (hp : F.mn m ≤ p + k) : kf67 b I L (w m) (w p) (w k) = some (w (-1)) := by
  unfold kf67 kf22
  rw [w_add, c_off_out L hF hC hm (by omega) (by omega), sbind, if_pos (by decide), sbind]
  rfl
theorem SZ_ok (op : Nat) (h : op < 54) : (kjSta 0).getD op 0 = w (SZ.getD op 0) ∧ 1 ≤ SZ.getD op 0 ∧ SZ.getD op 0 ≤ 3 ∧ SZ.getD 53 0 = 3 := by
  have key : ∀ q : Fin 54, (kjSta 0).getD q.1 0 = Int32.ofInt ((SZ.getD q.1 0 : Nat) : Int) ∧ 1 ≤ SZ.getD q.1 0 ∧ SZ.getD q.1 0 ≤ 3 ∧ SZ.getD 53 0 = 3 := by decide +kernel
  exact key ⟨op, h⟩
theorem c_size (hF : KFok F) (hC : CV b F I) {m : Nat} (hm : m < F.nm) {p : Nat} (hp : p < F.mn m) : kf68 b I L (w m) (w p) = some (w (osz F m p)) := by
  have h2 := hF.mn120 m hm
  have hB := hF.mb256 m hm p hp
  have e0 : (0 : Int32) = w (0 : Nat) := rfl
  have e1 : (1 : Int32) = w (1 : Nat) := rfl
  have hb : kf67 b I L (w m) (w p) 0 = some (w (F.mb m p)) := by
    rw [e0]
    exact c_byte L hF hC hm (k := 0) hp
  unfold kf68 kf68_51 osz
  rw [hb, sbind, if_neg (by (simp (disch := omega) only [w_lit, w_neg, w_add, w_sub, w_mul, w_lt, w_le, w_eq, w_clamp, w_in, not_true_eq_false, not_false_eq_true, Classical.not_not]); omega), c_len L hF hC hm]
  by_cases c1 : F.mb m p < 54
  · obtain ⟨s1, s2, s3, s4⟩ := SZ_ok (F.mb m p) c1
    rw [if_pos (by (simp (disch := omega) only [w_lit, w_neg, w_add, w_sub, w_mul, w_lt, w_le, w_eq, w_clamp, w_in, not_true_eq_false, not_false_eq_true, Classical.not_not]); omega), bif_in (by omega) (by decide), w_clamp (by omega), Int.toNat_natCast, s1, if_pos c1]
    by_cases c2 : F.mb m p = 53
    · rw [if_neg (show ¬ ¬ w (F.mb m p) = 53 by (simp (disch := omega) only [w_lit, w_neg, w_add, w_sub, w_mul, w_lt, w_le, w_eq, w_clamp, w_in, not_true_eq_false, not_false_eq_true, Classical.not_not]); omega)]
      by_cases c3 : p + 1 < F.mn m
      · have hB1 := hF.mb256 m hm (p + 1) c3
        rw [e1, c_byte L hF hC hm (k := 1) c3, sbind, sbind]
        have e3 : (if (0 : Int32) < w (F.mb m (p + 1)) then w (F.mb m (p + 1)) else 0) = w (F.mb m (p + 1)) := by
          by_cases z : 0 < F.mb m (p + 1)
          · rw [if_pos (by (simp (disch := omega) only [w_lit, w_neg, w_add, w_sub, w_mul, w_lt, w_le, w_eq, w_clamp, w_in, not_true_eq_false, not_false_eq_true, Classical.not_not]); omega)]
          · rw [if_neg (by (simp (disch := omega) only [w_lit, w_neg, w_add, w_sub, w_mul, w_lt, w_le, w_eq, w_clamp, w_in, not_true_eq_false, not_false_eq_true, Classical.not_not]); omega), show F.mb m (p + 1) = 0 by omega]
            rfl
        have ex1 : osx F m p = SZ.getD (F.mb m p) 0 + F.mb m (p + 1) := by
          unfold osx
          rw [if_pos ⟨c2, c3⟩]
        rw [e3, w_add, w_sub]
        by_cases c4 : p + osx F m p ≤ F.mn m
        · rw [if_neg (by (simp (disch := omega) only [w_lit, w_neg, w_add, w_sub, w_mul, w_lt, w_le, w_eq, w_clamp, w_in, not_true_eq_false, not_false_eq_true, Classical.not_not]); omega), if_pos c4, ex1]
          rfl
        · rw [if_pos (by (simp (disch := omega) only [w_lit, w_neg, w_add, w_sub, w_mul, w_lt, w_le, w_eq, w_clamp, w_in, not_true_eq_false, not_false_eq_true, Classical.not_not]); omega), if_neg c4]
          rfl
      · have ex1 : osx F m p = 3 := by
          unfold osx
          rw [if_neg (fun z => c3 z.2), c2, s4]
        rw [e1, c_byte_out L hF hC hm (k := 1) (by omega) (by omega), sbind, sbind]
        rw [if_neg (show ¬ ((0 : Int32) < w (-1)) by decide), c2, s4]
        (simp only [w_lit, w_neg, w_add, w_sub, w_mul])
        rw [if_pos (by (simp (disch := omega) only [w_lit, w_neg, w_add, w_sub, w_mul, w_lt, w_le, w_eq, w_clamp, w_in, not_true_eq_false, not_false_eq_true, Classical.not_not]); omega), if_neg (by omega)]
        rfl
    · have ex1 : osx F m p = SZ.getD (F.mb m p) 0 := by
        unfold osx
        rw [if_neg (fun z => c2 z.1), Nat.add_zero]
      rw [if_pos (by (simp (disch := omega) only [w_lit, w_neg, w_add, w_sub, w_mul, w_lt, w_le, w_eq, w_clamp, w_in, not_true_eq_false, not_false_eq_true, Classical.not_not]); omega), sbind, w_sub]
      by_cases c4 : p + osx F m p ≤ F.mn m
      · rw [if_neg (by (simp (disch := omega) only [w_lit, w_neg, w_add, w_sub, w_mul, w_lt, w_le, w_eq, w_clamp, w_in, not_true_eq_false, not_false_eq_true, Classical.not_not]); omega), if_pos c4, ex1]
      · rw [if_pos (by (simp (disch := omega) only [w_lit, w_neg, w_add, w_sub, w_mul, w_lt, w_le, w_eq, w_clamp, w_in, not_true_eq_false, not_false_eq_true, Classical.not_not]); omega), if_neg c4]
        rfl
  · rw [if_neg (by (simp (disch := omega) only [w_lit, w_neg, w_add, w_sub, w_mul, w_lt, w_le, w_eq, w_clamp, w_in, not_true_eq_false, not_false_eq_true, Classical.not_not]); omega), if_neg c1]
    rfl
/-- the same in the reference -/
theorem m_byte (hF : KFok F) (hM : MV F J) {m : Nat} (hm : m < F.nm) {p : Nat} (hp : p < F.mn m) : kf115 J L (w m) (w p) = some (w (F.mb m p)) := by
  have h1 := hF.nm16
  have h2 := hF.mn120 m hm
  unfold kf115
  (simp only [w_lit, w_neg, w_add, w_sub, w_mul])
  rw [bif_in (by omega) (by decide), w_clamp (by omega), show (120 * (m : Int) + p).toNat = 120 * m + p by omega, hM.v75 m hm p hp]
theorem opl_ok (op : Nat) (h : op < 53) (J : kjI) (L : kjL) : kf114 J L (w op) = some (w (SZ.getD op 0)) := by
  have key : ∀ q : Fin 53, kf114 (fun _ _ => 0) (fun _ _ => 0) (Int32.ofInt ((q.1 : Nat) : Int)) = some (Int32.ofInt ((SZ.getD q.1 0 : Nat) : Int)) := by decide +kernel
  exact key ⟨op, h⟩
theorem m_size (hF : KFok F) (hM : MV F J) {m : Nat} (hm : m < F.nm) {p : Nat} (hp : p < F.mn m) : kf116 J L (w m) (w p) = some (w (if osz F m p = 0 then -1 else (osz F m p : Int))) := by
  have h1 := hF.nm16
  have h2 := hF.mn120 m hm
  have hB := hF.mb256 m hm p hp
  unfold kf116 kf116_33 kf116_56 osz
  rw [m_byte L hF hM hm hp, sbind]
  simp only [w_in_t (n := 16) (show (0:Int) ≤ m ∧ (m:Int) < (16:Nat) by omega), cond_true, w_clamp (show -2147483648 ≤ (m : Int) ∧ (m : Int) < 2147483648 by omega), Int.toNat_natCast, hM.v74 m hm]
  by_cases c1 : F.mb m p < 54
  · obtain ⟨s1, s2, s3, s4⟩ := SZ_ok (F.mb m p) c1
    rw [if_neg (by (simp (disch := omega) only [w_lit, w_neg, w_add, w_sub, w_mul, w_lt, w_le, w_eq, w_clamp, w_in, not_true_eq_false, not_false_eq_true, Classical.not_not]); omega), if_pos c1]
    by_cases c2 : F.mb m p = 53
    · rw [if_neg (show ¬ ¬ w (F.mb m p) = 53 by (simp (disch := omega) only [w_lit, w_neg, w_add, w_sub, w_mul, w_lt, w_le, w_eq, w_clamp, w_in, not_true_eq_false, not_false_eq_true, Classical.not_not]); omega), if_neg (show ¬ ¬ w (F.mb m p) = 53 by (simp (disch := omega) only [w_lit, w_neg, w_add, w_sub, w_mul, w_lt, w_le, w_eq, w_clamp, w_in, not_true_eq_false, not_false_eq_true, Classical.not_not]); omega)]
      (simp only [w_lit, w_neg, w_add, w_sub, w_mul])
      by_cases c3 : p + 1 < F.mn m
      · have hB1 := hF.mb256 m hm (p + 1) c3
        rw [if_pos (by (simp (disch := omega) only [w_lit, w_neg, w_add, w_sub, w_mul, w_lt, w_le, w_eq, w_clamp, w_in, not_true_eq_false, not_false_eq_true, Classical.not_not]); omega), show ((p : Int) + 1) = ((p + 1 : Nat) : Int) by omega, m_byte L hF hM hm c3, sbind, w_add, w_add]
        have ex1 : osx F m p = 3 + F.mb m (p + 1) := by
          unfold osx
          rw [if_pos ⟨c2, c3⟩, c2, s4]
        by_cases c4 : p + osx F m p ≤ F.mn m
        · rw [if_pos (by (simp (disch := omega) only [w_lit, w_neg, w_add, w_sub, w_mul, w_lt, w_le, w_eq, w_clamp, w_in, not_true_eq_false, not_false_eq_true, Classical.not_not]); omega), if_pos c4, if_neg (by omega), ex1]
          rfl
        · rw [if_neg (by (simp (disch := omega) only [w_lit, w_neg, w_add, w_sub, w_mul, w_lt, w_le, w_eq, w_clamp, w_in, not_true_eq_false, not_false_eq_true, Classical.not_not]); omega), if_neg c4, if_pos rfl]
      · have ex1 : osx F m p = 3 := by
          unfold osx
          rw [if_neg (fun z => c3 z.2), c2, s4]
        rw [if_neg (by (simp (disch := omega) only [w_lit, w_neg, w_add, w_sub, w_mul, w_lt, w_le, w_eq, w_clamp, w_in, not_true_eq_false, not_false_eq_true, Classical.not_not]); omega), if_neg (show ¬ (p + osx F m p ≤ F.mn m) by omega), if_pos rfl]
    · rw [if_pos (show ¬ w (F.mb m p) = 53 by (simp (disch := omega) only [w_lit, w_neg, w_add, w_sub, w_mul, w_lt, w_le, w_eq, w_clamp, w_in, not_true_eq_false, not_false_eq_true, Classical.not_not]); omega), if_pos (show ¬ w (F.mb m p) = 53 by (simp (disch := omega) only [w_lit, w_neg, w_add, w_sub, w_mul, w_lt, w_le, w_eq, w_clamp, w_in, not_true_eq_false, not_false_eq_true, Classical.not_not]); omega), opl_ok _ (by omega), sbind, w_add]
      have ex1 : osx F m p = SZ.getD (F.mb m p) 0 := by
        unfold osx
        rw [if_neg (fun z => c2 z.1), Nat.add_zero]
      by_cases c4 : p + osx F m p ≤ F.mn m
      · rw [if_pos (by (simp (disch := omega) only [w_lit, w_neg, w_add, w_sub, w_mul, w_lt, w_le, w_eq, w_clamp, w_in, not_true_eq_false, not_false_eq_true, Classical.not_not]); omega), if_pos c4, if_neg (by omega), ex1]
      · rw [if_neg (by (simp (disch := omega) only [w_lit, w_neg, w_add, w_sub, w_mul, w_lt, w_le, w_eq, w_clamp, w_in, not_true_eq_false, not_false_eq_true, Classical.not_not]); omega), if_neg c4, if_pos rfl]
        rfl
  · rw [if_pos (by (simp (disch := omega) only [w_lit, w_neg, w_add, w_sub, w_mul, w_lt, w_le, w_eq, w_clamp, w_in, not_true_eq_false, not_false_eq_true, Classical.not_not]); omega), if_neg c1, if_pos rfl]
    rfl
theorem osz_le {m : Nat} {p : Nat} (h : osz F m p ≠ 0) : p + osz F m p ≤ F.mn m ∧ F.mb m p < 54 ∧ osz F m p = osx F m p := by
  unfold osz at *
  by_cases c1 : F.mb m p < 54
  · rw [if_pos c1] at *
    by_cases c2 : p + osx F m p ≤ F.mn m
    · rw [if_pos c2] at *
      exact ⟨c2, c1, rfl⟩
    · rw [if_neg c2] at h
      exact absurd rfl h
  · rw [if_neg c1] at h
    exact absurd rfl h
end
