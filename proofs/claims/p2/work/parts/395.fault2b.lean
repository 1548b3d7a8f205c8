def BG (b : Bool) (F : KF) (m : Nat) (I : kjI) : Prop := ∀ i, i < F.mn m → I (kb b 25) (F.ma m + i) = w (bi (bg F m i))
def BGm (F : KF) (m : Nat) (J : kjI) : Prop := ∀ i, i < F.mn m → J 76 (120 * m + i) = w (bi (bg F m i))
section
variable {b : Bool} {F : KF} {I J : kjI} (L : kjL)
theorem c_begins (hF : KFok F) (hC : CV b F I) {m : Nat} (hm : m < F.nm) (hG : BG b F m I) {t : Nat} (ht : t < 2147483648) : (tOk F m t → kf66 b I L (w m) (w t) = some 1) ∧ (¬ tOk F m t → kf66 b I L (w m) (w t) = some 0) := by
  have h3 := hF.ma1500 m hm
  unfold kf66 tOk
  by_cases c : t < F.mn m
  · rw [c_off L hF hC hm c, sbind, if_neg (by (simp (disch := omega) only [w_lit, w_neg, w_add, w_sub, w_mul, w_lt, w_le, w_eq, w_clamp, w_toInt, w_in, not_true_eq_false, not_false_eq_true, Classical.not_not]); omega), if_neg (by (simp (disch := omega) only [w_lit, w_neg, w_add, w_sub, w_mul, w_lt, w_le, w_eq, w_clamp, w_toInt, w_in, not_true_eq_false, not_false_eq_true, Classical.not_not]); omega), bif_in (by omega) (by decide), w_clamp (by omega), Int.toNat_natCast, hG t c]
    cases hb : bg F m t
    · exact ⟨fun q => by simp at q, fun _ => rfl⟩
    · exact ⟨fun _ => rfl, fun q => by simp [c] at q⟩
  · rw [c_off_out L hF hC hm (by omega) (by omega), sbind, if_pos (by decide)]
    exact ⟨fun q => absurd q.1 c, fun _ => rfl⟩
theorem c_faulty_loop (hF : KFok F) (hC : CV b F I) (N : Nat) {m : Nat} (hm : m < F.nm) (hG : BG b F m I) {p : Nat} (hp : p < F.mn m) (hs : osz F m p ≠ 0) : ∀ (k q f : Nat), k < f → tg F m p - q = k → q ≤ tg F m p →
    (((∀ j, q ≤ j → j < tg F m p → tOk F m (tgt F m p j)) ∧ (p + osz F m p = F.mn m → ¬ gon F m p)) → kf71_33 b N I L f (w m) (w p) (w (osz F m p)) (w (tg F m p)) (w q) = some 0) ∧
    (¬ ((∀ j, q ≤ j → j < tg F m p → tOk F m (tgt F m p j)) ∧ (p + osz F m p = F.mn m → ¬ gon F m p)) → kf71_33 b N I L f (w m) (w p) (w (osz F m p)) (w (tg F m p)) (w q) = some 1) := by
  have h2 := hF.mn120 m hm
  have h4 := (osz_le hs).1
  have htg : tg F m p ≤ 256 := by
    unfold tg
    by_cases c : F.mb m p = 53
    · have := hF.mb256 m hm (p + 1) (op1_lt hs (by omega))
      rw [if_pos c]
      omega
    · rw [if_neg c]
      by_cases c2 : 21 ≤ F.mb m p ∧ F.mb m p ≤ 37
      · rw [if_pos c2]
        omega
      · rw [if_neg c2]
        omega
  intro k
  induction k with
  | zero =>
    intro q f hf hk hq
    obtain ⟨f, rfl⟩ : ∃ x, f = x + 1 := ⟨f - 1, by omega⟩
    unfold kf71_33
    rw [if_pos (by (simp (disch := omega) only [w_lit, w_neg, w_add, w_sub, w_mul, w_lt, w_le, w_eq, w_clamp, w_toInt, w_in, not_true_eq_false, not_false_eq_true, Classical.not_not]); omega), c_len L hF hC hm, sbind, w_add]
    obtain ⟨g1, g2⟩ := c_gon L hF hC hm hp
    by_cases c : p + osz F m p = F.mn m
    · rw [if_neg (by (simp (disch := omega) only [w_lit, w_neg, w_add, w_sub, w_mul, w_lt, w_le, w_eq, w_clamp, w_toInt, w_in, not_true_eq_false, not_false_eq_true, Classical.not_not]); omega)]
      by_cases c2 : gon F m p
      · rw [g1 c2, sbind, if_neg (by decide)]
        exact ⟨fun z => absurd c2 (z.2 c), fun _ => rfl⟩
      · rw [g2 c2, sbind, if_pos (by decide)]
        exact ⟨fun _ => rfl, fun z => absurd ⟨fun j d1 d2 => by omega, fun _ => c2⟩ z⟩
    · rw [if_pos (by (simp (disch := omega) only [w_lit, w_neg, w_add, w_sub, w_mul, w_lt, w_le, w_eq, w_clamp, w_toInt, w_in, not_true_eq_false, not_false_eq_true, Classical.not_not]); omega)]
      exact ⟨fun _ => rfl, fun z => absurd ⟨fun j d1 d2 => by omega, fun y => absurd y c⟩ z⟩
  | succ k ih =>
    intro q f hf hk hq
    obtain ⟨f, rfl⟩ : ∃ x, f = x + 1 := ⟨f - 1, by omega⟩
    obtain ⟨i1, i2⟩ := ih (q + 1) f (by omega) (by omega) (by omega)
    have hlt := tgt_lt hF hm hs (k := q) (by omega)
    obtain ⟨g1, g2⟩ := c_begins L hF hC hm hG (t := tgt F m p q) (by omega)
    have e1 : w (q : Int) + 1 = w (q + 1 : Nat) := by
      (simp only [w_lit, w_neg, w_add, w_sub, w_mul])
      rfl
    unfold kf71_33
    rw [if_neg (by (simp (disch := omega) only [w_lit, w_neg, w_add, w_sub, w_mul, w_lt, w_le, w_eq, w_clamp, w_toInt, w_in, not_true_eq_false, not_false_eq_true, Classical.not_not]); omega), c_tgt L hF hC hm hp hs (by omega), sbind, e1]
    by_cases c : tOk F m (tgt F m p q)
    · rw [g1 c, sbind, if_pos (by decide)]
      refine ⟨fun z => i1 ⟨fun j d1 d2 => z.1 j (by omega) d2, z.2⟩, fun z => i2 (fun y => z ⟨fun j d1 d2 => ?_, y.2⟩)⟩
      by_cases cj : j = q
      · subst cj
        exact c
      · exact y.1 j (by omega) d2
    · rw [g2 c, sbind, if_neg (by decide)]
      exact ⟨fun z => absurd (z.1 q (Nat.le_refl _) (by omega)) c, fun _ => rfl⟩
theorem c_faulty (hF : KFok F) (hC : CV b F I) (N : Nat) (hN : 300 ≤ N) {m : Nat} (hm : m < F.nm) (hG : BG b F m I) {p : Nat} (hp : p < F.mn m) : (Gd F m p → kf71 b N I L (w m) (w p) = some 0) ∧ (¬ Gd F m p → kf71 b N I L (w m) (w p) = some 1) := by
  have h2 := hF.mn120 m hm
  unfold kf71 Gd
  rw [c_size L hF hC hm hp, sbind]
  by_cases hs : osz F m p = 0
  · rw [hs, if_pos (by decide)]
    exact ⟨fun z => absurd rfl z.1, fun _ => rfl⟩
  · have h4 := (osz_le hs).1
    rw [if_neg (by (simp (disch := omega) only [w_lit, w_neg, w_add, w_sub, w_mul, w_lt, w_le, w_eq, w_clamp, w_toInt, w_in, not_true_eq_false, not_false_eq_true, Classical.not_not]); omega)]
    obtain ⟨n1, n2⟩ := c_names L hF hC hm hp hs
    by_cases c : nmOk F m p
    · rw [n1 c, sbind, if_pos rfl, c_tg L hF hC hm hp hs, sbind]
      have htg : tg F m p < 300 := by
        unfold tg
        by_cases c : F.mb m p = 53
        · have := hF.mb256 m hm (p + 1) (op1_lt hs (by omega))
          rw [if_pos c]
          omega
        · rw [if_neg c]
          by_cases c2 : 21 ≤ F.mb m p ∧ F.mb m p ≤ 37
          · rw [if_pos c2]
            omega
          · rw [if_neg c2]
            omega
      obtain ⟨i1, i2⟩ := c_faulty_loop L hF hC N hm hG hp hs (tg F m p - 0) 0 N (by omega) rfl (by omega)
      refine ⟨fun z => i1 ⟨fun j _ d => z.2.2.1 j d, z.2.2.2⟩, fun z => i2 (fun y => z ⟨hs, c, fun j d => y.1 j (by omega) d, y.2⟩)⟩
    · rw [n2 c, sbind, if_neg (by decide)]
      exact ⟨fun z => absurd z.2.1 c, fun _ => rfl⟩
/-- the reference's -/
theorem m_begins (hF : KFok F) (hM : MV F J) {m : Nat} (hm : m < F.nm) (hG : BGm F m J) {t : Nat} (ht : t < 2147483648) : (tOk F m t → kf118 J L (w m) (w t) = some 1) ∧ (¬ tOk F m t → kf118 J L (w m) (w t) = some 0) := by
  have h1 := hF.nm16
  have h2 := hF.mn120 m hm
  unfold kf118 tOk
  rw [bif_in (by omega) (by decide), w_clamp (by omega), Int.toNat_natCast, hM.v74 m hm]
  by_cases c : t < F.mn m
  · rw [if_neg (by (simp (disch := omega) only [w_lit, w_neg, w_add, w_sub, w_mul, w_lt, w_le, w_eq, w_clamp, w_toInt, w_in, not_true_eq_false, not_false_eq_true, Classical.not_not]); omega)]
    (simp only [w_lit, w_neg, w_add, w_sub, w_mul])
    rw [bif_in (by omega) (by decide), w_clamp (by omega), show (120 * (m : Int) + t).toNat = 120 * m + t by omega, hG t c]
    cases hb : bg F m t
    · exact ⟨fun q => by simp at q, fun _ => rfl⟩
    · exact ⟨fun _ => rfl, fun q => by simp [c] at q⟩
  · rw [if_pos (by (simp (disch := omega) only [w_lit, w_neg, w_add, w_sub, w_mul, w_lt, w_le, w_eq, w_clamp, w_toInt, w_in, not_true_eq_false, not_false_eq_true, Classical.not_not]); omega)]
    exact ⟨fun q => absurd q.1 c, fun _ => rfl⟩
theorem m_choose_loop (hF : KFok F) (hM : MV F J) (N : Nat) {m : Nat} (hm : m < F.nm) (hG : BGm F m J) {p : Nat} (hp : p < F.mn m) (hs : osz F m p ≠ 0) (ho : F.mb m p = 53) : ∀ (k q f : Nat), k < f → F.mb m (p + 1) + 1 - q = k → q ≤ F.mb m (p + 1) + 1 →
    ((∀ j, q ≤ j → j < tg F m p → tOk F m (tgt F m p j)) → kf119_297 N J L f (w m) (w p) (w (F.mb m (p + 1))) (w q) = some 1) ∧ (¬ (∀ j, q ≤ j → j < tg F m p → tOk F m (tgt F m p j)) → kf119_297 N J L f (w m) (w p) (w (F.mb m (p + 1))) (w q) = some 0) := by
  have h2 := hF.mn120 m hm
  have hB1 := hF.mb256 m hm (p + 1) (op1_lt hs (by omega))
  have h53 := op53 hs ho
  have htg : tg F m p = F.mb m (p + 1) + 1 := by
    unfold tg
    rw [if_pos ho]
  intro k
  induction k with
  | zero =>
    intro q f hf hk hq
    obtain ⟨f, rfl⟩ : ∃ x, f = x + 1 := ⟨f - 1, by omega⟩
    unfold kf119_297
    rw [if_pos (by (simp (disch := omega) only [w_lit, w_neg, w_add, w_sub, w_mul, w_lt, w_le, w_eq, w_clamp, w_toInt, w_in, not_true_eq_false, not_false_eq_true, Classical.not_not]); omega)]
    exact ⟨fun _ => rfl, fun z => absurd (fun j d1 d2 => by omega) z⟩
  | succ k ih =>
    intro q f hf hk hq
    obtain ⟨f, rfl⟩ : ∃ x, f = x + 1 := ⟨f - 1, by omega⟩
    obtain ⟨i1, i2⟩ := ih (q + 1) f (by omega) (by omega) (by omega)
    have hlt := tgt_lt hF hm hs (k := q) (by omega)
    have ht : tgt F m p q = F.mb m (p + 2 + q) := by
      unfold tgt
      rw [if_pos ho]
    obtain ⟨g1, g2⟩ := m_begins L hF hM hm hG (t := tgt F m p q) (by omega)
    have e1 : w (q : Int) + 1 = w (q + 1 : Nat) := by
      (simp only [w_lit, w_neg, w_add, w_sub, w_mul])
      rfl
    unfold kf119_297
    rw [if_neg (by (simp (disch := omega) only [w_lit, w_neg, w_add, w_sub, w_mul, w_lt, w_le, w_eq, w_clamp, w_toInt, w_in, not_true_eq_false, not_false_eq_true, Classical.not_not]); omega), e1]
    (simp only [w_lit, w_neg, w_add, w_sub, w_mul])
    rw [show ((p : Int) + 2 + q) = ((p + 2 + q : Nat) : Int) by omega, m_byte L hF hM hm (by omega), sbind, ← ht]
    by_cases c : tOk F m (tgt F m p q)
    · rw [g1 c, sbind, if_pos (by decide)]
      refine ⟨fun z => i1 (fun j d1 d2 => z j (by omega) d2), fun z => i2 (fun y => z (fun j d1 d2 => ?_))⟩
      by_cases cj : j = q
      · subst cj
        exact c
      · exact y j (by omega) d2
    · rw [g2 c, sbind, if_neg (by decide)]
      exact ⟨fun z => absurd (z q (Nat.le_refl _) (by omega)) c, fun _ => rfl⟩
theorem m_good (hF : KFok F) (hM : MV F J) (N : Nat) (hN : 300 ≤ N) {m : Nat} (hm : m < F.nm) (hG : BGm F m J) {p : Nat} (hp : p < F.mn m) : (Gd F m p → kf119 N J L (w m) (w p) = some 1) ∧ (¬ Gd F m p → kf119 N J L (w m) (w p) = some 0) := by
  have h1 := hF.nm16
  have h2 := hF.mn120 m hm
  have h3 := hF.ml8 m hm
  have h4 := hF.nc8
  have h5 := hF.ns8
  have hB := hF.mb256 m hm p hp
  unfold kf119
  rw [m_size L hF hM hm hp, sbind]
  by_cases hs : osz F m p = 0
  · rw [if_pos hs, if_neg (by decide)]
    exact ⟨fun z => absurd hs z.1, fun _ => rfl⟩
  obtain ⟨h6, h7, h8⟩ := osz_le hs
  rw [if_neg hs, if_pos (by (simp (disch := omega) only [w_lit, w_neg, w_add, w_sub, w_mul, w_lt, w_le, w_eq, w_clamp, w_toInt, w_in, not_true_eq_false, not_false_eq_true, Classical.not_not]); omega), m_byte L hF hM hm hp, sbind]
  -- the operand
  have key : ∃ a : Nat, a < 256 ∧ (p + 1 < F.mn m ∧ 1 < osz F m p → a = F.mb m (p + 1)) ∧ (if w (osz F m p) ≤ 1 then kf119_39 N J L (w m) (w p) (w (osz F m p)) (w (F.mb m p)) 0 else (kf115 J L (w m) (w p + 1)).bind fun r7 => kf119_39 N J L (w m) (w p) (w (osz F m p)) (w (F.mb m p)) r7) = kf119_39 N J L (w m) (w p) (w (osz F m p)) (w (F.mb m p)) (w a) := by
    by_cases c : osz F m p ≤ 1
    · refine ⟨0, by omega, fun z => by omega, ?_⟩
      rw [if_pos (by (simp (disch := omega) only [w_lit, w_neg, w_add, w_sub, w_mul, w_lt, w_le, w_eq, w_clamp, w_toInt, w_in, not_true_eq_false, not_false_eq_true, Classical.not_not]); omega)]
      rfl
    · refine ⟨F.mb m (p + 1), hF.mb256 m hm _ (by omega), fun _ => rfl, ?_⟩
      rw [if_neg (by (simp (disch := omega) only [w_lit, w_neg, w_add, w_sub, w_mul, w_lt, w_le, w_eq, w_clamp, w_toInt, w_in, not_true_eq_false, not_false_eq_true, Classical.not_not]); omega)]
      (simp only [w_lit, w_neg, w_add, w_sub, w_mul])
      rw [show ((p : Int) + 1) = ((p + 1 : Nat) : Int) by omega, m_byte L hF hM hm (by omega), sbind]
  obtain ⟨a, a1, a2, a3⟩ := key
  rw [a3]
  have hx : ∀ z, SZ.getD (F.mb m p) 0 = z → z ≤ osz F m p := fun z hz => by
    have h6 : SZ.getD (F.mb m p) 0 ≤ osx F m p := Nat.le_add_right _ _
    omega
  have a2' : (F.mb m p = 0 ∨ F.mb m p = 3 ∨ F.mb m p = 4 ∨ (20 ≤ F.mb m p ∧ F.mb m p ≤ 40) ∨ (45 ≤ F.mb m p ∧ F.mb m p ≤ 48) ∨ F.mb m p = 53 ∨ F.mb m p = 1) → a = F.mb m (p + 1) := by
    intro z
    refine a2 ⟨op1_lt hs z, ?_⟩
    by_cases c : F.mb m p = 1 ∨ F.mb m p = 20 ∨ F.mb m p = 39 ∨ F.mb m p = 40 ∨ F.mb m p = 53
    · have := hx 3 (sz3 _ c)
      omega
    · have := hx 2 (sz2 _ (by omega))
      omega
  -- the end of the CODE
  have hend : (¬ (p + osz F m p = F.mn m → ¬ gon F m p) → kf119_39 N J L (w m) (w p) (w (osz F m p)) (w (F.mb m p)) (w a) = some 0) ∧ ((p + osz F m p = F.mn m → ¬ gon F m p) → kf119_39 N J L (w m) (w p) (w (osz F m p)) (w (F.mb m p)) (w a) = kf119_83 N J L (w m) (w p) (w (F.mb m p)) (w a)) := by
    unfold kf119_39 gon
    rw [bif_in (by omega) (by decide), w_clamp (by omega), Int.toNat_natCast, hM.v74 m hm, w_add]
    constructor
    · intro z
      have z1 : p + osz F m p = F.mn m := Classical.byContradiction (fun q => z (fun r => absurd r q))
      have z2 : F.mb m p ≠ 21 ∧ F.mb m p ≠ 49 ∧ F.mb m p ≠ 50 ∧ F.mb m p ≠ 53 := Classical.byContradiction (fun q => z (fun _ => q))
      rw [if_neg (by (simp (disch := omega) only [w_lit, w_neg, w_add, w_sub, w_mul, w_lt, w_le, w_eq, w_clamp, w_toInt, w_in, not_true_eq_false, not_false_eq_true, Classical.not_not]); omega), if_neg (by (simp (disch := omega) only [w_lit, w_neg, w_add, w_sub, w_mul, w_lt, w_le, w_eq, w_clamp, w_toInt, w_in, not_true_eq_false, not_false_eq_true, Classical.not_not]); omega), if_neg (by (simp (disch := omega) only [w_lit, w_neg, w_add, w_sub, w_mul, w_lt, w_le, w_eq, w_clamp, w_toInt, w_in, not_true_eq_false, not_false_eq_true, Classical.not_not]); omega), if_neg (by (simp (disch := omega) only [w_lit, w_neg, w_add, w_sub, w_mul, w_lt, w_le, w_eq, w_clamp, w_toInt, w_in, not_true_eq_false, not_false_eq_true, Classical.not_not]); omega), if_neg (by (simp (disch := omega) only [w_lit, w_neg, w_add, w_sub, w_mul, w_lt, w_le, w_eq, w_clamp, w_toInt, w_in, not_true_eq_false, not_false_eq_true, Classical.not_not]); omega)]
    · intro z
      by_cases z1 : p + osz F m p = F.mn m
      · have z2 := z z1
        rw [if_neg (show ¬ ¬ w ((p : Int) + osz F m p) = w (F.mn m) by (simp (disch := omega) only [w_lit, w_neg, w_add, w_sub, w_mul, w_lt, w_le, w_eq, w_clamp, w_toInt, w_in, not_true_eq_false, not_false_eq_true, Classical.not_not]); omega)]
        by_cases c1 : F.mb m p = 21
        · rw [if_pos (by (simp (disch := omega) only [w_lit, w_neg, w_add, w_sub, w_mul, w_lt, w_le, w_eq, w_clamp, w_toInt, w_in, not_true_eq_false, not_false_eq_true, Classical.not_not]); omega)]
        rw [if_neg (show ¬ w (F.mb m p) = 21 by (simp (disch := omega) only [w_lit, w_neg, w_add, w_sub, w_mul, w_lt, w_le, w_eq, w_clamp, w_toInt, w_in, not_true_eq_false, not_false_eq_true, Classical.not_not]); omega)]
        by_cases c2 : F.mb m p = 49
        · rw [if_pos (by (simp (disch := omega) only [w_lit, w_neg, w_add, w_sub, w_mul, w_lt, w_le, w_eq, w_clamp, w_toInt, w_in, not_true_eq_false, not_false_eq_true, Classical.not_not]); omega)]
        rw [if_neg (show ¬ w (F.mb m p) = 49 by (simp (disch := omega) only [w_lit, w_neg, w_add, w_sub, w_mul, w_lt, w_le, w_eq, w_clamp, w_toInt, w_in, not_true_eq_false, not_false_eq_true, Classical.not_not]); omega)]
        by_cases c3 : F.mb m p = 50
        · rw [if_pos (by (simp (disch := omega) only [w_lit, w_neg, w_add, w_sub, w_mul, w_lt, w_le, w_eq, w_clamp, w_toInt, w_in, not_true_eq_false, not_false_eq_true, Classical.not_not]); omega)]
        rw [if_neg (show ¬ w (F.mb m p) = 50 by (simp (disch := omega) only [w_lit, w_neg, w_add, w_sub, w_mul, w_lt, w_le, w_eq, w_clamp, w_toInt, w_in, not_true_eq_false, not_false_eq_true, Classical.not_not]); omega), if_pos (by (simp (disch := omega) only [w_lit, w_neg, w_add, w_sub, w_mul, w_lt, w_le, w_eq, w_clamp, w_toInt, w_in, not_true_eq_false, not_false_eq_true, Classical.not_not]); omega)]
      · rw [if_pos (by (simp (disch := omega) only [w_lit, w_neg, w_add, w_sub, w_mul, w_lt, w_le, w_eq, w_clamp, w_toInt, w_in, not_true_eq_false, not_false_eq_true, Classical.not_not]); omega)]
  by_cases he : p + osz F m p = F.mn m → ¬ gon F m p
  · rw [hend.2 he]
    have cut : ∀ (P : Prop) (X : Option Int32), (Gd F m p ↔ P) → (P → X = some 1) → (¬ P → X = some 0) → (Gd F m p → X = some 1) ∧ (¬ Gd F m p → X = some 0) := by
      intro P X e1 e2 e3
      exact ⟨fun q => e2 (e1.mp q), fun q => e3 (fun r => q (e1.mpr r))⟩
    have t0 : ¬ F.mb m p = 53 → ¬ (21 ≤ F.mb m p ∧ F.mb m p ≤ 37) → ∀ k, k < tg F m p → tOk F m (tgt F m p k) := by
      intro z1 z2 k hk
      unfold tg at hk
      rw [if_neg z1, if_neg z2] at hk
      omega
    unfold kf119_83
    by_cases c1 : F.mb m p = 3 ∨ F.mb m p = 4 ∨ F.mb m p = 20
    · have ha := a2' (by omega)
      rw [if_pos (by (simp (disch := omega) only [w_lit, w_neg, w_add, w_sub, w_mul, w_lt, w_le, w_eq, w_clamp, w_toInt, w_in, not_true_eq_false, not_false_eq_true, Classical.not_not]); omega), bif_in (by omega) (by decide), w_clamp (by omega), Int.toNat_natCast, hM.v72 m hm]
      refine cut (F.mb m (p + 1) < F.ml m) _ ⟨fun q => q.2.1.1 c1, fun q => ⟨hs, ⟨fun _ => q, fun r => by omega, fun r => by omega, fun r => by omega, fun r => by omega, fun r => by omega⟩, t0 (by omega) (by omega), he⟩⟩ (fun q => ?_) (fun q => ?_)
      · rw [if_neg (by (simp (disch := omega) only [w_lit, w_neg, w_add, w_sub, w_mul, w_lt, w_le, w_eq, w_clamp, w_toInt, w_in, not_true_eq_false, not_false_eq_true, Classical.not_not]); omega)]
      · rw [if_pos (by (simp (disch := omega) only [w_lit, w_neg, w_add, w_sub, w_mul, w_lt, w_le, w_eq, w_clamp, w_toInt, w_in, not_true_eq_false, not_false_eq_true, Classical.not_not]); omega)]
    rw [if_neg (by (simp (disch := omega) only [w_lit, w_neg, w_add, w_sub, w_mul, w_lt, w_le, w_eq, w_clamp, w_toInt, w_in, not_true_eq_false, not_false_eq_true, Classical.not_not]); omega)]
    by_cases c2 : F.mb m p = 38 ∨ F.mb m p = 45 ∨ F.mb m p = 46
    · have ha := a2' (by omega)
      rw [if_pos (by (simp (disch := omega) only [w_lit, w_neg, w_add, w_sub, w_mul, w_lt, w_le, w_eq, w_clamp, w_toInt, w_in, not_true_eq_false, not_false_eq_true, Classical.not_not]); omega), hM.n12]
      refine cut (F.mb m (p + 1) < F.nc) _ ⟨fun q => q.2.1.2.1 c2, fun q => ⟨hs, ⟨fun r => by omega, fun _ => q, fun r => by omega, fun r => by omega, fun r => by omega, fun r => by omega⟩, t0 (by omega) (by omega), he⟩⟩ (fun q => ?_) (fun q => ?_)
      · rw [if_neg (by (simp (disch := omega) only [w_lit, w_neg, w_add, w_sub, w_mul, w_lt, w_le, w_eq, w_clamp, w_toInt, w_in, not_true_eq_false, not_false_eq_true, Classical.not_not]); omega)]
      · rw [if_pos (by (simp (disch := omega) only [w_lit, w_neg, w_add, w_sub, w_mul, w_lt, w_le, w_eq, w_clamp, w_toInt, w_in, not_true_eq_false, not_false_eq_true, Classical.not_not]); omega)]
    rw [if_neg (by (simp (disch := omega) only [w_lit, w_neg, w_add, w_sub, w_mul, w_lt, w_le, w_eq, w_clamp, w_toInt, w_in, not_true_eq_false, not_false_eq_true, Classical.not_not]); omega)]
    by_cases c3 : F.mb m p = 39 ∨ F.mb m p = 40
    · have ha := a2' (by omega)
      have hB2 := hF.mb256 m hm (p + 2) (op2_lt hs c3)
      rw [if_pos (by (simp (disch := omega) only [w_lit, w_neg, w_add, w_sub, w_mul, w_lt, w_le, w_eq, w_clamp, w_toInt, w_in, not_true_eq_false, not_false_eq_true, Classical.not_not]); omega), hM.n12]
      refine cut (F.mb m (p + 1) < F.nc ∧ F.mb m (p + 2) < F.nf (F.mb m (p + 1))) _ ⟨fun q => q.2.1.2.2.1 c3, fun q => ⟨hs, ⟨fun r => by omega, fun r => by omega, fun _ => q, fun r => by omega, fun r => by omega, fun r => by omega⟩, t0 (by omega) (by omega), he⟩⟩ (fun q => ?_) (fun q => ?_)
      · have := hF.nf8 _ q.1
        rw [if_neg (by (simp (disch := omega) only [w_lit, w_neg, w_add, w_sub, w_mul, w_lt, w_le, w_eq, w_clamp, w_toInt, w_in, not_true_eq_false, not_false_eq_true, Classical.not_not]); omega)]
        (simp only [w_lit, w_neg, w_add, w_sub, w_mul])
        rw [show ((p : Int) + 2) = ((p + 2 : Nat) : Int) by omega, m_byte L hF hM hm (op2_lt hs c3), sbind, bif_in (by omega) (by decide), w_clamp (by omega), Int.toNat_natCast, ha, hM.v64 _ q.1, if_neg (by (simp (disch := omega) only [w_lit, w_neg, w_add, w_sub, w_mul, w_lt, w_le, w_eq, w_clamp, w_toInt, w_in, not_true_eq_false, not_false_eq_true, Classical.not_not]); omega)]
      · by_cases d1 : F.mb m (p + 1) < F.nc
        · have := hF.nf8 _ d1
          rw [if_neg (by (simp (disch := omega) only [w_lit, w_neg, w_add, w_sub, w_mul, w_lt, w_le, w_eq, w_clamp, w_toInt, w_in, not_true_eq_false, not_false_eq_true, Classical.not_not]); omega)]
          (simp only [w_lit, w_neg, w_add, w_sub, w_mul])
          rw [show ((p : Int) + 2) = ((p + 2 : Nat) : Int) by omega, m_byte L hF hM hm (op2_lt hs c3), sbind, bif_in (by omega) (by decide), w_clamp (by omega), Int.toNat_natCast, ha, hM.v64 _ d1, if_pos (by (simp (disch := omega) only [w_lit, w_neg, w_add, w_sub, w_mul, w_lt, w_le, w_eq, w_clamp, w_toInt, w_in, not_true_eq_false, not_false_eq_true, Classical.not_not]); omega)]
        · rw [if_pos (by (simp (disch := omega) only [w_lit, w_neg, w_add, w_sub, w_mul, w_lt, w_le, w_eq, w_clamp, w_toInt, w_in, not_true_eq_false, not_false_eq_true, Classical.not_not]); omega)]
    rw [if_neg (by (simp (disch := omega) only [w_lit, w_neg, w_add, w_sub, w_mul, w_lt, w_le, w_eq, w_clamp, w_toInt, w_in, not_true_eq_false, not_false_eq_true, Classical.not_not]); omega)]
    by_cases c4 : F.mb m p = 47
    · have ha := a2' (by omega)
      rw [if_pos (by (simp (disch := omega) only [w_lit, w_neg, w_add, w_sub, w_mul, w_lt, w_le, w_eq, w_clamp, w_toInt, w_in, not_true_eq_false, not_false_eq_true, Classical.not_not]); omega), hM.n20]
      refine cut (F.mb m (p + 1) < F.nm) _ ⟨fun q => q.2.1.2.2.2.1 c4, fun q => ⟨hs, ⟨fun r => by omega, fun r => by omega, fun r => by omega, fun _ => q, fun r => by omega, fun r => by omega⟩, t0 (by omega) (by omega), he⟩⟩ (fun q => ?_) (fun q => ?_)
      · rw [if_neg (by (simp (disch := omega) only [w_lit, w_neg, w_add, w_sub, w_mul, w_lt, w_le, w_eq, w_clamp, w_toInt, w_in, not_true_eq_false, not_false_eq_true, Classical.not_not]); omega)]
      · rw [if_pos (by (simp (disch := omega) only [w_lit, w_neg, w_add, w_sub, w_mul, w_lt, w_le, w_eq, w_clamp, w_toInt, w_in, not_true_eq_false, not_false_eq_true, Classical.not_not]); omega)]
    rw [if_neg (by (simp (disch := omega) only [w_lit, w_neg, w_add, w_sub, w_mul, w_lt, w_le, w_eq, w_clamp, w_toInt, w_in, not_true_eq_false, not_false_eq_true, Classical.not_not]); omega)]
    by_cases c5 : F.mb m p = 48
    · have ha := a2' (by omega)
      rw [if_pos (by (simp (disch := omega) only [w_lit, w_neg, w_add, w_sub, w_mul, w_lt, w_le, w_eq, w_clamp, w_toInt, w_in, not_true_eq_false, not_false_eq_true, Classical.not_not]); omega), hM.n16]
      refine cut (F.mb m (p + 1) < F.ns) _ ⟨fun q => q.2.1.2.2.2.2.1 c5, fun q => ⟨hs, ⟨fun r => by omega, fun r => by omega, fun r => by omega, fun r => by omega, fun _ => q, fun r => by omega⟩, t0 (by omega) (by omega), he⟩⟩ (fun q => ?_) (fun q => ?_)
      · rw [if_neg (by (simp (disch := omega) only [w_lit, w_neg, w_add, w_sub, w_mul, w_lt, w_le, w_eq, w_clamp, w_toInt, w_in, not_true_eq_false, not_false_eq_true, Classical.not_not]); omega)]
      · rw [if_pos (by (simp (disch := omega) only [w_lit, w_neg, w_add, w_sub, w_mul, w_lt, w_le, w_eq, w_clamp, w_toInt, w_in, not_true_eq_false, not_false_eq_true, Classical.not_not]); omega)]
    rw [if_neg (by (simp (disch := omega) only [w_lit, w_neg, w_add, w_sub, w_mul, w_lt, w_le, w_eq, w_clamp, w_toInt, w_in, not_true_eq_false, not_false_eq_true, Classical.not_not]); omega)]
    by_cases c6 : F.mb m p = 53
    · have ha := a2' (by omega)
      rw [if_pos (by (simp (disch := omega) only [w_lit, w_neg, w_add, w_sub, w_mul, w_lt, w_le, w_eq, w_clamp, w_toInt, w_in, not_true_eq_false, not_false_eq_true, Classical.not_not]); omega), ha]
      obtain ⟨i1, i2⟩ := m_choose_loop L hF hM N hm hG hp hs c6 (F.mb m (p + 1) + 1 - 0) 0 N (by omega) rfl (by omega)
      refine cut ((1 ≤ F.mb m (p + 1) ∧ F.mb m (p + 1) ≤ 8) ∧ ∀ k, k < tg F m p → tOk F m (tgt F m p k)) _ ⟨fun q => ⟨q.2.1.2.2.2.2.2 c6, q.2.2.1⟩, fun q => ⟨hs, ⟨fun r => by omega, fun r => by omega, fun r => by omega, fun r => by omega, fun r => by omega, fun _ => q.1⟩, q.2, he⟩⟩ (fun q => ?_) (fun q => ?_)
      · obtain ⟨⟨q1, q2⟩, q3⟩ := q
        rw [if_neg (by (simp (disch := omega) only [w_lit, w_neg, w_add, w_sub, w_mul, w_lt, w_le, w_eq, w_clamp, w_toInt, w_in, not_true_eq_false, not_false_eq_true, Classical.not_not]); omega), if_pos (by (simp (disch := omega) only [w_lit, w_neg, w_add, w_sub, w_mul, w_lt, w_le, w_eq, w_clamp, w_toInt, w_in, not_true_eq_false, not_false_eq_true, Classical.not_not]); omega)]
        exact i1 (fun j _ d => q3 j d)
      · by_cases d1 : F.mb m (p + 1) < 1
        · rw [if_pos (by (simp (disch := omega) only [w_lit, w_neg, w_add, w_sub, w_mul, w_lt, w_le, w_eq, w_clamp, w_toInt, w_in, not_true_eq_false, not_false_eq_true, Classical.not_not]); omega)]
        rw [if_neg (by (simp (disch := omega) only [w_lit, w_neg, w_add, w_sub, w_mul, w_lt, w_le, w_eq, w_clamp, w_toInt, w_in, not_true_eq_false, not_false_eq_true, Classical.not_not]); omega)]
        by_cases d2 : F.mb m (p + 1) ≤ 8
        · rw [if_pos (by (simp (disch := omega) only [w_lit, w_neg, w_add, w_sub, w_mul, w_lt, w_le, w_eq, w_clamp, w_toInt, w_in, not_true_eq_false, not_false_eq_true, Classical.not_not]); omega)]
          exact i2 (fun y => q ⟨⟨by omega, d2⟩, fun j d => y j (by omega) d⟩)
        · rw [if_neg (by (simp (disch := omega) only [w_lit, w_neg, w_add, w_sub, w_mul, w_lt, w_le, w_eq, w_clamp, w_toInt, w_in, not_true_eq_false, not_false_eq_true, Classical.not_not]); omega)]
    rw [if_neg (by (simp (disch := omega) only [w_lit, w_neg, w_add, w_sub, w_mul, w_lt, w_le, w_eq, w_clamp, w_toInt, w_in, not_true_eq_false, not_false_eq_true, Classical.not_not]); omega)]
    by_cases c7 : 21 ≤ F.mb m p ∧ F.mb m p ≤ 37
    · have ha := a2' (by omega)
      rw [if_neg (by (simp (disch := omega) only [w_lit, w_neg, w_add, w_sub, w_mul, w_lt, w_le, w_eq, w_clamp, w_toInt, w_in, not_true_eq_false, not_false_eq_true, Classical.not_not]); omega), if_neg (by (simp (disch := omega) only [w_lit, w_neg, w_add, w_sub, w_mul, w_lt, w_le, w_eq, w_clamp, w_toInt, w_in, not_true_eq_false, not_false_eq_true, Classical.not_not]); omega), ha]
      obtain ⟨i1, i2⟩ := m_begins L hF hM hm hG (t := F.mb m (p + 1)) (by omega)
      have htg : tg F m p = 1 := by
        unfold tg
        rw [if_neg c6, if_pos c7]
      have htt : tgt F m p 0 = F.mb m (p + 1) := by
        unfold tgt
        rw [if_neg c6]
      refine cut (tOk F m (F.mb m (p + 1))) _ ⟨fun q => by rw [← htt]; exact q.2.2.1 0 (by omega), fun q => ⟨hs, ⟨fun r => by omega, fun r => by omega, fun r => by omega, fun r => by omega, fun r => by omega, fun r => by omega⟩, fun k hk => ?_, he⟩⟩ (fun q => ?_) (fun q => ?_)
      · have : k = 0 := by omega
        subst this
        rw [htt]
        exact q
      · rw [i1 q, sbind, if_neg (by decide)]
      · rw [i2 q, sbind, if_pos (by decide)]
    · refine cut True _ ⟨fun _ => trivial, fun _ => ⟨hs, ⟨fun r => by omega, fun r => by omega, fun r => by omega, fun r => by omega, fun r => by omega, fun r => by omega⟩, t0 c6 c7, he⟩⟩ (fun _ => ?_) (fun q => absurd trivial q)
      by_cases d1 : F.mb m p < 21
      · rw [if_pos (by (simp (disch := omega) only [w_lit, w_neg, w_add, w_sub, w_mul, w_lt, w_le, w_eq, w_clamp, w_toInt, w_in, not_true_eq_false, not_false_eq_true, Classical.not_not]); omega)]
      · rw [if_neg (by (simp (disch := omega) only [w_lit, w_neg, w_add, w_sub, w_mul, w_lt, w_le, w_eq, w_clamp, w_toInt, w_in, not_true_eq_false, not_false_eq_true, Classical.not_not]); omega), if_pos (by (simp (disch := omega) only [w_lit, w_neg, w_add, w_sub, w_mul, w_lt, w_le, w_eq, w_clamp, w_toInt, w_in, not_true_eq_false, not_false_eq_true, Classical.not_not]); omega)]
  · rw [hend.1 he]
    exact ⟨fun z => absurd z.2.2.2 he, fun _ => rfl⟩
end
