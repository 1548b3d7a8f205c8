/-! Where INSTRUCTIONS begin. -/
def nxt (F : KF) (m : Nat) : Nat → Nat
  | 0 => 0
  | q + 1 => if q = nxt F m q then nxt F m q + osz F m q else nxt F m q
def bg (F : KF) (m q : Nat) : Bool := decide (q = nxt F m q)
section
variable {b : Bool} {F : KF} {I J : kjI} (L : kjL)
theorem nxt_le (hF : KFok F) {m : Nat} (hm : m < F.nm) (q : Nat) : nxt F m q ≤ 120 := by
  have h2 := hF.mn120 m hm
  induction q with
  | zero => exact Nat.zero_le _
  | succ q ih =>
    show (if q = nxt F m q then nxt F m q + osz F m q else nxt F m q) ≤ 120
    by_cases c : q = nxt F m q
    · rw [if_pos c]
      by_cases c2 : osz F m q = 0
      · omega
      · have := (osz_le c2).1
        omega
    · rw [if_neg c]
      exact ih
theorem nxt_jump {m p : Nat} (hp : p = nxt F m p) (hs : 0 < osz F m p) : ∀ i, p < i → i ≤ p + osz F m p → nxt F m i = p + osz F m p := by
  intro i
  induction i with
  | zero => intro h; omega
  | succ i ih =>
    intro h1 h2
    show (if i = nxt F m i then nxt F m i + osz F m i else nxt F m i) = _
    by_cases c : i = p
    · subst c
      rw [if_pos hp, ← hp]
    · rw [ih (by omega) (by omega), if_neg (by omega)]
theorem nxt_stay {m p : Nat} (hp : p = nxt F m p) (hs : osz F m p = 0) : ∀ i, p < i → nxt F m i = p := by
  intro i
  induction i with
  | zero => intro h; omega
  | succ i ih =>
    intro h1
    show (if i = nxt F m i then nxt F m i + osz F m i else nxt F m i) = _
    by_cases c : i = p
    · subst c
      rw [if_pos hp, ← hp, hs]
      rfl
    · rw [ih (by omega), if_neg (by omega)]
theorem CV.keep {I' : kjI} (h : CV b F I) (k : ∀ q, q ≤ 22 → ∀ j, I' (kb b q) j = I (kb b q) j) : CV b F I' := by
  refine ⟨?_, ?_, ?_, ?_, ?_, ?_, ?_, ?_, ?_, ?_, ?_, ?_, ?_, ?_, ?_, ?_, ?_, ?_, ?_, ?_⟩
  · rw [k _ (by omega)]; exact h.n5
  · intro c hc; rw [k _ (by omega)]; exact h.v6 c hc
  · intro c hc; rw [k _ (by omega)]; exact h.v7 c hc
  · intro c hc i hi; rw [k _ (by omega)]; exact h.v8 c hc i hi
  · intro c hc; rw [k _ (by omega)]; exact h.v9 c hc
  · rw [k _ (by omega)]; exact h.n10
  · intro c hc; rw [k _ (by omega)]; exact h.v11 c hc
  · intro c hc i hi; rw [k _ (by omega)]; exact h.v12 c hc i hi
  · intro c hc; rw [k _ (by omega)]; exact h.v13 c hc
  · rw [k _ (by omega)]; exact h.n14
  · intro c hc; rw [k _ (by omega)]; exact h.v15 c hc
  · intro c hc i hi; rw [k _ (by omega)]; exact h.v16 c hc i hi
  · intro c hc; rw [k _ (by omega)]; exact h.v17 c hc
  · intro c hc; rw [k _ (by omega)]; exact h.v18 c hc
  · intro c hc; rw [k _ (by omega)]; exact h.v19 c hc
  · intro c hc; rw [k _ (by omega)]; exact h.v20 c hc
  · intro c hc; rw [k _ (by omega)]; exact h.v21 c hc
  · intro c s hc hs; rw [k _ (by omega)]; exact h.v22 c s hc hs
  · obtain ⟨n, n1, n2, n3⟩ := h.n2
    exact ⟨n, n1, by rw [k _ (by omega)]; exact n2, n3⟩
  · intro m hm i hi; rw [k _ (by omega)]; exact h.v3 m hm i hi
theorem MV.keep {J' : kjI} (h : MV F J) (k : ∀ q, 63 ≤ q → q ≤ 77 → q ≠ 76 → ∀ j, J' q j = J q j) (k1 : J' 59 12 = J 59 12 ∧ J' 59 16 = J 59 16 ∧ J' 59 20 = J 59 20) : MV F J' := by
  refine ⟨?_, ?_, ?_, ?_, ?_, ?_, ?_, ?_, ?_, ?_, ?_, ?_, ?_, ?_, ?_, ?_, ?_⟩
  · rw [k1.1]; exact h.n12
  · rw [k1.2.1]; exact h.n16
  · rw [k1.2.2]; exact h.n20
  · intro c hc; rw [k _ (by omega) (by omega) (by omega)]; exact h.v63 c hc
  · intro c hc; rw [k _ (by omega) (by omega) (by omega)]; exact h.v64 c hc
  · intro c hc i hi; rw [k _ (by omega) (by omega) (by omega)]; exact h.v65 c hc i hi
  · intro c hc; rw [k _ (by omega) (by omega) (by omega)]; exact h.v66 c hc
  · intro c hc i hi; rw [k _ (by omega) (by omega) (by omega)]; exact h.v67 c hc i hi
  · intro c hc; rw [k _ (by omega) (by omega) (by omega)]; exact h.v68 c hc
  · intro c hc; rw [k _ (by omega) (by omega) (by omega)]; exact h.v69 c hc
  · intro c hc i hi; rw [k _ (by omega) (by omega) (by omega)]; exact h.v70 c hc i hi
  · intro c hc; rw [k _ (by omega) (by omega) (by omega)]; exact h.v71 c hc
  · intro c hc; rw [k _ (by omega) (by omega) (by omega)]; exact h.v72 c hc
  · intro c hc; rw [k _ (by omega) (by omega) (by omega)]; exact h.v73 c hc
  · intro c hc; rw [k _ (by omega) (by omega) (by omega)]; exact h.v74 c hc
  · intro c hc i hi; rw [k _ (by omega) (by omega) (by omega)]; exact h.v75 c hc i hi
  · intro c s hc hs; rw [k _ (by omega) (by omega) (by omega)]; exact h.v77 c s hc hs
theorem c_mark_loop (hF : KFok F) (N : Nat) {m : Nat} (hm : m < F.nm) : ∀ (k q f : Nat) (I : kjI), k < f → F.mn m - q = k → q ≤ F.mn m → CV b F I →
    ∃ I', kf65_14 b N f (w m) (w (F.mn m)) (w (nxt F m q)) (w q) I L = some (I', L) ∧ (∀ x j, ¬ (x = kb b 25 ∧ F.ma m + q ≤ j ∧ j < F.ma m + F.mn m) → I' x j = I x j) ∧ ∀ i, q ≤ i → i < F.mn m → I' (kb b 25) (F.ma m + i) = w (bi (bg F m i)) := by
  have h2 := hF.mn120 m hm
  have h3 := hF.ma1500 m hm
  intro k
  induction k with
  | zero =>
    intro q f I hf hk hq hC
    obtain ⟨f, rfl⟩ : ∃ x, f = x + 1 := ⟨f - 1, by omega⟩
    refine ⟨I, ?_, fun _ _ _ => rfl, fun i d1 d2 => by omega⟩
    unfold kf65_14
    rw [if_pos (by (simp (disch := omega) only [w_lit, w_neg, w_add, w_sub, w_mul, w_lt, w_le, w_eq, w_clamp, w_in, not_true_eq_false, not_false_eq_true, Classical.not_not]); omega)]
  | succ k ih =>
    intro q f I hf hk hq hC
    obtain ⟨f, rfl⟩ : ∃ x, f = x + 1 := ⟨f - 1, by omega⟩
    have hn := nxt_le hF hm q
    -- one step
    have step : kf65_14 b N (f + 1) (w m) (w (F.mn m)) (w (nxt F m q)) (w q) I L = kf65_14 b N f (w m) (w (F.mn m)) (w (nxt F m (q + 1))) (w (q + 1 : Nat)) (mv_up I (kb b 25) (F.ma m + q) (w (bi (bg F m q)))) L := by
      have hC1 : ∀ v, CV b F (mv_up I (kb b 25) (F.ma m + q) v) := fun v => hC.keep (fun x hx j => up_k (kb_ne (by omega)))
      conv => lhs; unfold kf65_14
      rw [if_neg (by (simp (disch := omega) only [w_lit, w_neg, w_add, w_sub, w_mul, w_lt, w_le, w_eq, w_clamp, w_in, not_true_eq_false, not_false_eq_true, Classical.not_not]); omega), c_off L hF hC hm (by omega), sbind, if_neg (by (simp (disch := omega) only [w_lit, w_neg, w_add, w_sub, w_mul, w_lt, w_le, w_eq, w_clamp, w_in, not_true_eq_false, not_false_eq_true, Classical.not_not]); omega), if_neg (by (simp (disch := omega) only [w_lit, w_neg, w_add, w_sub, w_mul, w_lt, w_le, w_eq, w_clamp, w_in, not_true_eq_false, not_false_eq_true, Classical.not_not]); omega)]
      unfold kf65_64 kf65_65 kf65_81
      rw [bif_in (by omega) (by decide), bif_in (by omega) (by decide), w_clamp (by omega), Int.toNat_natCast]
      have e1 : w (q : Int) + 1 = w (q + 1 : Nat) := by
        (simp only [w_lit, w_neg, w_add, w_sub, w_mul])
        rfl
      have e2 : (0 : Int32) &&& 1 = w (bi false) := by decide
      have e3 : (1 : Int32) &&& 1 = w (bi true) := by decide
      rw [e1, e2, e3, c_size L hF (hC1 _) hm (by omega), sbind, c_size L hF (hC1 _) hm (by omega), sbind]
      by_cases c : q = nxt F m q
      · have hb : bg F m q = true := by simp [bg, ← c]
        have hnx : nxt F m (q + 1) = nxt F m q + osz F m q := by
          show (if q = nxt F m q then nxt F m q + osz F m q else nxt F m q) = _
          rw [if_pos c]
        rw [if_neg (show ¬ ¬ w q = w (nxt F m q) by rw [← c]; exact fun z => z rfl), if_neg (show ¬ ¬ w q = w (nxt F m q) by rw [← c]; exact fun z => z rfl), hb, hnx, w_add]
        rfl
      · have hb : bg F m q = false := by simp [bg, c]
        have hnx : nxt F m (q + 1) = nxt F m q := by
          show (if q = nxt F m q then nxt F m q + osz F m q else nxt F m q) = _
          rw [if_neg c]
        rw [if_pos (show ¬ w q = w (nxt F m q) by (simp (disch := omega) only [w_lit, w_neg, w_add, w_sub, w_mul, w_lt, w_le, w_eq, w_clamp, w_in, not_true_eq_false, not_false_eq_true, Classical.not_not]); omega), if_pos (show ¬ w q = w (nxt F m q) by (simp (disch := omega) only [w_lit, w_neg, w_add, w_sub, w_mul, w_lt, w_le, w_eq, w_clamp, w_in, not_true_eq_false, not_false_eq_true, Classical.not_not]); omega), hb, hnx]
    obtain ⟨I', q1, q2, q3⟩ := ih (q + 1) f (mv_up I (kb b 25) (F.ma m + q) (w (bi (bg F m q)))) (by omega) (by omega) (by omega) (hC.keep (fun x hx j => up_k (kb_ne (by omega))))
    refine ⟨I', by rw [step]; exact q1, ?_, ?_⟩
    · intro x j d
      rw [q2 x j (by omega), up1_ne (by omega)]
    · intro i d1 d2
      by_cases c : i = q
      · subst c
        rw [q2 _ _ (by omega), up_eq]
      · exact q3 i (by omega) d2
theorem c_mark (hF : KFok F) (N : Nat) (hN : 200 ≤ N) {m : Nat} (hm : m < F.nm) (hC : CV b F I) : ∃ I', kf65 b N (w m) I L = some (I', L) ∧ (∀ x j, ¬ (x = kb b 25 ∧ F.ma m ≤ j ∧ j < F.ma m + F.mn m) → I' x j = I x j) ∧ ∀ i, i < F.mn m → I' (kb b 25) (F.ma m + i) = w (bi (bg F m i)) := by
  have h2 := hF.mn120 m hm
  obtain ⟨I', q1, q2, q3⟩ := c_mark_loop L hF N hm (F.mn m - 0) 0 N I (by omega) rfl (by omega) hC
  refine ⟨I', ?_, fun x j d => q2 x j (by omega), fun i hi => q3 i (by omega) hi⟩
  unfold kf65
  rw [c_len L hF hC hm, sbind]
  exact q1
theorem m_clear (N : Nat) {m : Nat} (hm : m < 16) : ∀ (k q f : Nat) (J : kjI), k < f → 120 - q = k → q ≤ 120 → ∃ J', kf117_2 N f (w m) (w q) J L = kf117_28 N N (w m) (w 0) J' L ∧ (∀ x j, ¬ (x = 76 ∧ 120 * m + q ≤ j ∧ j < 120 * m + 120) → J' x j = J x j) ∧ ∀ i, q ≤ i → i < 120 → J' 76 (120 * m + i) = w 0 := by
  intro k
  induction k with
  | zero =>
    intro q f J hf hk hq
    obtain ⟨f, rfl⟩ : ∃ x, f = x + 1 := ⟨f - 1, by omega⟩
    refine ⟨J, ?_, fun _ _ _ => rfl, fun i d1 d2 => by omega⟩
    conv => lhs; unfold kf117_2
    rw [if_pos (by (simp (disch := omega) only [w_lit, w_neg, w_add, w_sub, w_mul, w_lt, w_le, w_eq, w_clamp, w_in, not_true_eq_false, not_false_eq_true, Classical.not_not]); omega)]
    rfl
  | succ k ih =>
    intro q f J hf hk hq
    obtain ⟨f, rfl⟩ : ∃ x, f = x + 1 := ⟨f - 1, by omega⟩
    obtain ⟨J', q1, q2, q3⟩ := ih (q + 1) f (mv_up J 76 (120 * m + q) (w 0)) (by omega) (by omega) (by omega)
    refine ⟨J', ?_, ?_, ?_⟩
    · rw [← q1]
      conv => lhs; unfold kf117_2
      rw [if_neg (by (simp (disch := omega) only [w_lit, w_neg, w_add, w_sub, w_mul, w_lt, w_le, w_eq, w_clamp, w_in, not_true_eq_false, not_false_eq_true, Classical.not_not]); omega)]
      have e2 : (0 : Int32) &&& 1 = w 0 := by decide
      rw [e2]
      (simp only [w_lit, w_neg, w_add, w_sub, w_mul])
      rw [bif_in (by omega) (by decide), w_clamp (by omega), show (120 * (m : Int) + q).toNat = 120 * m + q by omega]
      rfl
    · intro x j d
      rw [q2 x j (by omega), up1_ne (by omega)]
    · intro i d1 d2
      by_cases c : i = q
      · subst c
        rw [q2 _ _ (by omega), up_eq]
      · exact q3 i (by omega) d2
theorem m_mark_loop (hF : KFok F) (N : Nat) {m : Nat} (hm : m < F.nm) : ∀ (k p f : Nat) (J : kjI), F.mn m - p < k → k < f → p = nxt F m p → MV F J → (∀ i, i < p → i < F.mn m → J 76 (120 * m + i) = w (bi (bg F m i))) → (∀ i, p ≤ i → i < F.mn m → J 76 (120 * m + i) = w 0) →
    ∃ J', kf117_28 N f (w m) (w p) J L = some (J', L) ∧ (∀ x j, ¬ (x = 76 ∧ 120 * m ≤ j ∧ j < 120 * m + 120) → J' x j = J x j) ∧ ∀ i, i < F.mn m → J' 76 (120 * m + i) = w (bi (bg F m i)) := by
  have h1 := hF.nm16
  have h2 := hF.mn120 m hm
  intro k
  induction k with
  | zero => intro p f J h; omega
  | succ k ih =>
    intro p f J hk hf hp hM g1 g2
    obtain ⟨f, rfl⟩ : ∃ x, f = x + 1 := ⟨f - 1, by omega⟩
    have hn := nxt_le hF hm p
    by_cases c : F.mn m ≤ p
    · refine ⟨J, ?_, fun _ _ _ => rfl, fun i hi => g1 i (by omega) hi⟩
      unfold kf117_28
      rw [if_neg (by (simp (disch := omega) only [w_lit, w_neg, w_add, w_sub, w_mul, w_lt, w_le, w_eq, w_clamp, w_in, not_true_eq_false, not_false_eq_true, Classical.not_not]); omega), bif_in (by omega) (by decide), w_clamp (by omega), Int.toNat_natCast, hM.v74 m hm, if_pos (by (simp (disch := omega) only [w_lit, w_neg, w_add, w_sub, w_mul, w_lt, w_le, w_eq, w_clamp, w_in, not_true_eq_false, not_false_eq_true, Classical.not_not]); omega)]
    · have hbp : bg F m p = true := by simp [bg, ← hp]
      have hM1 : MV F (mv_up J 76 (120 * m + p) (w 1)) := hM.keep (fun x d1 d2 d3 j => up_k (by omega)) ⟨up_k (by omega), up_k (by omega), up_k (by omega)⟩
      have step : kf117_28 N (f + 1) (w m) (w p) J L = kf117_28 N f (w m) (w (if osz F m p = 0 then -1 else ((p + osz F m p : Nat) : Int))) (mv_up J 76 (120 * m + p) (w 1)) L := by
        conv => lhs; unfold kf117_28
        rw [if_neg (by (simp (disch := omega) only [w_lit, w_neg, w_add, w_sub, w_mul, w_lt, w_le, w_eq, w_clamp, w_in, not_true_eq_false, not_false_eq_true, Classical.not_not]); omega), bif_in (by omega) (by decide), w_clamp (a := (m : Int)) (by omega), Int.toNat_natCast, hM.v74 m hm, if_neg (by (simp (disch := omega) only [w_lit, w_neg, w_add, w_sub, w_mul, w_lt, w_le, w_eq, w_clamp, w_in, not_true_eq_false, not_false_eq_true, Classical.not_not]); omega)]
        have e2 : (1 : Int32) &&& 1 = w 1 := by decide
        have e3 : (120 : Int32) * w m + w p = w (120 * m + p : Nat) := by
          (simp only [w_lit, w_neg, w_add, w_sub, w_mul])
          rfl
        rw [e2, e3, bif_in (by omega) (by decide), w_clamp (by omega), Int.toNat_natCast, m_size L hF hM1 hm (by omega), sbind]
        unfold kf117_73
        by_cases c2 : osz F m p = 0
        · rw [if_pos c2, if_neg (by decide), if_pos c2]
          rfl
        · have := (osz_le c2).1
          rw [if_neg c2, if_pos (by (simp (disch := omega) only [w_lit, w_neg, w_add, w_sub, w_mul, w_lt, w_le, w_eq, w_clamp, w_in, not_true_eq_false, not_false_eq_true, Classical.not_not]); omega), if_neg c2, w_add]
          rfl
      rw [step]
      by_cases c2 : osz F m p = 0
      · rw [if_pos c2]
        obtain ⟨f, rfl⟩ : ∃ x, f = x + 1 := ⟨f - 1, by omega⟩
        refine ⟨mv_up J 76 (120 * m + p) (w 1), ?_, fun x j d => by rw [up1_ne (by omega)], fun i hi => ?_⟩
        · unfold kf117_28
          rw [if_pos (by decide)]
        · by_cases c3 : i = p
          · subst c3
            rw [up_eq, hbp]
            rfl
          · rw [up1_ne (by omega)]
            by_cases c4 : i < p
            · exact g1 i c4 hi
            · have : bg F m i = false := by
                unfold bg
                rw [nxt_stay hp c2 i (by omega)]
                simp
                omega
              rw [g2 i (by omega) hi, this]
              rfl
      · have hle := (osz_le c2).1
        rw [if_neg c2]
        have hj := nxt_jump hp (by omega)
        have a1 : ∀ i, i < p + osz F m p → i < F.mn m → (mv_up J 76 (120 * m + p) (w 1)) 76 (120 * m + i) = w (bi (bg F m i)) := by
          intro i d1 d2
          by_cases c3 : i = p
          · subst c3
            rw [up_eq, hbp]
            rfl
          · rw [up1_ne (by omega)]
            by_cases c4 : i < p
            · exact g1 i c4 d2
            · have : bg F m i = false := by
                unfold bg
                rw [hj i (by omega) (by omega)]
                simp
                omega
              rw [g2 i (by omega) d2, this]
              rfl
        have a2 : ∀ i, p + osz F m p ≤ i → i < F.mn m → (mv_up J 76 (120 * m + p) (w 1)) 76 (120 * m + i) = w 0 := by
          intro i d1 d2
          rw [up1_ne (by omega)]
          exact g2 i (by omega) d2
        obtain ⟨J', q1, q2, q3⟩ := ih (p + osz F m p) f (mv_up J 76 (120 * m + p) (w 1)) (by omega) (by omega) (hj (p + osz F m p) (by omega) (Nat.le_refl _)).symm hM1 a1 a2
        refine ⟨J', q1, fun x j d => ?_, q3⟩
        rw [q2 x j d, up1_ne (by omega)]
theorem m_mark (hF : KFok F) (N : Nat) (hN : 200 ≤ N) {m : Nat} (hm : m < F.nm) (hM : MV F J) : ∃ J', kf117 N (w m) J L = some (J', L) ∧ (∀ x j, ¬ (x = 76 ∧ 120 * m ≤ j ∧ j < 120 * m + 120) → J' x j = J x j) ∧ ∀ i, i < F.mn m → J' 76 (120 * m + i) = w (bi (bg F m i)) := by
  have h1 := hF.nm16
  have h2 := hF.mn120 m hm
  obtain ⟨J1, g1, g2, g3⟩ := m_clear L N (m := m) (by omega) (120 - 0) 0 N J (by omega) rfl (by omega)
  have hM1 : MV F J1 := hM.keep (fun x d1 d2 d3 j => g2 x j (by omega)) ⟨g2 _ _ (by omega), g2 _ _ (by omega), g2 _ _ (by omega)⟩
  obtain ⟨J', q1, q2, q3⟩ := m_mark_loop L hF N hm (F.mn m + 1) 0 N J1 (by omega) (by omega) rfl hM1 (fun i d1 d2 => by omega) (fun i d1 d2 => g3 i (by omega) (by omega))
  refine ⟨J', ?_, fun x j d => by rw [q2 x j d, g2 x j (by omega)], q3⟩
  unfold kf117
  rw [show kf117_2 N N (w m) 0 J L = _ from g1]
  exact q1
end
