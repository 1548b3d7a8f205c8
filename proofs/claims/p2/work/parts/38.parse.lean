/-! A FILE is taken apart by both. -/
theorem FE1.s {b : Bool} {k : Nat} {I I' : kjI} (h : FE1 b k I I') : FE b I I' := fun q j h1 h2 => h q j h1 (by omega)
theorem FEm1.s {k : Nat} {I I' : kjI} (h : FEm1 k I I') : FEm I I' := fun q j h1 h2 => h q j h1 (by omega)
theorem FE.trans {b : Bool} {I I' I'' : kjI} (h : FE b I I') (h' : FE b I' I'') : FE b I I'' := fun q j h1 h2 => (h' q j h1 h2).trans (h q j h1 h2)
theorem FEm.trans {I I' I'' : kjI} (h : FEm I I') (h' : FEm I' I'') : FEm I I'' := fun q j h1 h2 => (h' q j h1 h2).trans (h q j h1 h2)
theorem r_row (b : Bool) (N : Nat) (hN : 100 ≤ N) (L L' : kjL) {n nc ns nm : Nat} {B : Nat → Nat} {P : Nat → Int} {c : Nat} (hc : c < nc) : ∀ (k s m a a0 : Nat) (I J : kjI), k < m → ns - s = k → s ≤ ns → RR b n a false B I J → PD b n B nc ns nm a0 P I J → TD b nm P ns c s I J →
    ∃ (I' J' : kjI) (a' : Nat) (s' : Bool), kf27_11 b N m (w c) (w (P c)) (w s) I L = some (I', L) ∧ RR b n a' s' B I' J' ∧ FE b I I' ∧ FEm J J' ∧
    (s' = false → a ≤ a' ∧ TD b nm P ns (c + 1) 0 I' J' ∧ ∀ m', k < m' → kf113_134 N m' (w (c * ns + s : Nat)) J L' = kf113_134 N (m' - k) (w ((c + 1) * ns : Nat)) J' L') ∧
    (s' = true → ∀ m', k < m' → kf113_134 N m' (w (c * ns + s : Nat)) J L' = kf113_176 N J' L') := by
  intro k
  induction k with
  | zero =>
    intro s m a a0 I J hm hk hs hR h hT
    have hns := h.ns8
    obtain ⟨m, rfl⟩ : ∃ q, m = q + 1 := ⟨m - 1, by omega⟩
    have hsn : s = ns := by omega
    subst hsn
    refine ⟨I, J, a, false, ?_, hR, fun _ _ _ _ => rfl, fun _ _ _ _ => rfl, fun _ => ⟨Nat.le_refl _, ?_, fun m' hm' => ?_⟩, fun z => by cases z⟩
    · unfold kf27_11
      rw [h.ns1, if_pos (by (simp (disch := omega) only [w_lit, w_neg, w_add, w_sub, w_mul, w_lt, w_le, w_eq, w_clamp, w_in, not_true_eq_false, not_false_eq_true, Classical.not_not]); omega)]
    · intro c' s' h1 h2
      exact hT c' s' h1 (by omega)
    · rw [Nat.sub_zero, show (c + 1) * s = c * s + s from Nat.succ_mul c s]
  | succ k ih =>
    intro s m a a0 I J hm hk hs hR h hT
    have hns := h.ns8
    have hnc := h.ab.le
    obtain ⟨m, rfl⟩ : ∃ q, m = q + 1 := ⟨m - 1, by omega⟩
    obtain ⟨I1, J1, a1, s1, g1, g2, g3, g4, g5, g6⟩ := r_entry h hR N (by omega) L L' hc (s := s) (by omega) hT m
    have hmul : (c + 1) * ns ≤ nc * ns := Nat.mul_le_mul_right ns hc
    have hmul2 : (c + 1) * ns = c * ns + ns := Nat.succ_mul c ns
    have h64 : nc * ns ≤ 8 * 8 := Nat.mul_le_mul hnc hns
    have hdiv : (c * ns + s) / ns = c := by
      rw [Nat.mul_comm, Nat.mul_add_div (by omega), Nat.div_eq_of_lt (by omega)]
      rfl
    have step : ∀ m', kf113_134 N (m' + 1) (w (c * ns + s : Nat)) J L' = kf113_134 N m' (w (c * ns + s + 1 : Nat)) J1 L' := by
      intro m'
      conv => lhs; unfold kf113_134
      rw [h.ab.n2, h.ns2, hR.st2, bi_f, if_neg (by rw [w_mul, ← Int.natCast_mul]; (simp (disch := omega) only [w_lit, w_neg, w_add, w_sub, w_mul, w_lt, w_le, w_eq, w_clamp, w_in, not_true_eq_false, not_false_eq_true, Classical.not_not]); omega), if_neg (by decide), if_pos (by (simp (disch := omega) only [w_lit, w_neg, w_add, w_sub, w_mul, w_lt, w_le, w_eq, w_clamp, w_in, not_true_eq_false, not_false_eq_true, Classical.not_not]); omega), if_pos (by (simp (disch := omega) only [w_lit, w_neg, w_add, w_sub, w_mul, w_lt, w_le, w_eq, w_clamp, w_in, not_true_eq_false, not_false_eq_true, Classical.not_not]); omega), w_div _ _ (by omega) (by omega), hdiv]
      have e : w (c * ns + s : Nat) - w c * w ns = w s := by
        rw [w_mul, ← Int.natCast_mul, w_sub]
        congr 1
        omega
      rw [e, g2, sbind]
      simp only
      (simp only [w_lit, w_neg, w_add, w_sub, w_mul])
      rfl
    have hns1 : I1 (kb b 10) 3 = w ns := by rw [g4.s _ _ (kb_ne (by decide)) (kb_ne (by decide))]; exact h.ns1
    rw [g1]
    cases s1
    · obtain ⟨t1, t2⟩ := g6 rfl
      obtain ⟨I', J', a', s', q1, q2, q3, q4, q5, q6⟩ := ih (s + 1) m a1 a0 I1 J1 (by omega) (by omega) (by omega) g3 (h.keep (Nat.le_refl _) g4.s g5.s) t2
      refine ⟨I', J', a', s', q1, q2, g4.s.trans q3, g5.s.trans q4, fun z => ?_, fun z m' hm' => ?_⟩
      · obtain ⟨y1, y2, y3⟩ := q5 z
        refine ⟨by omega, y2, fun m' hm' => ?_⟩
        obtain ⟨m', rfl⟩ : ∃ q, m' = q + 1 := ⟨m' - 1, by omega⟩
        rw [step, show c * ns + s + 1 = c * ns + (s + 1) by omega, y3 m' (by omega), show m' + 1 - (k + 1) = m' - k by omega]
      · obtain ⟨m', rfl⟩ : ∃ q, m' = q + 1 := ⟨m' - 1, by omega⟩
        rw [step, show c * ns + s + 1 = c * ns + (s + 1) by omega, q6 z m' (by omega)]
    · refine ⟨I1, J1, a1, true, ?_, g3, g4.s, g5.s, (fun z => by cases z), fun _ m' hm' => ?_⟩
      · obtain ⟨m, rfl⟩ : ∃ q, m = q + 1 := ⟨m - 1, by omega⟩
        unfold kf27_11
        rw [hns1]
        by_cases hle : ns ≤ s + 1
        · rw [if_pos (by (simp (disch := omega) only [w_lit, w_neg, w_add, w_sub, w_mul, w_lt, w_le, w_eq, w_clamp, w_in, not_true_eq_false, not_false_eq_true, Classical.not_not]); omega)]
        · rw [if_neg (by (simp (disch := omega) only [w_lit, w_neg, w_add, w_sub, w_mul, w_lt, w_le, w_eq, w_clamp, w_in, not_true_eq_false, not_false_eq_true, Classical.not_not]); omega)]
          unfold kf55
          rw [g3.st1, bi_t, if_pos (by decide), sbind, if_pos rfl]
      · obtain ⟨m', rfl⟩ : ∃ q, m' = q + 2 := ⟨m' - 2, by omega⟩
        rw [step]
        conv => lhs; unfold kf113_134
        rw [g3.st2, bi_t]
        by_cases hle : J1 59 12 * J1 59 16 ≤ w (c * ns + s + 1 : Nat)
        · rw [if_pos hle]
        · rw [if_neg hle, if_pos (by decide)]
theorem r_rows (b : Bool) (N : Nat) (hN : 100 ≤ N) (L L' : kjL) {n nc ns nm : Nat} {B : Nat → Nat} {P : Nat → Int} (hnc : nc ≤ 8) (hns : ns ≤ 8) : ∀ (k c mo m' a : Nat) (I J : kjI), k < mo → (nc - c) * ns < m' → nc - c = k → c ≤ nc → RR b n a false B I J → PD b n B nc ns nm a P I J → TD b nm P ns c 0 I J →
    ∃ (I' J' : kjI) (a' : Nat) (s' : Bool), kf24_131 b N mo (w c) I L = kf24_163 b N I' L ∧ kf113_134 N m' (w (c * ns : Nat)) J L' = kf113_176 N J' L' ∧ RR b n a' s' B I' J' ∧ FE b I I' ∧ FEm J J' ∧ (s' = false → a ≤ a' ∧ TD b nm P ns nc 0 I' J') := by
  intro k
  induction k with
  | zero =>
    intro c mo m' a I J hmo hm' hk hc hR h hT
    obtain ⟨mo, rfl⟩ : ∃ q, mo = q + 1 := ⟨mo - 1, by omega⟩
    obtain ⟨m', rfl⟩ : ∃ q, m' = q + 1 := ⟨m' - 1, by omega⟩
    have hcn : c = nc := by omega
    subst hcn
    have h64 : c * ns ≤ 8 * 8 := Nat.mul_le_mul hnc hns
    refine ⟨I, J, a, false, ?_, ?_, hR, fun _ _ _ _ => rfl, fun _ _ _ _ => rfl, fun _ => ⟨Nat.le_refl _, hT⟩⟩
    · conv => lhs; unfold kf24_131
      rw [h.ab.n1, if_pos (by (simp (disch := omega) only [w_lit, w_neg, w_add, w_sub, w_mul, w_lt, w_le, w_eq, w_clamp, w_in, not_true_eq_false, not_false_eq_true, Classical.not_not]); omega)]
    · conv => lhs; unfold kf113_134
      rw [h.ab.n2, h.ns2, if_pos (by rw [w_mul, ← Int.natCast_mul]; (simp (disch := omega) only [w_lit, w_neg, w_add, w_sub, w_mul, w_lt, w_le, w_eq, w_clamp, w_in, not_true_eq_false, not_false_eq_true, Classical.not_not]); omega)]
  | succ k ih =>
    intro c mo m' a I J hmo hm' hk hc hR h hT
    obtain ⟨mo, rfl⟩ : ∃ q, mo = q + 1 := ⟨mo - 1, by omega⟩
    have hcl : c < nc := by omega
    have hsm : (nc - c) * ns = (nc - (c + 1)) * ns + ns := by
      rw [← Nat.succ_mul]
      congr 1
      omega
    obtain ⟨I1, J1, a1, s1, g1, g2, g3, g4, g5, g6⟩ := r_row b N hN L L' hcl (ns - 0) 0 N a a I J (by omega) rfl (by omega) hR h hT
    have hp := h.ab.hp c hcl
    have u : kf24_131 b N (mo + 1) (w c) I L = kf24_131 b N mo (w (c + 1 : Nat)) I1 L := by
      conv => lhs; unfold kf24_131
      rw [h.ab.n1, if_neg (by (simp (disch := omega) only [w_lit, w_neg, w_add, w_sub, w_mul, w_lt, w_le, w_eq, w_clamp, w_in, not_true_eq_false, not_false_eq_true, Classical.not_not]); omega)]
      unfold kf55 kf27 kf38
      rw [hR.st1, bi_f, if_neg (by decide), sbind, if_neg (by decide), h.ab.n1, if_neg (by (simp (disch := omega) only [w_lit, w_neg, w_add, w_sub, w_mul, w_lt, w_le, w_eq, w_clamp, w_in, not_true_eq_false, not_false_eq_true, Classical.not_not]); omega), if_neg (by (simp (disch := omega) only [w_lit, w_neg, w_add, w_sub, w_mul, w_lt, w_le, w_eq, w_clamp, w_in, not_true_eq_false, not_false_eq_true, Classical.not_not]); omega), bif_in (by omega) (by decide), w_clamp (by omega), Int.toNat_natCast, h.ab.sup1 c hcl, sbind]
      rw [show kf27_11 b N N (w c) (w (P c)) 0 I L = _ from g1, sbind]
      (simp only [w_lit, w_neg, w_add, w_sub, w_mul])
      rfl
    have n1 : I1 (kb b 5) 4 = w nc := by rw [g3 _ _ (kb_ne (by decide)) (kb_ne (by decide))]; exact h.ab.n1
    rw [u]
    cases s1
    · obtain ⟨t1, t2, t3⟩ := g5 rfl
      have hP1 := h.keep t1 g3 g4
      obtain ⟨I', J', a', s', q1, q2, q3, q4, q5, q6⟩ := ih (c + 1) mo (m' - ns) a1 I1 J1 (by omega) (by omega) (by omega) (by omega) g2 hP1 t2
      refine ⟨I', J', a', s', q1, ?_, q3, g3.trans q4, g4.trans q5, fun z => ⟨by have := (q6 z).1; omega, (q6 z).2⟩⟩
      have := t3 m' (by omega)
      rw [Nat.add_zero, Nat.sub_zero] at this
      rw [this, q2]
    · refine ⟨I1, J1, a1, true, ?_, ?_, g2, g3, g4, fun z => by cases z⟩
      · obtain ⟨mo, rfl⟩ : ∃ q, mo = q + 1 := ⟨mo - 1, by omega⟩
        conv => lhs; unfold kf24_131
        rw [n1]
        by_cases hle : nc ≤ c + 1
        · rw [if_pos (by (simp (disch := omega) only [w_lit, w_neg, w_add, w_sub, w_mul, w_lt, w_le, w_eq, w_clamp, w_in, not_true_eq_false, not_false_eq_true, Classical.not_not]); omega)]
        · rw [if_neg (by (simp (disch := omega) only [w_lit, w_neg, w_add, w_sub, w_mul, w_lt, w_le, w_eq, w_clamp, w_in, not_true_eq_false, not_false_eq_true, Classical.not_not]); omega)]
          unfold kf55
          rw [g2.st1, bi_t, if_pos (by decide), sbind, if_pos rfl]
      · have := g6 rfl m' (by omega)
        rw [Nat.add_zero] at this
        exact this
def FTs (b : Bool) (I I' : kjI) : Prop := ∀ q j, q ≠ kb b 23 → q ≠ kb b 15 → q ≠ kb b 16 → q ≠ kb b 17 → q ≠ kb b 18 → q ≠ kb b 19 → q ≠ kb b 20 → q ≠ kb b 21 → I' q j = I q j
def FTms (J J' : kjI) : Prop := ∀ q j, ¬ (q = 59 ∧ (j = 35 ∨ j = 36)) → (q < 69 ∨ 75 < q) → J' q j = J q j
theorem FT.s {b : Bool} {c : Nat} {I I' : kjI} (h : FT b c I I') : FTs b I I' := fun q j h1 h2 h3 h4 h5 h6 h7 h8 => h q j h1 (by omega) (by omega)
theorem FTm.s {c : Nat} {I I' : kjI} (h : FTm c I I') : FTms I I' := fun q j h1 h2 => h q j h1 (by omega) (by omega) (by omega)
theorem FTs.at {b : Bool} {I I' : kjI} (h : FTs b I I') {q : Nat} (hq : q < 15 ∨ q = 22) (j : Nat) : I' (kb b q) j = I (kb b q) j := h _ _ (kb_ne (by omega)) (kb_ne (by omega)) (kb_ne (by omega)) (kb_ne (by omega)) (kb_ne (by omega)) (kb_ne (by omega)) (kb_ne (by omega)) (kb_ne (by omega))
theorem r_mets_loop (b : Bool) (N : Nat) (hN : 200 ≤ N) (L L' : kjL) (n : Nat) (B : Nat → Nat) (nc nm : Nat) (hnc : nc ≤ 8) (hnm : nm ≤ 16) : ∀ (k c m m' a : Nat) (s : Bool) (I J : kjI), k < m → k < m' → nm - c = k → c ≤ nm → RR b n a s B I J → I (kb b 5) 4 = w nc → J 59 12 = w nc → I (kb b 14) 3 = w nm → J 59 20 = w nm → (s = false → MD b n B nc c a I J) →
    ∃ (I' J' : kjI) (a' : Nat) (s' : Bool), kf24_97 b N m (w c) I L = kf24_129 b N I' L ∧ kf113_106 N m' (w c) J L' = kf113_132 N J' L' ∧ RR b n a' s' B I' J' ∧ FTs b I I' ∧ FTms J J' ∧ (s' = false → s = false ∧ MD b n B nc nm a' I' J') := by
  intro k
  induction k with
  | zero =>
    intro c m m' a s I J hm hm' hk hc hR h1 h2 h3 h4 hD
    obtain ⟨m, rfl⟩ : ∃ q, m = q + 1 := ⟨m - 1, by omega⟩
    obtain ⟨m', rfl⟩ : ∃ q, m' = q + 1 := ⟨m' - 1, by omega⟩
    refine ⟨I, J, a, s, ?_, ?_, hR, fun _ _ _ _ _ _ _ _ _ _ => rfl, fun _ _ _ _ => rfl, fun z => ⟨z, by have := hD z; rw [show c = nm by omega] at this; exact this⟩⟩
    · conv => lhs; unfold kf24_97
      rw [h3, if_pos (by (simp (disch := omega) only [w_lit, w_neg, w_add, w_sub, w_mul, w_lt, w_le, w_eq, w_clamp, w_in, not_true_eq_false, not_false_eq_true, Classical.not_not]); omega)]
    · conv => lhs; unfold kf113_106
      rw [h4, if_pos (by (simp (disch := omega) only [w_lit, w_neg, w_add, w_sub, w_mul, w_lt, w_le, w_eq, w_clamp, w_in, not_true_eq_false, not_false_eq_true, Classical.not_not]); omega)]
  | succ k ih =>
    intro c m m' a s I J hm hm' hk hc hR h1 h2 h3 h4 hD
    obtain ⟨m, rfl⟩ : ∃ q, m = q + 1 := ⟨m - 1, by omega⟩
    obtain ⟨m', rfl⟩ : ∃ q, m' = q + 1 := ⟨m' - 1, by omega⟩
    cases s
    · obtain ⟨I1, J1, a1, s1, g1, g2, g3, g4, g5, g6⟩ := r_met b N hN L L' hR hnc (c := c) (by omega) hnm h1 h2 h3 (hD rfl)
      have u1 : kf24_97 b N (m + 1) (w c) I L = kf24_97 b N m (w (c + 1 : Nat)) I1 L := by
        conv => lhs; unfold kf24_97
        rw [h3, if_neg (by (simp (disch := omega) only [w_lit, w_neg, w_add, w_sub, w_mul, w_lt, w_le, w_eq, w_clamp, w_in, not_true_eq_false, not_false_eq_true, Classical.not_not]); omega)]
        unfold kf55
        rw [hR.st1, bi_f, if_neg (by decide), sbind, if_neg (by decide), g1, sbind]
        (simp only [w_lit, w_neg, w_add, w_sub, w_mul])
        rfl
      have u2 : kf113_106 N (m' + 1) (w c) J L' = kf113_106 N m' (w (c + 1 : Nat)) J1 L' := by
        conv => lhs; unfold kf113_106
        rw [h4, if_neg (by (simp (disch := omega) only [w_lit, w_neg, w_add, w_sub, w_mul, w_lt, w_le, w_eq, w_clamp, w_in, not_true_eq_false, not_false_eq_true, Classical.not_not]); omega), hR.st2, bi_f, if_neg (by decide), g2, sbind]
        (simp only [w_lit, w_neg, w_add, w_sub, w_mul])
        rfl
      rw [u1, u2]
      obtain ⟨I', J', a', s', q1, q2, q3, q4, q5, q6⟩ := ih (c + 1) m m' a1 s1 I1 J1 (by omega) (by omega) (by omega) (by omega) g3 (by rw [g4.s.at (by omega)]; exact h1) (by rw [g5.s _ _ (by omega) (by omega)]; exact h2) (by rw [g4.s.at (by omega)]; exact h3) (by rw [g5.s _ _ (by omega) (by omega)]; exact h4) g6
      exact ⟨I', J', a', s', q1, q2, q3, fun q j d1 d2 d3 d4 d5 d6 d7 d8 => by rw [q4 q j d1 d2 d3 d4 d5 d6 d7 d8, g4.s q j d1 d2 d3 d4 d5 d6 d7 d8], fun q j d1 d2 => by rw [q5 q j d1 d2, g5.s q j d1 d2], fun z => ⟨rfl, (q6 z).2⟩⟩
    · refine ⟨I, J, a, true, ?_, ?_, hR, fun _ _ _ _ _ _ _ _ _ _ => rfl, fun _ _ _ _ => rfl, fun z => by cases z⟩
      · conv => lhs; unfold kf24_97
        rw [h3, if_neg (by (simp (disch := omega) only [w_lit, w_neg, w_add, w_sub, w_mul, w_lt, w_le, w_eq, w_clamp, w_in, not_true_eq_false, not_false_eq_true, Classical.not_not]); omega)]
        unfold kf55
        rw [hR.st1, bi_t, if_pos (by decide), sbind, if_pos rfl]
      · conv => lhs; unfold kf113_106
        rw [h4, if_neg (by (simp (disch := omega) only [w_lit, w_neg, w_add, w_sub, w_mul, w_lt, w_le, w_eq, w_clamp, w_in, not_true_eq_false, not_false_eq_true, Classical.not_not]); omega), hR.st2, bi_t, if_pos (by decide)]
/-- what taking apart may change -/
def FP (b : Bool) (I I' : kjI) : Prop := ∀ q j, q ≠ kb b 23 → ¬ (q = kb b 5 ∧ j = 4) → ¬ ((q = kb b 10 ∨ q = kb b 14) ∧ j = 3) → (∀ i, (6 ≤ i ∧ i ≤ 9) ∨ (11 ≤ i ∧ i ≤ 13) ∨ (15 ≤ i ∧ i ≤ 22) → q ≠ kb b i) → I' q j = I q j
def FPm (J J' : kjI) : Prop := ∀ q j, ¬ (q = 59 ∧ (j = 12 ∨ j = 16 ∨ j = 20 ∨ j = 35 ∨ j = 36)) → (q < 63 ∨ 75 < q) → q ≠ 77 → J' q j = J q j
theorem r_parse (b : Bool) (N : Nat) (hN : 200 ≤ N) (L L' : kjL) {n : Nat} {B : Nat → Nat} {I J : kjI} (hI : k_row b n B I) (hJ1 : J 59 5 = w n) (hJ2 : ∀ i, i < n → J 61 i = w (B i)) :
    ∃ (I' J' : kjI) (a : Nat) (ok : Bool), kf24 b N I L = some (w (bi ok), I', L) ∧ kf113 N J L' = some (w (bi ok), J', L') ∧ I' (kb b 23) 1 = w a ∧ J' 59 35 = w a ∧ a ≤ n ∧ FP b I I' ∧ FPm J J' ∧
    (ok = true → ∃ (nc ns nm : Nat) (P : Nat → Int), PD b n B nc ns nm n P I' J' ∧ TD b nm P ns nc 0 I' J') := by
  have hn := hI.1
  have e0 : (0 : Int32) = w 0 := rfl
  have e8 : (8 : Int32) = w 8 := rfl
  have e1 : (1 : Int32) = w 1 := rfl
  have e16 : (16 : Int32) = w 16 := rfl
  -- begin
  have hR0 : RR b n 0 false B (mv_up (mv_up I (kb b 23) 1 0) (kb b 23) 2 0) (mv_up (mv_up (mv_up J 59 35 0) 59 36 0) 59 12 0) := by
    refine ⟨⟨hn, ?_, fun i hi => ?_⟩, ?_, fun i hi => ?_, Nat.zero_le _, ?_, ?_, ?_, ?_⟩
    · (simp (disch := first | (apply kb_ne; omega) | omega | (apply kb_59; omega) | (apply kb_59'; omega) | fail) only [up_eq, up_k, up_j]); exact hI.2.1
    · (simp (disch := first | (apply kb_ne; omega) | omega | (apply kb_59; omega) | (apply kb_59'; omega) | fail) only [up_eq, up_k, up_j]); exact hI.2.2 i hi
    · (simp (disch := first | (apply kb_ne; omega) | omega | (apply kb_59; omega) | (apply kb_59'; omega) | fail) only [up_eq, up_k, up_j]); exact hJ1
    · (simp (disch := first | (apply kb_ne; omega) | omega | (apply kb_59; omega) | (apply kb_59'; omega) | fail) only [up_eq, up_k, up_j]); exact hJ2 i hi
    · (simp (disch := first | (apply kb_ne; omega) | omega | (apply kb_59; omega) | (apply kb_59'; omega) | fail) only [up_eq, up_k, up_j]); rfl
    · (simp (disch := first | (apply kb_ne; omega) | omega | (apply kb_59; omega) | (apply kb_59'; omega) | fail) only [up_eq, up_k, up_j]); rfl
    · (simp (disch := first | (apply kb_ne; omega) | omega | (apply kb_59; omega) | (apply kb_59'; omega) | fail) only [up_eq, up_k, up_j]); rfl
    · (simp (disch := first | (apply kb_ne; omega) | omega | (apply kb_59; omega) | (apply kb_59'; omega) | fail) only [up_eq, up_k, up_j]); rfl
  -- the number of classes
  obtain ⟨nc, a1, s1, I1, J1, g1, g2, g3, g4, g5, g6, g7, g8, g9⟩ := r_num L L' hR0 (lo := 0) (hi := 8) (by omega)
  have hv1 : w (if s1 then 0 else (nc : Int)) = w nc := by
    cases s1
    · rfl
    · have := (g8 rfl).1
      simp [this]
  rw [hv1] at g2
  have hR1 : RR b n a1 s1 B (mv_up I1 (kb b 5) 4 (w nc)) (mv_up J1 59 12 (w nc)) := g3.keep (fun j => by (simp (disch := first | (apply kb_ne; omega) | omega | (apply kb_59; omega) | (apply kb_59'; omega) | fail) only [up_eq, up_k, up_j])) (fun j => by (simp (disch := first | (apply kb_ne; omega) | omega | (apply kb_59; omega) | (apply kb_59'; omega) | fail) only [up_eq, up_k, up_j])) (fun j => by (simp (disch := first | (apply kb_ne; omega) | omega | (apply kb_59; omega) | (apply kb_59'; omega) | fail) only [up_eq, up_k, up_j])) ⟨by (simp (disch := first | (apply kb_ne; omega) | omega | (apply kb_59; omega) | (apply kb_59'; omega) | fail) only [up_eq, up_k, up_j]), by (simp (disch := first | (apply kb_ne; omega) | omega | (apply kb_59; omega) | (apply kb_59'; omega) | fail) only [up_eq, up_k, up_j]), by (simp (disch := first | (apply kb_ne; omega) | omega | (apply kb_59; omega) | (apply kb_59'; omega) | fail) only [up_eq, up_k, up_j])⟩ (fun j => by (simp (disch := first | (apply kb_ne; omega) | omega | (apply kb_59; omega) | (apply kb_59'; omega) | fail) only [up_eq, up_k, up_j]))
  obtain ⟨I2, J2, a2, s2, q1, q2, q3, q4, q5, q6⟩ := r_classes_loop b N (by omega) L L' n B nc (by omega) (nc - 0) 0 N N a1 s1 _ _ (by omega) (by omega) rfl (by omega) hR1 (by (simp (disch := first | (apply kb_ne; omega) | omega | (apply kb_59; omega) | (apply kb_59'; omega) | fail) only [up_eq, up_k, up_j])) (by (simp (disch := first | (apply kb_ne; omega) | omega | (apply kb_59; omega) | (apply kb_59'; omega) | fail) only [up_eq, up_k, up_j])) (fun _ c' hc' => by omega)
  have n1 : I2 (kb b 5) 4 = w nc := by rw [q4 _ _ (kb_ne (by decide)) (kb_ne (by decide)) (kb_ne (by decide)) (kb_ne (by decide)) (kb_ne (by decide))]; (simp (disch := first | (apply kb_ne; omega) | omega | (apply kb_59; omega) | (apply kb_59'; omega) | fail) only [up_eq, up_k, up_j])
  have n2 : J2 59 12 = w nc := by rw [q5 _ _ (by omega) (by omega) (by omega) (by omega)]; (simp (disch := first | (apply kb_ne; omega) | omega | (apply kb_59; omega) | (apply kb_59'; omega) | fail) only [up_eq, up_k, up_j])
  -- the number of SELECTORS
  obtain ⟨ns, a3, s3, I3, J3, t1, t2, t3, t4, t5, t6, t7, t8, t9⟩ := r_num L L' q3 (lo := 0) (hi := 8) (by omega)
  have hv3 : w (if s3 then 0 else (ns : Int)) = w ns := by
    cases s3
    · rfl
    · have := (t8 rfl).1
      simp [this]
  rw [hv3] at t2
  have hR3 : RR b n a3 s3 B (mv_up I3 (kb b 10) 3 (w ns)) (mv_up J3 59 16 (w ns)) := t3.keep (fun j => by (simp (disch := first | (apply kb_ne; omega) | omega | (apply kb_59; omega) | (apply kb_59'; omega) | fail) only [up_eq, up_k, up_j])) (fun j => by (simp (disch := first | (apply kb_ne; omega) | omega | (apply kb_59; omega) | (apply kb_59'; omega) | fail) only [up_eq, up_k, up_j])) (fun j => by (simp (disch := first | (apply kb_ne; omega) | omega | (apply kb_59; omega) | (apply kb_59'; omega) | fail) only [up_eq, up_k, up_j])) ⟨by (simp (disch := first | (apply kb_ne; omega) | omega | (apply kb_59; omega) | (apply kb_59'; omega) | fail) only [up_eq, up_k, up_j]), by (simp (disch := first | (apply kb_ne; omega) | omega | (apply kb_59; omega) | (apply kb_59'; omega) | fail) only [up_eq, up_k, up_j]), by (simp (disch := first | (apply kb_ne; omega) | omega | (apply kb_59; omega) | (apply kb_59'; omega) | fail) only [up_eq, up_k, up_j])⟩ (fun j => by (simp (disch := first | (apply kb_ne; omega) | omega | (apply kb_59; omega) | (apply kb_59'; omega) | fail) only [up_eq, up_k, up_j]))
  have n1' : (mv_up I3 (kb b 10) 3 (w ns)) (kb b 5) 4 = w nc := by (simp (disch := first | (apply kb_ne; omega) | omega | (apply kb_59; omega) | (apply kb_59'; omega) | fail) only [up_eq, up_k, up_j]); rw [t4 _ _ (kb_ne (by decide))]; exact n1
  have n2' : (mv_up J3 59 16 (w ns)) 59 12 = w nc := by (simp (disch := first | (apply kb_ne; omega) | omega | (apply kb_59; omega) | (apply kb_59'; omega) | fail) only [up_eq, up_k, up_j]); rw [t5 _ _ (by omega)]; exact n2
  obtain ⟨I4, J4, a4, s4, u1, u2, u3, u4, u5, u6⟩ := r_sels_loop b N (by omega) L L' n B nc ns (by omega) (by omega) (ns - 0) 0 N N a3 s3 _ _ (by omega) (by omega) rfl (by omega) hR3 n1' n2' (by (simp (disch := first | (apply kb_ne; omega) | omega | (apply kb_59; omega) | (apply kb_59'; omega) | fail) only [up_eq, up_k, up_j])) (by (simp (disch := first | (apply kb_ne; omega) | omega | (apply kb_59; omega) | (apply kb_59'; omega) | fail) only [up_eq, up_k, up_j])) (fun _ c' hc' => by omega)
  have u4' : ∀ q, q < 11 ∨ (13 < q ∧ q < 23) → ∀ j, I4 (kb b q) j = (mv_up I3 (kb b 10) 3 (w ns)) (kb b q) j := fun q hq j => u4 _ _ (kb_ne (by omega)) (kb_ne (by omega)) (kb_ne (by omega)) (kb_ne (by omega))
  -- the number of METHODS
  obtain ⟨nm, a5, s5, I5, J5, x1, x2, x3, x4, x5, x6, x7, x8, x9⟩ := r_num L L' u3 (lo := 1) (hi := 16) (by omega)
  obtain ⟨nm', hnm', hnm2⟩ : ∃ nm' : Nat, (if s5 then 0 else (nm : Int)) = nm' ∧ nm' ≤ 16 ∧ (s5 = false → nm' = nm) := by
    cases s5
    · exact ⟨nm, rfl, by omega, fun _ => rfl⟩
    · exact ⟨0, rfl, by omega, fun z => by cases z⟩
  rw [hnm'] at x2
  have hR5 : RR b n a5 s5 B (mv_up I5 (kb b 14) 3 (w nm)) (mv_up J5 59 20 (w nm')) := x3.keep (fun j => by (simp (disch := first | (apply kb_ne; omega) | omega | (apply kb_59; omega) | (apply kb_59'; omega) | fail) only [up_eq, up_k, up_j])) (fun j => by (simp (disch := first | (apply kb_ne; omega) | omega | (apply kb_59; omega) | (apply kb_59'; omega) | fail) only [up_eq, up_k, up_j])) (fun j => by (simp (disch := first | (apply kb_ne; omega) | omega | (apply kb_59; omega) | (apply kb_59'; omega) | fail) only [up_eq, up_k, up_j])) ⟨by (simp (disch := first | (apply kb_ne; omega) | omega | (apply kb_59; omega) | (apply kb_59'; omega) | fail) only [up_eq, up_k, up_j]), by (simp (disch := first | (apply kb_ne; omega) | omega | (apply kb_59; omega) | (apply kb_59'; omega) | fail) only [up_eq, up_k, up_j]), by (simp (disch := first | (apply kb_ne; omega) | omega | (apply kb_59; omega) | (apply kb_59'; omega) | fail) only [up_eq, up_k, up_j])⟩ (fun j => by (simp (disch := first | (apply kb_ne; omega) | omega | (apply kb_59; omega) | (apply kb_59'; omega) | fail) only [up_eq, up_k, up_j]))
  have n1'' : (mv_up I5 (kb b 14) 3 (w nm)) (kb b 5) 4 = w nc := by (simp (disch := first | (apply kb_ne; omega) | omega | (apply kb_59; omega) | (apply kb_59'; omega) | fail) only [up_eq, up_k, up_j]); rw [x4 _ _ (kb_ne (by decide)), u4' _ (by omega)]; exact n1'
  have n2'' : (mv_up J5 59 20 (w nm')) 59 12 = w nc := by (simp (disch := first | (apply kb_ne; omega) | omega | (apply kb_59; omega) | (apply kb_59'; omega) | fail) only [up_eq, up_k, up_j]); rw [x5 _ _ (by omega), u5 _ _ (by omega) (by omega) (by omega) (by omega)]; exact n2'
  have s1'' : (mv_up I5 (kb b 14) 3 (w nm)) (kb b 10) 3 = w ns := by (simp (disch := first | (apply kb_ne; omega) | omega | (apply kb_59; omega) | (apply kb_59'; omega) | fail) only [up_eq, up_k, up_j]); rw [x4 _ _ (kb_ne (by decide)), u4' _ (by omega)]; (simp (disch := first | (apply kb_ne; omega) | omega | (apply kb_59; omega) | (apply kb_59'; omega) | fail) only [up_eq, up_k, up_j])
  have s2'' : (mv_up J5 59 20 (w nm')) 59 16 = w ns := by (simp (disch := first | (apply kb_ne; omega) | omega | (apply kb_59; omega) | (apply kb_59'; omega) | fail) only [up_eq, up_k, up_j]); rw [x5 _ _ (by omega), u5 _ _ (by omega) (by omega) (by omega) (by omega)]; (simp (disch := first | (apply kb_ne; omega) | omega | (apply kb_59; omega) | (apply kb_59'; omega) | fail) only [up_eq, up_k, up_j])
  -- both up to the table
  have hc0 : kf24 b N I L = kf24_97 b N N (w 0) (mv_up I5 (kb b 14) 3 (w nm)) L := by
    unfold kf24 kf54 kf35 kf47
    rw [sbind]
    simp only
    rw [show kf60 b 0 8 (mv_up (mv_up I (kb b 23) 1 0) (kb b 23) 2 0) L = _ from g1, sbind]
    simp only
    rw [show kf35_13 b N N 0 (mv_up I1 (kb b 5) 4 (w nc)) L = _ from q1, sbind]
    simp only
    rw [if_neg (show ¬ (16 : Int32) < 8 by decide), show kf60 b 0 8 I2 L = _ from t1, sbind, sbind]
    simp only
    rw [show kf24_34 b N N 0 (mv_up I3 (kb b 10) 3 (w ns)) L = _ from u1]
    unfold kf24_81 kf47a
    rw [if_neg (show ¬ (16 : Int32) < 16 by decide), show kf60 b 1 16 I4 L = _ from x1, sbind, sbind]
    rfl
  have hm0 : kf113 N J L' = kf113_106 N N (w 0) (mv_up J5 59 20 (w nm')) L' := by
    unfold kf113
    rw [show kf104 0 8 (mv_up (mv_up (mv_up J 59 35 0) 59 36 0) 59 12 0) L' = _ from g2, sbind]
    simp only
    rw [show kf113_28 N N 0 (mv_up J1 59 12 (w nc)) L' = _ from q2]
    unfold kf113_54
    rw [show kf104 0 8 J2 L' = _ from t2, sbind]
    simp only
    rw [show kf113_67 N N 0 (mv_up J3 59 16 (w ns)) L' = _ from u2]
    unfold kf113_93
    rw [show kf104 1 16 J4 L' = _ from x2, sbind]
    rfl
  have fi5 : FP b I (mv_up I5 (kb b 14) 3 (w nm)) := by
    intro q j d1 d2 d3 d4
    rw [up1_ne (by omega), x4 q j d1, u4 q j d1 (d4 11 (by omega)) (d4 12 (by omega)) (d4 13 (by omega)), up1_ne (by omega), t4 q j d1, q4 q j d1 (d4 6 (by omega)) (d4 7 (by omega)) (d4 8 (by omega)) (d4 9 (by omega)), up1_ne (by omega), g4 q j d1, up_k d1, up_k d1]
  have fj5 : FPm J (mv_up J5 59 20 (w nm')) := by
    intro q j d1 d2 d3
    rw [up1_ne (by omega), x5 q j (by omega), u5 q j (by omega) (by omega) (by omega) (by omega), up1_ne (by omega), t5 q j (by omega), q5 q j (by omega) (by omega) (by omega) (by omega), up1_ne (by omega), g5 q j (by omega), up1_ne (by omega), up1_ne (by omega), up1_ne (by omega)]
  rw [hc0, hm0]
  -- the end
  have fin_dead : ∀ (I6 J6 : kjI) (a6 : Nat), RR b n a6 true B I6 J6 → kf24_163 b N I6 L = some (w 0, I6, L) ∧ kf113_176 N J6 L' = some (w 0, J6, L') := by
    intro I6 J6 a6 hR6
    constructor
    · unfold kf24_163 kf56
      rw [hR6.st1, bi_t, if_pos (by decide), sbind, if_pos (Or.inl rfl)]
      rfl
    · unfold kf113_176 kf113_199
      rw [hR6.st2, bi_t, if_pos (by decide), if_pos (by decide)]
      rfl
  cases s5
  · -- it goes on
    have hnn : nm' = nm := hnm2.2 rfl
    subst hnn
    obtain ⟨hs4, x10, x11, x12⟩ := x9 rfl
    obtain ⟨hs3, hSD⟩ := u6 hs4
    obtain ⟨hs2, t10, t11, t12⟩ := t9 hs3
    have hCD := q6 hs2
    obtain ⟨I6, J6, a6, s6, y1, y2, y3, y4, y5, y6⟩ := r_mets_loop b N hN L L' n B nc nm' (by omega) (by omega) (nm' - 0) 0 N N a5 false _ _ (by omega) (by omega) rfl (by omega) hR5 n1'' n2'' (by (simp (disch := first | (apply kb_ne; omega) | omega | (apply kb_59; omega) | (apply kb_59'; omega) | fail) only [up_eq, up_k, up_j])) (by (simp (disch := first | (apply kb_ne; omega) | omega | (apply kb_59; omega) | (apply kb_59'; omega) | fail) only [up_eq, up_k, up_j])) (fun _ c' hc' => by omega)
    replace y1 : kf24_97 b N N (w 0) (mv_up I5 (kb b 14) 3 (w nm')) L = kf24_129 b N I6 L := y1
    replace y2 : kf113_106 N N (w 0) (mv_up J5 59 20 (w nm')) L' = kf113_132 N J6 L' := y2
    rw [y1, y2]
    unfold kf24_129 kf113_132
    have y4' : ∀ q, q < 15 ∨ q = 22 → ∀ j, I6 (kb b q) j = (mv_up I5 (kb b 14) 3 (w nm')) (kb b q) j := fun q hq j => y4.at hq j
    have fi6 : FP b I I6 := by
      intro q j d1 d2 d3 d4
      rw [y4 q j d1 (d4 15 (by omega)) (d4 16 (by omega)) (d4 17 (by omega)) (d4 18 (by omega)) (d4 19 (by omega)) (d4 20 (by omega)) (d4 21 (by omega)), fi5 q j d1 d2 d3 d4]
    have fj6 : FPm J J6 := by
      intro q j d1 d2 d3
      rw [y5 q j (by omega) (by omega), fj5 q j d1 d2 d3]
    cases s6
    · obtain ⟨-, hMD⟩ := y6 rfl
      -- all that was read stands
      have hI2 : ∀ q, 6 ≤ q → q ≤ 9 → ∀ j, I6 (kb b q) j = I2 (kb b q) j := by
        intro q h1 h2 j
        rw [y4' q (by omega) j, up_k (kb_ne (by omega)), x4 _ _ (kb_ne (by omega)), u4' q (by omega) j, up_k (kb_ne (by omega)), t4 _ _ (kb_ne (by omega))]
      have hJ2' : ∀ q, 63 ≤ q → q ≤ 65 → ∀ j, J6 q j = J2 q j := by
        intro q h1 h2 j
        rw [y5 q j (by omega) (by omega), up_k (by omega), x5 q j (by omega), u5 q j (by omega) (by omega) (by omega) (by omega), up_k (by omega), t5 q j (by omega)]
      have hI4 : ∀ q, 11 ≤ q → q ≤ 13 → ∀ j, I6 (kb b q) j = I4 (kb b q) j := by
        intro q h1 h2 j
        rw [y4' q (by omega) j, up_k (kb_ne (by omega)), x4 _ _ (kb_ne (by omega))]
      have hJ4' : ∀ q, 66 ≤ q → q ≤ 68 → ∀ j, J6 q j = J4 q j := by
        intro q h1 h2 j
        rw [y5 q j (by omega) (by omega), up_k (by omega), x5 q j (by omega)]
      have cd6 : CD b nc nc I6 J6 := hCD.keep hI2 hJ2'
      have m1 : I6 (kb b 5) 4 = w nc := by rw [y4' _ (by omega)]; exact n1''
      have m2 : J6 59 12 = w nc := by rw [y5 _ _ (by omega) (by omega)]; exact n2''
      have hPD : PD b n B nc ns nm' a6 (fun c => (J6 63 c).toInt) I6 J6 := ⟨cd6, cd6.ab (by omega) m1 m2, hSD.keep hI4 hJ4', hMD, by omega, by omega, by rw [y4' _ (by omega)]; exact s1'', by rw [y5 _ _ (by omega) (by omega)]; exact s2'', by rw [y4' _ (by omega)]; (simp (disch := first | (apply kb_ne; omega) | omega | (apply kb_59; omega) | (apply kb_59'; omega) | fail) only [up_eq, up_k, up_j]), by rw [y5 _ _ (by omega) (by omega)]; (simp (disch := first | (apply kb_ne; omega) | omega | (apply kb_59; omega) | (apply kb_59'; omega) | fail) only [up_eq, up_k, up_j])⟩
      have h64 : (nc - 0) * ns ≤ 8 * 8 := Nat.mul_le_mul (by omega) (by omega)
      obtain ⟨I7, J7, a7, s7, z1, z2, z3, z4, z5, z6⟩ := r_rows b N (by omega) L L' (nc := nc) (ns := ns) (nm := nm') (P := fun c => (J6 63 c).toInt) (by omega) (by omega) (nc - 0) 0 N N a6 I6 J6 (by omega) (by omega) rfl (by omega) y3 hPD (fun c' s' h1 h2 => by omega)
      rw [Nat.zero_mul] at z2
      rw [show kf24_131 b N N 0 I6 L = _ from z1, show kf113_134 N N 0 J6 L' = _ from z2]
      have fi7 : FP b I I7 := fun q j d1 d2 d3 d4 => by rw [z4 q j d1 (d4 22 (by omega)), fi6 q j d1 d2 d3 d4]
      have fj7 : FPm J J7 := fun q j d1 d2 d3 => by rw [z5 q j (by omega) d3, fj6 q j d1 d2 d3]
      cases s7
      · have hle := z3.le
        obtain ⟨w1, w2⟩ := z6 rfl
        unfold kf24_163 kf56 kf113_176 kf113_199
        rw [z3.st1, z3.st2, z3.at1, z3.row.2.1, z3.len, z3.at2, bi_f, if_neg (show ¬ ¬ w 0 = 0 by decide), if_neg (show ¬ ¬ w 0 = 0 by decide), if_neg (show ¬ ¬ w 0 = 0 by decide)]
        by_cases ha : a7 = n
        · subst ha
          refine ⟨I7, J7, a7, true, ?_, ?_, z3.at1, z3.at2, hle, fi7, fj7, fun _ => ⟨nc, ns, nm', _, hPD.keep w1 z4 z5, w2⟩⟩
          · rw [if_neg (fun z => z rfl), sbind, if_pos (Or.inr rfl)]
            rfl
          · rw [if_pos (by (simp (disch := omega) only [w_lit, w_neg, w_add, w_sub, w_mul, w_lt, w_le, w_eq, w_clamp, w_in, not_true_eq_false, not_false_eq_true, Classical.not_not]); omega)]
            rfl
        · refine ⟨I7, mv_up J7 59 36 1, a7, false, ?_, ?_, z3.at1, by (simp (disch := first | (apply kb_ne; omega) | omega | (apply kb_59; omega) | (apply kb_59'; omega) | fail) only [up_eq, up_k, up_j]); exact z3.at2, hle, fi7, fun q j d1 d2 d3 => by rw [up1_ne (by omega), fj7 q j d1 d2 d3], fun z => by cases z⟩
          · rw [if_pos (by (simp (disch := omega) only [w_lit, w_neg, w_add, w_sub, w_mul, w_lt, w_le, w_eq, w_clamp, w_in, not_true_eq_false, not_false_eq_true, Classical.not_not]); omega), sbind, if_pos (Or.inl rfl)]
            rfl
          · rw [if_neg (by (simp (disch := omega) only [w_lit, w_neg, w_add, w_sub, w_mul, w_lt, w_le, w_eq, w_clamp, w_in, not_true_eq_false, not_false_eq_true, Classical.not_not]); omega)]
            (simp (disch := first | (apply kb_ne; omega) | omega | (apply kb_59; omega) | (apply kb_59'; omega) | fail) only [up_eq, up_k, up_j])
            rw [if_pos (by decide)]
            rfl
      · obtain ⟨w1, w2⟩ := fin_dead I7 J7 a7 z3
        exact ⟨I7, J7, a7, false, w1, w2, z3.at1, z3.at2, z3.le, fi7, fj7, fun z => by cases z⟩
    · have hx : ∃ N', N = N' + 1 := ⟨N - 1, by omega⟩
      obtain ⟨N', hN'⟩ := hx
      have k1 : kf24_131 b N N 0 I6 L = kf24_163 b N I6 L := by
        conv => lhs; rw [hN']; unfold kf24_131
        rw [← hN']
        by_cases hle : I6 (kb b 5) 4 ≤ 0
        · rw [if_pos hle]
        · rw [if_neg hle]
          unfold kf55
          rw [y3.st1, bi_t, if_pos (by decide), sbind, if_pos rfl]
      have k2 : kf113_134 N N 0 J6 L' = kf113_176 N J6 L' := by
        conv => lhs; rw [hN']; unfold kf113_134
        rw [← hN', y3.st2, bi_t]
        by_cases hle : J6 59 12 * J6 59 16 ≤ 0
        · rw [if_pos hle]
        · rw [if_neg hle, if_pos (by decide)]
      obtain ⟨w1, w2⟩ := fin_dead I6 J6 a6 y3
      exact ⟨I6, J6, a6, false, by rw [k1]; exact w1, by rw [k2]; exact w2, y3.at1, y3.at2, y3.le, fi6, fj6, fun z => by cases z⟩
  · -- it has stopped
    have hx : ∃ N', N = N' + 1 := ⟨N - 1, by omega⟩
    obtain ⟨N', hN'⟩ := hx
    generalize mv_up I5 (kb b 14) 3 (w nm) = I6 at *
    generalize mv_up J5 59 20 (w nm') = J6 at *
    have k0 : kf24_97 b N N (w 0) I6 L = kf24_129 b N I6 L := by
      conv => lhs; rw [hN']; unfold kf24_97
      rw [← hN']
      by_cases hle : I6 (kb b 14) 3 ≤ w 0
      · rw [if_pos hle]
      · rw [if_neg hle]
        unfold kf55
        rw [hR5.st1, bi_t, if_pos (by decide), sbind, if_pos rfl]
    have k00 : kf113_106 N N (w 0) J6 L' = kf113_132 N J6 L' := by
      conv => lhs; rw [hN']; unfold kf113_106
      rw [← hN', hR5.st2, bi_t]
      by_cases hle : J6 59 20 ≤ w 0
      · rw [if_pos hle]
      · rw [if_neg hle, if_pos (by decide)]
    have k1 : kf24_131 b N N 0 I6 L = kf24_163 b N I6 L := by
      conv => lhs; rw [hN']; unfold kf24_131
      rw [← hN']
      by_cases hle : I6 (kb b 5) 4 ≤ 0
      · rw [if_pos hle]
      · rw [if_neg hle]
        unfold kf55
        rw [hR5.st1, bi_t, if_pos (by decide), sbind, if_pos rfl]
    have k2 : kf113_134 N N 0 J6 L' = kf113_176 N J6 L' := by
      conv => lhs; rw [hN']; unfold kf113_134
      rw [← hN', hR5.st2, bi_t]
      by_cases hle : J6 59 12 * J6 59 16 ≤ 0
      · rw [if_pos hle]
      · rw [if_neg hle, if_pos (by decide)]
    obtain ⟨w1, w2⟩ := fin_dead I6 J6 a5 hR5
    refine ⟨I6, J6, a5, false, ?_, ?_, hR5.at1, hR5.at2, hR5.le, fi5, fj5, fun z => by cases z⟩
    · rw [k0]
      unfold kf24_129
      rw [k1]
      exact w1
    · rw [k00]
      unfold kf113_132
      rw [k2]
      exact w2
