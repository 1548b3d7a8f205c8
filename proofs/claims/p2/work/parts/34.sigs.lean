/-! SELECTORS and METHODS, read by both. -/
abbrev SDa (b : Bool) (nc s' : Nat) (I J : kjI) (p r : Nat) : Prop := (I (kb b 11) s' = w p) ∧ (J 66 s' = w p) ∧ (p ≤ 3) ∧ (I (kb b 13) s' = w r) ∧ (J 68 s' = w r) ∧ (tyOk nc true r) ∧ (∀ i, i < p → ∃ t : Nat, I (kb b 12) (4 * s' + i) = w t ∧ J 67 (3 * s' + i) = w t ∧ tyOk nc false t)
theorem SDa.n1 {b : Bool} {nc s' : Nat} {I J : kjI} {p r : Nat} (h : SDa b nc s' I J p r) : I (kb b 11) s' = w p := h.1
theorem SDa.n2 {b : Bool} {nc s' : Nat} {I J : kjI} {p r : Nat} (h : SDa b nc s' I J p r) : J 66 s' = w p := h.2.1
theorem SDa.nr {b : Bool} {nc s' : Nat} {I J : kjI} {p r : Nat} (h : SDa b nc s' I J p r) : p ≤ 3 := h.2.2.1
theorem SDa.r1 {b : Bool} {nc s' : Nat} {I J : kjI} {p r : Nat} (h : SDa b nc s' I J p r) : I (kb b 13) s' = w r := h.2.2.2.1
theorem SDa.r2 {b : Bool} {nc s' : Nat} {I J : kjI} {p r : Nat} (h : SDa b nc s' I J p r) : J 68 s' = w r := h.2.2.2.2.1
theorem SDa.rr {b : Bool} {nc s' : Nat} {I J : kjI} {p r : Nat} (h : SDa b nc s' I J p r) : tyOk nc true r := h.2.2.2.2.2.1
theorem SDa.ty {b : Bool} {nc s' : Nat} {I J : kjI} {p r : Nat} (h : SDa b nc s' I J p r) : ∀ i, i < p → ∃ t : Nat, I (kb b 12) (4 * s' + i) = w t ∧ J 67 (3 * s' + i) = w t ∧ tyOk nc false t := h.2.2.2.2.2.2
def SD (b : Bool) (nc s : Nat) (I J : kjI) : Prop := ∀ s', s' < s → ∃ p r : Nat, SDa b nc s' I J p r
def FS (b : Bool) (c : Nat) (I I' : kjI) : Prop := ∀ q j, q ≠ kb b 23 → ¬ ((q = kb b 11 ∨ q = kb b 13) ∧ j = c) → ¬ (q = kb b 12 ∧ 4 * c ≤ j ∧ j < 4 * c + 4) → I' q j = I q j
def FSm (c : Nat) (J J' : kjI) : Prop := ∀ q j, ¬ (q = 59 ∧ (j = 35 ∨ j = 36)) → ¬ ((q = 66 ∨ q = 68) ∧ j = c) → ¬ (q = 67 ∧ 3 * c ≤ j ∧ j < 3 * c + 3) → J' q j = J q j
theorem r_sel_loop (b : Bool) (N : Nat) (L L' : kjL) (n : Nat) (B : Nat → Nat) (nc c p : Nat) (hnc : nc ≤ 8) (hc : c < 8) (hp : p ≤ 3) : ∀ (k i m m' a : Nat) (s : Bool) (I J : kjI), p - i < m → p - i < m' → p - i = k → i ≤ p → RR b n a s B I J → J 59 12 = w nc → I (kb b 11) c = w p → J 66 c = w p →
    ∃ (I' J' : kjI) (a' : Nat) (s' : Bool) (r : Nat), kf48_30 b N m (w c) (w nc) (w i) I L = some (I', L) ∧ kf107_14 N m' (w c) (w i) J L' = some (J', L') ∧ RR b n a' s' B I' J' ∧ (s' = false → s = false) ∧
    (∀ q j, q ≠ kb b 23 → ¬ (q = kb b 13 ∧ j = c) → ¬ (q = kb b 12 ∧ 4 * c + i ≤ j ∧ j < 4 * c + 4) → I' q j = I q j) ∧ (∀ q j, ¬ (q = 59 ∧ (j = 35 ∨ j = 36)) → ¬ (q = 68 ∧ j = c) → ¬ (q = 67 ∧ 3 * c + i ≤ j ∧ j < 3 * c + 3) → J' q j = J q j) ∧
    (s' = false → I' (kb b 13) c = w r ∧ J' 68 c = w r ∧ tyOk nc true r ∧ ∀ j, i ≤ j → j < p → ∃ t : Nat, I' (kb b 12) (4 * c + j) = w t ∧ J' 67 (3 * c + j) = w t ∧ tyOk nc false t) := by
  intro k
  induction k with
  | zero =>
    intro i m m' a s I J hm hm' hk hi hR h2 h3 h4
    obtain ⟨m, rfl⟩ : ∃ q, m = q + 1 := ⟨m - 1, by omega⟩
    obtain ⟨m', rfl⟩ : ∃ q, m' = q + 1 := ⟨m' - 1, by omega⟩
    obtain ⟨v, v', a1, s1, I1, J1, g1, g2, g3, g4, g5, g6, g7⟩ := r_type L L' hR hnc h2 true
    have e1 : (1 : Int32) = w (bi true) := rfl
    refine ⟨mv_up I1 (kb b 13) c (w v), mv_up J1 68 c (w v'), a1, s1, v, ?_, ?_, g3.keep (fun j => by (simp (disch := first | (apply kb_ne; omega) | omega | (apply kb_59; omega) | (apply kb_59'; omega) | fail) only [up_eq, up_k, up_j])) (fun j => by (simp (disch := first | (apply kb_ne; omega) | omega | (apply kb_59; omega) | (apply kb_59'; omega) | fail) only [up_eq, up_k, up_j])) (fun j => by (simp (disch := first | (apply kb_ne; omega) | omega | (apply kb_59; omega) | (apply kb_59'; omega) | fail) only [up_eq, up_k, up_j])) ⟨by (simp (disch := first | (apply kb_ne; omega) | omega | (apply kb_59; omega) | (apply kb_59'; omega) | fail) only [up_eq, up_k, up_j]), by (simp (disch := first | (apply kb_ne; omega) | omega | (apply kb_59; omega) | (apply kb_59'; omega) | fail) only [up_eq, up_k, up_j]), by (simp (disch := first | (apply kb_ne; omega) | omega | (apply kb_59; omega) | (apply kb_59'; omega) | fail) only [up_eq, up_k, up_j])⟩ (fun j => by (simp (disch := first | (apply kb_ne; omega) | omega | (apply kb_59; omega) | (apply kb_59'; omega) | fail) only [up_eq, up_k, up_j])), fun z => (g7 z).1, ?_, ?_, ?_⟩
    · unfold kf48_30
      rw [bif_in (by omega) (by decide), w_clamp (by omega), Int.toNat_natCast, h3, if_pos (by (simp (disch := omega) only [w_lit, w_neg, w_add, w_sub, w_mul, w_lt, w_le, w_eq, w_clamp, w_in, not_true_eq_false, not_false_eq_true, Classical.not_not]); omega), e1, g1, sbind, bif_in (by omega) (by decide)]
    · unfold kf107_14
      rw [bif_in (by omega) (by decide), w_clamp (by omega), Int.toNat_natCast, h4, if_pos (by (simp (disch := omega) only [w_lit, w_neg, w_add, w_sub, w_mul, w_lt, w_le, w_eq, w_clamp, w_in, not_true_eq_false, not_false_eq_true, Classical.not_not]); omega), e1, g2, sbind, bif_in (by omega) (by decide)]
    · intro q j d1 d2 d3
      rw [up1_ne d2, g4 q j d1]
    · intro q j d1 d2 d3
      rw [up1_ne d2, g5 q j d1]
    · intro hs
      obtain ⟨-, -, -, -, rfl, ht⟩ := g7 hs
      exact ⟨by (simp (disch := first | (apply kb_ne; omega) | omega | (apply kb_59; omega) | (apply kb_59'; omega) | fail) only [up_eq, up_k, up_j]), by (simp (disch := first | (apply kb_ne; omega) | omega | (apply kb_59; omega) | (apply kb_59'; omega) | fail) only [up_eq, up_k, up_j]), ht, fun j d1 d2 => by omega⟩
  | succ k ih =>
    intro i m m' a s I J hm hm' hk hi hR h2 h3 h4
    obtain ⟨m, rfl⟩ : ∃ q, m = q + 1 := ⟨m - 1, by omega⟩
    obtain ⟨m', rfl⟩ : ∃ q, m' = q + 1 := ⟨m' - 1, by omega⟩
    obtain ⟨v, v', a1, s1, I1, J1, g1, g2, g3, g4, g5, g6, g7⟩ := r_type L L' hR hnc h2 false
    have e0 : (0 : Int32) = w (bi false) := rfl
    unfold kf48_30 kf107_14
    rw [bif_in (by omega) (by decide), bif_in (by omega) (by decide), w_clamp (a := (c : Int)) (by omega), Int.toNat_natCast, h3, h4, if_neg (by (simp (disch := omega) only [w_lit, w_neg, w_add, w_sub, w_mul, w_lt, w_le, w_eq, w_clamp, w_in, not_true_eq_false, not_false_eq_true, Classical.not_not]); omega), if_neg (by (simp (disch := omega) only [w_lit, w_neg, w_add, w_sub, w_mul, w_lt, w_le, w_eq, w_clamp, w_in, not_true_eq_false, not_false_eq_true, Classical.not_not]); omega), e0, g1, g2, sbind, sbind]
    (simp only [w_lit, w_neg, w_add, w_sub, w_mul])
    rw [bif_in (by omega) (by decide), bif_in (by omega) (by decide), w_clamp (by omega), w_clamp (by omega)]
    have f1 : ((c : Int) * 4 + i).toNat = 4 * c + i := by omega
    have f2 : (3 * (c : Int) + i).toNat = 3 * c + i := by omega
    rw [f1, f2, show ((i : Int) + 1) = ((i + 1 : Nat) : Int) by omega]
    have hR1 : RR b n a1 s1 B (mv_up I1 (kb b 12) (4 * c + i) (w v)) (mv_up J1 67 (3 * c + i) (w v')) := g3.keep (fun j => by (simp (disch := first | (apply kb_ne; omega) | omega | (apply kb_59; omega) | (apply kb_59'; omega) | fail) only [up_eq, up_k, up_j])) (fun j => by (simp (disch := first | (apply kb_ne; omega) | omega | (apply kb_59; omega) | (apply kb_59'; omega) | fail) only [up_eq, up_k, up_j])) (fun j => by (simp (disch := first | (apply kb_ne; omega) | omega | (apply kb_59; omega) | (apply kb_59'; omega) | fail) only [up_eq, up_k, up_j])) ⟨by (simp (disch := first | (apply kb_ne; omega) | omega | (apply kb_59; omega) | (apply kb_59'; omega) | fail) only [up_eq, up_k, up_j]), by (simp (disch := first | (apply kb_ne; omega) | omega | (apply kb_59; omega) | (apply kb_59'; omega) | fail) only [up_eq, up_k, up_j]), by (simp (disch := first | (apply kb_ne; omega) | omega | (apply kb_59; omega) | (apply kb_59'; omega) | fail) only [up_eq, up_k, up_j])⟩ (fun j => by (simp (disch := first | (apply kb_ne; omega) | omega | (apply kb_59; omega) | (apply kb_59'; omega) | fail) only [up_eq, up_k, up_j]))
    obtain ⟨I', J', a', s', r, q1, q2, q3, q4, q5, q6, q7⟩ := ih (i + 1) m m' a1 s1 _ _ (by omega) (by omega) (by omega) (by omega) hR1 (by (simp (disch := first | (apply kb_ne; omega) | omega | (apply kb_59; omega) | (apply kb_59'; omega) | fail) only [up_eq, up_k, up_j]); rw [g5 _ _ (by omega)]; exact h2) (by (simp (disch := first | (apply kb_ne; omega) | omega | (apply kb_59; omega) | (apply kb_59'; omega) | fail) only [up_eq, up_k, up_j]); rw [g4 _ _ (kb_ne (by decide))]; exact h3) (by (simp (disch := first | (apply kb_ne; omega) | omega | (apply kb_59; omega) | (apply kb_59'; omega) | fail) only [up_eq, up_k, up_j]); rw [g5 _ _ (by omega)]; exact h4)
    refine ⟨I', J', a', s', r, q1, q2, q3, fun z => (g7 (q4 z)).1, ?_, ?_, ?_⟩
    · intro q j d1 d2 d3
      rw [q5 q j d1 d2 (by omega), up1_ne (by omega), g4 q j d1]
    · intro q j d1 d2 d3
      rw [q6 q j d1 d2 (by omega), up1_ne (by omega), g5 q j d1]
    · intro hs
      obtain ⟨t1, t2, t3, t4⟩ := q7 hs
      refine ⟨t1, t2, t3, fun j d1 d2 => ?_⟩
      by_cases hij : j = i
      · subst hij
        obtain ⟨-, -, -, -, rfl, ht⟩ := g7 (q4 hs)
        exact ⟨v', by rw [q5 _ _ (kb_ne (by decide)) (fun z => kb_ne (by decide) z.1) (by omega), up_eq], by rw [q6 _ _ (by omega) (by omega) (by omega), up_eq], ht⟩
      · exact t4 j (by omega) d2
theorem SDa.keep {b : Bool} {nc s' : Nat} {I J I' J' : kjI} {p r : Nat} (h : SDa b nc s' I J p r) {c : Nat} (hc : s' < c) (h1 : FS b c I I') (h2 : FSm c J J') : SDa b nc s' I' J' p r := by
  have hn := h.nr
  refine ⟨?_, ?_, hn, ?_, ?_, h.rr, ?_⟩
  · rw [h1 _ _ (kb_ne (by decide)) (by omega) (fun z => kb_ne (by decide) z.1)]; exact h.n1
  · rw [h2 _ _ (by omega) (by omega) (by omega)]; exact h.n2
  · rw [h1 _ _ (kb_ne (by decide)) (by omega) (fun z => kb_ne (by decide) z.1)]; exact h.r1
  · rw [h2 _ _ (by omega) (by omega) (by omega)]; exact h.r2
  · intro i hi
    obtain ⟨t, q1, q2, q3⟩ := h.ty i hi
    refine ⟨t, ?_, ?_, q3⟩
    · rw [h1 _ _ (kb_ne (by decide)) (fun z => by rcases z.1 with z | z <;> exact absurd z (kb_ne (by decide))) (by omega)]
      exact q1
    · rw [h2 _ _ (by omega) (by omega) (by omega)]
      exact q2
theorem r_sel (b : Bool) (N : Nat) (hN : 100 ≤ N) (L L' : kjL) {n a : Nat} {B : Nat → Nat} {I J : kjI} (h : RR b n a false B I J) {nc c : Nat} (hnc : nc ≤ 8) (hc : c < 8) (h2 : J 59 12 = w nc) (hD : SD b nc c I J) :
    ∃ (I' J' : kjI) (a' : Nat) (s' : Bool), kf48 b N (w c) (w 3) (w nc) I L = some (I', L) ∧ kf107 N (w c) J L' = some (J', L') ∧ RR b n a' s' B I' J' ∧ FS b c I I' ∧ FSm c J J' ∧ (s' = false → SD b nc (c + 1) I' J') := by
  obtain ⟨v, a1, s1, I1, J1, g1, g2, g3, g4, g5, g6, g7, g8, g9⟩ := r_num L L' h (lo := 0) (hi := 3) (by omega)
  have hv : w (if s1 then 0 else (v : Int)) = w v := by
    cases s1
    · rfl
    · have := (g8 rfl).1
      simp [this]
  rw [hv] at g2
  have hR1 : RR b n a1 s1 B (mv_up I1 (kb b 11) c (w v)) (mv_up J1 66 c (w v)) := g3.keep (fun j => by (simp (disch := first | (apply kb_ne; omega) | omega | (apply kb_59; omega) | (apply kb_59'; omega) | fail) only [up_eq, up_k, up_j])) (fun j => by (simp (disch := first | (apply kb_ne; omega) | omega | (apply kb_59; omega) | (apply kb_59'; omega) | fail) only [up_eq, up_k, up_j])) (fun j => by (simp (disch := first | (apply kb_ne; omega) | omega | (apply kb_59; omega) | (apply kb_59'; omega) | fail) only [up_eq, up_k, up_j])) ⟨by (simp (disch := first | (apply kb_ne; omega) | omega | (apply kb_59; omega) | (apply kb_59'; omega) | fail) only [up_eq, up_k, up_j]), by (simp (disch := first | (apply kb_ne; omega) | omega | (apply kb_59; omega) | (apply kb_59'; omega) | fail) only [up_eq, up_k, up_j]), by (simp (disch := first | (apply kb_ne; omega) | omega | (apply kb_59; omega) | (apply kb_59'; omega) | fail) only [up_eq, up_k, up_j])⟩ (fun j => by (simp (disch := first | (apply kb_ne; omega) | omega | (apply kb_59; omega) | (apply kb_59'; omega) | fail) only [up_eq, up_k, up_j]))
  obtain ⟨I', J', a', s', r, q1, q2, q3, q4, q5, q6, q7⟩ := r_sel_loop b N L L' n B nc c v hnc hc (by omega) (v - 0) 0 N N a1 s1 _ _ (by omega) (by omega) rfl (by omega) hR1 (by (simp (disch := first | (apply kb_ne; omega) | omega | (apply kb_59; omega) | (apply kb_59'; omega) | fail) only [up_eq, up_k, up_j]); rw [g5 _ _ (by omega)]; exact h2) (by (simp (disch := first | (apply kb_ne; omega) | omega | (apply kb_59; omega) | (apply kb_59'; omega) | fail) only [up_eq, up_k, up_j])) (by (simp (disch := first | (apply kb_ne; omega) | omega | (apply kb_59; omega) | (apply kb_59'; omega) | fail) only [up_eq, up_k, up_j]))
  have f1 : FS b c I I' := fun q j d1 d2 d3 => by rw [q5 q j d1 (by omega) (by omega), up1_ne (by omega), g4 q j d1]
  have f2 : FSm c J J' := fun q j d1 d2 d3 => by rw [q6 q j d1 (by omega) (by omega), up1_ne (by omega), g5 q j d1]
  have e0 : (0 : Int32) = w 0 := rfl
  refine ⟨I', J', a', s', ?_, ?_, q3, f1, f2, ?_⟩
  · unfold kf48
    rw [if_neg (by (simp (disch := omega) only [w_lit, w_neg, w_add, w_sub, w_mul, w_lt, w_le, w_eq, w_clamp, w_in, not_true_eq_false, not_false_eq_true, Classical.not_not]); omega), if_pos (by (simp (disch := omega) only [w_lit, w_neg, w_add, w_sub, w_mul, w_lt, w_le, w_eq, w_clamp, w_in, not_true_eq_false, not_false_eq_true, Classical.not_not]); omega), if_neg (by (simp (disch := omega) only [w_lit, w_neg, w_add, w_sub, w_mul, w_lt, w_le, w_eq, w_clamp, w_in, not_true_eq_false, not_false_eq_true, Classical.not_not]); omega), e0, g1, sbind, bif_in (by omega) (by decide), w_clamp (by omega), Int.toNat_natCast]
    exact q1
  · unfold kf107
    have e3 : (3 : Int32) = w 3 := rfl
    rw [e0, e3, g2, sbind, bif_in (by omega) (by decide), w_clamp (by omega), Int.toNat_natCast]
    exact q2
  · intro hs s'' hs''
    by_cases hcc : s'' < c
    · obtain ⟨p, r, hA⟩ := hD s'' hcc
      exact ⟨p, r, hA.keep hcc f1 f2⟩
    · have : s'' = c := by omega
      subst this
      obtain ⟨t1, t2, t3, t4⟩ := q7 hs
      refine ⟨v, r, ⟨?_, ?_, by omega, t1, t2, t3, fun i hi => t4 i (by omega) hi⟩⟩
      · rw [q5 _ _ (kb_ne (by decide)) (fun z => kb_ne (by decide) z.1) (fun z => kb_ne (by decide) z.1)]
        (simp (disch := first | (apply kb_ne; omega) | omega | (apply kb_59; omega) | (apply kb_59'; omega) | fail) only [up_eq, up_k, up_j])
      · rw [q6 _ _ (by omega) (by omega) (by omega)]
        (simp (disch := first | (apply kb_ne; omega) | omega | (apply kb_59; omega) | (apply kb_59'; omega) | fail) only [up_eq, up_k, up_j])
def FSs (b : Bool) (I I' : kjI) : Prop := ∀ q j, q ≠ kb b 23 → q ≠ kb b 11 → q ≠ kb b 12 → q ≠ kb b 13 → I' q j = I q j
def FSms (J J' : kjI) : Prop := ∀ q j, ¬ (q = 59 ∧ (j = 35 ∨ j = 36)) → q ≠ 66 → q ≠ 67 → q ≠ 68 → J' q j = J q j
theorem FS.s {b : Bool} {c : Nat} {I I' : kjI} (h : FS b c I I') : FSs b I I' := fun q j h1 h2 h3 h4 => h q j h1 (by omega) (by omega)
theorem FSm.s {c : Nat} {I I' : kjI} (h : FSm c I I') : FSms I I' := fun q j h1 h2 h3 h4 => h q j h1 (by omega) (by omega)
theorem r_sels_loop (b : Bool) (N : Nat) (hN : 100 ≤ N) (L L' : kjL) (n : Nat) (B : Nat → Nat) (nc ns : Nat) (hnc : nc ≤ 8) (hns : ns ≤ 8) : ∀ (k c m m' a : Nat) (s : Bool) (I J : kjI), ns - c < m → ns - c < m' → ns - c = k → c ≤ ns → RR b n a s B I J → I (kb b 5) 4 = w nc → J 59 12 = w nc → I (kb b 10) 3 = w ns → J 59 16 = w ns → (s = false → SD b nc c I J) →
    ∃ (I' J' : kjI) (a' : Nat) (s' : Bool), kf24_34 b N m (w c) I L = kf24_81 b N I' L ∧ kf113_67 N m' (w c) J L' = kf113_93 N J' L' ∧ RR b n a' s' B I' J' ∧ FSs b I I' ∧ FSms J J' ∧ (s' = false → s = false ∧ SD b nc ns I' J') := by
  intro k
  induction k with
  | zero =>
    intro c m m' a s I J hm hm' hk hc hR h1 h2 h3 h4 hD
    obtain ⟨m, rfl⟩ : ∃ q, m = q + 1 := ⟨m - 1, by omega⟩
    obtain ⟨m', rfl⟩ : ∃ q, m' = q + 1 := ⟨m' - 1, by omega⟩
    refine ⟨I, J, a, s, ?_, ?_, hR, fun _ _ _ _ _ _ => rfl, fun _ _ _ _ _ _ => rfl, fun z => ⟨z, by have := hD z; rw [show c = ns by omega] at this; exact this⟩⟩
    · conv => lhs; unfold kf24_34
      rw [h3, if_pos (by (simp (disch := omega) only [w_lit, w_neg, w_add, w_sub, w_mul, w_lt, w_le, w_eq, w_clamp, w_in, not_true_eq_false, not_false_eq_true, Classical.not_not]); omega)]
    · conv => lhs; unfold kf113_67
      rw [h4, if_pos (by (simp (disch := omega) only [w_lit, w_neg, w_add, w_sub, w_mul, w_lt, w_le, w_eq, w_clamp, w_in, not_true_eq_false, not_false_eq_true, Classical.not_not]); omega)]
  | succ k ih =>
    intro c m m' a s I J hm hm' hk hc hR h1 h2 h3 h4 hD
    obtain ⟨m, rfl⟩ : ∃ q, m = q + 1 := ⟨m - 1, by omega⟩
    obtain ⟨m', rfl⟩ : ∃ q, m' = q + 1 := ⟨m' - 1, by omega⟩
    have u1 : ∀ I', (kf24_34 b N (m + 1) (w c) I L = kf24_81 b N I' L) = ((if (w ns) ≤ (w c) then (kf24_81 b N I L) else ((kf55 b I L).bind fun r2 => if r2 = 0 then (kf24_81 b N I L) else ((kf48 b N (w c) (3 : Int32) (w nc) I L).bind fun r5 => (fun v1 I L => kf24_34 b N m v1 I L) ((w c) + (1 : Int32)) r5.1 r5.2))) = kf24_81 b N I' L) := by
      intro I'
      conv => lhs; lhs; unfold kf24_34
      rw [h1, h3]
    have u2 : ∀ J', (kf113_67 N (m' + 1) (w c) J L' = kf113_93 N J' L') = ((if (w ns) ≤ (w c) then (kf113_93 N J L') else (if ¬ (J 59 36) = 0 then (kf113_93 N J L') else ((kf107 N (w c) J L').bind fun r3 => (fun v1 I L => kf113_67 N m' v1 I L) ((w c) + (1 : Int32)) r3.1 r3.2))) = kf113_93 N J' L') := by
      intro J'
      conv => lhs; lhs; unfold kf113_67
      rw [h4]
    simp only [u1, u2]
    rw [if_neg (by (simp (disch := omega) only [w_lit, w_neg, w_add, w_sub, w_mul, w_lt, w_le, w_eq, w_clamp, w_in, not_true_eq_false, not_false_eq_true, Classical.not_not]); omega), if_neg (by (simp (disch := omega) only [w_lit, w_neg, w_add, w_sub, w_mul, w_lt, w_le, w_eq, w_clamp, w_in, not_true_eq_false, not_false_eq_true, Classical.not_not]); omega), hR.st2]
    unfold kf55
    rw [hR.st1]
    cases s
    · rw [bi_f, if_neg (by decide), if_neg (by decide), sbind, if_neg (by decide)]
      obtain ⟨I1, J1, a1, s1, g1, g2, g3, g4, g5, g6⟩ := r_sel b N hN L L' hR hnc (c := c) (by omega) h2 (hD rfl)
      have e3 : (3 : Int32) = w 3 := rfl
      rw [e3, g1, g2]
      simp only [sbind]
      (simp only [w_lit, w_neg, w_add, w_sub, w_mul])
      rw [show ((c : Int) + 1) = ((c + 1 : Nat) : Int) by omega]
      obtain ⟨I', J', a', s', q1, q2, q3, q4, q5, q6⟩ := ih (c + 1) m m' a1 s1 I1 J1 (by omega) (by omega) (by omega) (by omega) g3 (by rw [g4.s _ _ (kb_ne (by decide)) (kb_ne (by decide)) (kb_ne (by decide)) (kb_ne (by decide))]; exact h1) (by rw [g5.s _ _ (by omega) (by omega) (by omega) (by omega)]; exact h2) (by rw [g4.s _ _ (kb_ne (by decide)) (kb_ne (by decide)) (kb_ne (by decide)) (kb_ne (by decide))]; exact h3) (by rw [g5.s _ _ (by omega) (by omega) (by omega) (by omega)]; exact h4) g6
      exact ⟨I', J', a', s', q1, q2, q3, fun q j d1 d2 d3 d4 => by rw [q4 q j d1 d2 d3 d4, g4.s q j d1 d2 d3 d4], fun q j d1 d2 d3 d4 => by rw [q5 q j d1 d2 d3 d4, g5.s q j d1 d2 d3 d4], fun z => ⟨trivial, (q6 z).2⟩⟩
    · rw [bi_t, if_pos (by decide), if_pos (by decide), sbind, if_pos rfl]
      exact ⟨I, J, a, true, rfl, rfl, hR, fun _ _ _ _ _ _ => rfl, fun _ _ _ _ _ _ => rfl, fun z => by cases z⟩
