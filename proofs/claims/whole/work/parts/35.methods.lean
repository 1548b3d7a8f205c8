/-! METHODS, read by both. -/
abbrev MDa (b : Bool) (n : Nat) (B : Nat → Nat) (nc m' : Nat) (I J : kjI) (p r lo st ln sta : Nat) : Prop := (I (kb b 15) m' = w p) ∧ (J 69 m' = w p) ∧ (p ≤ 4) ∧ (I (kb b 17) m' = w r) ∧ (J 71 m' = w r) ∧ (tyOk nc true r) ∧ (∀ i, i < p → ∃ t : Nat, I (kb b 16) (4 * m' + i) = w t ∧ J 70 (4 * m' + i) = w t ∧ tyOk nc false t) ∧ (I (kb b 18) m' = w lo) ∧ (J 72 m' = w lo) ∧ (p ≤ lo ∧ lo ≤ 8) ∧ (I (kb b 19) m' = w st) ∧ (J 73 m' = w st) ∧ (st ≤ 8) ∧ (I (kb b 21) m' = w ln) ∧ (J 74 m' = w ln) ∧ (1 ≤ ln ∧ ln ≤ 120) ∧ (I (kb b 20) m' = w sta) ∧ (sta + ln ≤ n) ∧ (∀ i, i < ln → J 75 (120 * m' + i) = w (B (sta + i))) ∧ (∀ m'', m'' < m' → ∃ sta'' ln'' : Nat, I (kb b 20) m'' = w sta'' ∧ I (kb b 21) m'' = w ln'' ∧ sta'' + ln'' ≤ sta)
theorem MDa.n1 {b : Bool} {n : Nat} {B : Nat → Nat} {nc m' : Nat} {I J : kjI} {p r lo st ln sta : Nat} (h : MDa b n B nc m' I J p r lo st ln sta) : I (kb b 15) m' = w p := h.1
theorem MDa.n2 {b : Bool} {n : Nat} {B : Nat → Nat} {nc m' : Nat} {I J : kjI} {p r lo st ln sta : Nat} (h : MDa b n B nc m' I J p r lo st ln sta) : J 69 m' = w p := h.2.1
theorem MDa.nr {b : Bool} {n : Nat} {B : Nat → Nat} {nc m' : Nat} {I J : kjI} {p r lo st ln sta : Nat} (h : MDa b n B nc m' I J p r lo st ln sta) : p ≤ 4 := h.2.2.1
theorem MDa.r1 {b : Bool} {n : Nat} {B : Nat → Nat} {nc m' : Nat} {I J : kjI} {p r lo st ln sta : Nat} (h : MDa b n B nc m' I J p r lo st ln sta) : I (kb b 17) m' = w r := h.2.2.2.1
theorem MDa.r2 {b : Bool} {n : Nat} {B : Nat → Nat} {nc m' : Nat} {I J : kjI} {p r lo st ln sta : Nat} (h : MDa b n B nc m' I J p r lo st ln sta) : J 71 m' = w r := h.2.2.2.2.1
theorem MDa.rr {b : Bool} {n : Nat} {B : Nat → Nat} {nc m' : Nat} {I J : kjI} {p r lo st ln sta : Nat} (h : MDa b n B nc m' I J p r lo st ln sta) : tyOk nc true r := h.2.2.2.2.2.1
theorem MDa.ty {b : Bool} {n : Nat} {B : Nat → Nat} {nc m' : Nat} {I J : kjI} {p r lo st ln sta : Nat} (h : MDa b n B nc m' I J p r lo st ln sta) : ∀ i, i < p → ∃ t : Nat, I (kb b 16) (4 * m' + i) = w t ∧ J 70 (4 * m' + i) = w t ∧ tyOk nc false t := h.2.2.2.2.2.2.1
theorem MDa.lo1 {b : Bool} {n : Nat} {B : Nat → Nat} {nc m' : Nat} {I J : kjI} {p r lo st ln sta : Nat} (h : MDa b n B nc m' I J p r lo st ln sta) : I (kb b 18) m' = w lo := h.2.2.2.2.2.2.2.1
theorem MDa.lo2 {b : Bool} {n : Nat} {B : Nat → Nat} {nc m' : Nat} {I J : kjI} {p r lo st ln sta : Nat} (h : MDa b n B nc m' I J p r lo st ln sta) : J 72 m' = w lo := h.2.2.2.2.2.2.2.2.1
theorem MDa.lor {b : Bool} {n : Nat} {B : Nat → Nat} {nc m' : Nat} {I J : kjI} {p r lo st ln sta : Nat} (h : MDa b n B nc m' I J p r lo st ln sta) : p ≤ lo ∧ lo ≤ 8 := h.2.2.2.2.2.2.2.2.2.1
theorem MDa.st1 {b : Bool} {n : Nat} {B : Nat → Nat} {nc m' : Nat} {I J : kjI} {p r lo st ln sta : Nat} (h : MDa b n B nc m' I J p r lo st ln sta) : I (kb b 19) m' = w st := h.2.2.2.2.2.2.2.2.2.2.1
theorem MDa.st2 {b : Bool} {n : Nat} {B : Nat → Nat} {nc m' : Nat} {I J : kjI} {p r lo st ln sta : Nat} (h : MDa b n B nc m' I J p r lo st ln sta) : J 73 m' = w st := h.2.2.2.2.2.2.2.2.2.2.2.1
theorem MDa.str {b : Bool} {n : Nat} {B : Nat → Nat} {nc m' : Nat} {I J : kjI} {p r lo st ln sta : Nat} (h : MDa b n B nc m' I J p r lo st ln sta) : st ≤ 8 := h.2.2.2.2.2.2.2.2.2.2.2.2.1
theorem MDa.ln1 {b : Bool} {n : Nat} {B : Nat → Nat} {nc m' : Nat} {I J : kjI} {p r lo st ln sta : Nat} (h : MDa b n B nc m' I J p r lo st ln sta) : I (kb b 21) m' = w ln := h.2.2.2.2.2.2.2.2.2.2.2.2.2.1
theorem MDa.ln2 {b : Bool} {n : Nat} {B : Nat → Nat} {nc m' : Nat} {I J : kjI} {p r lo st ln sta : Nat} (h : MDa b n B nc m' I J p r lo st ln sta) : J 74 m' = w ln := h.2.2.2.2.2.2.2.2.2.2.2.2.2.2.1
theorem MDa.lnr {b : Bool} {n : Nat} {B : Nat → Nat} {nc m' : Nat} {I J : kjI} {p r lo st ln sta : Nat} (h : MDa b n B nc m' I J p r lo st ln sta) : 1 ≤ ln ∧ ln ≤ 120 := h.2.2.2.2.2.2.2.2.2.2.2.2.2.2.2.1
theorem MDa.sa {b : Bool} {n : Nat} {B : Nat → Nat} {nc m' : Nat} {I J : kjI} {p r lo st ln sta : Nat} (h : MDa b n B nc m' I J p r lo st ln sta) : I (kb b 20) m' = w sta := h.2.2.2.2.2.2.2.2.2.2.2.2.2.2.2.2.1
theorem MDa.sar {b : Bool} {n : Nat} {B : Nat → Nat} {nc m' : Nat} {I J : kjI} {p r lo st ln sta : Nat} (h : MDa b n B nc m' I J p r lo st ln sta) : sta + ln ≤ n := h.2.2.2.2.2.2.2.2.2.2.2.2.2.2.2.2.2.1
theorem MDa.cd {b : Bool} {n : Nat} {B : Nat → Nat} {nc m' : Nat} {I J : kjI} {p r lo st ln sta : Nat} (h : MDa b n B nc m' I J p r lo st ln sta) : ∀ i, i < ln → J 75 (120 * m' + i) = w (B (sta + i)) := h.2.2.2.2.2.2.2.2.2.2.2.2.2.2.2.2.2.2.1
theorem MDa.dis {b : Bool} {n : Nat} {B : Nat → Nat} {nc m' : Nat} {I J : kjI} {p r lo st ln sta : Nat} (h : MDa b n B nc m' I J p r lo st ln sta) : ∀ m'', m'' < m' → ∃ sta'' ln'' : Nat, I (kb b 20) m'' = w sta'' ∧ I (kb b 21) m'' = w ln'' ∧ sta'' + ln'' ≤ sta := h.2.2.2.2.2.2.2.2.2.2.2.2.2.2.2.2.2.2.2
def MD (b : Bool) (n : Nat) (B : Nat → Nat) (nc m a : Nat) (I J : kjI) : Prop := ∀ m', m' < m → ∃ p r lo st ln sta : Nat, MDa b n B nc m' I J p r lo st ln sta ∧ sta + ln ≤ a
def FT (b : Bool) (c : Nat) (I I' : kjI) : Prop := ∀ q j, q ≠ kb b 23 → ¬ ((q = kb b 15 ∨ q = kb b 17 ∨ q = kb b 18 ∨ q = kb b 19 ∨ q = kb b 20 ∨ q = kb b 21) ∧ j = c) → ¬ (q = kb b 16 ∧ 4 * c ≤ j ∧ j < 4 * c + 4) → I' q j = I q j
def FTm (c : Nat) (J J' : kjI) : Prop := ∀ q j, ¬ (q = 59 ∧ (j = 35 ∨ j = 36)) → ¬ ((q = 69 ∨ q = 71 ∨ q = 72 ∨ q = 73 ∨ q = 74) ∧ j = c) → ¬ (q = 70 ∧ 4 * c ≤ j ∧ j < 4 * c + 4) → ¬ (q = 75 ∧ 120 * c ≤ j ∧ j < 120 * c + 120) → J' q j = J q j
/-- the model's reader alone -/
abbrev MR (n a : Nat) (s : Bool) (B : Nat → Nat) (J : kjI) : Prop := (n ≤ 1500) ∧ (∀ i, i < n → B i < 256) ∧ (J 59 5 = w n) ∧ (∀ i, i < n → J 61 i = w (B i)) ∧ (a ≤ n) ∧ (J 59 35 = w a) ∧ (J 59 36 = w (bi s))
theorem MR.nn {n a : Nat} {s : Bool} {B : Nat → Nat} {J : kjI} (h : MR n a s B J) : n ≤ 1500 := h.1
theorem MR.by' {n a : Nat} {s : Bool} {B : Nat → Nat} {J : kjI} (h : MR n a s B J) : ∀ i, i < n → B i < 256 := h.2.1
theorem MR.len {n a : Nat} {s : Bool} {B : Nat → Nat} {J : kjI} (h : MR n a s B J) : J 59 5 = w n := h.2.2.1
theorem MR.read {n a : Nat} {s : Bool} {B : Nat → Nat} {J : kjI} (h : MR n a s B J) : ∀ i, i < n → J 61 i = w (B i) := h.2.2.2.1
theorem MR.le {n a : Nat} {s : Bool} {B : Nat → Nat} {J : kjI} (h : MR n a s B J) : a ≤ n := h.2.2.2.2.1
theorem MR.at2 {n a : Nat} {s : Bool} {B : Nat → Nat} {J : kjI} (h : MR n a s B J) : J 59 35 = w a := h.2.2.2.2.2.1
theorem MR.st2 {n a : Nat} {s : Bool} {B : Nat → Nat} {J : kjI} (h : MR n a s B J) : J 59 36 = w (bi s) := h.2.2.2.2.2.2
theorem RR.mr {b : Bool} {n a : Nat} {s : Bool} {B : Nat → Nat} {I J : kjI} (h : RR b n a s B I J) : MR n a s B J := ⟨h.row.1, fun i hi => (h.row.2.2 i hi).2, h.len, h.read, h.le, h.at2, h.st2⟩
theorem m_next {n a : Nat} {s : Bool} {B : Nat → Nat} {J : kjI} (L : kjL) (h : MR n a s B J) :
    ∃ (v : Nat) (a' : Nat) (s' : Bool) (J' : kjI), kf105 (w 0) (w 255) J L = some (w v, J', L) ∧ MR n a' s' B J' ∧ FJ J J' ∧ (s = false ∧ a < n → s' = false ∧ a' = a + 1 ∧ v = B a) ∧ (s = false ∧ n ≤ a → s' = true ∧ a' = a) ∧ (s = true → s' = true ∧ a' = a) := by
  have hn := h.nn
  have ha := h.le
  unfold kf105 kf105_37 kf103
  rw [h.st2, h.len, h.at2]
  have e : w (a : Int) + 1 = w (a + 1 : Nat) := by
    (simp only [w_lit, w_neg, w_add, w_sub, w_mul])
    rfl
  have e2 : w ((a + 1 : Nat) : Int) - 1 = w a := by
    (simp only [w_lit, w_neg, w_add, w_sub, w_mul])
    congr 1
    omega
  rw [e]
  cases s
  · simp only [bi_f]
    by_cases c : a < n
    · have hB := h.by' a c
      (simp (disch := first | (apply kb_ne; omega) | omega | (apply kb_59; omega) | (apply kb_59'; omega) | fail) only [up_eq, up_k, up_j])
      rw [e2]
      refine ⟨B a, a + 1, false, mv_up J 59 35 (w (a + 1 : Nat)), ?_, ⟨hn, h.by', by (simp (disch := first | (apply kb_ne; omega) | omega | (apply kb_59; omega) | (apply kb_59'; omega) | fail) only [up_eq, up_k, up_j]); exact h.len, fun i hi => by (simp (disch := first | (apply kb_ne; omega) | omega | (apply kb_59; omega) | (apply kb_59'; omega) | fail) only [up_eq, up_k, up_j]); exact h.read i hi, c, by (simp (disch := first | (apply kb_ne; omega) | omega | (apply kb_59; omega) | (apply kb_59'; omega) | fail) only [up_eq, up_k, up_j]), by (simp (disch := first | (apply kb_ne; omega) | omega | (apply kb_59; omega) | (apply kb_59'; omega) | fail) only [up_eq, up_k, up_j]); exact h.st2⟩, FJ_35 _ _, fun _ => ⟨rfl, rfl, rfl⟩, fun z => by omega, fun z => by cases z⟩
      (simp (disch := first | omega | (simp (disch := omega) only [w_lit, w_neg, w_add, w_sub, w_mul, w_lt, w_le, w_eq, w_clamp, w_in, not_true_eq_false, not_false_eq_true, Classical.not_not] <;> omega) | fail) only [↓if_pos, ↓if_neg, ↓bif_in, sbind, w_clamp])
      rw [Int.toNat_natCast, h.read a c]
      (simp (disch := first | omega | (simp (disch := omega) only [w_lit, w_neg, w_add, w_sub, w_mul, w_lt, w_le, w_eq, w_clamp, w_in, not_true_eq_false, not_false_eq_true, Classical.not_not] <;> omega) | fail) only [↓if_pos, ↓if_neg, ↓bif_in, sbind, w_clamp])
    · refine ⟨0, a, true, mv_up J 59 36 1, ?_, ⟨hn, h.by', by (simp (disch := first | (apply kb_ne; omega) | omega | (apply kb_59; omega) | (apply kb_59'; omega) | fail) only [up_eq, up_k, up_j]); exact h.len, fun i hi => by (simp (disch := first | (apply kb_ne; omega) | omega | (apply kb_59; omega) | (apply kb_59'; omega) | fail) only [up_eq, up_k, up_j]); exact h.read i hi, ha, by (simp (disch := first | (apply kb_ne; omega) | omega | (apply kb_59; omega) | (apply kb_59'; omega) | fail) only [up_eq, up_k, up_j]); exact h.at2, by (simp (disch := first | (apply kb_ne; omega) | omega | (apply kb_59; omega) | (apply kb_59'; omega) | fail) only [up_eq, up_k, up_j]); rfl⟩, FJ_36 _ _, fun z => by omega, fun z => ⟨rfl, rfl⟩, fun z => by cases z⟩
      (simp (disch := first | omega | (simp (disch := omega) only [w_lit, w_neg, w_add, w_sub, w_mul, w_lt, w_le, w_eq, w_clamp, w_in, not_true_eq_false, not_false_eq_true, Classical.not_not] <;> omega) | fail) only [↓if_pos, ↓if_neg, ↓bif_in, sbind, w_clamp])
      rfl
  · simp only [bi_t]
    refine ⟨0, a, true, J, ?_, h, FJ.refl J, (fun z => by cases z.1), (fun z => by cases z.1), fun _ => ⟨rfl, rfl⟩⟩
    (simp (disch := first | omega | (simp (disch := omega) only [w_lit, w_neg, w_add, w_sub, w_mul, w_lt, w_le, w_eq, w_clamp, w_in, not_true_eq_false, not_false_eq_true, Classical.not_not] <;> omega) | fail) only [↓if_pos, ↓if_neg, ↓bif_in, sbind, w_clamp])
    rfl
theorem MR.keep {n a : Nat} {s : Bool} {B : Nat → Nat} {J J' : kjI} (h : MR n a s B J) (h4 : J' 59 5 = J 59 5 ∧ J' 59 35 = J 59 35 ∧ J' 59 36 = J 59 36) (h5 : ∀ j, J' 61 j = J 61 j) : MR n a s B J' :=
  ⟨h.nn, h.by', by rw [h4.1]; exact h.len, fun i hi => by rw [h5]; exact h.read i hi, h.le, by rw [h4.2.1]; exact h.at2, by rw [h4.2.2]; exact h.st2⟩
/-- the CODE's bytes in the reference -/
theorem m_code (N : Nat) (L : kjL) (n : Nat) (B : Nat → Nat) (c ln : Nat) (hc : c < 16) (hl : ln ≤ 120) : ∀ (k i m a : Nat) (s : Bool) (J : kjI), ln - i < m → ln - i = k → i ≤ ln → MR n a s B J → J 74 c = w ln →
    ∃ (J' : kjI) (a' : Nat) (s' : Bool), kf109_102 N m (w c) (w i) J L = some (J', L) ∧ MR n a' s' B J' ∧ (∀ q j, ¬ (q = 59 ∧ (j = 35 ∨ j = 36)) → ¬ (q = 75 ∧ 120 * c + i ≤ j ∧ j < 120 * c + ln) → J' q j = J q j) ∧
    (s = false ∧ a + (ln - i) ≤ n → s' = false ∧ a' = a + (ln - i) ∧ ∀ j, i ≤ j → j < ln → J' 75 (120 * c + j) = w (B (a + (j - i)))) ∧ (s = false ∧ n < a + (ln - i) → s' = true ∧ a' = n) ∧ (s = true → s' = true ∧ a' = a) := by
  intro k
  induction k with
  | zero =>
    intro i m a s J hm hk hi hR h1
    obtain ⟨m, rfl⟩ : ∃ q, m = q + 1 := ⟨m - 1, by omega⟩
    have ha := hR.le
    refine ⟨J, a, s, ?_, hR, fun _ _ _ _ => rfl, fun z => ⟨z.1, by omega, fun j d1 d2 => by omega⟩, fun z => by omega, fun z => ⟨z, rfl⟩⟩
    unfold kf109_102
    rw [bif_in (by omega) (by decide), w_clamp (by omega), Int.toNat_natCast, h1, if_pos (by (simp (disch := omega) only [w_lit, w_neg, w_add, w_sub, w_mul, w_lt, w_le, w_eq, w_clamp, w_in, not_true_eq_false, not_false_eq_true, Classical.not_not]); omega)]
  | succ k ih =>
    intro i m a s J hm hk hi hR h1
    obtain ⟨m, rfl⟩ : ∃ q, m = q + 1 := ⟨m - 1, by omega⟩
    have ha := hR.le
    obtain ⟨v, a1, s1, J1, g1, g2, g3, g4, g5, g6⟩ := m_next L hR
    unfold kf109_102
    have e0 : (0 : Int32) = w 0 := rfl
    have e255 : (255 : Int32) = w 255 := rfl
    rw [bif_in (by omega) (by decide), w_clamp (by omega), Int.toNat_natCast, h1, if_neg (by (simp (disch := omega) only [w_lit, w_neg, w_add, w_sub, w_mul, w_lt, w_le, w_eq, w_clamp, w_in, not_true_eq_false, not_false_eq_true, Classical.not_not]); omega), e0, e255, g1, sbind]
    (simp only [w_lit, w_neg, w_add, w_sub, w_mul])
    rw [bif_in (by omega) (by decide), w_clamp (by omega)]
    have f1 : (120 * (c : Int) + i).toNat = 120 * c + i := by omega
    rw [f1, show ((i : Int) + 1) = ((i + 1 : Nat) : Int) by omega]
    have hR1 : MR n a1 s1 B (mv_up J1 75 (120 * c + i) (w v)) := g2.keep ⟨by (simp (disch := first | (apply kb_ne; omega) | omega | (apply kb_59; omega) | (apply kb_59'; omega) | fail) only [up_eq, up_k, up_j]), by (simp (disch := first | (apply kb_ne; omega) | omega | (apply kb_59; omega) | (apply kb_59'; omega) | fail) only [up_eq, up_k, up_j]), by (simp (disch := first | (apply kb_ne; omega) | omega | (apply kb_59; omega) | (apply kb_59'; omega) | fail) only [up_eq, up_k, up_j])⟩ (fun j => by (simp (disch := first | (apply kb_ne; omega) | omega | (apply kb_59; omega) | (apply kb_59'; omega) | fail) only [up_eq, up_k, up_j]))
    obtain ⟨J', a', s', q1, q2, q3, q4, q5, q6⟩ := ih (i + 1) m a1 s1 _ (by omega) (by omega) (by omega) hR1 (by (simp (disch := first | (apply kb_ne; omega) | omega | (apply kb_59; omega) | (apply kb_59'; omega) | fail) only [up_eq, up_k, up_j]); rw [g3 _ _ (by omega)]; exact h1)
    refine ⟨J', a', s', q1, q2, ?_, ?_, ?_, ?_⟩
    · intro q j d1 d2
      rw [q3 q j d1 (by omega), up1_ne (by omega), g3 q j d1]
    · intro z
      obtain ⟨rfl, rfl, rfl⟩ := g4 ⟨z.1, by omega⟩
      obtain ⟨t1, t2, t3⟩ := q4 ⟨rfl, by omega⟩
      refine ⟨t1, by omega, fun j d1 d2 => ?_⟩
      by_cases hij : j = i
      · subst hij
        rw [q3 _ _ (by omega) (by omega), up_eq, show a + (j - j) = a by omega]
      · rw [t3 j (by omega) d2, show a + 1 + (j - (i + 1)) = a + (j - i) by omega]
    · intro z
      by_cases c2 : a < n
      · obtain ⟨rfl, rfl, rfl⟩ := g4 ⟨z.1, c2⟩
        exact q5 ⟨rfl, by omega⟩
      · obtain ⟨rfl, rfl⟩ := g5 ⟨z.1, by omega⟩
        obtain ⟨t1, t2⟩ := q6 rfl
        exact ⟨t1, by omega⟩
    · intro z
      obtain ⟨rfl, rfl⟩ := g6 z
      exact q6 rfl
/-- what the reference does behind a METHOD's PARAMETERS -/
def m109r (N : Nat) (c : Nat) (J : kjI) (L : kjL) : Option (kjI × kjL) :=
  (kf106 (w 1) J L).bind fun r3 => (kf105 ((mv_up r3.2.1 71 c r3.1) 69 c) (w 8) (mv_up r3.2.1 71 c r3.1) r3.2.2).bind fun r7 => (kf105 (w 0) (w 8) (mv_up r7.2.1 72 c r7.1) r7.2.2).bind fun r10 => (kf105 (w 1) (w 120) (mv_up r10.2.1 73 c r10.1) r10.2.2).bind fun r13 => kf109_102 N N (w c) (w 0) (mv_up r13.2.1 74 c r13.1) r13.2.2
def c48r (b : Bool) (nc c : Nat) (I : kjI) (L : kjL) : Option (kjI × kjL) :=
  (kf61 b (w nc) (w 1) I L).bind fun r3 => some ((mv_up r3.2.1 (kb b 17) c r3.1), r3.2.2)
theorem r_met_loop (b : Bool) (N : Nat) (L L' : kjL) (n : Nat) (B : Nat → Nat) (nc c p : Nat) (hnc : nc ≤ 8) (hc : c < 16) (hp : p ≤ 4) : ∀ (k i m m' a : Nat) (s : Bool) (I J : kjI), p - i < m → p - i < m' → p - i = k → i ≤ p → RR b n a s B I J → J 59 12 = w nc → I (kb b 15) c = w p → J 69 c = w p →
    ∃ (I' J' : kjI) (a' : Nat) (s' : Bool), kf48a_30 b N m (w c) (w nc) (w i) I L = c48r b nc c I' L ∧ kf109_14 N m' (w c) (w i) J L' = m109r N c J' L' ∧ RR b n a' s' B I' J' ∧ (s' = false → s = false ∧ a ≤ a') ∧
    (∀ q j, q ≠ kb b 23 → ¬ (q = kb b 16 ∧ 4 * c + i ≤ j ∧ j < 4 * c + 4) → I' q j = I q j) ∧ (∀ q j, ¬ (q = 59 ∧ (j = 35 ∨ j = 36)) → ¬ (q = 70 ∧ 4 * c + i ≤ j ∧ j < 4 * c + 4) → J' q j = J q j) ∧
    (s' = false → ∀ j, i ≤ j → j < p → ∃ t : Nat, I' (kb b 16) (4 * c + j) = w t ∧ J' 70 (4 * c + j) = w t ∧ tyOk nc false t) := by
  intro k
  induction k with
  | zero =>
    intro i m m' a s I J hm hm' hk hi hR h2 h3 h4
    obtain ⟨m, rfl⟩ : ∃ q, m = q + 1 := ⟨m - 1, by omega⟩
    obtain ⟨m', rfl⟩ : ∃ q, m' = q + 1 := ⟨m' - 1, by omega⟩
    refine ⟨I, J, a, s, ?_, ?_, hR, fun z => ⟨z, Nat.le_refl _⟩, fun _ _ _ _ => rfl, fun _ _ _ _ => rfl, fun _ j d1 d2 => by omega⟩
    · unfold kf48a_30 c48r
      simp only [w_in_t (n := 16) (show (0:Int) ≤ c ∧ (c:Int) < (16:Nat) by omega), cond_true]
      rw [w_clamp (by omega), Int.toNat_natCast, h3, if_pos (by (simp (disch := omega) only [w_lit, w_neg, w_add, w_sub, w_mul, w_lt, w_le, w_eq, w_clamp, w_in, not_true_eq_false, not_false_eq_true, Classical.not_not]); omega)]
      rfl
    · unfold kf109_14 m109r
      simp only [w_in_t (n := 16) (show (0:Int) ≤ c ∧ (c:Int) < (16:Nat) by omega), cond_true]
      rw [w_clamp (by omega), Int.toNat_natCast, h4, if_pos (by (simp (disch := omega) only [w_lit, w_neg, w_add, w_sub, w_mul, w_lt, w_le, w_eq, w_clamp, w_in, not_true_eq_false, not_false_eq_true, Classical.not_not]); omega)]
      rfl
  | succ k ih =>
    intro i m m' a s I J hm hm' hk hi hR h2 h3 h4
    obtain ⟨m, rfl⟩ : ∃ q, m = q + 1 := ⟨m - 1, by omega⟩
    obtain ⟨m', rfl⟩ : ∃ q, m' = q + 1 := ⟨m' - 1, by omega⟩
    obtain ⟨v, v', a1, s1, I1, J1, g1, g2, g3, g4, g5, g6, g7⟩ := r_type L L' hR hnc h2 false
    have e0 : (0 : Int32) = w (bi false) := rfl
    unfold kf48a_30 kf109_14
    rw [bif_in (by omega) (by decide), bif_in (by omega) (by decide), w_clamp (a := (c : Int)) (by omega), Int.toNat_natCast, h3, h4, if_neg (by (simp (disch := omega) only [w_lit, w_neg, w_add, w_sub, w_mul, w_lt, w_le, w_eq, w_clamp, w_in, not_true_eq_false, not_false_eq_true, Classical.not_not]); omega), if_neg (by (simp (disch := omega) only [w_lit, w_neg, w_add, w_sub, w_mul, w_lt, w_le, w_eq, w_clamp, w_in, not_true_eq_false, not_false_eq_true, Classical.not_not]); omega), e0, g1, g2, sbind, sbind]
    (simp only [w_lit, w_neg, w_add, w_sub, w_mul])
    rw [bif_in (by omega) (by decide), bif_in (by omega) (by decide), w_clamp (by omega), w_clamp (by omega)]
    have f1 : ((c : Int) * 4 + i).toNat = 4 * c + i := by omega
    have f2 : (4 * (c : Int) + i).toNat = 4 * c + i := by omega
    rw [f1, f2, show ((i : Int) + 1) = ((i + 1 : Nat) : Int) by omega]
    have hR1 : RR b n a1 s1 B (mv_up I1 (kb b 16) (4 * c + i) (w v)) (mv_up J1 70 (4 * c + i) (w v')) := g3.keep (fun j => by (simp (disch := first | (apply kb_ne; omega) | omega | (apply kb_59; omega) | (apply kb_59'; omega) | fail) only [up_eq, up_k, up_j])) (fun j => by (simp (disch := first | (apply kb_ne; omega) | omega | (apply kb_59; omega) | (apply kb_59'; omega) | fail) only [up_eq, up_k, up_j])) (fun j => by (simp (disch := first | (apply kb_ne; omega) | omega | (apply kb_59; omega) | (apply kb_59'; omega) | fail) only [up_eq, up_k, up_j])) ⟨by (simp (disch := first | (apply kb_ne; omega) | omega | (apply kb_59; omega) | (apply kb_59'; omega) | fail) only [up_eq, up_k, up_j]), by (simp (disch := first | (apply kb_ne; omega) | omega | (apply kb_59; omega) | (apply kb_59'; omega) | fail) only [up_eq, up_k, up_j]), by (simp (disch := first | (apply kb_ne; omega) | omega | (apply kb_59; omega) | (apply kb_59'; omega) | fail) only [up_eq, up_k, up_j])⟩ (fun j => by (simp (disch := first | (apply kb_ne; omega) | omega | (apply kb_59; omega) | (apply kb_59'; omega) | fail) only [up_eq, up_k, up_j]))
    obtain ⟨I', J', a', s', q1, q2, q3, q4, q5, q6, q7⟩ := ih (i + 1) m m' a1 s1 _ _ (by omega) (by omega) (by omega) (by omega) hR1 (by (simp (disch := first | (apply kb_ne; omega) | omega | (apply kb_59; omega) | (apply kb_59'; omega) | fail) only [up_eq, up_k, up_j]); rw [g5 _ _ (by omega)]; exact h2) (by (simp (disch := first | (apply kb_ne; omega) | omega | (apply kb_59; omega) | (apply kb_59'; omega) | fail) only [up_eq, up_k, up_j]); rw [g4 _ _ (kb_ne (by decide))]; exact h3) (by (simp (disch := first | (apply kb_ne; omega) | omega | (apply kb_59; omega) | (apply kb_59'; omega) | fail) only [up_eq, up_k, up_j]); rw [g5 _ _ (by omega)]; exact h4)
    refine ⟨I', J', a', s', q1, q2, q3, fun z => ⟨(g7 (q4 z).1).1, by have := (g7 (q4 z).1).2.1; have := (q4 z).2; omega⟩, ?_, ?_, ?_⟩
    · intro q j d1 d3
      rw [q5 q j d1 (by omega), up1_ne (by omega), g4 q j d1]
    · intro q j d1 d3
      rw [q6 q j d1 (by omega), up1_ne (by omega), g5 q j d1]
    · intro hs j d1 d2
      by_cases hij : j = i
      · subst hij
        obtain ⟨-, -, -, -, rfl, ht⟩ := g7 (q4 hs).1
        exact ⟨v', by rw [q5 _ _ (kb_ne (by decide)) (by omega), up_eq], by rw [q6 _ _ (by omega) (by omega), up_eq], ht⟩
      · exact q7 hs j (by omega) d2
