/-! METHODS, read by both. -/
abbrev MDa (b : Bool) (n : Nat) (B : Nat → Nat) (nc m' : Nat) (I J : kjI) (p r lo st ln sta : Nat) : Prop := (I (kb b 15) m' = w p) ∧ (J 69 m' = w p) ∧ (p ≤ 4) ∧ (I (kb b 17) m' = w r) ∧ (J 71 m' = w r) ∧ (tyOk nc true r) ∧ (∀ i, i < p → ∃ t : Nat, I (kb b 16) (4 * m' + i) = w t ∧ J 70 (4 * m' + i) = w t ∧ tyOk nc false t) ∧ (I (kb b 18) m' = w lo) ∧ (J 72 m' = w lo) ∧ (p ≤ lo ∧ lo ≤ 8) ∧ (I (kb b 19) m' = w st) ∧ (J 73 m' = w st) ∧ (st ≤ 8) ∧ (I (kb b 21) m' = w ln) ∧ (J 74 m' = w ln) ∧ (1 ≤ ln ∧ ln ≤ 120) ∧ (I (kb b 20) m' = w sta) ∧ (sta + ln ≤ n) ∧ (∀ i, i < ln → J 75 (120 * m' + i) = w (B (sta + i))) ∧ (∀ m'', m'' < m' → ∃ sta'' ln'' : Nat, I (kb b 20) m'' = w sta'' ∧ I (kb b 21) m'' = w ln'' ∧ sta'' + ln'' ≤ sta)
theorem MDa.n1 {b : Bool} {n : Nat} {B : Nat → Nat} {nc m' : Nat} {I J : kjI} {p r lo st ln sta : Nat} (h : MDa b n B nc m' I J p r lo st ln sta) : I (kb b 15) m' = w p := h.1
theorem MDa.n2 {b : Bool} {n : Nat} {B : Nat → Nat} {nc m' : Nat} {I J : kjI} {p r lo st ln sta : Nat} (h : MDa b n B nc m' I J p r lo st ln sta) : J 69 m' = w p := h.2.1
theorem MDa.nr {b : Bool} {n : Nat} {B : Nat → Nat} {nc m' : Nat} {I J : kjI} {p r lo st ln sta : Nat} (h : MDa b n B nc m' I J p r lo st ln sta) : p ≤ 4 := h.2.2.1
theorem MDa.r1 {b : Bool} {n : Nat} {B : Nat → Nat} {nc m' : Nat} {I J : kjI} {p r lo st ln sta : Nat} (h : MDa b n B nc m' I J p r lo st ln sta) : I (kb b 17) m' = w r := h.2.2.2.1
theorem MDa.r2 {b : Bool} {n : Nat} {B : Nat → Nat} {nc m' : Nat} {I J : kjI} {p r lo st ln sta : Nat} (h : MDa b n B nc m' I J p r lo st ln sta) : J 71 m' = w r := h.2.2.2.2.1
theorem MDa.rr {b : Bool} {n : Nat} {B : Nat → Nat} {nc m' : Nat} {I J : kjI} {p r lo st ln sta : Nat} (h : MDa b n B nc m' I J p r lo st ln sta) : tyOk nc true r := h.2.2.2.2.2.1
theorem MDa.ty {b : Bool} {n : Nat} {B : Nat → Nat} {nc m' : Nat} {I J : kjI} {p r lo st ln sta : Nat} (h : MDa b n B nc m' I J p r lo st ln sta) : ∀ i, i < p → ∃ t : Nat, I (kb b 16) (4 * m' + i) = w t ∧ J 70 (4 * m' + i) = w t ∧ tyOk nc false t := h.2.2.2.2.2.2.1
theorem MDa.lo1 {b : Bool} {n : Nat} {B : Nat → Nat} {nc m' : Nat} {I J : kjI} {p r lo st ln sta : Nat} (h : MDa b n B nc m' I J p r lo st ln sta) : I (kb b 18) m' = w lo := h.2.2.2.2.2.2.2.1
theorem MDa.lo2 {b : Bool} {n : Nat} {B : Nat → Nat} {nc m' : Nat} {I J : kjI} {p r lo st ln sta : Nat} (h : MDa b n B nc m' I J p r lo st ln sta) : J 72 m' = w lo := h.2.2.2.2.2.2.2.2.1
theorem MDa.lor {b : Bool} {n : Nat} {B : Nat → Nat} {nc m' : Nat} {I J : kjI} {p r lo st ln sta : Nat} (h : MDa b n B nc m' I J p r lo st ln sta) : p ≤ lo ∧ lo ≤ 8 := h.2.2.2.2.2.2.2.2.2.1
theorem MDa.st1 {b : Bool} {n : Nat} {B : Nat → Nat} {nc m' : Nat} {I J : kjI} {p r lo st ln sta : Nat} (h : MDa b n B nc m' I J p r lo st ln sta) : I (kb b 19) m' = w st := h.2.2.2.2.2.2.2.2.2.2.1
theorem MDa.st2 {b : Bool} {n : Nat} {B : Nat → Nat} {nc m' : Nat} {I J : kjI} {p r lo st ln sta : Nat} (h : MDa b n B nc m' I J p r lo st ln sta) : J 73 m' = w st := h.2.2.2.2.2.2.2.2.2.2.2.1
theorem MDa.str {b : Bool} {n : Nat} {B : Nat → Nat} {nc m' : Nat} {I J : kjI} {p r lo st ln sta : Nat} (h : MDa b n B nc m' I J p r lo st ln sta) : st ≤ 8 := h.2.2.2.2.2.2.2.2.2.2.2.2.1
theorem MDa.ln1 {b : Bool} {n : Nat} {B : Nat → Nat} {nc m' : Nat} {I J : kjI} {p r lo st ln sta : Nat} (h : MDa b n B nc m' I J p r lo st ln sta) : I (kb b 21) m' = w ln := h.2.2.2.2.2.2.2.2.2.2.2.2.2.1
theorem MDa.ln2 {b : Bool} {n : Nat} {B : Nat → Nat} {nc m' : Nat} {I J : kjI} {p r lo st ln sta : Nat} (h : MDa b n B nc m' I J p r lo st ln sta) : J 74 m' = w ln := h.2.2.2.2.2.2.2.2.2.2.2.2.2.2.1
theorem MDa.lnr {b : Bool} {n : Nat} {B : Nat → Nat} {nc m' : Nat} {I J : kjI} {p r lo st ln sta : Nat} (h : MDa b n B nc m' I J p r lo st ln sta) : 1 ≤ ln ∧ ln ≤ 120 := h.2.2.2.2.2.2.2.2.2.2.2.2.2.2.2.1
theorem MDa.sa {b : Bool} {n : Nat} {B : Nat → Nat} {nc m' : Nat} {I J : kjI} {p r lo st ln sta : Nat} (h : MDa b n B nc m' I J p r lo st ln sta) : I (kb b 20) m' = w sta := h.2.2.2.2.2.2.2.2.2.2.2.2.2.2.2.2.1
theorem MDa.sar {b : Bool} {n : Nat} {B : Nat → Nat} {nc m' : Nat} {I J : kjI} {p r lo st ln sta : Nat} (h : MDa b n B nc m' I J p r lo st ln sta) : sta + ln ≤ n := h.2.2.2.2.2.2.2.2.2.2.2.2.2.2.2.2.2.1
theorem MDa.cd {b : Bool} {n : Nat} {B : Nat → Nat} {nc m' : Nat} {I J : kjI} {p r lo st ln sta : Nat} (h : MDa b n B nc m' I J p r lo st ln sta) : ∀ i, i < ln → J 75 (120 * m' + i) = w (B (sta + i)) := h.2.2.2.2.2.2.2.2.2.2.2.2.2.2.2.2.2.2.1
theorem MDa.dis {b : Bool} {n : Nat} {B : Nat → Nat} {nc m' : Nat} {I J : kjI} {p r lo st ln sta : Nat} (h : MDa b n B nc m' I J p r lo st ln sta) : ∀ m'', m'' < m' → ∃ sta'' ln'' : Nat, I (kb b 20) m'' = w sta'' ∧ I (kb b 21) m'' = w ln'' ∧ sta'' + ln'' ≤ sta := h.2.2.2.2.2.2.2.2.2.2.2.2.2.2.2.2.2.2.2
def MD (b : Bool) (n : Nat) (B : Nat → Nat) (nc m a : Nat) (I J : kjI) : Prop := ∀ m', m' < m → ∃ p r lo st ln sta : Nat, MDa b n B nc m' I J p r lo st ln sta ∧ sta + ln ≤ a
def FT (b : Bool) (c : Nat) (I I' : kjI) : Prop := ∀ q j, q ≠ kb b 23 → ¬ ((q = kb b 15 ∨ q = kb b 17 ∨ q = kb b 18 ∨ q = kb b 19 ∨ q = kb b 20 ∨ q = kb b 21) ∧ j = c) → ¬ (q = kb b 16 ∧ 4 * c ≤ j ∧ j < 4 * c + 4) → I' q j = I q j
def FTm (c : Nat) (J J' : kjI) : Prop := ∀ q j, ¬ (q = 59 ∧ (j = 35 ∨ j = 36)) → ¬ ((q = 69 ∨ q = 71 ∨ q = 72 ∨ q = 73 ∨ q = 74) ∧ j = c) → ¬ (q = 70 ∧ 4 * c ≤ j ∧ j < 4 * c + 4) → ¬ (q = 75 ∧ 120 * c ≤ j ∧ j < 120 * c + 120) → J' q j = J q j
/-- the model's reader alone -/
abbrev MR (n a : Nat) (s : Bool) (B : Nat → Nat) (J : kjI) : Prop := (n ≤ 1500) ∧ (∀ i, i < n → B i < 256) ∧ (J 59 5 = w n) ∧ (∀ i, i < n → J 61 i = w (B i)) ∧ (a ≤ n) ∧ (J 59 35 = w a) ∧ (J 59 36 = w (bi s))
theorem MR.nn {n a : Nat} {s : Bool} {B : Nat → Nat} {J : kjI} (h : MR n a s B J) : n ≤ 1500 := h.1
theorem MR.by' {n a : Nat} {s : Bool} {B : Nat → Nat} {J : kjI} (h : MR n a s B J) : ∀ i, i < n → B i < 256 := h.2.1
theorem MR.len {n a : Nat} {s : Bool} {B : Nat → Nat} {J : kjI} (h : MR n a s B J) : J 59 5 = w n := h.2.2.1
theorem MR.read {n a : Nat} {s : Bool} {B : Nat → Nat} {J : kjI} (h : MR n a s B J) : ∀ i, i < n → J 61 i = w (B i) := h.2.2.2.1
theorem MR.le {n a : Nat} {s : Bool} {B : Nat → Nat} {J : kjI} (h : MR n a s B J) : a ≤ n := h.2.2.2.2.1
theorem MR.at2 {n a : Nat} {s : Bool} {B : Nat → Nat} {J : kjI} (h : MR n a s B J) : J 59 35 = w a := h.2.2.2.2.2.1
theorem MR.st2 {n a : Nat} {s : Bool} {B : Nat → Nat} {J : kjI} (h : MR n a s B J) : J 59 36 = w (bi s) := h.2.2.2.2.2.2
theorem RR.mr {b : Bool} {n a : Nat} {s : Bool} {B : Nat → Nat} {I J : kjI} (h : RR b n a s B I J) : MR n a s B J := ⟨h.row.1, fun i hi => (h.row.2.2 i hi).2, h.len, h.read, h.le, h.at2, h.st2⟩
theorem m_next {n a : Nat} {s : Bool} {B : Nat → Nat} {J : kjI} (L : kjL) (h : MR n a s B J) :
    ∃ (v : Nat) (a' : Nat) (s' : Bool) (J' : kjI), kf104 (w 0) (w 255) J L = some (w v, J', L) ∧ MR n a' s' B J' ∧ FJ J J' ∧ (s = false ∧ a < n → s' = false ∧ a' = a + 1 ∧ v = B a) ∧ (s = false ∧ n ≤ a → s' = true ∧ a' = a) ∧ (s = true → s' = true ∧ a' = a) := by
  have hn := h.nn
  have ha := h.le
  unfold kf104 kf104_37 kf102
  rw [h.st2, h.len, h.at2]
  have e : w (a : Int) + 1 = w (a + 1 : Nat) := by
    (simp only [w_lit, w_neg, w_add, w_sub, w_mul])
    rfl
  have e2 : w ((a + 1 : Nat) : Int) - 1 = w a := by
    (simp only [w_lit, w_neg, w_add, w_sub, w_mul])
    congr 1
    omega
  rw [e]
  cases s
  · simp only [bi_f]
    by_cases c : a < n
    · have hB := h.by' a c
      (simp (disch := first | (apply kb_ne; omega) | omega | (apply kb_59; omega) | (apply kb_59'; omega) | fail) only [up_eq, up_k, up_j])
      rw [e2]
      refine ⟨B a, a + 1, false, mv_up J 59 35 (w (a + 1 : Nat)), ?_, ⟨hn, h.by', by (simp (disch := first | (apply kb_ne; omega) | omega | (apply kb_59; omega) | (apply kb_59'; omega) | fail) only [up_eq, up_k, up_j]); exact h.len, fun i hi => by (simp (disch := first | (apply kb_ne; omega) | omega | (apply kb_59; omega) | (apply kb_59'; omega) | fail) only [up_eq, up_k, up_j]); exact h.read i hi, c, by (simp (disch := first | (apply kb_ne; omega) | omega | (apply kb_59; omega) | (apply kb_59'; omega) | fail) only [up_eq, up_k, up_j]), by (simp (disch := first | (apply kb_ne; omega) | omega | (apply kb_59; omega) | (apply kb_59'; omega) | fail) only [up_eq, up_k, up_j]); exact h.st2⟩, FJ_35 _ _, fun _ => ⟨rfl, rfl, rfl⟩, fun z => by omega, fun z => by cases z⟩
      (simp (disch := first | omega | (simp (disch := omega) only [w_lit, w_neg, w_add, w_sub, w_mul, w_lt, w_le, w_eq, w_clamp, w_in, not_true_eq_false, not_false_eq_true, Classical.not_not] <;> omega) | fail) only [↓if_pos, ↓if_neg, ↓bif_in, sbind, w_clamp])
      rw [Int.toNat_natCast, h.read a c]
      (simp (disch := first | omega | (simp (disch := omega) only [w_lit, w_neg, w_add, w_sub, w_mul, w_lt, w_le, w_eq, w_clamp, w_in, not_true_eq_false, not_false_eq_true, Classical.not_not] <;> omega) | fail) only [↓if_pos, ↓if_neg, ↓bif_in, sbind, w_clamp])
    · refine ⟨0, a, true, mv_up J 59 36 1, ?_, ⟨hn, h.by', by (simp (disch := first | (apply kb_ne; omega) | omega | (apply kb_59; omega) | (apply kb_59'; omega) | fail) only [up_eq, up_k, up_j]); exact h.len, fun i hi => by (simp (disch := first | (apply kb_ne; omega) | omega | (apply kb_59; omega) | (apply kb_59'; omega) | fail) only [up_eq, up_k, up_j]); exact h.read i hi, ha, by (simp (disch := first | (apply kb_ne; omega) | omega | (apply kb_59; omega) | (apply kb_59'; omega) | fail) only [up_eq, up_k, up_j]); exact h.at2, by (simp (disch := first | (apply kb_ne; omega) | omega | (apply kb_59; omega) | (apply kb_59'; omega) | fail) only [up_eq, up_k, up_j]); rfl⟩, FJ_36 _ _, fun z => by omega, fun z => ⟨rfl, rfl⟩, fun z => by cases z⟩
      (simp (disch := first | omega | (simp (disch := omega) only [w_lit, w_neg, w_add, w_sub, w_mul, w_lt, w_le, w_eq, w_clamp, w_in, not_true_eq_false, not_false_eq_true, Classical.not_not] <;> omega) | fail) only [↓if_pos, ↓if_neg, ↓bif_in, sbind, w_clamp])
      rfl
  · simp only [bi_t]
    refine ⟨0, a, true, J, ?_, h, FJ.refl J, (fun z => by cases z.1), (fun z => by cases z.1), fun _ => ⟨rfl, rfl⟩⟩
    (simp (disch := first | omega | (simp (disch := omega) only [w_lit, w_neg, w_add, w_sub, w_mul, w_lt, w_le, w_eq, w_clamp, w_in, not_true_eq_false, not_false_eq_true, Classical.not_not] <;> omega) | fail) only [↓if_pos, ↓if_neg, ↓bif_in, sbind, w_clamp])
    rfl
theorem MR.keep {n a : Nat} {s : Bool} {B : Nat → Nat} {J J' : kjI} (h : MR n a s B J) (h4 : J' 59 5 = J 59 5 ∧ J' 59 35 = J 59 35 ∧ J' 59 36 = J 59 36) (h5 : ∀ j, J' 61 j = J 61 j) : MR n a s B J' :=
  ⟨h.nn, h.by', by rw [h4.1]; exact h.len, fun i hi => by rw [h5]; exact h.read i hi, h.le, by rw [h4.2.1]; exact h.at2, by rw [h4.2.2]; exact h.st2⟩
/-- the CODE's bytes in the reference -/
theorem m_code (N : Nat) (L : kjL) (n : Nat) (B : Nat → Nat) (c ln : Nat) (hc : c < 16) (hl : ln ≤ 120) : ∀ (k i m a : Nat) (s : Bool) (J : kjI), ln - i < m → ln - i = k → i ≤ ln → MR n a s B J → J 74 c = w ln →
    ∃ (J' : kjI) (a' : Nat) (s' : Bool), kf108_102 N m (w c) (w i) J L = some (J', L) ∧ MR n a' s' B J' ∧ (∀ q j, ¬ (q = 59 ∧ (j = 35 ∨ j = 36)) → ¬ (q = 75 ∧ 120 * c + i ≤ j ∧ j < 120 * c + ln) → J' q j = J q j) ∧
    (s = false ∧ a + (ln - i) ≤ n → s' = false ∧ a' = a + (ln - i) ∧ ∀ j, i ≤ j → j < ln → J' 75 (120 * c + j) = w (B (a + (j - i)))) ∧ (s = false ∧ n < a + (ln - i) → s' = true ∧ a' = n) ∧ (s = true → s' = true ∧ a' = a) := by
  intro k
  induction k with
  | zero =>
    intro i m a s J hm hk hi hR h1
    obtain ⟨m, rfl⟩ : ∃ q, m = q + 1 := ⟨m - 1, by omega⟩
    have ha := hR.le
    refine ⟨J, a, s, ?_, hR, fun _ _ _ _ => rfl, fun z => ⟨z.1, by omega, fun j d1 d2 => by omega⟩, fun z => by omega, fun z => ⟨z, rfl⟩⟩
    unfold kf108_102
    rw [bif_in (by omega) (by decide), w_clamp (by omega), Int.toNat_natCast, h1, if_pos (by (simp (disch := omega) only [w_lit, w_neg, w_add, w_sub, w_mul, w_lt, w_le, w_eq, w_clamp, w_in, not_true_eq_false, not_false_eq_true, Classical.not_not]); omega)]
  | succ k ih =>
    intro i m a s J hm hk hi hR h1
    obtain ⟨m, rfl⟩ : ∃ q, m = q + 1 := ⟨m - 1, by omega⟩
    have ha := hR.le
    obtain ⟨v, a1, s1, J1, g1, g2, g3, g4, g5, g6⟩ := m_next L hR
    unfold kf108_102
    have e0 : (0 : Int32) = w 0 := rfl
    have e255 : (255 : Int32) = w 255 := rfl
    rw [bif_in (by omega) (by decide), w_clamp (by omega), Int.toNat_natCast, h1, if_neg (by (simp (disch := omega) only [w_lit, w_neg, w_add, w_sub, w_mul, w_lt, w_le, w_eq, w_clamp, w_in, not_true_eq_false, not_false_eq_true, Classical.not_not]); omega), e0, e255, g1, sbind]
    (simp only [w_lit, w_neg, w_add, w_sub, w_mul])
    rw [bif_in (by omega) (by decide), w_clamp (by omega)]
    have f1 : (120 * (c : Int) + i).toNat = 120 * c + i := by omega
    rw [f1, show ((i : Int) + 1) = ((i + 1 : Nat) : Int) by omega]
    have hR1 : MR n a1 s1 B (mv_up J1 75 (120 * c + i) (w v)) := g2.keep ⟨by (simp (disch := first | (apply kb_ne; omega) | omega | (apply kb_59; omega) | (apply kb_59'; omega) | fail) only [up_eq, up_k, up_j]), by (simp (disch := first | (apply kb_ne; omega) | omega | (apply kb_59; omega) | (apply kb_59'; omega) | fail) only [up_eq, up_k, up_j]), by (simp (disch := first | (apply kb_ne; omega) | omega | (apply kb_59; omega) | (apply kb_59'; omega) | fail) only [up_eq, up_k, up_j])⟩ (fun j => by (simp (disch := first | (apply kb_ne; omega) | omega | (apply kb_59; omega) | (apply kb_59'; omega) | fail) only [up_eq, up_k, up_j]))
    obtain ⟨J', a', s', q1, q2, q3, q4, q5, q6⟩ := ih (i + 1) m a1 s1 _ (by omega) (by omega) (by omega) hR1 (by (simp (disch := first | (apply kb_ne; omega) | omega | (apply kb_59; omega) | (apply kb_59'; omega) | fail) only [up_eq, up_k, up_j]); rw [g3 _ _ (by omega)]; exact h1)
    refine ⟨J', a', s', q1, q2, ?_, ?_, ?_, ?_⟩
    · intro q j d1 d2
      rw [q3 q j d1 (by omega), up1_ne (by omega), g3 q j d1]
    · intro z
      obtain ⟨rfl, rfl, rfl⟩ := g4 ⟨z.1, by omega⟩
      obtain ⟨t1, t2, t3⟩ := q4 ⟨rfl, by omega⟩
      refine ⟨t1, by omega, fun j d1 d2 => ?_⟩
      by_cases hij : j = i
      · subst hij
        rw [q3 _ _ (by omega) (by omega), up_eq, show a + (j - j) = a by omega]
      · rw [t3 j (by omega) d2, show a + 1 + (j - (i + 1)) = a + (j - i) by omega]
    · intro z
      by_cases c2 : a < n
      · obtain ⟨rfl, rfl, rfl⟩ := g4 ⟨z.1, c2⟩
        exact q5 ⟨rfl, by omega⟩
      · obtain ⟨rfl, rfl⟩ := g5 ⟨z.1, by omega⟩
        obtain ⟨t1, t2⟩ := q6 rfl
        exact ⟨t1, by omega⟩
    · intro z
      obtain ⟨rfl, rfl⟩ := g6 z
      exact q6 rfl
/-- what the reference does behind a METHOD's PARAMETERS -/
def m109r (N : Nat) (c : Nat) (J : kjI) (L : kjL) : Option (kjI × kjL) :=
  (kf105 (w 1) J L).bind fun r3 => (kf104 ((mv_up r3.2.1 71 c r3.1) 69 c) (w 8) (mv_up r3.2.1 71 c r3.1) r3.2.2).bind fun r7 => (kf104 (w 0) (w 8) (mv_up r7.2.1 72 c r7.1) r7.2.2).bind fun r10 => (kf104 (w 1) (w 120) (mv_up r10.2.1 73 c r10.1) r10.2.2).bind fun r13 => kf108_102 N N (w c) (w 0) (mv_up r13.2.1 74 c r13.1) r13.2.2
def c48r (b : Bool) (nc c : Nat) (I : kjI) (L : kjL) : Option (kjI × kjL) :=
  (kf61 b (w nc) (w 1) I L).bind fun r3 => some ((mv_up r3.2.1 (kb b 17) c r3.1), r3.2.2)
theorem r_met_loop (b : Bool) (N : Nat) (L L' : kjL) (n : Nat) (B : Nat → Nat) (nc c p : Nat) (hnc : nc ≤ 8) (hc : c < 16) (hp : p ≤ 4) : ∀ (k i m m' a : Nat) (s : Bool) (I J : kjI), p - i < m → p - i < m' → p - i = k → i ≤ p → RR b n a s B I J → J 59 12 = w nc → I (kb b 15) c = w p → J 69 c = w p →
    ∃ (I' J' : kjI) (a' : Nat) (s' : Bool), kf48a_30 b N m (w c) (w nc) (w i) I L = c48r b nc c I' L ∧ kf108_14 N m' (w c) (w i) J L' = m109r N c J' L' ∧ RR b n a' s' B I' J' ∧ (s' = false → s = false ∧ a ≤ a') ∧
    (∀ q j, q ≠ kb b 23 → ¬ (q = kb b 16 ∧ 4 * c + i ≤ j ∧ j < 4 * c + 4) → I' q j = I q j) ∧ (∀ q j, ¬ (q = 59 ∧ (j = 35 ∨ j = 36)) → ¬ (q = 70 ∧ 4 * c + i ≤ j ∧ j < 4 * c + 4) → J' q j = J q j) ∧
    (s' = false → ∀ j, i ≤ j → j < p → ∃ t : Nat, I' (kb b 16) (4 * c + j) = w t ∧ J' 70 (4 * c + j) = w t ∧ tyOk nc false t) := by
  intro k
  induction k with
  | zero =>
    intro i m m' a s I J hm hm' hk hi hR h2 h3 h4
    obtain ⟨m, rfl⟩ : ∃ q, m = q + 1 := ⟨m - 1, by omega⟩
    obtain ⟨m', rfl⟩ : ∃ q, m' = q + 1 := ⟨m' - 1, by omega⟩
    refine ⟨I, J, a, s, ?_, ?_, hR, fun z => ⟨z, Nat.le_refl _⟩, fun _ _ _ _ => rfl, fun _ _ _ _ => rfl, fun _ j d1 d2 => by omega⟩
    · unfold kf48a_30 c48r
      simp only [w_in_t (n := 16) (show (0:Int) ≤ c ∧ (c:Int) < (16:Nat) by omega), cond_true]
      rw [w_clamp (by omega), Int.toNat_natCast, h3, if_pos (by (simp (disch := omega) only [w_lit, w_neg, w_add, w_sub, w_mul, w_lt, w_le, w_eq, w_clamp, w_in, not_true_eq_false, not_false_eq_true, Classical.not_not]); omega)]
      rfl
    · unfold kf108_14 m109r
      simp only [w_in_t (n := 16) (show (0:Int) ≤ c ∧ (c:Int) < (16:Nat) by omega), cond_true]
      rw [w_clamp (by omega), Int.toNat_natCast, h4, if_pos (by (simp (disch := omega) only [w_lit, w_neg, w_add, w_sub, w_mul, w_lt, w_le, w_eq, w_clamp, w_in, not_true_eq_false, not_false_eq_true, Classical.not_not]); omega)]
      rfl
  | succ k ih =>
    intro i m m' a s I J hm hm' hk hi hR h2 h3 h4
    obtain ⟨m, rfl⟩ : ∃ q, m = q + 1 := ⟨m - 1, by omega⟩
    obtain ⟨m', rfl⟩ : ∃ q, m' = q + 1 := ⟨m' - 1, by omega⟩
    obtain ⟨v, v', a1, s1, I1, J1, g1, g2, g3, g4, g5, g6, g7⟩ := r_type L L' hR hnc h2 false
    have e0 : (0 : Int32) = w (bi false) := rfl
    unfold kf48a_30 kf108_14
    rw [bif_in (by omega) (by decide), bif_in (by omega) (by decide), w_clamp (a := (c : Int)) (by omega), Int.toNat_natCast, h3, h4, if_neg (by (simp (disch := omega) only [w_lit, w_neg, w_add, w_sub, w_mul, w_lt, w_le, w_eq, w_clamp, w_in, not_true_eq_false, not_false_eq_true, Classical.not_not]); omega), if_neg (by (simp (disch := omega) only [w_lit, w_neg, w_add, w_sub, w_mul, w_lt, w_le, w_eq, w_clamp, w_in, not_true_eq_false, not_false_eq_true, Classical.not_not]); omega), e0, g1, g2, sbind, sbind]
    (simp only [w_lit, w_neg, w_add, w_sub, w_mul])
    rw [bif_in (by omega) (by decide), bif_in (by omega) (by decide), w_clamp (by omega), w_clamp (by omega)]
    have f1 : ((c : Int) * 4 + i).toNat = 4 * c + i := by omega
    have f2 : (4 * (c : Int) + i).toNat = 4 * c + i := by omega
    rw [f1, f2, show ((i : Int) + 1) = ((i + 1 : Nat) : Int) by omega]
    have hR1 : RR b n a1 s1 B (mv_up I1 (kb b 16) (4 * c + i) (w v)) (mv_up J1 70 (4 * c + i) (w v')) := g3.keep (fun j => by (simp (disch := first | (apply kb_ne; omega) | omega | (apply kb_59; omega) | (apply kb_59'; omega) | fail) only [up_eq, up_k, up_j])) (fun j => by (simp (disch := first | (apply kb_ne; omega) | omega | (apply kb_59; omega) | (apply kb_59'; omega) | fail) only [up_eq, up_k, up_j])) (fun j => by (simp (disch := first | (apply kb_ne; omega) | omega | (apply kb_59; omega) | (apply kb_59'; omega) | fail) only [up_eq, up_k, up_j])) ⟨by (simp (disch := first | (apply kb_ne; omega) | omega | (apply kb_59; omega) | (apply kb_59'; omega) | fail) only [up_eq, up_k, up_j]), by (simp (disch := first | (apply kb_ne; omega) | omega | (apply kb_59; omega) | (apply kb_59'; omega) | fail) only [up_eq, up_k, up_j]), by (simp (disch := first | (apply kb_ne; omega) | omega | (apply kb_59; omega) | (apply kb_59'; omega) | fail) only [up_eq, up_k, up_j])⟩ (fun j => by (simp (disch := first | (apply kb_ne; omega) | omega | (apply kb_59; omega) | (apply kb_59'; omega) | fail) only [up_eq, up_k, up_j]))
    obtain ⟨I', J', a', s', q1, q2, q3, q4, q5, q6, q7⟩ := ih (i + 1) m m' a1 s1 _ _ (by omega) (by omega) (by omega) (by omega) hR1 (by (simp (disch := first | (apply kb_ne; omega) | omega | (apply kb_59; omega) | (apply kb_59'; omega) | fail) only [up_eq, up_k, up_j]); rw [g5 _ _ (by omega)]; exact h2) (by (simp (disch := first | (apply kb_ne; omega) | omega | (apply kb_59; omega) | (apply kb_59'; omega) | fail) only [up_eq, up_k, up_j]); rw [g4 _ _ (kb_ne (by decide))]; exact h3) (by (simp (disch := first | (apply kb_ne; omega) | omega | (apply kb_59; omega) | (apply kb_59'; omega) | fail) only [up_eq, up_k, up_j]); rw [g5 _ _ (by omega)]; exact h4)
    refine ⟨I', J', a', s', q1, q2, q3, fun z => ⟨(g7 (q4 z).1).1, by have := (g7 (q4 z).1).2.1; have := (q4 z).2; omega⟩, ?_, ?_, ?_⟩
    · intro q j d1 d3
      rw [q5 q j d1 (by omega), up1_ne (by omega), g4 q j d1]
    · intro q j d1 d3
      rw [q6 q j d1 (by omega), up1_ne (by omega), g5 q j d1]
    · intro hs j d1 d2
      by_cases hij : j = i
      · subst hij
        obtain ⟨-, -, -, -, rfl, ht⟩ := g7 (q4 hs).1
        exact ⟨v', by rw [q5 _ _ (kb_ne (by decide)) (by omega), up_eq], by rw [q6 _ _ (by omega) (by omega), up_eq], ht⟩
      · exact q7 hs j (by omega) d2
/-- the CODE, skipped by one and read by the other -/
theorem r_code (b : Bool) (N : Nat) (hN : 200 ≤ N) (L L' : kjL) {n a : Nat} {s : Bool} {B : Nat → Nat} {I J : kjI} (h : RR b n a s B I J) {c ln lm : Nat} (hc : c < 16) (hl : ln ≤ 120) (hlm : lm ≤ 120) (hs : s = false → lm = ln) (hJ : J 74 c = w lm) :
    ∃ (I' J' : kjI) (a' : Nat) (s' : Bool), kf62 b (w ln) I L = some (I', L) ∧ kf108_102 N N (w c) (w 0) J L' = some (J', L') ∧ RR b n a' s' B I' J' ∧ FI b I I' ∧ (∀ q j, ¬ (q = 59 ∧ (j = 35 ∨ j = 36)) → ¬ (q = 75 ∧ 120 * c ≤ j ∧ j < 120 * c + 120) → J' q j = J q j) ∧
    (s' = false → s = false ∧ a' = a + ln ∧ ∀ j, j < ln → J' 75 (120 * c + j) = w (B (a + j))) := by
  have hn := h.row.1
  have ha := h.le
  obtain ⟨J', a', s', q1, q2, q3, q4, q5, q6⟩ := m_code N L' n B c lm hc hlm (lm - 0) 0 N a s J (by omega) rfl (by omega) h.mr hJ
  have hF : ∀ q j, ¬ (q = 59 ∧ (j = 35 ∨ j = 36)) → ¬ (q = 75 ∧ 120 * c ≤ j ∧ j < 120 * c + 120) → J' q j = J q j := fun q j d1 d2 => q3 q j d1 (by omega)
  unfold kf62 kf62_23 kf62_45
  rw [h.st1, h.at1, h.row.2.1]
  cases s
  · have hls := hs rfl
    subst hls
    simp only [bi_f]
    by_cases c1 : a + lm ≤ n
    · obtain ⟨rfl, rfl, t3⟩ := q4 ⟨rfl, by omega⟩
      have e : w (a : Int) + w lm = w (a + (lm - 0) : Nat) := by
        rw [w_add]
        congr 1
      refine ⟨mv_up I (kb b 23) 1 (w (a + (lm - 0) : Nat)), J', a + (lm - 0), false, ?_, q1, ⟨h.row' (FI_up _ _ _ _), q2.len, q2.read, q2.le, by (simp (disch := first | (apply kb_ne; omega) | omega | (apply kb_59; omega) | (apply kb_59'; omega) | fail) only [up_eq, up_k, up_j]), q2.at2, by (simp (disch := first | (apply kb_ne; omega) | omega | (apply kb_59; omega) | (apply kb_59'; omega) | fail) only [up_eq, up_k, up_j]); exact h.st1, q2.st2⟩, FI_up _ _ _ _, hF, fun _ => ⟨trivial, rfl, fun j hj => ?_⟩⟩
      · rw [e]
        (simp only [w_lit, w_neg, w_add, w_sub, w_mul])
        (simp (disch := first | omega | (simp (disch := omega) only [w_lit, w_neg, w_add, w_sub, w_mul, w_lt, w_le, w_eq, w_clamp, w_in, not_true_eq_false, not_false_eq_true, Classical.not_not] <;> omega) | fail) only [↓if_pos, ↓if_neg, ↓bif_in, sbind, w_clamp])
      · have := t3 j (by omega) hj
        exact this
    · obtain ⟨rfl, rfl⟩ := q5 ⟨rfl, by omega⟩
      refine ⟨mv_up (mv_up I (kb b 23) 1 (w a')) (kb b 23) 2 1, J', a', true, ?_, q1, ⟨h.row' ((FI_up _ _ _ _).trans (FI_up _ _ _ _)), q2.len, q2.read, q2.le, by (simp (disch := first | (apply kb_ne; omega) | omega | (apply kb_59; omega) | (apply kb_59'; omega) | fail) only [up_eq, up_k, up_j]), q2.at2, by (simp (disch := first | (apply kb_ne; omega) | omega | (apply kb_59; omega) | (apply kb_59'; omega) | fail) only [up_eq, up_k, up_j]); rfl, q2.st2⟩, (FI_up _ _ _ _).trans (FI_up _ _ _ _), hF, fun z => by cases z⟩
      (simp only [w_lit, w_neg, w_add, w_sub, w_mul])
      (simp (disch := first | omega | (simp (disch := omega) only [w_lit, w_neg, w_add, w_sub, w_mul, w_lt, w_le, w_eq, w_clamp, w_in, not_true_eq_false, not_false_eq_true, Classical.not_not] <;> omega) | fail) only [↓if_pos, ↓if_neg, ↓bif_in, sbind, w_clamp])
  · obtain ⟨rfl, rfl⟩ := q6 rfl
    simp only [bi_t]
    refine ⟨mv_up (mv_up I (kb b 23) 1 (w a')) (kb b 23) 2 1, J', a', true, ?_, q1, ⟨h.row' ((FI_up _ _ _ _).trans (FI_up _ _ _ _)), q2.len, q2.read, q2.le, by (simp (disch := first | (apply kb_ne; omega) | omega | (apply kb_59; omega) | (apply kb_59'; omega) | fail) only [up_eq, up_k, up_j]), q2.at2, by (simp (disch := first | (apply kb_ne; omega) | omega | (apply kb_59; omega) | (apply kb_59'; omega) | fail) only [up_eq, up_k, up_j]); rfl, q2.st2⟩, (FI_up _ _ _ _).trans (FI_up _ _ _ _), hF, fun z => by cases z⟩
    (simp only [w_lit, w_neg, w_add, w_sub, w_mul])
    (simp (disch := first | omega | (simp (disch := omega) only [w_lit, w_neg, w_add, w_sub, w_mul, w_lt, w_le, w_eq, w_clamp, w_in, not_true_eq_false, not_false_eq_true, Classical.not_not] <;> omega) | fail) only [↓if_pos, ↓if_neg, ↓bif_in, sbind, w_clamp])
theorem MDa.keep {b : Bool} {n : Nat} {B : Nat → Nat} {nc m' : Nat} {I J I' J' : kjI} {p r lo st ln sta : Nat} (h : MDa b n B nc m' I J p r lo st ln sta) {c : Nat} (hc : m' < c) (h1 : FT b c I I') (h2 : FTm c J J') : MDa b n B nc m' I' J' p r lo st ln sta := by
  have hn := h.nr
  have hl := h.lnr
  have k1 : ∀ q, q ≠ 23 → q ≠ 16 → ∀ j, j < c → I' (kb b q) j = I (kb b q) j := fun q d1 d2 j d3 => h1 _ _ (kb_ne d1) (by omega) (fun z => kb_ne d2 z.1)
  have k2 : ∀ q, q ≠ 59 → q ≠ 70 → q ≠ 75 → ∀ j, j < c → J' q j = J q j := fun q d1 d2 d3 j d4 => h2 _ _ (by omega) (by omega) (by omega) (by omega)
  refine ⟨?_, ?_, hn, ?_, ?_, h.rr, ?_, ?_, ?_, h.lor, ?_, ?_, h.str, ?_, ?_, hl, ?_, h.sar, ?_, ?_⟩
  · rw [k1 _ (by decide) (by decide) _ hc]; exact h.n1
  · rw [k2 _ (by decide) (by decide) (by decide) _ hc]; exact h.n2
  · rw [k1 _ (by decide) (by decide) _ hc]; exact h.r1
  · rw [k2 _ (by decide) (by decide) (by decide) _ hc]; exact h.r2
  · intro i hi
    obtain ⟨t, q1, q2, q3⟩ := h.ty i hi
    refine ⟨t, ?_, ?_, q3⟩
    · rw [h1 _ _ (kb_ne (by decide)) (fun z => by rcases z.1 with z | z | z | z | z | z <;> exact absurd z (kb_ne (by decide))) (by omega)]
      exact q1
    · rw [h2 _ _ (by omega) (by omega) (by omega) (by omega)]
      exact q2
  · rw [k1 _ (by decide) (by decide) _ hc]; exact h.lo1
  · rw [k2 _ (by decide) (by decide) (by decide) _ hc]; exact h.lo2
  · rw [k1 _ (by decide) (by decide) _ hc]; exact h.st1
  · rw [k2 _ (by decide) (by decide) (by decide) _ hc]; exact h.st2
  · rw [k1 _ (by decide) (by decide) _ hc]; exact h.ln1
  · rw [k2 _ (by decide) (by decide) (by decide) _ hc]; exact h.ln2
  · rw [k1 _ (by decide) (by decide) _ hc]; exact h.sa
  · intro i hi
    rw [h2 _ _ (by omega) (by omega) (by omega) (by omega)]
    exact h.cd i hi
  · intro m'' hm
    obtain ⟨s2, l2, q1, q2, q3⟩ := h.dis m'' hm
    exact ⟨s2, l2, by rw [k1 _ (by decide) (by decide) _ (by omega)]; exact q1, by rw [k1 _ (by decide) (by decide) _ (by omega)]; exact q2, q3⟩
theorem r_met (b : Bool) (N : Nat) (hN : 200 ≤ N) (L L' : kjL) {n a : Nat} {B : Nat → Nat} {I J : kjI} (h : RR b n a false B I J) {nc nm c : Nat} (hnc : nc ≤ 8) (hc : c < nm) (hnm : nm ≤ 16) (h1 : I (kb b 5) 4 = w nc) (h2 : J 59 12 = w nc) (h3 : I (kb b 14) 3 = w nm) (hD : MD b n B nc c a I J) :
    ∃ (I' J' : kjI) (a' : Nat) (s' : Bool), kf26 b N (w c) I L = some (I', L) ∧ kf108 N (w c) J L' = some (J', L') ∧ RR b n a' s' B I' J' ∧ FT b c I I' ∧ FTm c J J' ∧ (s' = false → MD b n B nc (c + 1) a' I' J') := by
  obtain ⟨v, a1, s1, I1, J1, g1, g2, g3, g4, g5, g6, g7, g8, g9⟩ := r_num L L' h (lo := 0) (hi := 4) (by omega)
  have hv : w (if s1 then 0 else (v : Int)) = w v := by
    cases s1
    · rfl
    · have := (g8 rfl).1
      simp [this]
  rw [hv] at g2
  have hR1 : RR b n a1 s1 B (mv_up I1 (kb b 15) c (w v)) (mv_up J1 69 c (w v)) := g3.keep (fun j => by (simp (disch := first | (apply kb_ne; omega) | omega | (apply kb_59; omega) | (apply kb_59'; omega) | fail) only [up_eq, up_k, up_j])) (fun j => by (simp (disch := first | (apply kb_ne; omega) | omega | (apply kb_59; omega) | (apply kb_59'; omega) | fail) only [up_eq, up_k, up_j])) (fun j => by (simp (disch := first | (apply kb_ne; omega) | omega | (apply kb_59; omega) | (apply kb_59'; omega) | fail) only [up_eq, up_k, up_j])) ⟨by (simp (disch := first | (apply kb_ne; omega) | omega | (apply kb_59; omega) | (apply kb_59'; omega) | fail) only [up_eq, up_k, up_j]), by (simp (disch := first | (apply kb_ne; omega) | omega | (apply kb_59; omega) | (apply kb_59'; omega) | fail) only [up_eq, up_k, up_j]), by (simp (disch := first | (apply kb_ne; omega) | omega | (apply kb_59; omega) | (apply kb_59'; omega) | fail) only [up_eq, up_k, up_j])⟩ (fun j => by (simp (disch := first | (apply kb_ne; omega) | omega | (apply kb_59; omega) | (apply kb_59'; omega) | fail) only [up_eq, up_k, up_j]))
  obtain ⟨I2, J2, a2, s2, q1, q2, q3, q4, q5, q6, q7⟩ := r_met_loop b N L L' n B nc c v hnc (by omega) (by omega) (v - 0) 0 N N a1 s1 _ _ (by omega) (by omega) rfl (by omega) hR1 (by (simp (disch := first | (apply kb_ne; omega) | omega | (apply kb_59; omega) | (apply kb_59'; omega) | fail) only [up_eq, up_k, up_j]); rw [g5 _ _ (by omega)]; exact h2) (by (simp (disch := first | (apply kb_ne; omega) | omega | (apply kb_59; omega) | (apply kb_59'; omega) | fail) only [up_eq, up_k, up_j])) (by (simp (disch := first | (apply kb_ne; omega) | omega | (apply kb_59; omega) | (apply kb_59'; omega) | fail) only [up_eq, up_k, up_j]))
  have j2 : J2 59 12 = w nc := by rw [q6 _ _ (by omega) (by omega)]; (simp (disch := first | (apply kb_ne; omega) | omega | (apply kb_59; omega) | (apply kb_59'; omega) | fail) only [up_eq, up_k, up_j]); rw [g5 _ _ (by omega)]; exact h2
  obtain ⟨r, r', a3, s3, I3, J3, t1, t2, t3, t4, t5, t6, t7⟩ := r_type L L' q3 hnc j2 true
  have hR3 : RR b n a3 s3 B (mv_up I3 (kb b 17) c (w r)) (mv_up J3 71 c (w r')) := t3.keep (fun j => by (simp (disch := first | (apply kb_ne; omega) | omega | (apply kb_59; omega) | (apply kb_59'; omega) | fail) only [up_eq, up_k, up_j])) (fun j => by (simp (disch := first | (apply kb_ne; omega) | omega | (apply kb_59; omega) | (apply kb_59'; omega) | fail) only [up_eq, up_k, up_j])) (fun j => by (simp (disch := first | (apply kb_ne; omega) | omega | (apply kb_59; omega) | (apply kb_59'; omega) | fail) only [up_eq, up_k, up_j])) ⟨by (simp (disch := first | (apply kb_ne; omega) | omega | (apply kb_59; omega) | (apply kb_59'; omega) | fail) only [up_eq, up_k, up_j]), by (simp (disch := first | (apply kb_ne; omega) | omega | (apply kb_59; omega) | (apply kb_59'; omega) | fail) only [up_eq, up_k, up_j]), by (simp (disch := first | (apply kb_ne; omega) | omega | (apply kb_59; omega) | (apply kb_59'; omega) | fail) only [up_eq, up_k, up_j])⟩ (fun j => by (simp (disch := first | (apply kb_ne; omega) | omega | (apply kb_59; omega) | (apply kb_59'; omega) | fail) only [up_eq, up_k, up_j]))
  have i15 : (mv_up I3 (kb b 17) c (w r)) (kb b 15) c = w v := by
    (simp (disch := first | (apply kb_ne; omega) | omega | (apply kb_59; omega) | (apply kb_59'; omega) | fail) only [up_eq, up_k, up_j])
    rw [t4 _ _ (kb_ne (by decide)), q5 _ _ (kb_ne (by decide)) (fun z => kb_ne (by decide) z.1)]
    (simp (disch := first | (apply kb_ne; omega) | omega | (apply kb_59; omega) | (apply kb_59'; omega) | fail) only [up_eq, up_k, up_j])
  have j69 : (mv_up J3 71 c (w r')) 69 c = w v := by
    (simp (disch := first | (apply kb_ne; omega) | omega | (apply kb_59; omega) | (apply kb_59'; omega) | fail) only [up_eq, up_k, up_j])
    rw [t5 _ _ (by omega), q6 _ _ (by omega) (by omega)]
    (simp (disch := first | (apply kb_ne; omega) | omega | (apply kb_59; omega) | (apply kb_59'; omega) | fail) only [up_eq, up_k, up_j])
  have i14 : (mv_up I3 (kb b 17) c (w r)) (kb b 14) 3 = w nm := by
    (simp (disch := first | (apply kb_ne; omega) | omega | (apply kb_59; omega) | (apply kb_59'; omega) | fail) only [up_eq, up_k, up_j])
    rw [t4 _ _ (kb_ne (by decide)), q5 _ _ (kb_ne (by decide)) (fun z => kb_ne (by decide) z.1)]
    (simp (disch := first | (apply kb_ne; omega) | omega | (apply kb_59; omega) | (apply kb_59'; omega) | fail) only [up_eq, up_k, up_j])
    rw [g4 _ _ (kb_ne (by decide))]
    exact h3
  -- locals
  obtain ⟨lo, a4, s4, I4, J4, u1, u2, u3, u4, u5, u6, u7, u8, u9⟩ := r_num L L' hR3 (lo := v) (hi := 8) (by omega)
  have hR4 : RR b n a4 s4 B (mv_up I4 (kb b 18) c (w lo)) (mv_up J4 72 c (w (if s4 then 0 else (lo : Int)))) := u3.keep (fun j => by (simp (disch := first | (apply kb_ne; omega) | omega | (apply kb_59; omega) | (apply kb_59'; omega) | fail) only [up_eq, up_k, up_j])) (fun j => by (simp (disch := first | (apply kb_ne; omega) | omega | (apply kb_59; omega) | (apply kb_59'; omega) | fail) only [up_eq, up_k, up_j])) (fun j => by (simp (disch := first | (apply kb_ne; omega) | omega | (apply kb_59; omega) | (apply kb_59'; omega) | fail) only [up_eq, up_k, up_j])) ⟨by (simp (disch := first | (apply kb_ne; omega) | omega | (apply kb_59; omega) | (apply kb_59'; omega) | fail) only [up_eq, up_k, up_j]), by (simp (disch := first | (apply kb_ne; omega) | omega | (apply kb_59; omega) | (apply kb_59'; omega) | fail) only [up_eq, up_k, up_j]), by (simp (disch := first | (apply kb_ne; omega) | omega | (apply kb_59; omega) | (apply kb_59'; omega) | fail) only [up_eq, up_k, up_j])⟩ (fun j => by (simp (disch := first | (apply kb_ne; omega) | omega | (apply kb_59; omega) | (apply kb_59'; omega) | fail) only [up_eq, up_k, up_j]))
  -- the STACK
  obtain ⟨st, a5, s5, I5, J5, x1, x2, x3, x4, x5, x6, x7, x8, x9⟩ := r_num L L' hR4 (lo := 0) (hi := 8) (by omega)
  have hR5 : RR b n a5 s5 B (mv_up I5 (kb b 19) c (w st)) (mv_up J5 73 c (w (if s5 then 0 else (st : Int)))) := x3.keep (fun j => by (simp (disch := first | (apply kb_ne; omega) | omega | (apply kb_59; omega) | (apply kb_59'; omega) | fail) only [up_eq, up_k, up_j])) (fun j => by (simp (disch := first | (apply kb_ne; omega) | omega | (apply kb_59; omega) | (apply kb_59'; omega) | fail) only [up_eq, up_k, up_j])) (fun j => by (simp (disch := first | (apply kb_ne; omega) | omega | (apply kb_59; omega) | (apply kb_59'; omega) | fail) only [up_eq, up_k, up_j])) ⟨by (simp (disch := first | (apply kb_ne; omega) | omega | (apply kb_59; omega) | (apply kb_59'; omega) | fail) only [up_eq, up_k, up_j]), by (simp (disch := first | (apply kb_ne; omega) | omega | (apply kb_59; omega) | (apply kb_59'; omega) | fail) only [up_eq, up_k, up_j]), by (simp (disch := first | (apply kb_ne; omega) | omega | (apply kb_59; omega) | (apply kb_59'; omega) | fail) only [up_eq, up_k, up_j])⟩ (fun j => by (simp (disch := first | (apply kb_ne; omega) | omega | (apply kb_59; omega) | (apply kb_59'; omega) | fail) only [up_eq, up_k, up_j]))
  -- the length
  obtain ⟨ln, a6, s6, I6, J6, y1, y2, y3, y4, y5, y6, y7, y8, y9⟩ := r_num L L' hR5 (lo := 1) (hi := 120) (by omega)
  have hR6 : RR b n a6 s6 B (mv_up (mv_up I6 (kb b 21) c (w ln)) (kb b 20) c (w a6)) (mv_up J6 74 c (w (if s6 then 0 else (ln : Int)))) := y3.keep (fun j => by (simp (disch := first | (apply kb_ne; omega) | omega | (apply kb_59; omega) | (apply kb_59'; omega) | fail) only [up_eq, up_k, up_j])) (fun j => by (simp (disch := first | (apply kb_ne; omega) | omega | (apply kb_59; omega) | (apply kb_59'; omega) | fail) only [up_eq, up_k, up_j])) (fun j => by (simp (disch := first | (apply kb_ne; omega) | omega | (apply kb_59; omega) | (apply kb_59'; omega) | fail) only [up_eq, up_k, up_j])) ⟨by (simp (disch := first | (apply kb_ne; omega) | omega | (apply kb_59; omega) | (apply kb_59'; omega) | fail) only [up_eq, up_k, up_j]), by (simp (disch := first | (apply kb_ne; omega) | omega | (apply kb_59; omega) | (apply kb_59'; omega) | fail) only [up_eq, up_k, up_j]), by (simp (disch := first | (apply kb_ne; omega) | omega | (apply kb_59; omega) | (apply kb_59'; omega) | fail) only [up_eq, up_k, up_j])⟩ (fun j => by (simp (disch := first | (apply kb_ne; omega) | omega | (apply kb_59; omega) | (apply kb_59'; omega) | fail) only [up_eq, up_k, up_j]))
  obtain ⟨lm, hlm, hlm2⟩ : ∃ lm : Nat, (if s6 then 0 else (ln : Int)) = lm ∧ lm ≤ 120 ∧ (s6 = false → lm = ln) := by
    cases s6
    · exact ⟨ln, rfl, by omega, fun _ => rfl⟩
    · exact ⟨0, rfl, by omega, fun z => by cases z⟩
  rw [hlm] at hR6 y2
  obtain ⟨I', J', a', s', z1, z2, z3, z4, z5, z6⟩ := r_code b N hN L L' hR6 (c := c) (ln := ln) (lm := lm) (by omega) (by omega) hlm2.1 hlm2.2 (by (simp (disch := first | (apply kb_ne; omega) | omega | (apply kb_59; omega) | (apply kb_59'; omega) | fail) only [up_eq, up_k, up_j]))
  have f1 : FT b c I I' := fun q j d1 d2 d3 => by rw [z4 q j d1, up1_ne (by omega), up1_ne (by omega), y4 q j d1, up1_ne (by omega), x4 q j d1, up1_ne (by omega), u4 q j d1, up1_ne (by omega), t4 q j d1, q5 q j d1 (by omega), up1_ne (by omega), g4 q j d1]
  have f2 : FTm c J J' := fun q j d1 d2 d3 d4 => by rw [z5 q j d1 d4, up1_ne (by omega), y5 q j d1, up1_ne (by omega), x5 q j d1, up1_ne (by omega), u5 q j d1, up1_ne (by omega), t5 q j d1, q6 q j d1 (by omega), up1_ne (by omega), g5 q j d1]
  have e0 : (0 : Int32) = w 0 := rfl
  have e1 : (1 : Int32) = w 1 := rfl
  have e4 : (4 : Int32) = w 4 := rfl
  have e8 : (8 : Int32) = w 8 := rfl
  have e120 : (120 : Int32) = w 120 := rfl
  have b1 : bi true = 1 := bi_t
  rw [b1] at t1 t2
  replace q1 : kf48a_30 b N N (w c) (w nc) (w 0) (mv_up I1 (kb b 15) c (w v)) L = c48r b nc c I2 L := q1
  replace q2 : kf108_14 N N (w c) (w 0) (mv_up J1 69 c (w v)) L' = m109r N c J2 L' := q2
  refine ⟨I', J', a', s', ?_, ?_, z3, f1, f2, ?_⟩
  · unfold kf26 kf48a
    rw [h1, if_neg (by (simp (disch := omega) only [w_lit, w_neg, w_add, w_sub, w_mul, w_lt, w_le, w_eq, w_clamp, w_in, not_true_eq_false, not_false_eq_true, Classical.not_not]); omega), if_pos (by (simp (disch := omega) only [w_lit, w_neg, w_add, w_sub, w_mul, w_lt, w_le, w_eq, w_clamp, w_in, not_true_eq_false, not_false_eq_true, Classical.not_not]); omega), if_neg (by decide), e0, e4, g1, sbind, bif_in (by omega) (by decide), w_clamp (by omega), Int.toNat_natCast]
    simp only
    rw [q1]
    unfold c48r
    rw [t1, sbind]
    simp only [sbind]
    unfold kf49 kf50
    rw [i14, if_neg (by (simp (disch := omega) only [w_lit, w_neg, w_add, w_sub, w_mul, w_lt, w_le, w_eq, w_clamp, w_in, not_true_eq_false, not_false_eq_true, Classical.not_not]); omega), if_neg (by (simp (disch := omega) only [w_lit, w_neg, w_add, w_sub, w_mul, w_lt, w_le, w_eq, w_clamp, w_in, not_true_eq_false, not_false_eq_true, Classical.not_not]); omega), sbind, if_pos (by decide)]
    simp only [w_in_t (n := 16) (show (0:Int) ≤ c ∧ (c:Int) < (16:Nat) by omega), cond_true, w_clamp (show -2147483648 ≤ (c : Int) ∧ (c : Int) < 2147483648 by omega), Int.toNat_natCast]
    rw [if_neg (by (simp (disch := omega) only [w_lit, w_neg, w_add, w_sub, w_mul, w_lt, w_le, w_eq, w_clamp, w_in, not_true_eq_false, not_false_eq_true, Classical.not_not]); omega), if_neg (by (simp (disch := omega) only [w_lit, w_neg, w_add, w_sub, w_mul, w_lt, w_le, w_eq, w_clamp, w_in, not_true_eq_false, not_false_eq_true, Classical.not_not]); omega), i15]
    simp only [sbind]
    rw [e8, u1]
    simp only [sbind]
    rw [x1]
    simp only [sbind]
    rw [e1, e120, y1]
    simp only [sbind]
    unfold kf57
    (simp (disch := first | (apply kb_ne; omega) | omega | (apply kb_59; omega) | (apply kb_59'; omega) | fail) only [up_eq, up_k, up_j])
    rw [y3.at1]
    simp only [sbind]
    rw [z1]
    rfl
  · unfold kf108
    rw [e0, e4, g2, sbind, bif_in (by omega) (by decide), w_clamp (by omega), Int.toNat_natCast]
    simp only
    rw [q2]
    unfold m109r
    rw [t2, sbind]
    simp only
    rw [j69, u2]
    simp only [sbind]
    rw [x2]
    simp only [sbind]
    rw [y2]
    simp only [sbind]
    exact z2
  · intro hs m'' hm''
    obtain ⟨z7, rfl, z8⟩ := z6 hs
    have hs6 : s6 = false := z7
    obtain ⟨hs5, y10, y11, y12⟩ := y9 hs6
    obtain ⟨hs4, x10, x11, x12⟩ := x9 hs5
    obtain ⟨hs3, u10, u11, u12⟩ := u9 hs4
    obtain ⟨hs2, t8, t9, t10, t11, t12⟩ := t7 hs3
    obtain ⟨hs1, q8⟩ := q4 hs2
    obtain ⟨-, g10, g11, g12⟩ := g9 hs1
    subst hs6 hs5 hs4 hs3
    have hlmn : lm = ln := hlm2.2 rfl
    subst hlmn t11
    by_cases hcc : m'' < c
    · obtain ⟨p, r, lo, st, ln, sta, hA, hB⟩ := hD m'' hcc
      exact ⟨p, r, lo, st, ln, sta, hA.keep hcc f1 f2, by omega⟩
    · have : m'' = c := by omega
      subst this
      have hle := z3.le
      refine ⟨v, r', lo, st, lm, a6, ⟨?_, ?_, by omega, ?_, ?_, t12, ?_, ?_, ?_, by omega, ?_, ?_, by omega, ?_, ?_, by omega, ?_, by omega, ?_, ?_⟩, Nat.le_refl _⟩
      · rw [z4 _ _ (kb_ne (by decide))]; (simp (disch := first | (apply kb_ne; omega) | omega | (apply kb_59; omega) | (apply kb_59'; omega) | fail) only [up_eq, up_k, up_j])
        rw [y4 _ _ (kb_ne (by decide))]; (simp (disch := first | (apply kb_ne; omega) | omega | (apply kb_59; omega) | (apply kb_59'; omega) | fail) only [up_eq, up_k, up_j])
        rw [x4 _ _ (kb_ne (by decide))]; (simp (disch := first | (apply kb_ne; omega) | omega | (apply kb_59; omega) | (apply kb_59'; omega) | fail) only [up_eq, up_k, up_j])
        rw [u4 _ _ (kb_ne (by decide))]; exact i15
      · rw [z5 _ _ (by omega) (by omega)]; (simp (disch := first | (apply kb_ne; omega) | omega | (apply kb_59; omega) | (apply kb_59'; omega) | fail) only [up_eq, up_k, up_j])
        rw [y5 _ _ (by omega)]; (simp (disch := first | (apply kb_ne; omega) | omega | (apply kb_59; omega) | (apply kb_59'; omega) | fail) only [up_eq, up_k, up_j])
        rw [x5 _ _ (by omega)]; (simp (disch := first | (apply kb_ne; omega) | omega | (apply kb_59; omega) | (apply kb_59'; omega) | fail) only [up_eq, up_k, up_j])
        rw [u5 _ _ (by omega)]; exact j69
      · rw [z4 _ _ (kb_ne (by decide))]; (simp (disch := first | (apply kb_ne; omega) | omega | (apply kb_59; omega) | (apply kb_59'; omega) | fail) only [up_eq, up_k, up_j])
        rw [y4 _ _ (kb_ne (by decide))]; (simp (disch := first | (apply kb_ne; omega) | omega | (apply kb_59; omega) | (apply kb_59'; omega) | fail) only [up_eq, up_k, up_j])
        rw [x4 _ _ (kb_ne (by decide))]; (simp (disch := first | (apply kb_ne; omega) | omega | (apply kb_59; omega) | (apply kb_59'; omega) | fail) only [up_eq, up_k, up_j])
        rw [u4 _ _ (kb_ne (by decide))]; (simp (disch := first | (apply kb_ne; omega) | omega | (apply kb_59; omega) | (apply kb_59'; omega) | fail) only [up_eq, up_k, up_j])
      · rw [z5 _ _ (by omega) (by omega)]; (simp (disch := first | (apply kb_ne; omega) | omega | (apply kb_59; omega) | (apply kb_59'; omega) | fail) only [up_eq, up_k, up_j])
        rw [y5 _ _ (by omega)]; (simp (disch := first | (apply kb_ne; omega) | omega | (apply kb_59; omega) | (apply kb_59'; omega) | fail) only [up_eq, up_k, up_j])
        rw [x5 _ _ (by omega)]; (simp (disch := first | (apply kb_ne; omega) | omega | (apply kb_59; omega) | (apply kb_59'; omega) | fail) only [up_eq, up_k, up_j])
        rw [u5 _ _ (by omega)]; (simp (disch := first | (apply kb_ne; omega) | omega | (apply kb_59; omega) | (apply kb_59'; omega) | fail) only [up_eq, up_k, up_j])
      · intro i hi
        obtain ⟨t, d1, d2, d3⟩ := q7 hs2 i (by omega) hi
        refine ⟨t, ?_, ?_, d3⟩
        · rw [z4 _ _ (kb_ne (by decide))]; (simp (disch := first | (apply kb_ne; omega) | omega | (apply kb_59; omega) | (apply kb_59'; omega) | fail) only [up_eq, up_k, up_j])
          rw [y4 _ _ (kb_ne (by decide))]; (simp (disch := first | (apply kb_ne; omega) | omega | (apply kb_59; omega) | (apply kb_59'; omega) | fail) only [up_eq, up_k, up_j])
          rw [x4 _ _ (kb_ne (by decide))]; (simp (disch := first | (apply kb_ne; omega) | omega | (apply kb_59; omega) | (apply kb_59'; omega) | fail) only [up_eq, up_k, up_j])
          rw [u4 _ _ (kb_ne (by decide))]; (simp (disch := first | (apply kb_ne; omega) | omega | (apply kb_59; omega) | (apply kb_59'; omega) | fail) only [up_eq, up_k, up_j])
          rw [t4 _ _ (kb_ne (by decide))]; exact d1
        · rw [z5 _ _ (by omega) (by omega)]; (simp (disch := first | (apply kb_ne; omega) | omega | (apply kb_59; omega) | (apply kb_59'; omega) | fail) only [up_eq, up_k, up_j])
          rw [y5 _ _ (by omega)]; (simp (disch := first | (apply kb_ne; omega) | omega | (apply kb_59; omega) | (apply kb_59'; omega) | fail) only [up_eq, up_k, up_j])
          rw [x5 _ _ (by omega)]; (simp (disch := first | (apply kb_ne; omega) | omega | (apply kb_59; omega) | (apply kb_59'; omega) | fail) only [up_eq, up_k, up_j])
          rw [u5 _ _ (by omega)]; (simp (disch := first | (apply kb_ne; omega) | omega | (apply kb_59; omega) | (apply kb_59'; omega) | fail) only [up_eq, up_k, up_j])
          rw [t5 _ _ (by omega)]; exact d2
      · rw [z4 _ _ (kb_ne (by decide))]; (simp (disch := first | (apply kb_ne; omega) | omega | (apply kb_59; omega) | (apply kb_59'; omega) | fail) only [up_eq, up_k, up_j])
        rw [y4 _ _ (kb_ne (by decide))]; (simp (disch := first | (apply kb_ne; omega) | omega | (apply kb_59; omega) | (apply kb_59'; omega) | fail) only [up_eq, up_k, up_j])
        rw [x4 _ _ (kb_ne (by decide))]; (simp (disch := first | (apply kb_ne; omega) | omega | (apply kb_59; omega) | (apply kb_59'; omega) | fail) only [up_eq, up_k, up_j])
      · rw [z5 _ _ (by omega) (by omega)]; (simp (disch := first | (apply kb_ne; omega) | omega | (apply kb_59; omega) | (apply kb_59'; omega) | fail) only [up_eq, up_k, up_j])
        rw [y5 _ _ (by omega)]; (simp (disch := first | (apply kb_ne; omega) | omega | (apply kb_59; omega) | (apply kb_59'; omega) | fail) only [up_eq, up_k, up_j])
        rw [x5 _ _ (by omega)]; (simp (disch := first | (apply kb_ne; omega) | omega | (apply kb_59; omega) | (apply kb_59'; omega) | fail) only [up_eq, up_k, up_j])
        rfl
      · rw [z4 _ _ (kb_ne (by decide))]; (simp (disch := first | (apply kb_ne; omega) | omega | (apply kb_59; omega) | (apply kb_59'; omega) | fail) only [up_eq, up_k, up_j])
        rw [y4 _ _ (kb_ne (by decide))]; (simp (disch := first | (apply kb_ne; omega) | omega | (apply kb_59; omega) | (apply kb_59'; omega) | fail) only [up_eq, up_k, up_j])
      · rw [z5 _ _ (by omega) (by omega)]; (simp (disch := first | (apply kb_ne; omega) | omega | (apply kb_59; omega) | (apply kb_59'; omega) | fail) only [up_eq, up_k, up_j])
        rw [y5 _ _ (by omega)]; (simp (disch := first | (apply kb_ne; omega) | omega | (apply kb_59; omega) | (apply kb_59'; omega) | fail) only [up_eq, up_k, up_j])
        rfl
      · rw [z4 _ _ (kb_ne (by decide))]; (simp (disch := first | (apply kb_ne; omega) | omega | (apply kb_59; omega) | (apply kb_59'; omega) | fail) only [up_eq, up_k, up_j])
      · rw [z5 _ _ (by omega) (by omega)]; (simp (disch := first | (apply kb_ne; omega) | omega | (apply kb_59; omega) | (apply kb_59'; omega) | fail) only [up_eq, up_k, up_j])
      · rw [z4 _ _ (kb_ne (by decide))]; (simp (disch := first | (apply kb_ne; omega) | omega | (apply kb_59; omega) | (apply kb_59'; omega) | fail) only [up_eq, up_k, up_j])
      · intro i hi
        exact z8 i hi
      · intro m3 hm3
        obtain ⟨p, r, lo, st, ln, sta, hA, hB⟩ := hD m3 hm3
        refine ⟨sta, ln, ?_, ?_, by omega⟩
        · rw [f1 _ _ (kb_ne (by decide)) (by omega) (fun z => kb_ne (by decide) z.1)]
          exact hA.sa
        · rw [f1 _ _ (kb_ne (by decide)) (by omega) (fun z => kb_ne (by decide) z.1)]
          exact hA.ln1
