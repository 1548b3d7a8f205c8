/-! Readers: KindJudge's and the reference's over the same bytes. -/
def bi (s : Bool) : Int := if s then 1 else 0
theorem bi_f : bi false = 0 := by simp [bi]
theorem bi_t : bi true = 1 := by simp [bi]
abbrev RR (b : Bool) (n a : Nat) (s : Bool) (B : Nat → Nat) (I J : kjI) : Prop := (k_row b n B I) ∧ (J 59 5 = w n) ∧ (∀ i, i < n → J 61 i = w (B i)) ∧ (a ≤ n) ∧ (I (kb b 23) 1 = w a) ∧ (J 59 35 = w a) ∧ (I (kb b 23) 2 = w (bi s)) ∧ (J 59 36 = w (bi s))
theorem RR.row {b : Bool} {n a : Nat} {s : Bool} {B : Nat → Nat} {I J : kjI} (h : RR b n a s B I J) : k_row b n B I := h.1
theorem RR.len {b : Bool} {n a : Nat} {s : Bool} {B : Nat → Nat} {I J : kjI} (h : RR b n a s B I J) : J 59 5 = w n := h.2.1
theorem RR.read {b : Bool} {n a : Nat} {s : Bool} {B : Nat → Nat} {I J : kjI} (h : RR b n a s B I J) : ∀ i, i < n → J 61 i = w (B i) := h.2.2.1
theorem RR.le {b : Bool} {n a : Nat} {s : Bool} {B : Nat → Nat} {I J : kjI} (h : RR b n a s B I J) : a ≤ n := h.2.2.2.1
theorem RR.at1 {b : Bool} {n a : Nat} {s : Bool} {B : Nat → Nat} {I J : kjI} (h : RR b n a s B I J) : I (kb b 23) 1 = w a := h.2.2.2.2.1
theorem RR.at2 {b : Bool} {n a : Nat} {s : Bool} {B : Nat → Nat} {I J : kjI} (h : RR b n a s B I J) : J 59 35 = w a := h.2.2.2.2.2.1
theorem RR.st1 {b : Bool} {n a : Nat} {s : Bool} {B : Nat → Nat} {I J : kjI} (h : RR b n a s B I J) : I (kb b 23) 2 = w (bi s) := h.2.2.2.2.2.2.1
theorem RR.st2 {b : Bool} {n a : Nat} {s : Bool} {B : Nat → Nat} {I J : kjI} (h : RR b n a s B I J) : J 59 36 = w (bi s) := h.2.2.2.2.2.2.2
def FI (b : Bool) (I I' : kjI) : Prop := ∀ k j, k ≠ kb b 23 → I' k j = I k j
def FJ (J J' : kjI) : Prop := ∀ k j, ¬ (k = 59 ∧ (j = 35 ∨ j = 36)) → J' k j = J k j
theorem c_at {b : Bool} {n : Nat} {B : Nat → Nat} {I : kjI} (L : kjL) (h : k_row b n B I) {i : Int} (hi : -2147483648 ≤ i ∧ i < 2147483648) : kf22 b I L (w i) = some (w (if 0 ≤ i ∧ i < n then (B i.toNat : Int) else -1)) := by
  obtain ⟨h1, h2, h3⟩ := h
  unfold kf22
  rw [h2]
  by_cases c1 : i < 0
  · (simp (disch := first | omega | (simp (disch := omega) only [w_lit, w_neg, w_add, w_sub, w_mul, w_lt, w_le, w_eq, w_clamp, w_in, not_true_eq_false, not_false_eq_true, Classical.not_not] <;> omega) | fail) only [↓if_pos, ↓if_neg, ↓bif_in, sbind, w_clamp])
    (simp only [w_lit, w_neg, w_add, w_sub, w_mul])
  · by_cases c2 : (n : Int) ≤ i
    · (simp (disch := first | omega | (simp (disch := omega) only [w_lit, w_neg, w_add, w_sub, w_mul, w_lt, w_le, w_eq, w_clamp, w_in, not_true_eq_false, not_false_eq_true, Classical.not_not] <;> omega) | fail) only [↓if_pos, ↓if_neg, ↓bif_in, sbind, w_clamp])
      (simp only [w_lit, w_neg, w_add, w_sub, w_mul])
    · (simp (disch := first | omega | (simp (disch := omega) only [w_lit, w_neg, w_add, w_sub, w_mul, w_lt, w_le, w_eq, w_clamp, w_in, not_true_eq_false, not_false_eq_true, Classical.not_not] <;> omega) | fail) only [↓if_pos, ↓if_neg, ↓bif_in, sbind, w_clamp])
      rw [(h3 i.toNat (by omega)).1]
theorem RR.row' {b : Bool} {n a : Nat} {s : Bool} {B : Nat → Nat} {I J : kjI} (h : RR b n a s B I J) {I' : kjI} (hF : FI b I I') : k_row b n B I' := by
  obtain ⟨h1, h2, h3⟩ := h.row
  refine ⟨h1, ?_, fun i hi => ?_⟩
  · rw [hF _ _ (kb_ne (by decide))]; exact h2
  · rw [hF _ _ (kb_ne (by decide))]; exact h3 i hi
theorem c_ahead_t {b : Bool} {n a : Nat} {B : Nat → Nat} {I J : kjI} (L : kjL) (h : RR b n a false B I J) (c : a < n) : kf58 b I L = some (w (B a)) := by
  unfold kf58
  rw [h.st1, h.at1]
  have hn := h.row.1
  rw [c_at L h.row (by omega)]
  simp only [bi_f]
  (simp (disch := first | omega | (simp (disch := omega) only [w_lit, w_neg, w_add, w_sub, w_mul, w_lt, w_le, w_eq, w_clamp, w_in, not_true_eq_false, not_false_eq_true, Classical.not_not] <;> omega) | fail) only [↓if_pos, ↓if_neg, ↓bif_in, sbind, w_clamp])
  simp only [Int.toNat_natCast]
theorem c_ahead_f {b : Bool} {n a : Nat} {s : Bool} {B : Nat → Nat} {I J : kjI} (L : kjL) (h : RR b n a s B I J) (c : s = true ∨ n ≤ a) : kf58 b I L = some (w (-1)) := by
  unfold kf58
  rw [h.st1, h.at1]
  have hn := h.row.1
  have ha := h.le
  rw [c_at L h.row (by omega)]
  cases s
  · rcases c with c | c
    · cases c
    simp only [bi_f]
    (simp (disch := first | omega | (simp (disch := omega) only [w_lit, w_neg, w_add, w_sub, w_mul, w_lt, w_le, w_eq, w_clamp, w_in, not_true_eq_false, not_false_eq_true, Classical.not_not] <;> omega) | fail) only [↓if_pos, ↓if_neg, ↓bif_in, sbind, w_clamp])
  · simp only [bi_t]
    (simp (disch := first | omega | (simp (disch := omega) only [w_lit, w_neg, w_add, w_sub, w_mul, w_lt, w_le, w_eq, w_clamp, w_in, not_true_eq_false, not_false_eq_true, Classical.not_not] <;> omega) | fail) only [↓if_pos, ↓if_neg, ↓bif_in, sbind, w_clamp])
    rfl
/-- the reader stops -/
theorem RR.stop {b : Bool} {n a : Nat} {s : Bool} {B : Nat → Nat} {I J : kjI} (h : RR b n a s B I J) : RR b n a true B (mv_up I (kb b 23) 2 1) (mv_up J 59 36 1) := by
  refine ⟨h.row' (fun k j hk => up_k hk), ?_, ?_, h.le, ?_, ?_, ?_, ?_⟩
  · (simp (disch := first | (apply kb_ne; omega) | omega | (apply kb_59; omega) | (apply kb_59'; omega) | fail) only [up_eq, up_k, up_j]); exact h.len
  · intro i hi; (simp (disch := first | (apply kb_ne; omega) | omega | (apply kb_59; omega) | (apply kb_59'; omega) | fail) only [up_eq, up_k, up_j]); exact h.read i hi
  · (simp (disch := first | (apply kb_ne; omega) | omega | (apply kb_59; omega) | (apply kb_59'; omega) | fail) only [up_eq, up_k, up_j]); exact h.at1
  · (simp (disch := first | (apply kb_ne; omega) | omega | (apply kb_59; omega) | (apply kb_59'; omega) | fail) only [up_eq, up_k, up_j]); exact h.at2
  · (simp (disch := first | (apply kb_ne; omega) | omega | (apply kb_59; omega) | (apply kb_59'; omega) | fail) only [up_eq, up_k, up_j]); rfl
  · (simp (disch := first | (apply kb_ne; omega) | omega | (apply kb_59; omega) | (apply kb_59'; omega) | fail) only [up_eq, up_k, up_j]); rfl
theorem RR.go {b : Bool} {n a : Nat} {B : Nat → Nat} {I J : kjI} (h : RR b n a false B I J) (ha : a < n) : RR b n (a + 1) false B (mv_up I (kb b 23) 1 (w (a + 1 : Nat))) (mv_up J 59 35 (w (a + 1 : Nat))) := by
  refine ⟨h.row' (fun k j hk => up_k hk), ?_, ?_, ha, ?_, ?_, ?_, ?_⟩
  · (simp (disch := first | (apply kb_ne; omega) | omega | (apply kb_59; omega) | (apply kb_59'; omega) | fail) only [up_eq, up_k, up_j]); exact h.len
  · intro i hi; (simp (disch := first | (apply kb_ne; omega) | omega | (apply kb_59; omega) | (apply kb_59'; omega) | fail) only [up_eq, up_k, up_j]); exact h.read i hi
  · (simp (disch := first | (apply kb_ne; omega) | omega | (apply kb_59; omega) | (apply kb_59'; omega) | fail) only [up_eq, up_k, up_j])
  · (simp (disch := first | (apply kb_ne; omega) | omega | (apply kb_59; omega) | (apply kb_59'; omega) | fail) only [up_eq, up_k, up_j])
  · (simp (disch := first | (apply kb_ne; omega) | omega | (apply kb_59; omega) | (apply kb_59'; omega) | fail) only [up_eq, up_k, up_j]); exact h.st1
  · (simp (disch := first | (apply kb_ne; omega) | omega | (apply kb_59; omega) | (apply kb_59'; omega) | fail) only [up_eq, up_k, up_j]); exact h.st2
theorem FI_up (b : Bool) (I : kjI) (j : Nat) (v : Int32) : FI b I (mv_up I (kb b 23) j v) := fun k i hk => up_k hk
theorem FJ_35 (J : kjI) (v : Int32) : FJ J (mv_up J 59 35 v) := by
  intro k i hk
  by_cases h : k = 59
  · subst h
    exact up_j (by omega)
  · exact up_k h
theorem FJ_36 (J : kjI) (v : Int32) : FJ J (mv_up J 59 36 v) := by
  intro k i hk
  by_cases h : k = 59
  · subst h
    exact up_j (by omega)
  · exact up_k h
theorem FI.refl (b : Bool) (I : kjI) : FI b I I := fun _ _ _ => rfl
theorem FJ.refl (J : kjI) : FJ J J := fun _ _ _ => rfl
theorem FI.trans {b : Bool} {I I' I'' : kjI} (h : FI b I I') (h' : FI b I' I'') : FI b I I'' := fun k j hk => (h' k j hk).trans (h k j hk)
theorem FJ.trans {J J' J'' : kjI} (h : FJ J J') (h' : FJ J' J'') : FJ J J'' := fun k j hk => (h' k j hk).trans (h k j hk)
/-- passing, in KindJudge -/
theorem c_pass_t {b : Bool} {n a : Nat} {B : Nat → Nat} {I J : kjI} (L : kjL) (h : RR b n a false B I J) (c : a < n) : kf59 b 1 I L = some (1, mv_up I (kb b 23) 1 (w (a + 1 : Nat)), L) := by
  unfold kf59 kf59_25
  rw [h.st1, h.at1, h.row.2.1]
  have hn := h.row.1
  have e : w (a : Int) + 1 = w (a + 1 : Nat) := by
    (simp only [w_lit, w_neg, w_add, w_sub, w_mul])
    rfl
  rw [e]
  simp only [bi_f]
  (simp (disch := first | omega | (simp (disch := omega) only [w_lit, w_neg, w_add, w_sub, w_mul, w_lt, w_le, w_eq, w_clamp, w_in, not_true_eq_false, not_false_eq_true, Classical.not_not] <;> omega) | fail) only [↓if_pos, ↓if_neg, ↓bif_in, sbind, w_clamp])
theorem c_pass_f {b : Bool} {n a : Nat} {s : Bool} {B : Nat → Nat} {I J : kjI} (L : kjL) (h : RR b n a s B I J) {v : Int32} (c : v = 0 ∨ s = true ∨ n ≤ a) : kf59 b v I L = some (0, mv_up I (kb b 23) 2 1, L) := by
  unfold kf59 kf59_25
  rw [h.st1, h.at1, h.row.2.1]
  have hn := h.row.1
  have ha := h.le
  by_cases c1 : v = 0
  · rw [if_pos c1]
  rw [if_neg c1]
  cases s
  · rcases c with c | c | c
    · exact absurd c c1
    · cases c
    · simp only [bi_f]
      (simp (disch := first | omega | (simp (disch := omega) only [w_lit, w_neg, w_add, w_sub, w_mul, w_lt, w_le, w_eq, w_clamp, w_in, not_true_eq_false, not_false_eq_true, Classical.not_not] <;> omega) | fail) only [↓if_pos, ↓if_neg, ↓bif_in, sbind, w_clamp])
  · simp only [bi_t]
    (simp (disch := first | omega | (simp (disch := omega) only [w_lit, w_neg, w_add, w_sub, w_mul, w_lt, w_le, w_eq, w_clamp, w_in, not_true_eq_false, not_false_eq_true, Classical.not_not] <;> omega) | fail) only [↓if_pos, ↓if_neg, ↓bif_in, sbind, w_clamp])
theorem RR.stop_s {b : Bool} {n a : Nat} {B : Nat → Nat} {I J : kjI} (h : RR b n a true B I J) : mv_up J 59 36 1 = J := by
  have := up_self J 59 36
  rw [h.st2] at this
  exact this
theorem r_num {b : Bool} {n a : Nat} {s : Bool} {B : Nat → Nat} {I J : kjI} (L L' : kjL) (h : RR b n a s B I J) {lo hi : Int} (hl : 0 ≤ lo ∧ lo ≤ hi ∧ hi < 1000) :
    ∃ (v : Nat) (a' : Nat) (s' : Bool) (I' J' : kjI), kf60 b (w lo) (w hi) I L = some (w v, I', L) ∧ kf104 (w lo) (w hi) J L' = some (w (if s' then 0 else (v : Int)), J', L') ∧ RR b n a' s' B I' J' ∧ FI b I I' ∧ FJ J J' ∧ lo ≤ v ∧ v ≤ hi ∧ (s' = true → (v : Int) = lo ∧ a' = a) ∧ (s' = false → s = false ∧ a' = a + 1 ∧ a < n ∧ v = B a) := by
  have hn := h.row.1
  have ha := h.le
  have hlo : ((lo.toNat : Nat) : Int) = lo := by omega
  unfold kf60 kf60_20 kf60_21 kf104 kf104_37 kf102
  rw [h.st2, h.len, h.at2]
  have e : w (a : Int) + 1 = w (a + 1 : Nat) := by
    (simp only [w_lit, w_neg, w_add, w_sub, w_mul])
    rfl
  have e2 : w ((a + 1 : Nat) : Int) - 1 = w a := by
    (simp only [w_lit, w_neg, w_add, w_sub, w_mul])
    congr 1
    omega
  rw [e]
  by_cases c0 : s = false ∧ a < n
  · obtain ⟨rfl, c2⟩ := c0
    have hB := (h.row.2.2 a c2).2
    rw [c_ahead_t L h c2, c_pass_t L h c2, c_pass_f (v := 0) L h (Or.inl rfl)]
    simp only [bi_f, sbind]
    (simp (disch := first | (apply kb_ne; omega) | omega | (apply kb_59; omega) | (apply kb_59'; omega) | fail) only [up_eq, up_k, up_j])
    rw [e2]
    (simp (disch := first | omega | (simp (disch := omega) only [w_lit, w_neg, w_add, w_sub, w_mul, w_lt, w_le, w_eq, w_clamp, w_in, not_true_eq_false, not_false_eq_true, Classical.not_not] <;> omega) | fail) only [↓if_pos, ↓if_neg, ↓bif_in, sbind, w_clamp])
    simp only [Int.toNat_natCast, h.read a c2]
    by_cases c : lo ≤ (B a : Int) ∧ (B a : Int) ≤ hi
    · refine ⟨B a, a + 1, false, _, _, ?_, ?_, h.go c2, FI_up _ _ _ _, FJ_35 _ _, c.1, c.2, fun z => (by cases z), fun _ => ⟨trivial, rfl, c2, rfl⟩⟩
      · (simp (disch := first | omega | (simp (disch := omega) only [w_lit, w_neg, w_add, w_sub, w_mul, w_lt, w_le, w_eq, w_clamp, w_in, not_true_eq_false, not_false_eq_true, Classical.not_not] <;> omega) | fail) only [↓if_pos, ↓if_neg, ↓bif_in, sbind, w_clamp])
      · (simp (disch := first | omega | (simp (disch := omega) only [w_lit, w_neg, w_add, w_sub, w_mul, w_lt, w_le, w_eq, w_clamp, w_in, not_true_eq_false, not_false_eq_true, Classical.not_not] <;> omega) | fail) only [↓if_pos, ↓if_neg, ↓bif_in, sbind, w_clamp])
        rfl
    · refine ⟨lo.toNat, a, true, _, _, ?_, ?_, h.stop, FI_up _ _ _ _, FJ_36 _ _, by omega, by omega, fun _ => ⟨by omega, rfl⟩, fun z => by cases z⟩
      · rw [hlo]
        by_cases c5 : (B a : Int) < lo
        · (simp (disch := first | omega | (simp (disch := omega) only [w_lit, w_neg, w_add, w_sub, w_mul, w_lt, w_le, w_eq, w_clamp, w_in, not_true_eq_false, not_false_eq_true, Classical.not_not] <;> omega) | fail) only [↓if_pos, ↓if_neg, ↓bif_in, sbind, w_clamp])
        · (simp (disch := first | omega | (simp (disch := omega) only [w_lit, w_neg, w_add, w_sub, w_mul, w_lt, w_le, w_eq, w_clamp, w_in, not_true_eq_false, not_false_eq_true, Classical.not_not] <;> omega) | fail) only [↓if_pos, ↓if_neg, ↓bif_in, sbind, w_clamp])
      · by_cases c5 : (B a : Int) < lo
        · (simp (disch := first | omega | (simp (disch := omega) only [w_lit, w_neg, w_add, w_sub, w_mul, w_lt, w_le, w_eq, w_clamp, w_in, not_true_eq_false, not_false_eq_true, Classical.not_not] <;> omega) | fail) only [↓if_pos, ↓if_neg, ↓bif_in, sbind, w_clamp])
          rfl
        · (simp (disch := first | omega | (simp (disch := omega) only [w_lit, w_neg, w_add, w_sub, w_mul, w_lt, w_le, w_eq, w_clamp, w_in, not_true_eq_false, not_false_eq_true, Classical.not_not] <;> omega) | fail) only [↓if_pos, ↓if_neg, ↓bif_in, sbind, w_clamp])
          rfl
  · have c0' : s = true ∨ n ≤ a := by
      cases s
      · exact Or.inr (by simpa using c0)
      · exact Or.inl rfl
    rw [c_ahead_f L h c0', c_pass_f (v := 0) L h (Or.inl rfl)]
    refine ⟨lo.toNat, a, true, _, _, ?_, ?_, h.stop, FI_up _ _ _ _, FJ_36 _ _, by omega, by omega, fun _ => ⟨by omega, rfl⟩, fun z => by cases z⟩
    · rw [hlo]
      (simp (disch := first | omega | (simp (disch := omega) only [w_lit, w_neg, w_add, w_sub, w_mul, w_lt, w_le, w_eq, w_clamp, w_in, not_true_eq_false, not_false_eq_true, Classical.not_not] <;> omega) | fail) only [↓if_pos, ↓if_neg, ↓bif_in, sbind, w_clamp])
    · cases s
      · have c6 : ¬ a < n := fun z => c0 ⟨rfl, z⟩
        simp only [bi_f]
        (simp (disch := first | omega | (simp (disch := omega) only [w_lit, w_neg, w_add, w_sub, w_mul, w_lt, w_le, w_eq, w_clamp, w_in, not_true_eq_false, not_false_eq_true, Classical.not_not] <;> omega) | fail) only [↓if_pos, ↓if_neg, ↓bif_in, sbind, w_clamp])
        rfl
      · simp only [bi_t]
        rw [h.stop_s]
        (simp (disch := first | omega | (simp (disch := omega) only [w_lit, w_neg, w_add, w_sub, w_mul, w_lt, w_le, w_eq, w_clamp, w_in, not_true_eq_false, not_false_eq_true, Classical.not_not] <;> omega) | fail) only [↓if_pos, ↓if_neg, ↓bif_in, sbind, w_clamp])
        rfl
/-- a TYPE that a FILE may tell -/
def tyOk (nc : Nat) (z : Bool) (t : Nat) : Prop := t = 1 ∨ t = 2 ∨ 16 ≤ t ∧ t < 16 + nc ∨ z = true ∧ t = 0
theorem r_type {b : Bool} {n a : Nat} {s : Bool} {B : Nat → Nat} {I J : kjI} (L L' : kjL) (h : RR b n a s B I J) {nc : Nat} (hc : nc ≤ 8) (hJ : J 59 12 = w nc) (z : Bool) :
    ∃ (v v' : Nat) (a' : Nat) (s' : Bool) (I' J' : kjI), kf61 b (w nc) (w (bi z)) I L = some (w v, I', L) ∧ kf105 (w (bi z)) J L' = some (w v', J', L') ∧ RR b n a' s' B I' J' ∧ FI b I I' ∧ FJ J J' ∧ (s' = true → a' = a) ∧ (s' = false → s = false ∧ a' = a + 1 ∧ a < n ∧ v = B a ∧ v' = v ∧ tyOk nc z v) := by
  have hn := h.row.1
  have ha := h.le
  unfold kf61 kf61_29 kf61_41 kf61_37 kf61_42 kf105 kf105_33 kf105_61 kf105_69 kf105_73 kf105_74
  rw [h.st2, h.len, h.at2, hJ]
  have e : w (a : Int) + 1 = w (a + 1 : Nat) := by
    (simp only [w_lit, w_neg, w_add, w_sub, w_mul])
    rfl
  rw [e]
  by_cases c0 : s = false ∧ a < n
  · obtain ⟨rfl, c2⟩ := c0
    have hB := (h.row.2.2 a c2).2
    rw [c_ahead_t L h c2, c_pass_t L h c2, c_pass_f (v := 0) L h (Or.inl rfl), w_clamp (by omega), Int.toNat_natCast, h.read a c2, w_in_t (by omega)]
    simp only [bi_f, sbind, cond_true]
    rw [if_pos (show w 0 = 0 from rfl), if_neg (show ¬ w n ≤ w a by (simp (disch := omega) only [w_lit, w_neg, w_add, w_sub, w_mul, w_lt, w_le, w_eq, w_clamp, w_in, not_true_eq_false, not_false_eq_true, Classical.not_not]); omega)]
    (simp only [w_lit, w_neg, w_add, w_sub, w_mul])
    by_cases c : tyOk nc z (B a)
    · refine ⟨B a, B a, a + 1, false, _, _, ?_, ?_, h.go c2, FI_up _ _ _ _, FJ_35 _ _, fun z => (by cases z), fun _ => ⟨trivial, rfl, c2, rfl, rfl, c⟩⟩
      · rcases c with c | c | c | ⟨rfl, c⟩
        · (simp (disch := first | omega | (simp (disch := omega) only [w_lit, w_neg, w_add, w_sub, w_mul, w_lt, w_le, w_eq, w_clamp, w_in, not_true_eq_false, not_false_eq_true, Classical.not_not] <;> omega) | fail) only [↓if_pos, ↓if_neg, ↓bif_in, sbind, w_clamp])
        · (simp (disch := first | omega | (simp (disch := omega) only [w_lit, w_neg, w_add, w_sub, w_mul, w_lt, w_le, w_eq, w_clamp, w_in, not_true_eq_false, not_false_eq_true, Classical.not_not] <;> omega) | fail) only [↓if_pos, ↓if_neg, ↓bif_in, sbind, w_clamp])
        · (simp (disch := first | omega | (simp (disch := omega) only [w_lit, w_neg, w_add, w_sub, w_mul, w_lt, w_le, w_eq, w_clamp, w_in, not_true_eq_false, not_false_eq_true, Classical.not_not] <;> omega) | fail) only [↓if_pos, ↓if_neg, ↓bif_in, sbind, w_clamp])
        · simp only [bi_t]
          (simp (disch := first | omega | (simp (disch := omega) only [w_lit, w_neg, w_add, w_sub, w_mul, w_lt, w_le, w_eq, w_clamp, w_in, not_true_eq_false, not_false_eq_true, Classical.not_not] <;> omega) | fail) only [↓if_pos, ↓if_neg, ↓bif_in, sbind, w_clamp])
      · rcases c with c | c | c | ⟨rfl, c⟩
        · (simp (disch := first | omega | (simp (disch := omega) only [w_lit, w_neg, w_add, w_sub, w_mul, w_lt, w_le, w_eq, w_clamp, w_in, not_true_eq_false, not_false_eq_true, Classical.not_not] <;> omega) | fail) only [↓if_pos, ↓if_neg, ↓bif_in, sbind, w_clamp])
        · (simp (disch := first | omega | (simp (disch := omega) only [w_lit, w_neg, w_add, w_sub, w_mul, w_lt, w_le, w_eq, w_clamp, w_in, not_true_eq_false, not_false_eq_true, Classical.not_not] <;> omega) | fail) only [↓if_pos, ↓if_neg, ↓bif_in, sbind, w_clamp])
        · (simp (disch := first | omega | (simp (disch := omega) only [w_lit, w_neg, w_add, w_sub, w_mul, w_lt, w_le, w_eq, w_clamp, w_in, not_true_eq_false, not_false_eq_true, Classical.not_not] <;> omega) | fail) only [↓if_pos, ↓if_neg, ↓bif_in, sbind, w_clamp])
        · simp only [bi_t]
          (simp (disch := first | omega | (simp (disch := omega) only [w_lit, w_neg, w_add, w_sub, w_mul, w_lt, w_le, w_eq, w_clamp, w_in, not_true_eq_false, not_false_eq_true, Classical.not_not] <;> omega) | fail) only [↓if_pos, ↓if_neg, ↓bif_in, sbind, w_clamp])
    · refine ⟨1, 0, a, true, _, _, ?_, ?_, h.stop, FI_up _ _ _ _, FJ_36 _ _, fun _ => rfl, fun z => by cases z⟩
      · simp only [tyOk, not_or, not_and] at c
        obtain ⟨d1, d2, d3, d4⟩ := c
        cases z
        · simp only [bi_f]
          by_cases d5 : B a < 16
          · (simp (disch := first | omega | (simp (disch := omega) only [w_lit, w_neg, w_add, w_sub, w_mul, w_lt, w_le, w_eq, w_clamp, w_in, not_true_eq_false, not_false_eq_true, Classical.not_not] <;> omega) | fail) only [↓if_pos, ↓if_neg, ↓bif_in, sbind, w_clamp])
            rfl
          · have d6 := d3 (by omega)
            (simp (disch := first | omega | (simp (disch := omega) only [w_lit, w_neg, w_add, w_sub, w_mul, w_lt, w_le, w_eq, w_clamp, w_in, not_true_eq_false, not_false_eq_true, Classical.not_not] <;> omega) | fail) only [↓if_pos, ↓if_neg, ↓bif_in, sbind, w_clamp])
            rfl
        · have d7 := d4 rfl
          simp only [bi_t]
          by_cases d5 : B a < 16
          · (simp (disch := first | omega | (simp (disch := omega) only [w_lit, w_neg, w_add, w_sub, w_mul, w_lt, w_le, w_eq, w_clamp, w_in, not_true_eq_false, not_false_eq_true, Classical.not_not] <;> omega) | fail) only [↓if_pos, ↓if_neg, ↓bif_in, sbind, w_clamp])
            rfl
          · have d6 := d3 (by omega)
            (simp (disch := first | omega | (simp (disch := omega) only [w_lit, w_neg, w_add, w_sub, w_mul, w_lt, w_le, w_eq, w_clamp, w_in, not_true_eq_false, not_false_eq_true, Classical.not_not] <;> omega) | fail) only [↓if_pos, ↓if_neg, ↓bif_in, sbind, w_clamp])
            rfl
      · simp only [tyOk, not_or, not_and] at c
        obtain ⟨d1, d2, d3, d4⟩ := c
        cases z
        · simp only [bi_f]
          by_cases d5 : B a < 16
          · (simp (disch := first | omega | (simp (disch := omega) only [w_lit, w_neg, w_add, w_sub, w_mul, w_lt, w_le, w_eq, w_clamp, w_in, not_true_eq_false, not_false_eq_true, Classical.not_not] <;> omega) | fail) only [↓if_pos, ↓if_neg, ↓bif_in, sbind, w_clamp])
            rfl
          · have d6 := d3 (by omega)
            (simp (disch := first | omega | (simp (disch := omega) only [w_lit, w_neg, w_add, w_sub, w_mul, w_lt, w_le, w_eq, w_clamp, w_in, not_true_eq_false, not_false_eq_true, Classical.not_not] <;> omega) | fail) only [↓if_pos, ↓if_neg, ↓bif_in, sbind, w_clamp])
            rfl
        · have d7 := d4 rfl
          simp only [bi_t]
          by_cases d5 : B a < 16
          · (simp (disch := first | omega | (simp (disch := omega) only [w_lit, w_neg, w_add, w_sub, w_mul, w_lt, w_le, w_eq, w_clamp, w_in, not_true_eq_false, not_false_eq_true, Classical.not_not] <;> omega) | fail) only [↓if_pos, ↓if_neg, ↓bif_in, sbind, w_clamp])
            rfl
          · have d6 := d3 (by omega)
            (simp (disch := first | omega | (simp (disch := omega) only [w_lit, w_neg, w_add, w_sub, w_mul, w_lt, w_le, w_eq, w_clamp, w_in, not_true_eq_false, not_false_eq_true, Classical.not_not] <;> omega) | fail) only [↓if_pos, ↓if_neg, ↓bif_in, sbind, w_clamp])
            rfl
  · have c0' : s = true ∨ n ≤ a := by
      cases s
      · exact Or.inr (by simpa using c0)
      · exact Or.inl rfl
    rw [c_ahead_f L h c0', c_pass_f (v := 0) L h (Or.inl rfl), c_pass_f (v := 1) L h (Or.inr c0')]
    refine ⟨1, 0, a, true, _, _, ?_, ?_, h.stop, FI_up _ _ _ _, FJ_36 _ _, fun _ => rfl, fun z => by cases z⟩
    · simp only [sbind]
      cases z
      · simp only [bi_f]
        (simp (disch := first | omega | (simp (disch := omega) only [w_lit, w_neg, w_add, w_sub, w_mul, w_lt, w_le, w_eq, w_clamp, w_in, not_true_eq_false, not_false_eq_true, Classical.not_not] <;> omega) | fail) only [↓if_pos, ↓if_neg, ↓bif_in, sbind, w_clamp])
        rfl
      · simp only [bi_t]
        (simp (disch := first | omega | (simp (disch := omega) only [w_lit, w_neg, w_add, w_sub, w_mul, w_lt, w_le, w_eq, w_clamp, w_in, not_true_eq_false, not_false_eq_true, Classical.not_not] <;> omega) | fail) only [↓if_pos, ↓if_neg, ↓bif_in, sbind, w_clamp])
        rfl
    · cases s
      · have c6 : ¬ a < n := fun z => c0 ⟨rfl, z⟩
        cases z
        · simp only [bi_f]
          (simp only [w_lit, w_neg, w_add, w_sub, w_mul])
          (simp (disch := first | omega | (simp (disch := omega) only [w_lit, w_neg, w_add, w_sub, w_mul, w_lt, w_le, w_eq, w_clamp, w_in, not_true_eq_false, not_false_eq_true, Classical.not_not] <;> omega) | fail) only [↓if_pos, ↓if_neg, ↓bif_in, sbind, w_clamp])
          rfl
        · simp only [bi_f, bi_t]
          (simp only [w_lit, w_neg, w_add, w_sub, w_mul])
          (simp (disch := first | omega | (simp (disch := omega) only [w_lit, w_neg, w_add, w_sub, w_mul, w_lt, w_le, w_eq, w_clamp, w_in, not_true_eq_false, not_false_eq_true, Classical.not_not] <;> omega) | fail) only [↓if_pos, ↓if_neg, ↓bif_in, sbind, w_clamp])
          rfl
      · simp only [bi_t]
        rw [h.stop_s]
        (simp (disch := first | omega | (simp (disch := omega) only [w_lit, w_neg, w_add, w_sub, w_mul, w_lt, w_le, w_eq, w_clamp, w_in, not_true_eq_false, not_false_eq_true, Classical.not_not] <;> omega) | fail) only [↓if_pos, ↓if_neg, ↓bif_in, sbind, w_clamp])
        rfl
