/-! The classes of a FILE, read by both. -/
abbrev CDa (b : Bool) (nc c' : Nat) (I J : kjI) (p : Int) (f A : Nat) : Prop := (I (kb b 6) c' = w p) ∧ (J 63 c' = w p) ∧ (-1 ≤ p ∧ p < c') ∧ (I (kb b 7) c' = w f) ∧ (J 64 c' = w f) ∧ (f ≤ 8) ∧ (I (kb b 9) c' = w A) ∧ (A < 256) ∧ (p < 0 → A = 2 ^ c') ∧ (0 ≤ p → ∃ A' : Nat, I (kb b 9) p.toNat = w A' ∧ A' < 256 ∧ A = 2 ^ c' ||| A') ∧ (∀ i, i < f → ∃ t : Nat, I (kb b 8) (8 * c' + i) = w t ∧ J 65 (8 * c' + i) = w t ∧ tyOk nc false t)
theorem CDa.sup1 {b : Bool} {nc c' : Nat} {I J : kjI} {p : Int} {f A : Nat} (h : CDa b nc c' I J p f A) : I (kb b 6) c' = w p := h.1
theorem CDa.sup2 {b : Bool} {nc c' : Nat} {I J : kjI} {p : Int} {f A : Nat} (h : CDa b nc c' I J p f A) : J 63 c' = w p := h.2.1
theorem CDa.supr {b : Bool} {nc c' : Nat} {I J : kjI} {p : Int} {f A : Nat} (h : CDa b nc c' I J p f A) : -1 ≤ p ∧ p < c' := h.2.2.1
theorem CDa.fc1 {b : Bool} {nc c' : Nat} {I J : kjI} {p : Int} {f A : Nat} (h : CDa b nc c' I J p f A) : I (kb b 7) c' = w f := h.2.2.2.1
theorem CDa.fc2 {b : Bool} {nc c' : Nat} {I J : kjI} {p : Int} {f A : Nat} (h : CDa b nc c' I J p f A) : J 64 c' = w f := h.2.2.2.2.1
theorem CDa.fcr {b : Bool} {nc c' : Nat} {I J : kjI} {p : Int} {f A : Nat} (h : CDa b nc c' I J p f A) : f ≤ 8 := h.2.2.2.2.2.1
theorem CDa.ab {b : Bool} {nc c' : Nat} {I J : kjI} {p : Int} {f A : Nat} (h : CDa b nc c' I J p f A) : I (kb b 9) c' = w A := h.2.2.2.2.2.2.1
theorem CDa.abr {b : Bool} {nc c' : Nat} {I J : kjI} {p : Int} {f A : Nat} (h : CDa b nc c' I J p f A) : A < 256 := h.2.2.2.2.2.2.2.1
theorem CDa.ab0 {b : Bool} {nc c' : Nat} {I J : kjI} {p : Int} {f A : Nat} (h : CDa b nc c' I J p f A) : p < 0 → A = 2 ^ c' := h.2.2.2.2.2.2.2.2.1
theorem CDa.ab1 {b : Bool} {nc c' : Nat} {I J : kjI} {p : Int} {f A : Nat} (h : CDa b nc c' I J p f A) : 0 ≤ p → ∃ A' : Nat, I (kb b 9) p.toNat = w A' ∧ A' < 256 ∧ A = 2 ^ c' ||| A' := h.2.2.2.2.2.2.2.2.2.1
theorem CDa.ft {b : Bool} {nc c' : Nat} {I J : kjI} {p : Int} {f A : Nat} (h : CDa b nc c' I J p f A) : ∀ i, i < f → ∃ t : Nat, I (kb b 8) (8 * c' + i) = w t ∧ J 65 (8 * c' + i) = w t ∧ tyOk nc false t := h.2.2.2.2.2.2.2.2.2.2
def CD (b : Bool) (nc c : Nat) (I J : kjI) : Prop := ∀ c', c' < c → ∃ (p : Int) (f A : Nat), CDa b nc c' I J p f A
/-- copying, in KindJudge -/
theorem c_copy (b : Bool) (N : Nat) (L : kjL) (c p inh : Nat) (add : Int32) (hpc : p < c) (hc : c < 8) (hi : inh ≤ 8) : ∀ (k f m : Nat) (I : kjI), inh - f < m → inh - f = k → f ≤ inh → ∃ I', kf36_90 b N m (w c) (w p) (w inh) add (w f) I L = kf36_131 b N N (w c) (w inh) add (w inh) I' L ∧
    (∀ q j, ¬ (q = kb b 8 ∧ 8 * c + f ≤ j ∧ j < 8 * c + inh) → I' q j = I q j) ∧ (∀ i, f ≤ i → i < inh → I' (kb b 8) (8 * c + i) = I (kb b 8) (8 * p + i)) := by
  intro k
  induction k with
  | zero =>
    intro f m I hm hk hf
    obtain ⟨m, rfl⟩ : ∃ q, m = q + 1 := ⟨m - 1, by omega⟩
    refine ⟨I, ?_, fun _ _ _ => rfl, fun i h1 h2 => by omega⟩
    unfold kf36_90
    (simp (disch := first | omega | (simp (disch := omega) only [w_lit, w_neg, w_add, w_sub, w_mul, w_lt, w_le, w_eq, w_clamp, w_in, not_true_eq_false, not_false_eq_true, Classical.not_not] <;> omega) | fail) only [↓if_pos, ↓if_neg, ↓bif_in, sbind, w_clamp])
  | succ k ih =>
    intro f m I hm hk hf
    obtain ⟨m, rfl⟩ : ∃ q, m = q + 1 := ⟨m - 1, by omega⟩
    unfold kf36_90
    rw [if_neg (by (simp (disch := omega) only [w_lit, w_neg, w_add, w_sub, w_mul, w_lt, w_le, w_eq, w_clamp, w_in, not_true_eq_false, not_false_eq_true, Classical.not_not]); omega)]
    (simp only [w_lit, w_neg, w_add, w_sub, w_mul])
    rw [bif_in (by omega) (by decide), bif_in (by omega) (by decide), w_clamp (by omega), w_clamp (by omega)]
    have e1 : ((c : Int) * 8 + f).toNat = 8 * c + f := by omega
    have e2 : ((p : Int) * 8 + f).toNat = 8 * p + f := by omega
    rw [e1, e2, show ((f : Int) + 1) = ((f + 1 : Nat) : Int) by omega]
    obtain ⟨I', q1, q2, q3⟩ := ih (f + 1) m (mv_up I (kb b 8) (8 * c + f) (I (kb b 8) (8 * p + f))) (by omega) (by omega) (by omega)
    refine ⟨I', q1, ?_, ?_⟩
    · intro q j h
      rw [q2 q j (by omega)]
      by_cases hq : q = kb b 8
      · subst hq
        exact up_j (by omega)
      · exact up_k hq
    · intro i h1 h2
      by_cases hif : i = f
      · subst hif
        rw [q2 _ _ (by omega), up_eq]
      · rw [q3 i (by omega) h2]
        exact up_j (by omega)
/-- copying, in the reference -/
theorem m_copy (N : Nat) (L : kjL) (c p inh : Nat) (add : Int32) (hpc : p < c) (hc : c < 8) (hi : inh ≤ 8) : ∀ (k f m : Nat) (I : kjI), inh - f < m → inh - f = k → f ≤ inh → ∃ I', kf106_71 N m (w c) (w (p + 1 : Nat)) (w inh) add (w f) I L = kf106_112 N N (w c) (w inh) add (w inh) I' L ∧
    (∀ q j, ¬ (q = 65 ∧ 8 * c + f ≤ j ∧ j < 8 * c + inh) → I' q j = I q j) ∧ (∀ i, f ≤ i → i < inh → I' 65 (8 * c + i) = I 65 (8 * p + i)) := by
  intro k
  induction k with
  | zero =>
    intro f m I hm hk hf
    obtain ⟨m, rfl⟩ : ∃ q, m = q + 1 := ⟨m - 1, by omega⟩
    refine ⟨I, ?_, fun _ _ _ => rfl, fun i h1 h2 => by omega⟩
    unfold kf106_71
    (simp (disch := first | omega | (simp (disch := omega) only [w_lit, w_neg, w_add, w_sub, w_mul, w_lt, w_le, w_eq, w_clamp, w_in, not_true_eq_false, not_false_eq_true, Classical.not_not] <;> omega) | fail) only [↓if_pos, ↓if_neg, ↓bif_in, sbind, w_clamp])
  | succ k ih =>
    intro f m I hm hk hf
    obtain ⟨m, rfl⟩ : ∃ q, m = q + 1 := ⟨m - 1, by omega⟩
    unfold kf106_71
    rw [if_neg (by (simp (disch := omega) only [w_lit, w_neg, w_add, w_sub, w_mul, w_lt, w_le, w_eq, w_clamp, w_in, not_true_eq_false, not_false_eq_true, Classical.not_not]); omega)]
    (simp only [w_lit, w_neg, w_add, w_sub, w_mul])
    rw [bif_in (by omega) (by decide), bif_in (by omega) (by decide), w_clamp (by omega), w_clamp (by omega)]
    have e1 : (8 * (c : Int) + f).toNat = 8 * c + f := by omega
    have e2 : (8 * (((p + 1 : Nat) : Int) - 1) + f).toNat = 8 * p + f := by omega
    rw [e1, e2, show ((f : Int) + 1) = ((f + 1 : Nat) : Int) by omega]
    obtain ⟨I', q1, q2, q3⟩ := ih (f + 1) m (mv_up I 65 (8 * c + f) (I 65 (8 * p + f))) (by omega) (by omega) (by omega)
    refine ⟨I', q1, ?_, ?_⟩
    · intro q j h
      rw [q2 q j (by omega)]
      by_cases hq : q = 65
      · subst hq
        exact up_j (by omega)
      · exact up_k hq
    · intro i h1 h2
      by_cases hif : i = f
      · subst hif
        rw [q2 _ _ (by omega), up_eq]
      · rw [q3 i (by omega) h2]
        exact up_j (by omega)
theorem RR.keep {b : Bool} {n a : Nat} {s : Bool} {B : Nat → Nat} {I J I' J' : kjI} (h : RR b n a s B I J) (h1 : ∀ j, I' (kb b 2) j = I (kb b 2) j) (h2 : ∀ j, I' (kb b 3) j = I (kb b 3) j) (h3 : ∀ j, I' (kb b 23) j = I (kb b 23) j) (h4 : J' 59 5 = J 59 5 ∧ J' 59 35 = J 59 35 ∧ J' 59 36 = J 59 36) (h5 : ∀ j, J' 61 j = J 61 j) : RR b n a s B I' J' :=
  ⟨⟨h.row.1, by rw [h1]; exact h.row.2.1, fun i hi => by rw [h2]; exact h.row.2.2 i hi⟩, by rw [h4.1]; exact h.len, fun i hi => by rw [h5]; exact h.read i hi, h.le, by rw [h3]; exact h.at1, by rw [h4.2.1]; exact h.at2, by rw [h3]; exact h.st1, by rw [h4.2.2]; exact h.st2⟩
/-- the TYPES of fields that are added -/
theorem r_fields (b : Bool) (N : Nat) (L L' : kjL) (n : Nat) (B : Nat → Nat) (nc c inh add : Nat) (hnc : nc ≤ 8) (hc : c < 8) (hi : inh + add ≤ 8) : ∀ (k f m m' a : Nat) (s : Bool) (I J : kjI), inh + add - f < m → inh + add - f < m' → inh + add - f = k → f ≤ inh + add → RR b n a s B I J → I (kb b 5) 4 = w nc → J 59 12 = w nc →
    ∃ (I' J' : kjI) (a' : Nat) (s' : Bool), kf36_131 b N m (w c) (w inh) (w add) (w f) I L = some (I', L) ∧ kf106_112 N m' (w c) (w inh) (w add) (w f) J L' = some (J', L') ∧ RR b n a' s' B I' J' ∧ (s' = false → s = false) ∧
    (∀ q j, q ≠ kb b 23 → ¬ (q = kb b 8 ∧ 8 * c + f ≤ j ∧ j < 8 * c + (inh + add)) → I' q j = I q j) ∧ (∀ q j, ¬ (q = 59 ∧ (j = 35 ∨ j = 36)) → ¬ (q = 65 ∧ 8 * c + f ≤ j ∧ j < 8 * c + (inh + add)) → J' q j = J q j) ∧
    (s' = false → ∀ i, f ≤ i → i < inh + add → ∃ t : Nat, I' (kb b 8) (8 * c + i) = w t ∧ J' 65 (8 * c + i) = w t ∧ tyOk nc false t) := by
  intro k
  induction k with
  | zero =>
    intro f m m' a s I J hm hm' hk hf hR h1 h2
    obtain ⟨m, rfl⟩ : ∃ q, m = q + 1 := ⟨m - 1, by omega⟩
    obtain ⟨m', rfl⟩ : ∃ q, m' = q + 1 := ⟨m' - 1, by omega⟩
    refine ⟨I, J, a, s, ?_, ?_, hR, fun z => z, fun _ _ _ _ => rfl, fun _ _ _ _ => rfl, fun _ i h1 h2 => by omega⟩
    · unfold kf36_131
      (simp only [w_lit, w_neg, w_add, w_sub, w_mul])
      (simp (disch := first | omega | (simp (disch := omega) only [w_lit, w_neg, w_add, w_sub, w_mul, w_lt, w_le, w_eq, w_clamp, w_in, not_true_eq_false, not_false_eq_true, Classical.not_not] <;> omega) | fail) only [↓if_pos, ↓if_neg, ↓bif_in, sbind, w_clamp])
    · unfold kf106_112
      (simp only [w_lit, w_neg, w_add, w_sub, w_mul])
      (simp (disch := first | omega | (simp (disch := omega) only [w_lit, w_neg, w_add, w_sub, w_mul, w_lt, w_le, w_eq, w_clamp, w_in, not_true_eq_false, not_false_eq_true, Classical.not_not] <;> omega) | fail) only [↓if_pos, ↓if_neg, ↓bif_in, sbind, w_clamp])
  | succ k ih =>
    intro f m m' a s I J hm hm' hk hf hR h1 h2
    obtain ⟨m, rfl⟩ : ∃ q, m = q + 1 := ⟨m - 1, by omega⟩
    obtain ⟨m', rfl⟩ : ∃ q, m' = q + 1 := ⟨m' - 1, by omega⟩
    unfold kf36_131 kf106_112
    obtain ⟨v, v', a1, s1, I1, J1, g1, g2, g3, g4, g5, g6, g7⟩ := r_type L L' hR hnc h2 false
    have e0 : (0 : Int32) = w (bi false) := rfl
    rw [if_neg (by (simp only [w_lit, w_neg, w_add, w_sub, w_mul]); (simp (disch := omega) only [w_lit, w_neg, w_add, w_sub, w_mul, w_lt, w_le, w_eq, w_clamp, w_in, not_true_eq_false, not_false_eq_true, Classical.not_not]); omega), if_neg (by (simp only [w_lit, w_neg, w_add, w_sub, w_mul]); (simp (disch := omega) only [w_lit, w_neg, w_add, w_sub, w_mul, w_lt, w_le, w_eq, w_clamp, w_in, not_true_eq_false, not_false_eq_true, Classical.not_not]); omega), h1, e0, g1, g2]
    simp only [sbind]
    (simp only [w_lit, w_neg, w_add, w_sub, w_mul])
    rw [bif_in (by omega) (by decide), bif_in (by omega) (by decide), w_clamp (by omega), w_clamp (by omega)]
    have e1 : ((c : Int) * 8 + f).toNat = 8 * c + f := by omega
    have e2 : (8 * (c : Int) + f).toNat = 8 * c + f := by omega
    rw [e1, e2, show ((f : Int) + 1) = ((f + 1 : Nat) : Int) by omega]
    have hR1 : RR b n a1 s1 B (mv_up I1 (kb b 8) (8 * c + f) (w v)) (mv_up J1 65 (8 * c + f) (w v')) := g3.keep (fun j => by (simp (disch := first | (apply kb_ne; omega) | omega | (apply kb_59; omega) | (apply kb_59'; omega) | fail) only [up_eq, up_k, up_j])) (fun j => by (simp (disch := first | (apply kb_ne; omega) | omega | (apply kb_59; omega) | (apply kb_59'; omega) | fail) only [up_eq, up_k, up_j])) (fun j => by (simp (disch := first | (apply kb_ne; omega) | omega | (apply kb_59; omega) | (apply kb_59'; omega) | fail) only [up_eq, up_k, up_j])) ⟨by (simp (disch := first | (apply kb_ne; omega) | omega | (apply kb_59; omega) | (apply kb_59'; omega) | fail) only [up_eq, up_k, up_j]), by (simp (disch := first | (apply kb_ne; omega) | omega | (apply kb_59; omega) | (apply kb_59'; omega) | fail) only [up_eq, up_k, up_j]), by (simp (disch := first | (apply kb_ne; omega) | omega | (apply kb_59; omega) | (apply kb_59'; omega) | fail) only [up_eq, up_k, up_j])⟩ (fun j => by (simp (disch := first | (apply kb_ne; omega) | omega | (apply kb_59; omega) | (apply kb_59'; omega) | fail) only [up_eq, up_k, up_j]))
    obtain ⟨I', J', a', s', q1, q2, q3, q4, q5, q6, q7⟩ := ih (f + 1) m m' a1 s1 _ _ (by omega) (by omega) (by omega) (by omega) hR1 (by (simp (disch := first | (apply kb_ne; omega) | omega | (apply kb_59; omega) | (apply kb_59'; omega) | fail) only [up_eq, up_k, up_j]); rw [g4 _ _ (kb_ne (by decide))]; exact h1) (by (simp (disch := first | (apply kb_ne; omega) | omega | (apply kb_59; omega) | (apply kb_59'; omega) | fail) only [up_eq, up_k, up_j]); rw [g5 _ _ (by omega)]; exact h2)
    refine ⟨I', J', a', s', q1, q2, q3, fun z => (g7 (q4 z)).1, ?_, ?_, ?_⟩
    · intro q j h3 h4
      rw [q5 q j h3 (by omega)]
      by_cases hq : q = kb b 8
      · subst hq
        rw [up_j (by omega), g4 _ _ h3]
      · rw [up_k hq, g4 _ _ h3]
    · intro q j h3 h4
      rw [q6 q j h3 (by omega)]
      by_cases hq : q = 65
      · subst hq
        rw [up_j (by omega), g5 _ _ h3]
      · rw [up_k hq, g5 _ _ h3]
    · intro hs i h3 h4
      by_cases hif : i = f
      · subst hif
        obtain ⟨-, -, -, -, rfl, ht⟩ := g7 (q4 hs)
        exact ⟨v', by rw [q5 _ _ (kb_ne (by decide)) (by omega), up_eq], by rw [q6 _ _ (by omega) (by omega), up_eq], ht⟩
      · exact q7 hs i (by omega) h4
theorem w_bv (a : Nat) : (w a).toBitVec = BitVec.ofNat 32 a := by
  unfold w
  rw [Int32.ofInt_eq_ofNat]
  rfl
theorem w_or (a b : Nat) : w a ||| w b = w (a ||| b : Nat) := by
  apply Int32.toBitVec_inj.mp
  rw [Int32.toBitVec_or, w_bv, w_bv, w_bv, BitVec.ofNat_or]
theorem w_shl (c : Nat) (hc : c < 8) : (1 : Int32) <<< (w c &&& 31) = w (2 ^ c : Nat) := by
  have : c = 0 ∨ c = 1 ∨ c = 2 ∨ c = 3 ∨ c = 4 ∨ c = 5 ∨ c = 6 ∨ c = 7 := by omega
  rcases this with rfl | rfl | rfl | rfl | rfl | rfl | rfl | rfl <;> decide
theorem pow8 (c : Nat) (hc : c < 8) : 2 ^ c < 256 := by
  calc 2 ^ c < 2 ^ 8 := Nat.pow_lt_pow_right (by decide) hc
    _ = 256 := by decide
theorem or8 {a b : Nat} (ha : a < 256) (hb : b < 256) : a ||| b < 256 := Nat.or_lt_two_pow (n := 8) ha hb
def FC (b : Bool) (c : Nat) (I I' : kjI) : Prop := ∀ q j, q ≠ kb b 23 → ¬ ((q = kb b 6 ∨ q = kb b 7 ∨ q = kb b 9) ∧ j = c) → ¬ (q = kb b 8 ∧ 8 * c ≤ j ∧ j < 8 * c + 8) → I' q j = I q j
def FM (c : Nat) (J J' : kjI) : Prop := ∀ q j, ¬ (q = 59 ∧ (j = 35 ∨ j = 36)) → ¬ ((q = 63 ∨ q = 64) ∧ j = c) → ¬ (q = 65 ∧ 8 * c ≤ j ∧ j < 8 * c + 8) → J' q j = J q j
/-- what both do behind the number of own fields -/
theorem r_class3 (b : Bool) (N : Nat) (hN : 100 ≤ N) (L L' : kjL) {n a : Nat} {s : Bool} {B : Nat → Nat} {I J : kjI} (h : RR b n a s B I J) {nc c : Nat} (hnc : nc ≤ 8) (hc : c < 8) (h1 : I (kb b 5) 4 = w nc) (h2 : J 59 12 = w nc) {p : Int} {inh add : Nat} (hp : -1 ≤ p ∧ p < c) (hi : inh + add ≤ 8) (hp0 : p < 0 → inh = 0) :
    ∃ (I' J' : kjI) (a' : Nat) (s' : Bool), kf36_87 b N (w c) (w p) (w inh) (w add) I L = some (I', L) ∧ kf106_71 N N (w c) (w (p + 1)) (w inh) (w add) (w 0) J L' = some (J', L') ∧ RR b n a' s' B I' J' ∧ (s' = false → s = false) ∧
    (∀ q j, q ≠ kb b 23 → ¬ (q = kb b 8 ∧ 8 * c ≤ j ∧ j < 8 * c + 8) → I' q j = I q j) ∧ (∀ q j, ¬ (q = 59 ∧ (j = 35 ∨ j = 36)) → ¬ (q = 65 ∧ 8 * c ≤ j ∧ j < 8 * c + 8) → J' q j = J q j) ∧
    (∀ i, i < inh → I' (kb b 8) (8 * c + i) = I (kb b 8) (8 * p.toNat + i) ∧ J' 65 (8 * c + i) = J 65 (8 * p.toNat + i)) ∧
    (s' = false → ∀ i, inh ≤ i → i < inh + add → ∃ t : Nat, I' (kb b 8) (8 * c + i) = w t ∧ J' 65 (8 * c + i) = w t ∧ tyOk nc false t) := by
  have key : ∃ I1 J1 : kjI, kf36_90 b N N (w c) (w p) (w inh) (w add) (w 0) I L = kf36_131 b N N (w c) (w inh) (w add) (w inh) I1 L ∧ kf106_71 N N (w c) (w (p + 1)) (w inh) (w add) (w 0) J L' = kf106_112 N N (w c) (w inh) (w add) (w inh) J1 L' ∧
      (∀ q j, ¬ (q = kb b 8 ∧ 8 * c ≤ j ∧ j < 8 * c + inh) → I1 q j = I q j) ∧ (∀ i, i < inh → I1 (kb b 8) (8 * c + i) = I (kb b 8) (8 * p.toNat + i)) ∧
      (∀ q j, ¬ (q = 65 ∧ 8 * c ≤ j ∧ j < 8 * c + inh) → J1 q j = J q j) ∧ (∀ i, i < inh → J1 65 (8 * c + i) = J 65 (8 * p.toNat + i)) := by
    by_cases hp1 : p < 0
    · have hz := hp0 hp1
      subst hz
      obtain ⟨N, rfl⟩ : ∃ q, N = q + 1 := ⟨N - 1, by omega⟩
      refine ⟨I, J, ?_, ?_, fun _ _ _ => rfl, fun i hi => by omega, fun _ _ _ => rfl, fun i hi => by omega⟩
      · conv => lhs; unfold kf36_90
        (simp (disch := first | omega | (simp (disch := omega) only [w_lit, w_neg, w_add, w_sub, w_mul, w_lt, w_le, w_eq, w_clamp, w_in, not_true_eq_false, not_false_eq_true, Classical.not_not] <;> omega) | fail) only [↓if_pos, ↓if_neg, ↓bif_in, sbind, w_clamp])
      · conv => lhs; unfold kf106_71
        (simp (disch := first | omega | (simp (disch := omega) only [w_lit, w_neg, w_add, w_sub, w_mul, w_lt, w_le, w_eq, w_clamp, w_in, not_true_eq_false, not_false_eq_true, Classical.not_not] <;> omega) | fail) only [↓if_pos, ↓if_neg, ↓bif_in, sbind, w_clamp])
    · obtain ⟨k, rfl⟩ : ∃ k : Nat, p = k := ⟨p.toNat, by omega⟩
      obtain ⟨I1, g1, g2, g3⟩ := c_copy b N L c k inh (w add) (by omega) hc (by omega) (inh - 0) 0 N I (by omega) rfl (by omega)
      obtain ⟨J1, g4, g5, g6⟩ := m_copy N L' c k inh (w add) (by omega) hc (by omega) (inh - 0) 0 N J (by omega) rfl (by omega)
      refine ⟨I1, J1, g1, ?_, fun q j hq => g2 q j (by omega), fun i hi => ?_, fun q j hq => g5 q j (by omega), fun i hi => ?_⟩
      · rw [show ((k : Int) + 1) = ((k + 1 : Nat) : Int) by omega]
        exact g4
      · rw [g3 i (by omega) hi, Int.toNat_natCast]
      · rw [g6 i (by omega) hi, Int.toNat_natCast]
  obtain ⟨I1, J1, g1, g2, g3, g4, g5, g6⟩ := key
  have hR1 : RR b n a s B I1 J1 := h.keep (fun j => g3 _ _ (fun z => kb_ne (by decide) z.1)) (fun j => g3 _ _ (fun z => kb_ne (by decide) z.1)) (fun j => g3 _ _ (fun z => kb_ne (by decide) z.1)) ⟨g5 _ _ (by omega), g5 _ _ (by omega), g5 _ _ (by omega)⟩ (fun j => g5 _ _ (by omega))
  obtain ⟨I', J', a', s', q1, q2, q3, q4, q5, q6, q7⟩ := r_fields b N L L' n B nc c inh add hnc hc hi (inh + add - inh) inh N N a s I1 J1 (by omega) (by omega) rfl (by omega) hR1 (by rw [g3 _ _ (fun z => kb_ne (by decide) z.1)]; exact h1) (by rw [g5 _ _ (by omega)]; exact h2)
  refine ⟨I', J', a', s', ?_, ?_, q3, q4, ?_, ?_, ?_, q7⟩
  · unfold kf36_87
    have e0 : (0 : Int32) = w 0 := rfl
    rw [e0, g1, q1]
  · rw [g2, q2]
  · intro q j e1 e2
    rw [q5 q j e1 (by omega), g3 q j (by omega)]
  · intro q j e1 e2
    rw [q6 q j e1 (by omega), g5 q j (by omega)]
  · intro i hi
    rw [q5 _ _ (kb_ne (by decide)) (by omega), q6 _ _ (by omega) (by omega)]
    exact ⟨g4 i hi, g6 i hi⟩
/-- what both do behind the SUPER -/
theorem r_class2 (b : Bool) (N : Nat) (hN : 100 ≤ N) (L L' : kjL) {n a : Nat} {s : Bool} {B : Nat → Nat} {I J : kjI} (h : RR b n a s B I J) {nc c : Nat} (hnc : nc ≤ 8) (hc : c < 8) (h1 : I (kb b 5) 4 = w nc) (h2 : J 59 12 = w nc) {p : Int} {inh : Nat} (hp : -1 ≤ p ∧ p < c) (hi : inh ≤ 8) (hp0 : p < 0 → inh = 0) (hA : 0 ≤ p → ∃ A' : Nat, A' < 256 ∧ I (kb b 9) p.toNat = w A') :
    ∃ (I' J' : kjI) (a' : Nat) (s' : Bool) (add A : Nat), kf36_23 b N (w c) (w p) (w inh) I L = some (I', L) ∧ kf106_32 N (w c) (w (p + 1)) (w inh) J L' = some (J', L') ∧ RR b n a' s' B I' J' ∧ (s' = false → s = false) ∧ inh + add ≤ 8 ∧
    FC b c I I' ∧ (∀ q j, ¬ (q = 59 ∧ (j = 35 ∨ j = 36)) → ¬ (q = 64 ∧ j = c) → ¬ (q = 65 ∧ 8 * c ≤ j ∧ j < 8 * c + 8) → J' q j = J q j) ∧
    I' (kb b 6) c = w p ∧ I' (kb b 7) c = w (inh + add : Nat) ∧ J' 64 c = w (inh + add : Nat) ∧ I' (kb b 9) c = w A ∧ A < 256 ∧ (p < 0 → A = 2 ^ c) ∧ (0 ≤ p → ∃ A' : Nat, I (kb b 9) p.toNat = w A' ∧ A' < 256 ∧ A = 2 ^ c ||| A') ∧
    (∀ i, i < inh → I' (kb b 8) (8 * c + i) = I (kb b 8) (8 * p.toNat + i) ∧ J' 65 (8 * c + i) = J 65 (8 * p.toNat + i)) ∧
    (s' = false → ∀ i, inh ≤ i → i < inh + add → ∃ t : Nat, I' (kb b 8) (8 * c + i) = w t ∧ J' 65 (8 * c + i) = w t ∧ tyOk nc false t) := by
  have hmin : ∃ hi2 : Int, (0 ≤ hi2 ∧ hi2 ≤ 4 ∧ inh + hi2 ≤ 8) ∧ (if ((8 : Int32) - w inh) < (4 : Int32) then ((8 : Int32) - w inh) else (4 : Int32)) = w hi2 ∧ kf106_32 N (w c) (w (p + 1)) (w inh) J L' = kf106_53 N (w c) (w (p + 1)) (w inh) (w 0) (w hi2) J L' := by
    by_cases c1 : (8 : Int) - inh < 4
    · refine ⟨8 - inh, by omega, ?_, ?_⟩
      · rw [if_pos (by (simp (disch := omega) only [w_lit, w_neg, w_add, w_sub, w_mul, w_lt, w_le, w_eq, w_clamp, w_in, not_true_eq_false, not_false_eq_true, Classical.not_not]); exact c1)]
        (simp only [w_lit, w_neg, w_add, w_sub, w_mul])
      · unfold kf106_32
        rw [if_neg (by (simp (disch := omega) only [w_lit, w_neg, w_add, w_sub, w_mul, w_lt, w_le, w_eq, w_clamp, w_in, not_true_eq_false, not_false_eq_true, Classical.not_not]); omega)]
        (simp only [w_lit, w_neg, w_add, w_sub, w_mul])
    · refine ⟨4, by omega, ?_, ?_⟩
      · rw [if_neg (by (simp (disch := omega) only [w_lit, w_neg, w_add, w_sub, w_mul, w_lt, w_le, w_eq, w_clamp, w_in, not_true_eq_false, not_false_eq_true, Classical.not_not]); exact c1)]
        (simp only [w_lit, w_neg, w_add, w_sub, w_mul])
      · unfold kf106_32
        rw [if_pos (by (simp (disch := omega) only [w_lit, w_neg, w_add, w_sub, w_mul, w_lt, w_le, w_eq, w_clamp, w_in, not_true_eq_false, not_false_eq_true, Classical.not_not]); omega)]
        (simp only [w_lit, w_neg, w_add, w_sub, w_mul])
  obtain ⟨hi2, ⟨m1, m2, m3⟩, m4, m5⟩ := hmin
  obtain ⟨v, a1, s1, I1, J1, g1, g2, g3, g4, g5, g6, g7, g8, g9⟩ := r_num L L' h (lo := 0) (hi := hi2) (by omega)
  have hv : w (if s1 then 0 else (v : Int)) = w v := by
    cases s1
    · rfl
    · have := (g8 rfl).1
      simp [this]
  rw [hv] at g2
  rw [m5]
  unfold kf36_23 kf106_53
  have e0 : (0 : Int32) = w 0 := rfl
  rw [m4, e0, g1, g2]
  simp only [sbind, w_add]
  rw [w_in_t (n := 8) (show (0:Int) ≤ c ∧ (c:Int) < (8:Nat) by omega)]
  simp only [cond_true]
  rw [w_clamp (by omega), Int.toNat_natCast, w_shl c hc, show ((inh : Int) + v) = ((inh + v : Nat) : Int) by omega]
  by_cases hp1 : p < 0
  · rw [if_pos (by rw [← e0]; (simp (disch := omega) only [w_lit, w_neg, w_add, w_sub, w_mul, w_lt, w_le, w_eq, w_clamp, w_in, not_true_eq_false, not_false_eq_true, Classical.not_not]); exact hp1)]
    have hR1 : RR b n a1 s1 B (mv_up (mv_up (mv_up I1 (kb b 6) c (w p)) (kb b 7) c (w (inh + v : Nat))) (kb b 9) c (w (2 ^ c : Nat))) (mv_up J1 64 c (w (inh + v : Nat))) := g3.keep (fun j => by (simp (disch := first | (apply kb_ne; omega) | omega | (apply kb_59; omega) | (apply kb_59'; omega) | fail) only [up_eq, up_k, up_j])) (fun j => by (simp (disch := first | (apply kb_ne; omega) | omega | (apply kb_59; omega) | (apply kb_59'; omega) | fail) only [up_eq, up_k, up_j])) (fun j => by (simp (disch := first | (apply kb_ne; omega) | omega | (apply kb_59; omega) | (apply kb_59'; omega) | fail) only [up_eq, up_k, up_j])) ⟨by (simp (disch := first | (apply kb_ne; omega) | omega | (apply kb_59; omega) | (apply kb_59'; omega) | fail) only [up_eq, up_k, up_j]), by (simp (disch := first | (apply kb_ne; omega) | omega | (apply kb_59; omega) | (apply kb_59'; omega) | fail) only [up_eq, up_k, up_j]), by (simp (disch := first | (apply kb_ne; omega) | omega | (apply kb_59; omega) | (apply kb_59'; omega) | fail) only [up_eq, up_k, up_j])⟩ (fun j => by (simp (disch := first | (apply kb_ne; omega) | omega | (apply kb_59; omega) | (apply kb_59'; omega) | fail) only [up_eq, up_k, up_j]))
    obtain ⟨I', J', a', s', q1, q2, q3, q4, q5, q6, q7, q8⟩ := r_class3 b N hN L L' hR1 hnc hc (by (simp (disch := first | (apply kb_ne; omega) | omega | (apply kb_59; omega) | (apply kb_59'; omega) | fail) only [up_eq, up_k, up_j]); rw [g4 _ _ (kb_ne (by decide))]; exact h1) (by (simp (disch := first | (apply kb_ne; omega) | omega | (apply kb_59; omega) | (apply kb_59'; omega) | fail) only [up_eq, up_k, up_j]); rw [g5 _ _ (by omega)]; exact h2) hp (add := v) (by omega) hp0
    refine ⟨I', J', a', s', v, 2 ^ c, q1, q2, q3, fun z => (g9 (q4 z)).1, by omega, ?_, ?_, ?_, ?_, ?_, ?_, pow8 c hc, fun _ => rfl, fun z => by omega, ?_, q8⟩
    · intro q j d1 d2 d3
      rw [q5 q j d1 d3, up3_ne (by omega), g4 q j d1]
    · intro q j d1 d2 d3
      rw [q6 q j d1 d3, up1_ne (by omega), g5 q j d1]
    · rw [q5 _ _ (kb_ne (by decide)) (fun z => kb_ne (by decide) z.1)]
      (simp (disch := first | (apply kb_ne; omega) | omega | (apply kb_59; omega) | (apply kb_59'; omega) | fail) only [up_eq, up_k, up_j])
    · rw [q5 _ _ (kb_ne (by decide)) (fun z => kb_ne (by decide) z.1)]
      (simp (disch := first | (apply kb_ne; omega) | omega | (apply kb_59; omega) | (apply kb_59'; omega) | fail) only [up_eq, up_k, up_j])
    · rw [q6 _ _ (by omega) (by omega)]
      (simp (disch := first | (apply kb_ne; omega) | omega | (apply kb_59; omega) | (apply kb_59'; omega) | fail) only [up_eq, up_k, up_j])
    · rw [q5 _ _ (kb_ne (by decide)) (fun z => kb_ne (by decide) z.1)]
      (simp (disch := first | (apply kb_ne; omega) | omega | (apply kb_59; omega) | (apply kb_59'; omega) | fail) only [up_eq, up_k, up_j])
    · intro i hi
      rw [(q7 i hi).1, (q7 i hi).2]
      (simp (disch := first | (apply kb_ne; omega) | omega | (apply kb_59; omega) | (apply kb_59'; omega) | fail) only [up_eq, up_k, up_j])
      exact ⟨g4 _ _ (kb_ne (by decide)), g5 _ _ (by omega)⟩
  · rw [if_neg (by rw [← e0]; (simp (disch := omega) only [w_lit, w_neg, w_add, w_sub, w_mul, w_lt, w_le, w_eq, w_clamp, w_in, not_true_eq_false, not_false_eq_true, Classical.not_not]); exact hp1)]
    obtain ⟨A', hA1, hA2⟩ := hA (by omega)
    have hA3 : I1 (kb b 9) p.toNat = w A' := by rw [g4 _ _ (kb_ne (by decide))]; exact hA2
    rw [bif_in (by omega) (by decide), w_clamp (by omega)]
    (simp (disch := first | (apply kb_ne; omega) | omega | (apply kb_59; omega) | (apply kb_59'; omega) | fail) only [up_eq, up_k, up_j])
    rw [hA3, w_or]
    have hR1 : RR b n a1 s1 B (mv_up (mv_up (mv_up (mv_up I1 (kb b 6) c (w p)) (kb b 7) c (w (inh + v : Nat))) (kb b 9) c (w (2 ^ c : Nat))) (kb b 9) c (w (2 ^ c ||| A' : Nat))) (mv_up J1 64 c (w (inh + v : Nat))) := g3.keep (fun j => by (simp (disch := first | (apply kb_ne; omega) | omega | (apply kb_59; omega) | (apply kb_59'; omega) | fail) only [up_eq, up_k, up_j])) (fun j => by (simp (disch := first | (apply kb_ne; omega) | omega | (apply kb_59; omega) | (apply kb_59'; omega) | fail) only [up_eq, up_k, up_j])) (fun j => by (simp (disch := first | (apply kb_ne; omega) | omega | (apply kb_59; omega) | (apply kb_59'; omega) | fail) only [up_eq, up_k, up_j])) ⟨by (simp (disch := first | (apply kb_ne; omega) | omega | (apply kb_59; omega) | (apply kb_59'; omega) | fail) only [up_eq, up_k, up_j]), by (simp (disch := first | (apply kb_ne; omega) | omega | (apply kb_59; omega) | (apply kb_59'; omega) | fail) only [up_eq, up_k, up_j]), by (simp (disch := first | (apply kb_ne; omega) | omega | (apply kb_59; omega) | (apply kb_59'; omega) | fail) only [up_eq, up_k, up_j])⟩ (fun j => by (simp (disch := first | (apply kb_ne; omega) | omega | (apply kb_59; omega) | (apply kb_59'; omega) | fail) only [up_eq, up_k, up_j]))
    obtain ⟨I', J', a', s', q1, q2, q3, q4, q5, q6, q7, q8⟩ := r_class3 b N hN L L' hR1 hnc hc (by (simp (disch := first | (apply kb_ne; omega) | omega | (apply kb_59; omega) | (apply kb_59'; omega) | fail) only [up_eq, up_k, up_j]); rw [g4 _ _ (kb_ne (by decide))]; exact h1) (by (simp (disch := first | (apply kb_ne; omega) | omega | (apply kb_59; omega) | (apply kb_59'; omega) | fail) only [up_eq, up_k, up_j]); rw [g5 _ _ (by omega)]; exact h2) hp (add := v) (by omega) hp0
    refine ⟨I', J', a', s', v, 2 ^ c ||| A', q1, q2, q3, fun z => (g9 (q4 z)).1, by omega, ?_, ?_, ?_, ?_, ?_, ?_, or8 (pow8 c hc) hA1, fun z => by omega, fun z => ⟨A', hA2, hA1, rfl⟩, ?_, q8⟩
    · intro q j d1 d2 d3
      rw [q5 q j d1 d3, up1_ne (by omega), up3_ne (by omega), g4 q j d1]
    · intro q j d1 d2 d3
      rw [q6 q j d1 d3, up1_ne (by omega), g5 q j d1]
    · rw [q5 _ _ (kb_ne (by decide)) (fun z => kb_ne (by decide) z.1)]
      (simp (disch := first | (apply kb_ne; omega) | omega | (apply kb_59; omega) | (apply kb_59'; omega) | fail) only [up_eq, up_k, up_j])
    · rw [q5 _ _ (kb_ne (by decide)) (fun z => kb_ne (by decide) z.1)]
      (simp (disch := first | (apply kb_ne; omega) | omega | (apply kb_59; omega) | (apply kb_59'; omega) | fail) only [up_eq, up_k, up_j])
    · rw [q6 _ _ (by omega) (by omega)]
      (simp (disch := first | (apply kb_ne; omega) | omega | (apply kb_59; omega) | (apply kb_59'; omega) | fail) only [up_eq, up_k, up_j])
    · rw [q5 _ _ (kb_ne (by decide)) (fun z => kb_ne (by decide) z.1)]
      (simp (disch := first | (apply kb_ne; omega) | omega | (apply kb_59; omega) | (apply kb_59'; omega) | fail) only [up_eq, up_k, up_j])
    · intro i hi
      rw [(q7 i hi).1, (q7 i hi).2]
      (simp (disch := first | (apply kb_ne; omega) | omega | (apply kb_59; omega) | (apply kb_59'; omega) | fail) only [up_eq, up_k, up_j])
      exact ⟨g4 _ _ (kb_ne (by decide)), g5 _ _ (by omega)⟩
theorem CDa.keep {b : Bool} {nc c' : Nat} {I J I' J' : kjI} {p : Int} {f A : Nat} (h : CDa b nc c' I J p f A) {c : Nat} (hc : c' < c) (h1 : FC b c I I') (h2 : FM c J J') : CDa b nc c' I' J' p f A := by
  have hr := h.supr
  have hf := h.fcr
  refine ⟨?_, ?_, hr, ?_, ?_, hf, ?_, h.abr, h.ab0, ?_, ?_⟩
  · rw [h1 _ _ (kb_ne (by decide)) (by omega) (fun z => kb_ne (by decide) z.1)]; exact h.sup1
  · rw [h2 _ _ (by omega) (by omega) (by omega)]; exact h.sup2
  · rw [h1 _ _ (kb_ne (by decide)) (by omega) (fun z => kb_ne (by decide) z.1)]; exact h.fc1
  · rw [h2 _ _ (by omega) (by omega) (by omega)]; exact h.fc2
  · rw [h1 _ _ (kb_ne (by decide)) (by omega) (fun z => kb_ne (by decide) z.1)]; exact h.ab
  · intro hp
    obtain ⟨A', q1, q2, q3⟩ := h.ab1 hp
    refine ⟨A', ?_, q2, q3⟩
    rw [h1 _ _ (kb_ne (by decide)) (by omega) (fun z => kb_ne (by decide) z.1)]
    exact q1
  · intro i hi
    obtain ⟨t, q1, q2, q3⟩ := h.ft i hi
    refine ⟨t, ?_, ?_, q3⟩
    · rw [h1 _ _ (kb_ne (by decide)) (fun z => by rcases z.1 with z | z | z <;> exact absurd z (kb_ne (by decide))) (by omega)]
      exact q1
    · rw [h2 _ _ (by omega) (by omega) (by omega)]
      exact q2
theorem r_class (b : Bool) (N : Nat) (hN : 100 ≤ N) (L L' : kjL) {n a : Nat} {B : Nat → Nat} {I J : kjI} (h : RR b n a false B I J) {nc c : Nat} (hnc : nc ≤ 8) (hc : c < nc) (h1 : I (kb b 5) 4 = w nc) (h2 : J 59 12 = w nc) (hD : CD b nc c I J) :
    ∃ (I' J' : kjI) (a' : Nat) (s' : Bool), kf36 b N (w c) I L = some (I', L) ∧ kf106 N (w c) J L' = some (J', L') ∧ RR b n a' s' B I' J' ∧ FC b c I I' ∧ FM c J J' ∧ (s' = false → CD b nc (c + 1) I' J') := by
  obtain ⟨v, a1, s1, I1, J1, g1, g2, g3, g4, g5, g6, g7, g8, g9⟩ := r_num L L' h (lo := 0) (hi := c) (by omega)
  have hv : w (if s1 then 0 else (v : Int)) = w v := by
    cases s1
    · rfl
    · have := (g8 rfl).1
      simp [this]
  rw [hv] at g2
  unfold kf36 kf106
  have e0 : (0 : Int32) = w 0 := rfl
  rw [e0, g1, g2]
  simp only [sbind]
  (simp only [w_lit, w_neg, w_add, w_sub, w_mul])
  rw [bif_in (a := (c : Int)) (by omega) (by decide), w_clamp (a := (c : Int)) (by omega), Int.toNat_natCast]
  -- the inherited ones
  have key : ∃ inh : Nat, inh ≤ 8 ∧ ((v : Int) - 1 < 0 → inh = 0) ∧ ((0 : Int) ≤ (v : Int) - 1 → ∃ A' : Nat, A' < 256 ∧ I1 (kb b 9) ((v : Int) - 1).toNat = w A') ∧
      (∀ i, i < inh → ∃ t : Nat, I1 (kb b 8) (8 * ((v : Int) - 1).toNat + i) = w t ∧ J1 65 (8 * ((v : Int) - 1).toNat + i) = w t ∧ tyOk nc false t) ∧
      (if w ((v : Int) - 1) < w 0 then kf36_23 b N (w c) (w ((v : Int) - 1)) (w 0) I1 L else bif mv_in (w ((v : Int) - 1)) 8 then kf36_23 b N (w c) (w ((v : Int) - 1)) (I1 (kb b 7) (w ((v : Int) - 1)).toNatClampNeg) I1 L else none) = kf36_23 b N (w c) (w ((v : Int) - 1)) (w inh) I1 L ∧
      (if ¬ w v = w 0 then bif mv_in (w ((v : Int) - 1)) 8 then kf106_32 N (w c) (w v) (mv_up J1 63 c (w ((v : Int) - 1)) 64 (w ((v : Int) - 1)).toNatClampNeg) (mv_up J1 63 c (w ((v : Int) - 1))) L' else none else kf106_32 N (w c) (w v) (w 0) (mv_up J1 63 c (w ((v : Int) - 1))) L') = kf106_32 N (w c) (w v) (w inh) (mv_up J1 63 c (w ((v : Int) - 1))) L' := by
    by_cases hv0 : v = 0
    · refine ⟨0, by omega, fun _ => rfl, fun z => by omega, fun i hi => by omega, ?_, ?_⟩
      · rw [if_pos (by (simp (disch := omega) only [w_lit, w_neg, w_add, w_sub, w_mul, w_lt, w_le, w_eq, w_clamp, w_in, not_true_eq_false, not_false_eq_true, Classical.not_not]); omega)]
        rfl
      · rw [if_neg (by (simp (disch := omega) only [w_lit, w_neg, w_add, w_sub, w_mul, w_lt, w_le, w_eq, w_clamp, w_in, not_true_eq_false, not_false_eq_true, Classical.not_not]); omega)]
        rfl
    · obtain ⟨p, f, A, hA⟩ := hD (v - 1) (by omega)
      have e1 : ((v : Int) - 1).toNat = v - 1 := by omega
      refine ⟨f, hA.fcr, fun z => by omega, fun z => ⟨A, hA.abr, ?_⟩, fun i hi => ?_, ?_, ?_⟩
      · rw [e1, g4 _ _ (kb_ne (by decide))]
        exact hA.ab
      · rw [e1, g4 _ _ (kb_ne (by decide)), g5 _ _ (by omega)]
        exact hA.ft i hi
      · rw [if_neg (by (simp (disch := omega) only [w_lit, w_neg, w_add, w_sub, w_mul, w_lt, w_le, w_eq, w_clamp, w_in, not_true_eq_false, not_false_eq_true, Classical.not_not]); omega), bif_in (by omega) (by decide), w_clamp (by omega), e1, g4 _ _ (kb_ne (by decide)), hA.fc1]
      · rw [if_pos (by (simp (disch := omega) only [w_lit, w_neg, w_add, w_sub, w_mul, w_lt, w_le, w_eq, w_clamp, w_in, not_true_eq_false, not_false_eq_true, Classical.not_not]); omega), bif_in (by omega) (by decide), w_clamp (by omega), e1, up_k (by decide), g5 _ _ (by omega), hA.fc2]
  obtain ⟨inh, k1, k2, k3, k4, k5, k6⟩ := key
  rw [k5, k6]
  have hR1 : RR b n a1 s1 B I1 (mv_up J1 63 c (w ((v : Int) - 1))) := g3.keep (fun _ => rfl) (fun _ => rfl) (fun _ => rfl) ⟨by (simp (disch := first | (apply kb_ne; omega) | omega | (apply kb_59; omega) | (apply kb_59'; omega) | fail) only [up_eq, up_k, up_j]), by (simp (disch := first | (apply kb_ne; omega) | omega | (apply kb_59; omega) | (apply kb_59'; omega) | fail) only [up_eq, up_k, up_j]), by (simp (disch := first | (apply kb_ne; omega) | omega | (apply kb_59; omega) | (apply kb_59'; omega) | fail) only [up_eq, up_k, up_j])⟩ (fun j => by (simp (disch := first | (apply kb_ne; omega) | omega | (apply kb_59; omega) | (apply kb_59'; omega) | fail) only [up_eq, up_k, up_j]))
  obtain ⟨I', J', a', s', add, A, q1, q2, q3, q4, q5, q6, q7, q8, q9, q10, q11, q12, q13, q14, q15, q16⟩ := r_class2 b N hN L L' hR1 hnc (c := c) (by omega) (by rw [g4 _ _ (kb_ne (by decide))]; exact h1) (by (simp (disch := first | (apply kb_ne; omega) | omega | (apply kb_59; omega) | (apply kb_59'; omega) | fail) only [up_eq, up_k, up_j]); rw [g5 _ _ (by omega)]; exact h2) (p := (v : Int) - 1) (inh := inh) (by omega) k1 k2 k3
  have f1 : FC b c I I' := fun q j d1 d2 d3 => by rw [q6 q j d1 d2 d3, g4 q j d1]
  have f2 : FM c J J' := fun q j d1 d2 d3 => by rw [q7 q j d1 (by omega) d3, up1_ne (by omega), g5 q j d1]
  rw [show ((v : Int) - 1 + 1) = (v : Int) by omega] at q2
  refine ⟨I', J', a', s', q1, q2, q3, f1, f2, ?_⟩
  intro hs c' hc'
  by_cases hcc : c' < c
  · obtain ⟨p, f, A, hA⟩ := hD c' hcc
    exact ⟨p, f, A, hA.keep hcc f1 f2⟩
  · have : c' = c := by omega
    subst this
    refine ⟨(v : Int) - 1, inh + add, A, ⟨q8, ?_, by omega, q9, q10, q5, q11, q12, q13, ?_, ?_⟩⟩
    · rw [q7 _ _ (by omega) (by omega) (by omega)]
      (simp (disch := first | (apply kb_ne; omega) | omega | (apply kb_59; omega) | (apply kb_59'; omega) | fail) only [up_eq, up_k, up_j])
    · intro hp
      obtain ⟨A', d1, d2, d3⟩ := q14 hp
      refine ⟨A', ?_, d2, d3⟩
      rw [q6 _ _ (kb_ne (by decide)) (by omega) (fun z => kb_ne (by decide) z.1)]
      exact d1
    · intro i hi
      by_cases hin : i < inh
      · obtain ⟨d1, d2⟩ := q15 i hin
        obtain ⟨t, d3, d4, d5⟩ := k4 i hin
        exact ⟨t, by rw [d1, d3], by rw [d2]; (simp (disch := first | (apply kb_ne; omega) | omega | (apply kb_59; omega) | (apply kb_59'; omega) | fail) only [up_eq, up_k, up_j]); rw [d4], d5⟩
      · exact q16 hs i (by omega) hi
def FCs (b : Bool) (I I' : kjI) : Prop := ∀ q j, q ≠ kb b 23 → q ≠ kb b 6 → q ≠ kb b 7 → q ≠ kb b 8 → q ≠ kb b 9 → I' q j = I q j
def FMs (J J' : kjI) : Prop := ∀ q j, ¬ (q = 59 ∧ (j = 35 ∨ j = 36)) → q ≠ 63 → q ≠ 64 → q ≠ 65 → J' q j = J q j
theorem FC.s {b : Bool} {c : Nat} {I I' : kjI} (h : FC b c I I') : FCs b I I' := fun q j h1 h2 h3 h4 h5 => h q j h1 (by omega) (by omega)
theorem FM.s {c : Nat} {I I' : kjI} (h : FM c I I') : FMs I I' := fun q j h1 h2 h3 h4 => h q j h1 (by omega) (by omega)
theorem r_classes_loop (b : Bool) (N : Nat) (hN : 100 ≤ N) (L L' : kjL) (n : Nat) (B : Nat → Nat) (nc : Nat) (hnc : nc ≤ 8) : ∀ (k c m m' a : Nat) (s : Bool) (I J : kjI), nc - c < m → nc - c < m' → nc - c = k → c ≤ nc → RR b n a s B I J → I (kb b 5) 4 = w nc → J 59 12 = w nc → (s = false → CD b nc c I J) →
    ∃ (I' J' : kjI) (a' : Nat) (s' : Bool), kf35_13 b N m (w c) I L = some (I', L) ∧ kf113_28 N m' (w c) J L' = kf113_54 N J' L' ∧ RR b n a' s' B I' J' ∧ FCs b I I' ∧ FMs J J' ∧ (s' = false → CD b nc nc I' J') := by
  intro k
  induction k with
  | zero =>
    intro c m m' a s I J hm hm' hk hc hR h1 h2 hD
    obtain ⟨m, rfl⟩ : ∃ q, m = q + 1 := ⟨m - 1, by omega⟩
    obtain ⟨m', rfl⟩ : ∃ q, m' = q + 1 := ⟨m' - 1, by omega⟩
    refine ⟨I, J, a, s, ?_, ?_, hR, fun _ _ _ _ _ _ _ => rfl, fun _ _ _ _ _ _ => rfl, fun z => by have := hD z; rw [show c = nc by omega] at this; exact this⟩
    · unfold kf35_13
      rw [h1, if_pos (by (simp (disch := omega) only [w_lit, w_neg, w_add, w_sub, w_mul, w_lt, w_le, w_eq, w_clamp, w_in, not_true_eq_false, not_false_eq_true, Classical.not_not]); omega)]
    · conv => lhs; unfold kf113_28
      rw [h2, if_pos (by (simp (disch := omega) only [w_lit, w_neg, w_add, w_sub, w_mul, w_lt, w_le, w_eq, w_clamp, w_in, not_true_eq_false, not_false_eq_true, Classical.not_not]); omega)]
  | succ k ih =>
    intro c m m' a s I J hm hm' hk hc hR h1 h2 hD
    obtain ⟨m, rfl⟩ : ∃ q, m = q + 1 := ⟨m - 1, by omega⟩
    obtain ⟨m', rfl⟩ : ∃ q, m' = q + 1 := ⟨m' - 1, by omega⟩
    unfold kf35_13
    conv => enter [1, I', 1, J', 1, a', 1, s', 2, 1, 1]; unfold kf113_28
    rw [h1, h2, if_neg (by (simp (disch := omega) only [w_lit, w_neg, w_add, w_sub, w_mul, w_lt, w_le, w_eq, w_clamp, w_in, not_true_eq_false, not_false_eq_true, Classical.not_not]); omega), if_neg (by (simp (disch := omega) only [w_lit, w_neg, w_add, w_sub, w_mul, w_lt, w_le, w_eq, w_clamp, w_in, not_true_eq_false, not_false_eq_true, Classical.not_not]); omega), hR.st2]
    unfold kf55
    rw [hR.st1]
    cases s
    · rw [bi_f, if_neg (by decide), if_neg (by decide), sbind, if_neg (by decide)]
      obtain ⟨I1, J1, a1, s1, g1, g2, g3, g4, g5, g6⟩ := r_class b N hN L L' hR hnc (c := c) (by omega) h1 h2 (hD rfl)
      rw [g1, g2]
      simp only [sbind]
      (simp only [w_lit, w_neg, w_add, w_sub, w_mul])
      rw [show ((c : Int) + 1) = ((c + 1 : Nat) : Int) by omega]
      obtain ⟨I', J', a', s', q1, q2, q3, q4, q5, q6⟩ := ih (c + 1) m m' a1 s1 I1 J1 (by omega) (by omega) (by omega) (by omega) g3 (by rw [g4 _ _ (kb_ne (by decide)) (fun z => by rcases z.1 with z | z | z <;> exact absurd z (kb_ne (by decide))) (fun z => kb_ne (by decide) z.1)]; exact h1) (by rw [g5 _ _ (by omega) (by omega) (by omega)]; exact h2) g6
      exact ⟨I', J', a', s', q1, q2, q3, fun q j d1 d2 d3 d4 d5 => by rw [q4 q j d1 d2 d3 d4 d5, g4.s q j d1 d2 d3 d4 d5], fun q j d1 d2 d3 d4 => by rw [q5 q j d1 d2 d3 d4, g5.s q j d1 d2 d3 d4], q6⟩
    · rw [bi_t, if_pos (by decide), if_pos (by decide), sbind, if_pos rfl]
      exact ⟨I, J, a, true, rfl, rfl, hR, fun _ _ _ _ _ _ _ => rfl, fun _ _ _ _ _ _ => rfl, fun z => by cases z⟩
