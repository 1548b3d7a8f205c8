/-! Where a merge has news, the METHOD's sum of ranks grows. -/
def b16 : Nat := 11 ^ 16
def rk (J : kjI) (k : Nat) : Nat := if J 78 k = -1 then 0 else if J 78 k = -2 then 2 * b16 else 1 + dgs J k 16
def sumr (J : kjI) (m : Nat) : Nat → Nat
  | 0 => 0
  | p + 1 => sumr J m p + rk J (120 * m + p)
theorem dgs16 (J : kjI) (k : Nat) : dgs J k 16 + 1 ≤ b16 := dgs_lt J k 16
theorem rk_lt {J : kjI} {k : Nat} (h : J 78 k ≠ -2) : rk J k ≤ b16 := by
  have h1 := dgs16 J k
  unfold rk
  rw [if_neg h]
  split
  · exact Nat.zero_le _
  · omega
theorem rk_2 {J : kjI} {k : Nat} (h : J 78 k = -2) : rk J k = 2 * b16 := by
  unfold rk
  rw [h, if_neg (by decide), if_pos rfl]
theorem rk_1 {J : kjI} {k : Nat} (h : J 78 k = -1) : rk J k = 0 := by
  unfold rk
  rw [if_pos h]
theorem rk_0 {J : kjI} {k : Nat} (h1 : J 78 k ≠ -1) (h2 : J 78 k ≠ -2) : rk J k = 1 + dgs J k 16 := by
  unfold rk
  rw [if_neg h1, if_neg h2]
theorem rk_le (J : kjI) (k : Nat) : rk J k ≤ 2 * b16 := by
  by_cases h : J 78 k = -2
  · rw [rk_2 h]
    exact Nat.le_refl _
  · have := rk_lt h
    omega
theorem sumr_le (J : kjI) (m n : Nat) : sumr J m n ≤ n * (2 * b16) := by
  induction n with
  | zero => exact Nat.zero_le _
  | succ n ih =>
    have h2 := rk_le J (120 * m + n)
    have e : (n + 1) * (2 * b16) = n * (2 * b16) + 2 * b16 := Nat.succ_mul _ _
    have e2 : sumr J m (n + 1) = sumr J m n + rk J (120 * m + n) := rfl
    rw [e, e2]
    omega
theorem rk_same {J J' : kjI} {q : Nat} (h1 : J' 78 q = J 78 q) (h2 : ∀ i, i < 16 → J' 79 (16 * q + i) = J 79 (16 * q + i)) : rk J' q = rk J q := by
  unfold rk
  rw [h1, dgs_congr 16 h2]
theorem sumr_up {J J' : kjI} {m t : Nat} (h : ∀ p, p ≠ t → rk J' (120 * m + p) = rk J (120 * m + p)) (n : Nat) : sumr J' m n + (if t < n then rk J (120 * m + t) else 0) = sumr J m n + (if t < n then rk J' (120 * m + t) else 0) := by
  induction n with
  | zero =>
    rw [if_neg (Nat.not_lt_zero _), if_neg (Nat.not_lt_zero _)]
    rfl
  | succ n ih =>
    have e1 : sumr J m (n + 1) = sumr J m n + rk J (120 * m + n) := rfl
    have e2 : sumr J' m (n + 1) = sumr J' m n + rk J' (120 * m + n) := rfl
    rw [e1, e2]
    by_cases e : n = t
    · subst e
      rw [if_neg (Nat.lt_irrefl _), if_neg (Nat.lt_irrefl _)] at ih
      rw [if_pos (Nat.lt_succ_self _), if_pos (Nat.lt_succ_self _)]
      omega
    · have hn := h n e
      by_cases l : t < n
      · rw [if_pos l, if_pos l] at ih
        rw [if_pos (by omega), if_pos (by omega)]
        omega
      · rw [if_neg l, if_neg l] at ih
        rw [if_neg (by omega), if_neg (by omega)]
        omega
/-- a METHOD under way: what the reference knows of its PLACES -/
def mF (F : KF) (m : Nat) (J : kjI) : Prop := MV F J ∧ (∀ k, -2 ≤ (J 78 k).toInt ∧ (J 78 k).toInt ≤ 8) ∧ (∀ i, i < 16 → vk F.nc (J 80 i)) ∧ ∀ p, p < 120 → J 78 (120 * m + p) ≠ -1 → tOk F m p ∧ (J 78 (120 * m + p) ≠ -2 → ∀ i, i < 16 → vk F.nc (J 79 (16 * (120 * m + p) + i)))
/-- only what is known of the PLACES has changed -/
def FLk (J J' : kjI) : Prop := ∀ q j, q ≠ 78 → q ≠ 79 → J' q j = J q j
def FLm (J J' : kjI) : Prop := ∀ q j, q ≠ 78 → q ≠ 79 → q ≠ 80 → ¬ (q = 59 ∧ (j = 33 ∨ j = 34)) → J' q j = J q j
theorem FLk.m {J J' : kjI} (h : FLk J J') : FLm J J' := fun q j h1 h2 _ _ => h q j h1 h2
theorem FLm.trans {J J' J'' : kjI} (h : FLm J J') (h' : FLm J' J'') : FLm J J'' := fun q j h1 h2 h3 h4 => (h' q j h1 h2 h3 h4).trans (h q j h1 h2 h3 h4)
theorem FLm.mv {F : KF} {J J' : kjI} (h : FLm J J') (hM : MV F J) : MV F J' := hM.keep (fun q _ _ _ j => h q j (by omega) (by omega) (by omega) (by omega)) ⟨h _ _ (by omega) (by omega) (by omega) (by omega), h _ _ (by omega) (by omega) (by omega) (by omega), h _ _ (by omega) (by omega) (by omega) (by omega)⟩
/-- what a merge into PLACE t leaves -/
def gPost (F : KF) (m : Nat) (J : kjI) (r : Int32 × kjI × kjL) : Prop := (r.1 = 0 ∨ r.1 = 1) ∧ mF F m r.2.1 ∧ FLk J r.2.1 ∧ sumr J m 120 ≤ sumr r.2.1 m 120 ∧ (r.1 = 1 → sumr J m 120 < sumr r.2.1 m 120)
section RK
variable {F : KF} {L : kjL} {J : kjI}
theorem g_of {m t : Nat} (ht : tOk F m t) (ht120 : t < 120) (h : mF F m J) {J' : kjI} {x : Int32} (hfr : ∀ q j, ¬ (q = 79 ∧ 16 * (120 * m + t) ≤ j ∧ j < 16 * (120 * m + t) + 16) → ¬ (q = 78 ∧ j = 120 * m + t) → J' q j = J q j) (h78 : -2 ≤ (J' 78 (120 * m + t)).toInt ∧ (J' 78 (120 * m + t)).toInt ≤ 8) (hv : J' 78 (120 * m + t) ≠ -1 → J' 78 (120 * m + t) ≠ -2 → ∀ i, i < 16 → vk F.nc (J' 79 (16 * (120 * m + t) + i)))
    (hx : x = 0 ∨ x = 1) (hle : rk J (120 * m + t) ≤ rk J' (120 * m + t)) (hlt : x = 1 → rk J (120 * m + t) < rk J' (120 * m + t)) : gPost F m J (x, J', L) := by
  obtain ⟨h1, h2, h3, h4⟩ := h
  have hk : FLk J J' := fun q j a1 a2 => hfr q j (by omega) (by omega)
  have hs := sumr_up (J := J) (J' := J') (m := m) (t := t) (fun p hp => rk_same (hfr _ _ (by omega) (by omega)) (fun i hi => hfr _ _ (by omega) (by omega))) 120
  rw [if_pos ht120, if_pos ht120] at hs
  refine ⟨hx, ⟨hk.m.mv h1, fun k => ?_, fun i hi => ?_, fun p hp hn => ?_⟩, hk, ?_, fun e => ?_⟩
  · by_cases e : k = 120 * m + t
    · subst e
      exact h78
    · show -2 ≤ (J' 78 k).toInt ∧ (J' 78 k).toInt ≤ 8
      rw [hfr 78 k (by omega) (by omega)]
      exact h2 k
  · show vk F.nc (J' 80 i)
    rw [hk 80 i (by omega) (by omega)]
    exact h3 i hi
  · have hn : J' 78 (120 * m + p) ≠ -1 := hn
    by_cases e : p = t
    · subst e
      exact ⟨ht, fun hn2 => hv hn hn2⟩
    · rw [hfr 78 (120 * m + p) (by omega) (by omega)] at hn
      obtain ⟨b1, b2⟩ := h4 p hp hn
      refine ⟨b1, fun hn2 i hi => ?_⟩
      have hn2 : J' 78 (120 * m + p) ≠ -2 := hn2
      rw [hfr 78 (120 * m + p) (by omega) (by omega)] at hn2
      show vk F.nc (J' 79 (16 * (120 * m + p) + i))
      rw [hfr 79 (16 * (120 * m + p) + i) (by omega) (by omega)]
      exact b2 hn2 i hi
  · show sumr J m 120 ≤ sumr J' m 120
    omega
  · have a := hlt e
    show sumr J m 120 < sumr J' m 120
    omega
/-- merge -/
theorem m127 (hF : KFok F) {N : Nat} (hN : 300 ≤ N) {m t : Nat} (hm : m < F.nm) (ht : tOk F m t) (h : mF F m J) (v3 : Int32) (h3 : v3 = 0 → 0 ≤ (J 59 33).toInt ∧ (J 59 33).toInt ≤ 8) : Ok (kf127 N (w m) (w t) v3 J L) (gPost F m J) := by
  have hm16 := hF.nm16
  have hn120 := hF.mn120 m hm
  have ht120 : t < 120 := by have := ht.1; omega
  have hkk : 120 * m + t < 1920 := by omega
  obtain ⟨h1, h2, h4, h5⟩ := id h
  unfold kf127 kf127_62 kf127_78 kf127_51
  rw [ix120, w_nat (by omega)]
  have inx : 0 ≤ (w ((120 * m + t : Nat) : Int)).toInt ∧ (w ((120 * m + t : Nat) : Int)).toInt < ((1920 : Nat) : Int) := by rw [w_nti (by omega)]; omega
  have d16 := dgs16 J (120 * m + t)
  have clash : J 78 (120 * m + t) ≠ -2 → Ok (bif mv_in (w ((120 * m + t : Nat) : Int)) 1920 then (some ((1 : Int32), (mv_up J 78 (120 * m + t) (-2 : Int32)), L)) else none) (gPost F m J) := by
    intro n2
    refine Ok.bif' inx (Ok.some' (g_of ht ht120 h (fun q j a1 a2 => ?_) ?_ (fun _ z => ?_) (Or.inr rfl) ?_ (fun _ => ?_)))
    · unfold mv_up
      by_cases e : q = 78
      · subst e
        rw [if_pos rfl, if_neg (fun z => a2 ⟨rfl, z⟩)]
      · rw [if_neg e]
    · rw [up_eq2]
      decide
    · exact absurd up_eq2 z
    · have := rk_lt n2
      rw [rk_2 (J := mv_up J 78 (120 * m + t) (-2 : Int32)) up_eq2]
      omega
    · have := rk_lt n2
      rw [rk_2 (J := mv_up J 78 (120 * m + t) (-2 : Int32)) up_eq2]
      omega
  refine Ok.bif' inx (Ok.ite' (fun n2 => Ok.ite' (fun _ => clash n2) (fun z3 => Ok.bif' inx (Ok.ite' (fun e1 => ?_) (fun n1 => Ok.bif' inx (Ok.ite' (fun eh => ?_) (fun _ => clash n2)))))) (fun _ => Ok.some' ⟨Or.inl rfl, h, fun _ _ _ _ => rfl, Nat.le_refl _, fun z => absurd (show (0 : Int32) = 1 from z) (by decide)⟩))
  · -- not come to before
    have a3 := h3 (Classical.not_not.mp z3)
    refine Ok.bif' inx (Ok.ite' (fun z => absurd e1 z) (fun _ => ?_))
    refine Ok.mono (m127_83 hF h1 hN hkk False h4 (fun z => z.elim) N 0 1 J (by omega) (by omega) (fun _ _ _ => rfl) (fun i' z => by omega) (Or.inr ⟨rfl, fun z => z.elim⟩)) (fun r ⟨c1, c2, c3, c4, c5, c6⟩ => ?_)
    have hne : (J 59 33) ≠ -1 ∧ (J 59 33) ≠ -2 := ⟨fun z => by rw [z] at a3; exact absurd a3.1 (by decide), fun z => by rw [z] at a3; exact absurd a3.1 (by decide)⟩
    have r0 : rk J (120 * m + t) = 0 := rk_1 e1
    have r1 : 0 < rk r.2.1 (120 * m + t) := by
      rw [rk_0 (by rw [c3]; exact hne.1) (by rw [c3]; exact hne.2)]
      omega
    exact g_of (x := r.1) (J' := r.2.1) (L := r.2.2) ht ht120 h c2 (by rw [c3]; omega) (fun _ _ => c4) c1 (by omega) (fun _ => by omega)
  · -- come to before, with the same height
    have a3 := h3 (Classical.not_not.mp z3)
    refine Ok.bif' inx (Ok.ite' (fun _ => ?_) (fun z => absurd n1 z))
    have b := (h5 t ht120 n1).2 n2
    refine Ok.mono (m127_83 hF h1 hN hkk True h4 (fun _ => b) N 0 0 J (by omega) (by omega) (fun _ _ _ => rfl) (fun i' z => by omega) (Or.inl ⟨rfl, trivial, fun i' z => by omega⟩)) (fun r ⟨c1, c2, c3, c4, c5, c6⟩ => ?_)
    have e78 : r.2.1 78 (120 * m + t) = J 78 (120 * m + t) := c3.trans eh.symm
    refine g_of (x := r.1) (J' := r.2.1) (L := r.2.2) ht ht120 h c2 (by rw [e78]; exact h2 _) (fun _ _ => c4) c1 ?_ (fun e => ?_)
    · rcases c1 with e | e
      · exact Nat.le_of_eq (rk_same e78 (c5 e).2).symm
      · have a := c6 e trivial
        rw [rk_0 n1 n2, rk_0 (by rw [e78]; exact n1) (by rw [e78]; exact n2)]
        omega
    · have a := c6 e trivial
      rw [rk_0 n1 n2, rk_0 (by rw [e78]; exact n1) (by rw [e78]; exact n2)]
      omega
end RK
