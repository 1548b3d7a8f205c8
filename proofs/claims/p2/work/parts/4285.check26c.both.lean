/-! One call on both, what is judged asked first. -/
def kN : Nat := bN + 2000000
theorem kN_le : bN + 2000000 ≤ kN := Nat.le_refl _
theorem kN_2m : 2000000 ≤ kN := Nat.le_add_left _ _
theorem kN_400 : 400 ≤ kN := Nat.le_trans (by decide) kN_2m
theorem kN_300 : 300 ≤ kN := Nat.le_trans (by decide) kN_2m
def kInv (f : Bool) (I : kjI) : Prop := ∃ (n : Nat) (B : Nat → Nat), cT I I ∧ k_row (!f) n B I ∧ MI kN n B I I
section BO
variable {f : Bool} {I I' J Z Y : kjI} {L : kjL} {n : Nat} {B : Nat → Nat}
theorem MI.cls {N : Nat} (h : MI N n B Y J) (k : ∀ q, 59 ≤ q → I' q = J q) : MI N n B I' I' := by
  obtain ⟨h1, h2, h3, h4, h5, h6⟩ := h
  have kk : GKp J I' := fun q j h0 _ _ => by rw [k q h0]
  refine ⟨h1, h2, ⟨by rw [k 59 (by omega)]; exact h3.1, fun i hi => by rw [k 60 (by omega)]; exact h3.2 i hi⟩, h4.keep kk, ?_, fun _ _ _ => rfl⟩
  rcases h5 with z | z
  · exact Or.inl (by rw [k 59 (by omega)]; exact z)
  · exact Or.inr (z.keep (fun q j h0 _ _ => by rw [k q h0]))
theorem cT.same (h : cT Z I) (k : ∀ q j, q < 59 → J q j = I q j) : cT J J := ⟨fun b k' h1 h2 j => by rw [k _ _ (by have := kb_rg (b := b) h1 h2; omega)]; exact h.1 b k' h1 h2 j, fun _ _ => rfl⟩
theorem k_row_same {b : Bool} (h : k_row b n B I) (k : ∀ j, J (kb b 2) j = I (kb b 2) j ∧ J (kb b 3) j = I (kb b 3) j) : k_row b n B J := by
  obtain ⟨h1, h2, h3⟩ := h
  refine ⟨h1, ?_, fun i hi => ?_⟩
  · rw [(k _).1]
    exact h2
  · rw [(k _).2]
    exact h3 i hi
theorem kI_mod (h1 : cT I I) (h2 : k_row (!f) n B I) (h3 : MI kN n B I J) : kInv f J := by
  have k := h3.2.2.2.2.2
  refine ⟨n, B, h1.same k, k_row_same h2 (fun j => ⟨k _ _ ?_, k _ _ ?_⟩), h3.cls (fun _ _ => rfl)⟩
  · have := kb_rg (b := !f) (k := 2) (by omega) (by omega)
    omega
  · have := kb_rg (b := !f) (k := 3) (by omega) (by omega)
    omega
theorem kI_cls (h1 : cT I I) (h2 : k_row (!f) n B I) (h3 : MI kN n B I I) (w : wP f I I') : cT I' I' ∧ k_row (!f) n B I' ∧ MI kN n B I' I' := by
  have c := h1.of w
  refine ⟨c.same (fun _ _ _ => rfl), k_row_same h2 (fun j => ⟨?_, ?_⟩), h3.cls c.2⟩
  · rw [w.2 (kb (!f) 2) (fun k a b => kb_other (by omega) (by omega) a b)]
  · rw [w.2 (kb (!f) 3) (fun k a b => kb_other (by omega) (by omega) a b)]
/-- the one answers and stays, then the reference -/
theorem kI_two {o : Option Int32} {o' : Option (Int32 × kjI × kjL)} (h : kInv f I) (h1 : wP f I I → Ok o (fun _ => True)) (h2 : ∀ n B, MI kN n B I I → Ok o' (fun r => MI kN n B I r.2.1)) : ∃ (r : Int32) (r' : Int32 × kjI × kjL), o = some r ∧ o' = some r' ∧ kInv f r'.2.1 := by
  obtain ⟨n, B, a, b, c⟩ := h
  obtain ⟨r, e, -⟩ := h1 (a.w f)
  obtain ⟨r', e', g⟩ := h2 n B c
  exact ⟨r, r', e, e', kI_mod a b g⟩
theorem kI_fault (v : Int32) (h : kInv f I) : ∃ (r : Int32) (r' : Int32 × kjI × kjL), kf3 f I L v = some r ∧ kf124 v I L = some r' ∧ kInv f r'.2.1 := kI_two h (fun _ => s3 v) (fun _ _ m => m124 v m)
theorem kI_kind (v1 v2 v3 : Int32) (h : kInv f I) : ∃ (r : Int32) (r' : Int32 × kjI × kjL), kf4 f I L v1 v2 v3 = some r ∧ kf138 v1 v2 v3 I L = some r' ∧ kInv f r'.2.1 := kI_two h (fun w => s4 w v1 v2 v3) (fun _ _ m => m138 v1 v2 v3 m)
theorem kI_ways (v1 v2 : Int32) (h : kInv f I) : ∃ (r : Int32) (r' : Int32 × kjI × kjL), kf6 f kN I L v1 v2 = some r ∧ kf145 kN v1 v2 I L = some r' ∧ kInv f r'.2.1 := kI_two h (fun w => s6 w kN_300 v1 v2) (fun _ _ m => m145 kN_400 v1 v2 m)
theorem kI_fits (v1 v2 : Int32) (h : kInv f I) : ∃ (r : Int32) (r' : Int32 × kjI × kjL), kf8 f I L v1 v2 = some r ∧ kf148 kN v1 v2 I L = some r' ∧ kInv f r'.2.1 := kI_two h (fun w => s8 w v1 v2) (fun _ _ m => m148 kN_400 v1 v2 m)
theorem kI_meet (v1 v2 : Int32) (h : kInv f I) : ∃ (r : Int32) (r' : Int32 × kjI × kjL), kf9 f kN I L v1 v2 = some r ∧ kf149 kN v1 v2 I L = some r' ∧ kInv f r'.2.1 := kI_two h (fun w => s9 w kN_300 v1 v2) (fun _ _ m => m149 kN_400 v1 v2 m)
theorem kI_method (v1 v2 : Int32) (h : kInv f I) : ∃ (r : Int32) (r' : Int32 × kjI × kjL), kf10 f I L v1 v2 = some r ∧ kf150 kN v1 v2 I L = some r' ∧ kInv f r'.2.1 := kI_two h (fun w => s10 w v1 v2) (fun _ _ m => m150 kN_400 v1 v2 m)
theorem kI_type (v1 v2 : Int32) (h : kInv f I) : ∃ (r : Int32) (r' : Int32 × kjI × kjL), kf11 f I L v1 v2 = some r ∧ kf151 v1 v2 I L = some r' ∧ kInv f r'.2.1 := kI_two h (fun w => s11 w v1 v2) (fun _ _ m => m151 v1 v2 m)
theorem kI_total (v : Int32) (h : kInv f I) : ∃ (r : Int32) (r' : Int32 × kjI × kjL), kf12 f I L v = some r ∧ kf152 v I L = some r' ∧ kInv f r'.2.1 := kI_two h (fun _ => s12 v) (fun _ _ m => m152 v m)
theorem kI_count (v1 v2 : Int32) (h : kInv f I) : ∃ (r r' : Int32 × kjI × kjL), kf7 f kN v1 v2 I L = some r ∧ kf146 kN v1 v2 r.2.1 r.2.2 = some r' ∧ kInv f r'.2.1 := by
  obtain ⟨n, B, a, b, c⟩ := h
  obtain ⟨r, e, g⟩ := s7 (L := L) kN_300 v1 v2 (a.w f)
  obtain ⟨a', b', c'⟩ := kI_cls a b c g
  obtain ⟨r', e', g'⟩ := m146 (L := r.2.2) kN_400 v1 v2 c'
  exact ⟨r, r', e, e', kI_mod a' b' g'⟩
/-- put: the one answer that is compared -/
theorem kI_put (x : Int64) (v : Int32) (h : kInv f I) : ∃ (z : Int32) (I1 J1 : kjI), kf1 f kN x v I L = some (z, I1, L) ∧ kf103 kN x v I1 L = some (z, J1, L) ∧ kInv f J1 := by
  obtain ⟨n, B, a, b, c⟩ := h
  have hN : 9 ≤ kN := Nat.le_trans (by decide) kN_2m
  obtain ⟨z, n1, B1, I1, J1, h1, h2, h3, h4, h5, h6, -⟩ := k_put (!f) kN hN x v L L n B I I b c.2.2.1
  have k59 : ∀ q, 59 ≤ q → I1 q = I q := fun q hq => h6 q (by
    have := kb_rg (b := !f) (k := 2) (by omega) (by omega)
    have := kb_rg (b := !f) (k := 3) (by omega) (by omega)
    omega)
  have m1 : k_mrow n B I1 := ⟨by rw [k59 59 (by omega)]; exact c.2.2.1.1, fun i hi => by rw [k59 60 (by omega)]; exact c.2.2.1.2 i hi⟩
  obtain ⟨z2, n2, B2, I2, J2, g1, g2, g3, g4, g5, g6, g7, g8, g9⟩ := k_put (!f) kN hN x v L L n B I I1 b m1
  have ee := Prod.mk.inj (Option.some.inj (h1.symm.trans g1))
  have e2 : I1 = I2 := (Prod.mk.inj ee.2).1
  subst e2
  have e1 : z2 = z := ee.1.symm
  subst e1
  refine ⟨z2, I1, J2, ?_, g2, n2, B2, ?_, ?_, ?_⟩
  · unfold kf1
    rw [h1]
    exact if_pos h3
  · have r1 : cT I1 I1 := by
      refine ⟨fun b' k h1 h2 j => ?_, fun _ _ => rfl⟩
      by_cases e : kb b' k = kb (!f) 2 ∨ kb b' k = kb (!f) 3
      · have eb : b' = !f ∧ (k = 2 ∨ k = 3) := by
          cases b' <;> cases f <;> simp [kb] at e ⊢ <;> omega
        obtain ⟨rfl, rfl | rfl⟩ := eb
        · intro ej
          subst ej
          have t := g4.1
          have u := g4.2.1
          rw [u, w_nti (by omega)]
          omega
        · trivial
      · rw [h6 (kb b' k) e]
        exact a.1 b' k h1 h2 j
    refine r1.same (fun q j hq => ?_)
    rw [g7 q (by omega)]
  · refine k_row_same g4 (fun j => ?_)
    have k2 := kb_rg (b := !f) (k := 2) (by omega) (by omega)
    have k3 := kb_rg (b := !f) (k := 3) (by omega) (by omega)
    exact ⟨by rw [g7 (kb (!f) 2) (by omega)], by rw [g7 (kb (!f) 3) (by omega)]⟩
  · refine ⟨g4.1, fun i hi => (g4.2.2 i hi).2, g5, fun k => ?_, ?_, fun _ _ _ => rfl⟩
    · show -2 ≤ (J2 78 k).toInt ∧ (J2 78 k).toInt ≤ 8
      rw [g7 78 (by omega), k59 78 (by omega)]
      exact c.ht k
    · have kk : ∀ q j, 59 ≤ q → ¬ (60 ≤ q ∧ q ≤ 61) → ¬ (q = 59 ∧ (j ≤ 2 ∨ j = 5 ∨ (9 ≤ j ∧ j ≤ 11))) → J2 q j = I q j := fun q j h0 h1 h2 => by
        by_cases e : q = 59
        · subst e
          rw [g8 j (by omega) (by omega), k59 59 (by omega)]
        · rw [g7 q (by omega), k59 q h0]
      rcases c.2.2.2.2.1 with z | z
      · refine Or.inl ?_
        rw [kk 59 8 (by omega) (by omega) (by omega)]
        exact z
      · exact Or.inr (z.keep kk)
/-- load: a FAULT -/
theorem kI_load (h : kInv f I) : ∃ r : kjI × kjL, kf13 f kN I L = some r ∧ (∀ K : kjL, ∃ r' : Int32 × kjI × kjL, kf122 kN (mv_up r.1 (kb (!f) 2) 1 (0 : Int32)) K = some r' ∧ kInv f r'.2.1) ∧ ∀ (K : kjL) (x : Int32), ∃ r' : Int32 × kjI × kjL, kf122 kN (mv_up (mv_up r.1 (kb f 2) 1 (0 : Int32)) 0 2 x) K = some r' ∧ kInv (!f) r'.2.1 := by
  obtain ⟨n, B, a, b, c⟩ := h
  obtain ⟨r, e, g⟩ := s13 (f := f) (L := L) kN_2m a
  have row0 : ∀ {b : Bool} {J : kjI}, J (kb b 2) 1 = 0 → k_row b 0 (fun _ => 0) J := fun h => ⟨by omega, h, fun i hi => by omega⟩
  refine ⟨r, e, fun K => ?_, fun K x => ?_⟩
  · have c1 : cT I (mv_up r.1 (kb (!f) 2) 1 (0 : Int32)) := g.of (wP_up (g.w (!f)) (by decide) (fun _ => by decide))
    have m1 := c.cls c1.2
    obtain ⟨r', e', g'⟩ := m122 (L := K) kN_le m1
    exact ⟨r', e', kI_mod (c1.same (fun _ _ _ => rfl)) (row0 up_eq2) g'⟩
  · have c0 : cT I (mv_up r.1 (kb f 2) 1 (0 : Int32)) := g.of (wP_up (g.w f) (by decide) (fun _ => by decide))
    have c1 : cT I (mv_up (mv_up r.1 (kb f 2) 1 (0 : Int32)) 0 2 x) := c0.up0
    have m1 := c.cls c1.2
    obtain ⟨r', e', g'⟩ := m122 (L := K) kN_le m1
    refine ⟨r', e', kI_mod (c1.same (fun _ _ _ => rfl)) (row0 ?_) g'⟩
    have := kb_rg (b := f) (k := 2) (by omega) (by omega)
    rw [Bool.not_not, up_no (by omega), up_eq2]
theorem kI_look (v1 v2 v3 : Int32) (h : kInv f I) : ((∃ r, kf5 f I L v1 v2 v3 = some r) ∨ (v3 < 0 ∨ (5 : Int32) < v3 ∨ kf66 f I L v1 v2 = some 0)) ∧ ∀ K : kjL, ∃ r' : Int32 × kjI × kjL, kf143 v1 v2 v3 I K = some r' ∧ kInv f r'.2.1 := by
  obtain ⟨n, B, a, b, c⟩ := h
  refine ⟨?_, fun K => ?_⟩
  · by_cases h1 : v3 < 0
    · exact Or.inr (Or.inl h1)
    by_cases h2 : (5 : Int32) < v3
    · exact Or.inr (Or.inr (Or.inl h2))
    obtain ⟨r, e, g⟩ := s66 (L := L) (a.w f) v1 v2
    rcases g with rfl | rfl
    · exact Or.inr (Or.inr (Or.inr e))
    · obtain ⟨q, e5, -⟩ := s5 (a.w f) ⟨h1, h2⟩ e
      exact Or.inl ⟨q, e5⟩
  · obtain ⟨r', e', g'⟩ := m143 (L := K) v1 v2 v3 c
    exact ⟨r', e', kI_mod a b g'⟩
end BO
