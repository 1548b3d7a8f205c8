/-! What each call answers on a fresh object, in the class and in the reference. -/
def k1J : kjI := mv_up kcZ 59 0 0
theorem k1_not {x : Int32} (h : ¬ x < 0) : (0 : Int32) ≤ x := Int32.not_lt.mp h
theorem k1_32 (b : Bool) (v : Int32) : kf32 b kcZ kcZL v = some 0 := by
  unfold kf32
  by_cases h : v < 0
  · rw [if_pos h]
  · rw [if_neg h]
    exact if_pos (k1_not h)
theorem k1_33 (b : Bool) (v1 v2 : Int32) : kf33 b kcZ kcZL v1 v2 = some (-1) := by
  unfold kf33
  by_cases h : v2 < 0
  · rw [if_pos h]
  · rw [if_neg h, k1_32]
    show (if (0 : Int32) ≤ v2 then some (-1 : Int32) else none) = _
    exact if_pos (k1_not h)
theorem k1_66 (b : Bool) (v1 v2 : Int32) : kf66 b kcZ kcZL v1 v2 = some 0 := by
  unfold kf66
  rw [k1_33]
  show (if (-1 : Int32) < 0 then some (0 : Int32) else none) = _
  exact if_pos (by decide)
theorem k1_has (v : Int32) : (if v < 0 then (some (0 : Int32)) else (if (0 : Int32) ≤ v then (some (0 : Int32)) else none)) = some 0 := by
  by_cases h : v < 0
  · rw [if_pos h]
  · rw [if_neg h]
    exact if_pos (k1_not h)
theorem k1_37 (b : Bool) (v : Int32) : kf37 b kcZ kcZL v = some 0 := k1_has v
theorem k1_49 (b : Bool) (v : Int32) : kf49 b kcZ kcZL v = some 0 := k1_has v
theorem k1_m1 : (if ¬ (0 : Int32) = 0 then none else some (-1 : Int32)) = some (-1) := if_neg (fun h => h rfl)
theorem k1_kind (a b c : Int32) : kf4 false kcZ kcZL a b c = some (-1) := by
  unfold kf4
  rw [k1_66]
  exact k1_m1
theorem k1_ways (a b : Int32) : kf6 false kcZ kcZL a b = some (-1) := by
  unfold kf6
  rw [k1_66]
  exact k1_m1
theorem k1_count (a b : Int32) : kf7 false kcZ kcZL a b = some (-1) := by
  unfold kf7
  rw [k1_49]
  rfl
theorem k1_fits (a b : Int32) : kf8 false kcZ kcZL a b = some (-1) := if_pos rfl
theorem k1_meet (a b : Int32) : kf9 false kcZ kcZL a b = some (-1) := if_pos rfl
theorem k1_method (a b : Int32) : kf10 false kcZ kcZL a b = some (-1) := by
  unfold kf10 kf29
  rw [k1_37]
  rfl
theorem k1_type (a b : Int32) : kf11 false kcZ kcZL a b = some (-1) := by
  unfold kf11
  rw [k1_37]
  rfl
theorem k1_fault (v : Int32) : ∃ r, kf3 false kcZ kcZL v = some r ∧ kf125 v kcZ kcZL = some (r, k1J, kcZL) := by
  by_cases h0 : v = 0
  · exact ⟨0, by unfold kf3; exact if_neg (fun h => h h0), by unfold kf125; exact if_neg (fun h => h h0)⟩
  by_cases h1 : v = 1
  · exact ⟨0, by unfold kf3; rw [if_pos h0]; exact if_neg (fun h => h h1), by unfold kf125; rw [if_pos h0]; exact if_neg (fun h => h h1)⟩
  by_cases h2 : v = 2
  · exact ⟨0, by unfold kf3; rw [if_pos h0, if_pos h1]; exact if_neg (fun h => h h2), by unfold kf125; rw [if_pos h0, if_pos h1]; exact if_neg (fun h => h h2)⟩
  · exact ⟨-1, by unfold kf3; rw [if_pos h0, if_pos h1, if_pos h2], by unfold kf125; rw [if_pos h0, if_pos h1, if_pos h2]; rfl⟩
theorem k1_mkind (a b c : Int32) : kf139 a b c kcZ kcZL = some (-1, k1J, kcZL) := if_pos rfl
theorem k1_140 {I : kjI} (hI : I 59 8 = 0) (a : Int32) : kf140 I kcZL a = some 0 := if_pos hI
theorem k1_141 {I : kjI} (hI : I 59 8 = 0) (a b : Int32) : kf141 I kcZL a b = some 0 := by
  unfold kf141
  rw [k1_140 hI]
  rfl
theorem k1_mways (a b : Int32) : kf146 a b kcZ kcZL = some (-1, k1J, kcZL) := by
  unfold kf146
  rw [k1_141 rfl]
  rfl
theorem k1_mcount (a b : Int32) : kf147 a b kcZ kcZL = some (-1, k1J, kcZL) := by
  unfold kf147
  rw [k1_140 rfl]
  rfl
theorem k1_mfits (a b : Int32) : kf149 a b kcZ kcZL = some (-1, k1J, kcZL) := if_pos rfl
theorem k1_mmeet (a b : Int32) : kf150 a b kcZ kcZL = some (-1, k1J, kcZL) := if_pos rfl
theorem k1_mmethod (a b : Int32) : kf151 a b kcZ kcZL = some (-1, k1J, kcZL) := if_pos rfl
theorem k1_mtype (a b : Int32) : kf152 a b kcZ kcZL = some (-1, k1J, kcZL) := if_pos rfl
theorem k1_total (v : Int32) : ∃ r, kf12 false kcZ kcZL v = some r ∧ kf153 v kcZ kcZL = some (r, k1J, kcZL) := by
  by_cases h0 : v.toInt = 0
  · exact ⟨0, by unfold kf12; rw [if_pos h0]; rfl, by unfold kf153; rw [if_pos h0]; exact if_pos rfl⟩
  by_cases h1 : v.toInt = 1
  · exact ⟨0, by unfold kf12; rw [if_neg h0, if_pos h1]; rfl, by unfold kf153; rw [if_neg h0, if_pos h1]; exact if_pos rfl⟩
  by_cases h2 : v.toInt = 2
  · exact ⟨0, by unfold kf12; rw [if_neg h0, if_neg h1, if_pos h2]; rfl, by unfold kf153; rw [if_neg h0, if_neg h1, if_pos h2]; exact if_pos rfl⟩
  by_cases h3 : v.toInt = 3
  · exact ⟨0, by unfold kf12; rw [if_neg h0, if_neg h1, if_neg h2, if_pos h3]; rfl, by unfold kf153; rw [if_neg h0, if_neg h1, if_neg h2, if_pos h3]; rfl⟩
  by_cases h4 : v.toInt = 4
  · exact ⟨0, by unfold kf12; rw [if_neg h0, if_neg h1, if_neg h2, if_neg h3, if_pos h4]; rfl, by unfold kf153; rw [if_neg h0, if_neg h1, if_neg h2, if_neg h3, if_pos h4]; rfl⟩
  · exact ⟨-1, by unfold kf12; rw [if_neg h0, if_neg h1, if_neg h2, if_neg h3, if_neg h4], by unfold kf153; rw [if_neg h0, if_neg h1, if_neg h2, if_neg h3, if_neg h4]; rfl⟩
/-- put: the class is asked first, then the reference -/
theorem k1_put (x : Int64) (v : Int32) : ∃ (r : Int32) (I' J' : kjI), kf1 false 9 x v kcZ kcZL = some (r, I', kcZL) ∧ kf104 9 x v I' kcZL = some (r, J', kcZL) := by
  obtain ⟨r, n', B', I', J', h1, h2, h3, -⟩ := k_put true 9 (Nat.le_refl _) x v kcZL kcZL 0 (fun _ => 0) kcZ kcZ ⟨by omega, rfl, fun i hi => absurd hi (Nat.not_lt_zero _)⟩ ⟨rfl, fun i hi => absurd hi (Nat.not_lt_zero _)⟩
  obtain ⟨r2, n2, B2, I2, J2, g1, g2, g3, g4, g5, g6, -⟩ := k_put true 9 (Nat.le_refl _) x v kcZL kcZL 0 (fun _ => 0) kcZ kcZ ⟨by omega, rfl, fun i hi => absurd hi (Nat.not_lt_zero _)⟩ ⟨rfl, fun i hi => absurd hi (Nat.not_lt_zero _)⟩
  have hI : I' = I2 := by
    have := h1.symm.trans g1
    exact (Prod.mk.inj (Prod.mk.inj (Option.some.inj this)).2).1
  have e59 : I' 59 = kcZ 59 := by
    rw [hI]
    exact g6 59 (by decide)
  have e60 : I' 60 = kcZ 60 := by
    rw [hI]
    exact g6 60 (by decide)
  obtain ⟨r3, n3, B3, I3, J3, q1, q2, -⟩ := k_put true 9 (Nat.le_refl _) x v kcZL kcZL 0 (fun _ => 0) kcZ I' ⟨by omega, rfl, fun i hi => absurd hi (Nat.not_lt_zero _)⟩ ⟨by rw [e59]; rfl, fun i hi => absurd hi (Nat.not_lt_zero _)⟩
  have er : r3 = r := by
    have := q1.symm.trans h1
    exact (Prod.mk.inj (Option.some.inj this)).1
  refine ⟨r, I', J3, ?_, by rw [← er]; exact q2⟩
  unfold kf1
  show (kf20 true 9 x v kcZ kcZL).bind _ = _
  rw [h1]
  exact if_pos h3
/-- load: what was put together has no byte -/
theorem k1_load : ∃ I' J' : kjI, kf13 false kcZ kcZL = some (I', kcZL) ∧ I' 0 3 = 1 ∧ kf123 (mv_up I' 31 1 0) kcZL = some (0, J', kcZL) ∧ J' 59 0 = 1 := ⟨_, _, rfl, rfl, rfl, rfl⟩
theorem k1_mlook (a b c : Int32) : kf144 a b c kcZ kcZL = some (0, mv_up kcZ 59 0 1, kcZL) := by
  unfold kf144
  rw [k1_141 rfl]
  rfl
