/-! KindJudgeModel.raise(I)I on ('c', 59) -/
def kf101 (v1 : Int32) (I : kjI) (L : kjL) : Option (Int32 × kjI × kjL) :=
  some ((0 : Int32), (mv_up I 59 0 v1), L)
set_option maxRecDepth 100000 in
set_option maxHeartbeats 4000000 in
theorem kf101_ok (f : Bool) (v1 : Int32) (I : kjI) (L : kjL) (d : Nat) (r : Int32 × kjI × kjL) (h : kf101 v1 I L = some r) : mv_C kjP kjSta (d + 1) 101 [.ref 59, .int v1] (kjS f I L) (kjQwi f r) := by
  unfold kf101 at h
  refine mv_C_in kjM_101 (lc := [some (.ref 59), some (.int v1)]) rfl rfl rfl ?_
  refine mv_G_run 4 (F' := (6, [some (.ref 59), some (.int v1)], [.int (0 : Int32)], 0, 0, kjS f (mv_up I 59 0 v1) L)) rfl ?_
  obtain rfl := Option.some.inj h
  exact mv_G_ret rfl rfl rfl (Nat.le_refl _) trivial ⟨rfl, rfl⟩
/-! KindJudgeModel.within(III)Z -/
def kf102 (I : kjI) (L : kjL) (v0 : Int32) (v1 : Int32) (v2 : Int32) : Option (Int32) :=
  if v0 < v1 then (some (0 : Int32)) else (if v2 < v0 then (some (0 : Int32)) else (some (1 : Int32)))
set_option maxRecDepth 100000 in
set_option maxHeartbeats 4000000 in
theorem kf102_ok (f : Bool) (I : kjI) (L : kjL) (v0 : Int32) (v1 : Int32) (v2 : Int32) (d : Nat) (r : Int32) (h : kf102 I L v0 v1 v2 = some r) : mv_C kjP kjSta (d + 1) 102 [.int v0, .int v1, .int v2] (kjS f I L) (kjQi f I L r) := by
  unfold kf102 at h
  refine mv_C_in kjM_102 (lc := [some (.int v0), some (.int v1), some (.int v2)]) rfl rfl rfl ?_
  refine mv_G_run 2 (F' := (2, [some (.int v0), some (.int v1), some (.int v2)], [.int v1, .int v0], 0, 0, kjS f I L)) rfl ?_
  by_cases hc1 : v0 < v1
  · rw [if_pos hc1] at h
    refine mv_G_br (tgt := 14) rfl rfl (by decide) (fun _ => ?_) (fun z => absurd hc1 z)
    refine mv_G_run 1 (F' := (15, [some (.int v0), some (.int v1), some (.int v2)], [.int (0 : Int32)], 0, 0, kjS f I L)) rfl ?_
    obtain rfl := Option.some.inj h
    exact mv_G_ret rfl rfl rfl (Nat.le_refl _) (Or.inl rfl) ⟨rfl, rfl⟩
  · rw [if_neg hc1] at h
    refine mv_G_br (tgt := 14) rfl rfl (by decide) (fun z => absurd z hc1) (fun _ => ?_)
    refine mv_G_run 2 (F' := (7, [some (.int v0), some (.int v1), some (.int v2)], [.int v2, .int v0], 0, 0, kjS f I L)) rfl ?_
    by_cases hc2 : v2 < v0
    · rw [if_pos hc2] at h
      refine mv_G_br (tgt := 14) rfl rfl (by decide) (fun _ => ?_) (fun z => absurd hc2 z)
      refine mv_G_run 1 (F' := (15, [some (.int v0), some (.int v1), some (.int v2)], [.int (0 : Int32)], 0, 0, kjS f I L)) rfl ?_
      obtain rfl := Option.some.inj h
      exact mv_G_ret rfl rfl rfl (Nat.le_refl _) (Or.inl rfl) ⟨rfl, rfl⟩
    · rw [if_neg hc2] at h
      refine mv_G_br (tgt := 14) rfl rfl (by decide) (fun z => absurd z hc2) (fun _ => ?_)
      refine mv_G_run 2 (F' := (15, [some (.int v0), some (.int v1), some (.int v2)], [.int (1 : Int32)], 0, 0, kjS f I L)) rfl ?_
      obtain rfl := Option.some.inj h
      exact mv_G_ret rfl rfl rfl (Nat.le_refl _) (Or.inr rfl) ⟨rfl, rfl⟩
/-! KindJudgeModel.put(JI)Z on ('c', 59) -/
def kf103_35 (N : Nat) : Nat → Int64 → Int32 → kjI → kjL → Option (Int32 × kjI × kjL)
  | 0, _, _, _, _ => none
  | n + 1, v1, v4, I, L => if v4 < 0 then (some ((1 : Int32), I, L)) else (bif mv_in (I 59 2) 1500 then ((fun v1 v4 I L => kf103_35 N n v1 v4 I L) v1 (v4 + (-1 : Int32)) (mv_up (mv_up I 60 (Int32.toNatClampNeg (I 59 2)) (Int64.toInt32 ((v1 >>> (Int32.toInt64 ((8 : Int32) * v4) &&& 63)) &&& (255 : Int64)))) 59 2 (((mv_up I 60 (Int32.toNatClampNeg (I 59 2)) (Int64.toInt32 ((v1 >>> (Int32.toInt64 ((8 : Int32) * v4) &&& 63)) &&& (255 : Int64)))) 59 2) + (1 : Int32))) L) else none)
set_option maxRecDepth 100000 in
set_option maxHeartbeats 4000000 in
theorem kf103_35_ok (f : Bool) (N : Nat) (d : Nat)  : ∀ (n : Nat) (v1 : Int64) (v4 : Int32) (I : kjI) (L : kjL) (r : Int32 × kjI × kjL), kf103_35 N n v1 v4 I L = some r → mv_G kjP kjSta (mv_C kjP kjSta (d + 0)) kjM_103 (kjQwi f r) (35, [some (.ref 59), some (.long v1), none, none, some (.int v4)], [], 0, 0, kjS f I L) := by
  intro n
  induction n with
  | zero => intro v1 v4 I L r h; cases h
  | succ n ih =>
    have hk35 := ih
    intro v1 v4 I L r h
    unfold kf103_35 at h
    refine mv_G_run 1 (F' := (37, [some (.ref 59), some (.long v1), none, none, some (.int v4)], [.int v4], 0, 0, kjS f I L)) rfl ?_
    by_cases hc1 : v4 < 0
    · rw [if_pos hc1] at h
      refine mv_G_br (tgt := 77) rfl rfl (by decide) (fun _ => ?_) (fun z => absurd hc1 z)
      refine mv_G_run 1 (F' := (78, [some (.ref 59), some (.long v1), none, none, some (.int v4)], [.int (1 : Int32)], 0, 0, kjS f I L)) rfl ?_
      obtain rfl := Option.some.inj h
      exact mv_G_ret rfl rfl rfl (Nat.le_refl _) (Or.inr rfl) ⟨rfl, rfl⟩
    · rw [if_neg hc1] at h
      refine mv_G_br (tgt := 77) rfl rfl (by decide) (fun z => absurd z hc1) (fun _ => ?_)
      refine mv_G_run 12 (F' := (60, [some (.ref 59), some (.long v1), none, none, some (.int v4)], [.int (Int64.toInt32 ((v1 >>> (Int32.toInt64 ((8 : Int32) * v4) &&& 63)) &&& (255 : Int64))), .int (I 59 2), .ref 60], 0, 0, kjS f I L)) rfl ?_
      obtain ⟨hi2, h⟩ := mv_bifs h
      refine mv_G_ast rfl rfl (mv_in_ok hi2) ?_
      refine mv_G_run 8 (F' := (35, [some (.ref 59), some (.long v1), none, none, some (.int (v4 + (-1 : Int32)))], [], 0, 0, kjS f (mv_up (mv_up I 60 (Int32.toNatClampNeg (I 59 2)) (Int64.toInt32 ((v1 >>> (Int32.toInt64 ((8 : Int32) * v4) &&& 63)) &&& (255 : Int64)))) 59 2 (((mv_up I 60 (Int32.toNatClampNeg (I 59 2)) (Int64.toInt32 ((v1 >>> (Int32.toInt64 ((8 : Int32) * v4) &&& 63)) &&& (255 : Int64)))) 59 2) + (1 : Int32))) L)) rfl ?_
      exact hk35 v1 (v4 + (-1 : Int32)) (mv_up (mv_up I 60 (Int32.toNatClampNeg (I 59 2)) (Int64.toInt32 ((v1 >>> (Int32.toInt64 ((8 : Int32) * v4) &&& 63)) &&& (255 : Int64)))) 59 2 (((mv_up I 60 (Int32.toNatClampNeg (I 59 2)) (Int64.toInt32 ((v1 >>> (Int32.toInt64 ((8 : Int32) * v4) &&& 63)) &&& (255 : Int64)))) 59 2) + (1 : Int32))) L _ h
def kf103 (N : Nat) (v1 : Int64) (v3 : Int32) (I : kjI) (L : kjL) : Option (Int32 × kjI × kjL) :=
  if v3 < (1 : Int32) then (some ((0 : Int32), (mv_up I 59 0 (0 : Int32)), L)) else (if (8 : Int32) < v3 then (some ((0 : Int32), (mv_up I 59 0 (0 : Int32)), L)) else (if (((mv_up I 59 0 (0 : Int32)) 59 2) + v3) ≤ (1500 : Int32) then (kf103_35 N N v1 (v3 - (1 : Int32)) (mv_up I 59 0 (0 : Int32)) L) else (some ((0 : Int32), (mv_up I 59 0 (0 : Int32)), L))))
set_option maxRecDepth 100000 in
set_option maxHeartbeats 4000000 in
theorem kf103_ok (f : Bool) (N : Nat) (v1 : Int64) (v3 : Int32) (I : kjI) (L : kjL) (d : Nat) (r : Int32 × kjI × kjL) (h : kf103 N v1 v3 I L = some r) : mv_C kjP kjSta (d + 1) 103 [.ref 59, .long v1, .int v3] (kjS f I L) (kjQwi f r) := by
  unfold kf103 at h
  refine mv_C_in kjM_103 (lc := [some (.ref 59), some (.long v1), none, some (.int v3), none]) rfl rfl rfl ?_
  refine mv_G_run 5 (F' := (7, [some (.ref 59), some (.long v1), none, some (.int v3), none], [.int (1 : Int32), .int v3], 0, 0, kjS f (mv_up I 59 0 (0 : Int32)) L)) rfl ?_
  by_cases hc1 : v3 < (1 : Int32)
  · rw [if_pos hc1] at h
    refine mv_G_br (tgt := 28) rfl rfl (by decide) (fun _ => ?_) (fun z => absurd hc1 z)
    refine mv_G_run 1 (F' := (29, [some (.ref 59), some (.long v1), none, some (.int v3), none], [.int (0 : Int32)], 0, 0, kjS f (mv_up I 59 0 (0 : Int32)) L)) rfl ?_
    obtain rfl := Option.some.inj h
    exact mv_G_ret rfl rfl rfl (Nat.le_refl _) (Or.inl rfl) ⟨rfl, rfl⟩
  · rw [if_neg hc1] at h
    refine mv_G_br (tgt := 28) rfl rfl (by decide) (fun z => absurd z hc1) (fun _ => ?_)
    refine mv_G_run 2 (F' := (13, [some (.ref 59), some (.long v1), none, some (.int v3), none], [.int (8 : Int32), .int v3], 0, 0, kjS f (mv_up I 59 0 (0 : Int32)) L)) rfl ?_
    by_cases hc2 : (8 : Int32) < v3
    · rw [if_pos hc2] at h
      refine mv_G_br (tgt := 28) rfl rfl (by decide) (fun _ => ?_) (fun z => absurd hc2 z)
      refine mv_G_run 1 (F' := (29, [some (.ref 59), some (.long v1), none, some (.int v3), none], [.int (0 : Int32)], 0, 0, kjS f (mv_up I 59 0 (0 : Int32)) L)) rfl ?_
      obtain rfl := Option.some.inj h
      exact mv_G_ret rfl rfl rfl (Nat.le_refl _) (Or.inl rfl) ⟨rfl, rfl⟩
    · rw [if_neg hc2] at h
      refine mv_G_br (tgt := 28) rfl rfl (by decide) (fun z => absurd z hc2) (fun _ => ?_)
      refine mv_G_run 5 (F' := (25, [some (.ref 59), some (.long v1), none, some (.int v3), none], [.int (1500 : Int32), .int (((mv_up I 59 0 (0 : Int32)) 59 2) + v3)], 0, 0, kjS f (mv_up I 59 0 (0 : Int32)) L)) rfl ?_
      by_cases hc3 : (((mv_up I 59 0 (0 : Int32)) 59 2) + v3) ≤ (1500 : Int32)
      · rw [if_pos hc3] at h
        refine mv_G_br (tgt := 30) rfl rfl (by decide) (fun _ => ?_) (fun z => absurd hc3 z)
        refine mv_G_run 4 (F' := (35, [some (.ref 59), some (.long v1), none, some (.int v3), some (.int (v3 - (1 : Int32)))], [], 0, 0, kjS f (mv_up I 59 0 (0 : Int32)) L)) rfl ?_
        refine mv_G_fg (lc' := [some (.ref 59), some (.long v1), none, none, some (.int (v3 - (1 : Int32)))]) (And.intro rfl (And.intro rfl (And.intro rfl trivial))) ?_
        exact kf103_35_ok _ _ d _ _ _ _ _ _ h
      · rw [if_neg hc3] at h
        refine mv_G_br (tgt := 30) rfl rfl (by decide) (fun z => absurd z hc3) (fun _ => ?_)
        refine mv_G_run 1 (F' := (29, [some (.ref 59), some (.long v1), none, some (.int v3), none], [.int (0 : Int32)], 0, 0, kjS f (mv_up I 59 0 (0 : Int32)) L)) rfl ?_
        obtain rfl := Option.some.inj h
        exact mv_G_ret rfl rfl rfl (Nat.le_refl _) (Or.inl rfl) ⟨rfl, rfl⟩
/-! KindJudgeModel.next(II)I on ('c', 59) -/
def kf104_37 (I : kjI) (L : kjL) : Option (Int32 × kjI × kjL) :=
  some ((0 : Int32), (mv_up I 59 36 (1 : Int32)), L)
set_option maxRecDepth 100000 in
set_option maxHeartbeats 4000000 in
theorem kf104_37_ok (f : Bool) (d : Nat)  (I : kjI) (L : kjL) (r : Int32 × kjI × kjL) (h : kf104_37 I L = some r) : mv_G kjP kjSta (mv_C kjP kjSta (d + 1)) kjM_104 (kjQwi f r) (37, [some (.ref 59), none, none], [], 0, 0, kjS f I L) := by
  unfold kf104_37 at h
  refine mv_G_run 4 (F' := (43, [some (.ref 59), none, none], [.int (0 : Int32)], 0, 0, kjS f (mv_up I 59 36 (1 : Int32)) L)) rfl ?_
  obtain rfl := Option.some.inj h
  exact mv_G_ret rfl rfl rfl (Nat.le_refl _) trivial ⟨rfl, rfl⟩
def kf104 (v1 : Int32) (v2 : Int32) (I : kjI) (L : kjL) : Option (Int32 × kjI × kjL) :=
  if (I 59 36) = 0 then (if (I 59 5) ≤ (I 59 35) then (kf104_37 I L) else (bif mv_in (I 59 35) 1500 then ((kf102 I L (I 61 (Int32.toNatClampNeg (I 59 35))) v1 v2).bind fun r4 => if ¬ r4 = 0 then (bif mv_in (((mv_up I 59 35 ((I 59 35) + (1 : Int32))) 59 35) - (1 : Int32)) 1500 then (some (((mv_up I 59 35 ((I 59 35) + (1 : Int32))) 61 (Int32.toNatClampNeg (((mv_up I 59 35 ((I 59 35) + (1 : Int32))) 59 35) - (1 : Int32)))), (mv_up I 59 35 ((I 59 35) + (1 : Int32))), L)) else none) else (kf104_37 I L)) else none)) else (some ((0 : Int32), I, L))
set_option maxRecDepth 100000 in
set_option maxHeartbeats 4000000 in
theorem kf104_ok (f : Bool) (v1 : Int32) (v2 : Int32) (I : kjI) (L : kjL) (d : Nat) (r : Int32 × kjI × kjL) (h : kf104 v1 v2 I L = some r) : mv_C kjP kjSta (d + 2) 104 [.ref 59, .int v1, .int v2] (kjS f I L) (kjQwi f r) := by
  unfold kf104 at h
  refine mv_C_in kjM_104 (lc := [some (.ref 59), some (.int v1), some (.int v2)]) rfl rfl rfl ?_
  refine mv_G_run 2 (F' := (4, [some (.ref 59), some (.int v1), some (.int v2)], [.int (I 59 36)], 0, 0, kjS f I L)) rfl ?_
  by_cases hc1 : (I 59 36) = 0
  · rw [if_pos hc1] at h
    refine mv_G_br (tgt := 9) rfl rfl (by decide) (fun _ => ?_) (fun z => absurd hc1 z)
    refine mv_G_run 4 (F' := (17, [some (.ref 59), some (.int v1), some (.int v2)], [.int (I 59 5), .int (I 59 35)], 0, 0, kjS f I L)) rfl ?_
    by_cases hc2 : (I 59 5) ≤ (I 59 35)
    · rw [if_pos hc2] at h
      refine mv_G_br (tgt := 37) rfl rfl (by decide) (fun _ => ?_) (fun z => absurd hc2 z)
      refine mv_G_fg (lc' := [some (.ref 59), none, none]) (And.intro rfl trivial) ?_
      exact kf104_37_ok _ d _ _ _ h
    · rw [if_neg hc2] at h
      refine mv_G_br (tgt := 37) rfl rfl (by decide) (fun z => absurd z hc2) (fun _ => ?_)
      refine mv_G_run 4 (F' := (28, [some (.ref 59), some (.int v1), some (.int v2)], [.int (I 59 35), .ref 61], 0, 0, kjS f I L)) rfl ?_
      obtain ⟨hi3, h⟩ := mv_bifs h
      refine mv_G_ald rfl rfl (mv_in_ok hi3) ?_
      refine mv_G_run 2 (F' := (31, [some (.ref 59), some (.int v1), some (.int v2)], [.int v2, .int v1, .int (I 61 (Int32.toNatClampNeg (I 59 35)))], 0, 0, kjS f I L)) rfl ?_
      obtain ⟨r4, hc5, h⟩ := mv_bd h
      refine mv_G_call (r := []) (kf102_ok _ _ _ _ _ _ _ _ hc5) rfl rfl rfl rfl rfl (Nat.le_of_ble_eq_true rfl) (Nat.le_of_ble_eq_true rfl) (Nat.le_of_ble_eq_true rfl) ?_
      rintro _ _ ⟨rfl, rfl⟩
      by_cases hc6 : ¬ r4 = 0
      · rw [if_pos hc6] at h
        refine mv_G_br (tgt := 44) rfl rfl (by decide) (fun _ => ?_) (fun z => absurd hc6 z)
        refine mv_G_run 12 (F' := (64, [some (.ref 59), some (.int v1), some (.int v2)], [.int (((mv_up I 59 35 ((I 59 35) + (1 : Int32))) 59 35) - (1 : Int32)), .ref 61], 0, 0, kjS f (mv_up I 59 35 ((I 59 35) + (1 : Int32))) L)) rfl ?_
        obtain ⟨hi7, h⟩ := mv_bifs h
        refine mv_G_ald rfl rfl (mv_in_ok hi7) ?_
        obtain rfl := Option.some.inj h
        exact mv_G_ret rfl rfl rfl (Nat.le_refl _) trivial ⟨rfl, rfl⟩
      · rw [if_neg hc6] at h
        refine mv_G_br (tgt := 44) rfl rfl (by decide) (fun z => absurd z hc6) (fun _ => ?_)
        refine mv_G_fg (lc' := [some (.ref 59), none, none]) (And.intro rfl trivial) ?_
        exact kf104_37_ok _ d _ _ _ h
  · rw [if_neg hc1] at h
    refine mv_G_br (tgt := 9) rfl rfl (by decide) (fun z => absurd z hc1) (fun _ => ?_)
    refine mv_G_run 1 (F' := (8, [some (.ref 59), some (.int v1), some (.int v2)], [.int (0 : Int32)], 0, 0, kjS f I L)) rfl ?_
    obtain rfl := Option.some.inj h
    exact mv_G_ret rfl rfl rfl (Nat.le_refl _) trivial ⟨rfl, rfl⟩
/-! KindJudgeModel.readType(Z)I on ('c', 59) -/
def kf105_74 (v2 : Int32) (s0 : Int32) (I : kjI) (L : kjL) : Option (Int32 × kjI × kjL) :=
  if ¬ s0 = 0 then (some (v2, (mv_up I 59 35 ((I 59 35) + (1 : Int32))), L)) else (some ((0 : Int32), (mv_up I 59 36 (1 : Int32)), L))
set_option maxRecDepth 100000 in
set_option maxHeartbeats 4000000 in
theorem kf105_74_ok (f : Bool) (d : Nat)  (v2 : Int32) (s0 : Int32) (I : kjI) (L : kjL) (r : Int32 × kjI × kjL) (h : kf105_74 v2 s0 I L = some r) : mv_G kjP kjSta (mv_C kjP kjSta (d + 0)) kjM_105 (kjQwi f r) (74, [some (.ref 59), none, some (.int v2), none], [.int s0], 0, 0, kjS f I L) := by
  unfold kf105_74 at h
  refine mv_G_run 2 (F' := (76, [some (.ref 59), none, some (.int v2), some (.int s0)], [.int s0], 0, 0, kjS f I L)) rfl ?_
  by_cases hc1 : ¬ s0 = 0
  · rw [if_pos hc1] at h
    refine mv_G_br (tgt := 86) rfl rfl (by decide) (fun _ => ?_) (fun z => absurd hc1 z)
    refine mv_G_run 7 (F' := (97, [some (.ref 59), none, some (.int v2), some (.int s0)], [.int v2], 0, 0, kjS f (mv_up I 59 35 ((I 59 35) + (1 : Int32))) L)) rfl ?_
    obtain rfl := Option.some.inj h
    exact mv_G_ret rfl rfl rfl (Nat.le_refl _) trivial ⟨rfl, rfl⟩
  · rw [if_neg hc1] at h
    refine mv_G_br (tgt := 86) rfl rfl (by decide) (fun z => absurd z hc1) (fun _ => ?_)
    refine mv_G_run 4 (F' := (85, [some (.ref 59), none, some (.int v2), some (.int s0)], [.int (0 : Int32)], 0, 0, kjS f (mv_up I 59 36 (1 : Int32)) L)) rfl ?_
    obtain rfl := Option.some.inj h
    exact mv_G_ret rfl rfl rfl (Nat.le_refl _) trivial ⟨rfl, rfl⟩
def kf105_69 (v2 : Int32) (I : kjI) (L : kjL) : Option (Int32 × kjI × kjL) :=
  kf105_74 v2 (1 : Int32) I L
set_option maxRecDepth 100000 in
set_option maxHeartbeats 4000000 in
theorem kf105_69_ok (f : Bool) (d : Nat)  (v2 : Int32) (I : kjI) (L : kjL) (r : Int32 × kjI × kjL) (h : kf105_69 v2 I L = some r) : mv_G kjP kjSta (mv_C kjP kjSta (d + 0)) kjM_105 (kjQwi f r) (69, [some (.ref 59), none, some (.int v2), none], [], 0, 0, kjS f I L) := by
  unfold kf105_69 at h
  refine mv_G_run 2 (F' := (74, [some (.ref 59), none, some (.int v2), none], [.int (1 : Int32)], 0, 0, kjS f I L)) rfl ?_
  exact kf105_74_ok _ d _ _ _ _ _ h
def kf105_73 (v2 : Int32) (I : kjI) (L : kjL) : Option (Int32 × kjI × kjL) :=
  kf105_74 v2 (0 : Int32) I L
set_option maxRecDepth 100000 in
set_option maxHeartbeats 4000000 in
theorem kf105_73_ok (f : Bool) (d : Nat)  (v2 : Int32) (I : kjI) (L : kjL) (r : Int32 × kjI × kjL) (h : kf105_73 v2 I L = some r) : mv_G kjP kjSta (mv_C kjP kjSta (d + 0)) kjM_105 (kjQwi f r) (73, [some (.ref 59), none, some (.int v2), none], [], 0, 0, kjS f I L) := by
  unfold kf105_73 at h
  refine mv_G_run 1 (F' := (74, [some (.ref 59), none, some (.int v2), none], [.int (0 : Int32)], 0, 0, kjS f I L)) rfl ?_
  exact kf105_74_ok _ d _ _ _ _ _ h
def kf105_61 (v1 : Int32) (v2 : Int32) (I : kjI) (L : kjL) : Option (Int32 × kjI × kjL) :=
  if v1 = 0 then (kf105_73 v2 I L) else (if ¬ v2 = 0 then (kf105_73 v2 I L) else (kf105_69 v2 I L))
set_option maxRecDepth 100000 in
set_option maxHeartbeats 4000000 in
theorem kf105_61_ok (f : Bool) (d : Nat)  (v1 : Int32) (v2 : Int32) (I : kjI) (L : kjL) (r : Int32 × kjI × kjL) (h : kf105_61 v1 v2 I L = some r) : mv_G kjP kjSta (mv_C kjP kjSta (d + 0)) kjM_105 (kjQwi f r) (61, [some (.ref 59), some (.int v1), some (.int v2), none], [], 0, 0, kjS f I L) := by
  unfold kf105_61 at h
  refine mv_G_run 1 (F' := (62, [some (.ref 59), some (.int v1), some (.int v2), none], [.int v1], 0, 0, kjS f I L)) rfl ?_
  by_cases hc1 : v1 = 0
  · rw [if_pos hc1] at h
    refine mv_G_br (tgt := 73) rfl rfl (by decide) (fun _ => ?_) (fun z => absurd hc1 z)
    refine mv_G_fg (lc' := [some (.ref 59), none, some (.int v2), none]) (And.intro rfl (And.intro rfl trivial)) ?_
    exact kf105_73_ok _ d _ _ _ _ h
  · rw [if_neg hc1] at h
    refine mv_G_br (tgt := 73) rfl rfl (by decide) (fun z => absurd z hc1) (fun _ => ?_)
    refine mv_G_run 1 (F' := (66, [some (.ref 59), some (.int v1), some (.int v2), none], [.int v2], 0, 0, kjS f I L)) rfl ?_
    by_cases hc2 : ¬ v2 = 0
    · rw [if_pos hc2] at h
      refine mv_G_br (tgt := 73) rfl rfl (by decide) (fun _ => ?_) (fun z => absurd hc2 z)
      refine mv_G_fg (lc' := [some (.ref 59), none, some (.int v2), none]) (And.intro rfl (And.intro rfl trivial)) ?_
      exact kf105_73_ok _ d _ _ _ _ h
    · rw [if_neg hc2] at h
      refine mv_G_br (tgt := 73) rfl rfl (by decide) (fun z => absurd z hc2) (fun _ => ?_)
      refine mv_G_fg (lc' := [some (.ref 59), none, some (.int v2), none]) (And.intro rfl (And.intro rfl trivial)) ?_
      exact kf105_69_ok _ d _ _ _ _ h
def kf105_33 (v1 : Int32) (s0 : Int32) (I : kjI) (L : kjL) : Option (Int32 × kjI × kjL) :=
  if s0 = (1 : Int32) then (kf105_69 s0 I L) else (if s0 = (2 : Int32) then (kf105_69 s0 I L) else (if s0 < (16 : Int32) then (kf105_61 v1 s0 I L) else (if s0 < ((16 : Int32) + (I 59 12)) then (kf105_69 s0 I L) else (kf105_61 v1 s0 I L))))
set_option maxRecDepth 100000 in
set_option maxHeartbeats 4000000 in
theorem kf105_33_ok (f : Bool) (d : Nat)  (v1 : Int32) (s0 : Int32) (I : kjI) (L : kjL) (r : Int32 × kjI × kjL) (h : kf105_33 v1 s0 I L = some r) : mv_G kjP kjSta (mv_C kjP kjSta (d + 0)) kjM_105 (kjQwi f r) (33, [some (.ref 59), some (.int v1), none, none], [.int s0], 0, 0, kjS f I L) := by
  unfold kf105_33 at h
  refine mv_G_run 3 (F' := (36, [some (.ref 59), some (.int v1), some (.int s0), none], [.int (1 : Int32), .int s0], 0, 0, kjS f I L)) rfl ?_
  by_cases hc1 : s0 = (1 : Int32)
  · rw [if_pos hc1] at h
    refine mv_G_br (tgt := 69) rfl rfl (by decide) (fun _ => ?_) (fun z => absurd hc1 z)
    refine mv_G_fg (lc' := [some (.ref 59), none, some (.int s0), none]) (And.intro rfl (And.intro rfl trivial)) ?_
    exact kf105_69_ok _ d _ _ _ _ h
  · rw [if_neg hc1] at h
    refine mv_G_br (tgt := 69) rfl rfl (by decide) (fun z => absurd z hc1) (fun _ => ?_)
    refine mv_G_run 2 (F' := (41, [some (.ref 59), some (.int v1), some (.int s0), none], [.int (2 : Int32), .int s0], 0, 0, kjS f I L)) rfl ?_
    by_cases hc2 : s0 = (2 : Int32)
    · rw [if_pos hc2] at h
      refine mv_G_br (tgt := 69) rfl rfl (by decide) (fun _ => ?_) (fun z => absurd hc2 z)
      refine mv_G_fg (lc' := [some (.ref 59), none, some (.int s0), none]) (And.intro rfl (And.intro rfl trivial)) ?_
      exact kf105_69_ok _ d _ _ _ _ h
    · rw [if_neg hc2] at h
      refine mv_G_br (tgt := 69) rfl rfl (by decide) (fun z => absurd z hc2) (fun _ => ?_)
      refine mv_G_run 2 (F' := (47, [some (.ref 59), some (.int v1), some (.int s0), none], [.int (16 : Int32), .int s0], 0, 0, kjS f I L)) rfl ?_
      by_cases hc3 : s0 < (16 : Int32)
      · rw [if_pos hc3] at h
        refine mv_G_br (tgt := 61) rfl rfl (by decide) (fun _ => ?_) (fun z => absurd hc3 z)
        exact kf105_61_ok _ d _ _ _ _ _ h
      · rw [if_neg hc3] at h
        refine mv_G_br (tgt := 61) rfl rfl (by decide) (fun z => absurd z hc3) (fun _ => ?_)
        refine mv_G_run 5 (F' := (58, [some (.ref 59), some (.int v1), some (.int s0), none], [.int ((16 : Int32) + (I 59 12)), .int s0], 0, 0, kjS f I L)) rfl ?_
        by_cases hc4 : s0 < ((16 : Int32) + (I 59 12))
        · rw [if_pos hc4] at h
          refine mv_G_br (tgt := 69) rfl rfl (by decide) (fun _ => ?_) (fun z => absurd hc4 z)
          refine mv_G_fg (lc' := [some (.ref 59), none, some (.int s0), none]) (And.intro rfl (And.intro rfl trivial)) ?_
          exact kf105_69_ok _ d _ _ _ _ h
        · rw [if_neg hc4] at h
          refine mv_G_br (tgt := 69) rfl rfl (by decide) (fun z => absurd z hc4) (fun _ => ?_)
          exact kf105_61_ok _ d _ _ _ _ _ h
def kf105 (v1 : Int32) (I : kjI) (L : kjL) : Option (Int32 × kjI × kjL) :=
  if (I 59 36) = 0 then (if (I 59 5) ≤ (I 59 35) then (kf105_33 v1 (-1 : Int32) I L) else (bif mv_in (I 59 35) 1500 then (kf105_33 v1 (I 61 (Int32.toNatClampNeg (I 59 35))) I L) else none)) else (some ((0 : Int32), I, L))
set_option maxRecDepth 100000 in
set_option maxHeartbeats 4000000 in
theorem kf105_ok (f : Bool) (v1 : Int32) (I : kjI) (L : kjL) (d : Nat) (r : Int32 × kjI × kjL) (h : kf105 v1 I L = some r) : mv_C kjP kjSta (d + 1) 105 [.ref 59, .int v1] (kjS f I L) (kjQwi f r) := by
  unfold kf105 at h
  refine mv_C_in kjM_105 (lc := [some (.ref 59), some (.int v1), none, none]) rfl rfl rfl ?_
  refine mv_G_run 2 (F' := (4, [some (.ref 59), some (.int v1), none, none], [.int (I 59 36)], 0, 0, kjS f I L)) rfl ?_
  by_cases hc1 : (I 59 36) = 0
  · rw [if_pos hc1] at h
    refine mv_G_br (tgt := 9) rfl rfl (by decide) (fun _ => ?_) (fun z => absurd hc1 z)
    refine mv_G_run 4 (F' := (17, [some (.ref 59), some (.int v1), none, none], [.int (I 59 5), .int (I 59 35)], 0, 0, kjS f I L)) rfl ?_
    by_cases hc2 : (I 59 5) ≤ (I 59 35)
    · rw [if_pos hc2] at h
      refine mv_G_br (tgt := 32) rfl rfl (by decide) (fun _ => ?_) (fun z => absurd hc2 z)
      refine mv_G_run 1 (F' := (33, [some (.ref 59), some (.int v1), none, none], [.int (-1 : Int32)], 0, 0, kjS f I L)) rfl ?_
      exact kf105_33_ok _ d _ _ _ _ _ h
    · rw [if_neg hc2] at h
      refine mv_G_br (tgt := 32) rfl rfl (by decide) (fun z => absurd z hc2) (fun _ => ?_)
      refine mv_G_run 4 (F' := (28, [some (.ref 59), some (.int v1), none, none], [.int (I 59 35), .ref 61], 0, 0, kjS f I L)) rfl ?_
      obtain ⟨hi3, h⟩ := mv_bifs h
      refine mv_G_ald rfl rfl (mv_in_ok hi3) ?_
      refine mv_G_run 1 (F' := (33, [some (.ref 59), some (.int v1), none, none], [.int (I 61 (Int32.toNatClampNeg (I 59 35)))], 0, 0, kjS f I L)) rfl ?_
      exact kf105_33_ok _ d _ _ _ _ _ h
  · rw [if_neg hc1] at h
    refine mv_G_br (tgt := 9) rfl rfl (by decide) (fun z => absurd z hc1) (fun _ => ?_)
    refine mv_G_run 1 (F' := (8, [some (.ref 59), some (.int v1), none, none], [.int (0 : Int32)], 0, 0, kjS f I L)) rfl ?_
    obtain rfl := Option.some.inj h
    exact mv_G_ret rfl rfl rfl (Nat.le_refl _) trivial ⟨rfl, rfl⟩
/-! KindJudgeModel.readClass(I)V on ('c', 59) -/
def kf106_112 (N : Nat) : Nat → Int32 → Int32 → Int32 → Int32 → kjI → kjL → Option (kjI × kjL)
  | 0, _, _, _, _, _, _ => none
  | n + 1, v1, v3, v5, v6, I, L => if (v3 + v5) ≤ v6 then (some (I, L)) else ((kf105 (0 : Int32) I L).bind fun r2 => bif mv_in (((8 : Int32) * v1) + v6) 64 then ((fun v1 v3 v5 v6 I L => kf106_112 N n v1 v3 v5 v6 I L) v1 v3 v5 (v6 + (1 : Int32)) (mv_up r2.2.1 65 (Int32.toNatClampNeg (((8 : Int32) * v1) + v6)) r2.1) r2.2.2) else none)
set_option maxRecDepth 100000 in
set_option maxHeartbeats 4000000 in
theorem kf106_112_ok (f : Bool) (N : Nat) (d : Nat)  : ∀ (n : Nat) (v1 : Int32) (v3 : Int32) (v5 : Int32) (v6 : Int32) (I : kjI) (L : kjL) (r : kjI × kjL), kf106_112 N n v1 v3 v5 v6 I L = some r → mv_G kjP kjSta (mv_C kjP kjSta (d + 2)) kjM_106 (kjQwv f r) (112, [some (.ref 59), some (.int v1), none, some (.int v3), none, some (.int v5), some (.int v6)], [], 0, 0, kjS f I L) := by
  intro n
  induction n with
  | zero => intro v1 v3 v5 v6 I L r h; cases h
  | succ n ih =>
    have hk112 := ih
    intro v1 v3 v5 v6 I L r h
    unfold kf106_112 at h
    refine mv_G_run 4 (F' := (118, [some (.ref 59), some (.int v1), none, some (.int v3), none, some (.int v5), some (.int v6)], [.int (v3 + v5), .int v6], 0, 0, kjS f I L)) rfl ?_
    by_cases hc1 : (v3 + v5) ≤ v6
    · rw [if_pos hc1] at h
      refine mv_G_br (tgt := 144) rfl rfl (by decide) (fun _ => ?_) (fun z => absurd hc1 z)
      obtain rfl := Option.some.inj h
      exact mv_G_ret rfl rfl rfl (Nat.le_refl _) trivial ⟨rfl, rfl⟩
    · rw [if_neg hc1] at h
      refine mv_G_br (tgt := 144) rfl rfl (by decide) (fun z => absurd z hc1) (fun _ => ?_)
      refine mv_G_run 9 (F' := (134, [some (.ref 59), some (.int v1), none, some (.int v3), none, some (.int v5), some (.int v6)], [.int (0 : Int32), .ref 59, .int (((8 : Int32) * v1) + v6), .ref 65], 0, 0, kjS f I L)) rfl ?_
      obtain ⟨r2, hc3, h⟩ := mv_bd h
      refine mv_G_call (r := [.int (((8 : Int32) * v1) + v6), .ref 65]) (kf105_ok _ _ _ _ _ _ hc3) rfl rfl rfl rfl rfl (Nat.le_of_ble_eq_true rfl) (Nat.le_of_ble_eq_true rfl) (Nat.le_of_ble_eq_true rfl) ?_
      rintro _ _ ⟨rfl, rfl⟩
      obtain ⟨hi4, h⟩ := mv_bifs h
      refine mv_G_ast rfl rfl (mv_in_ok hi4) ?_
      refine mv_G_run 2 (F' := (112, [some (.ref 59), some (.int v1), none, some (.int v3), none, some (.int v5), some (.int (v6 + (1 : Int32)))], [], 0, 0, kjS f (mv_up r2.2.1 65 (Int32.toNatClampNeg (((8 : Int32) * v1) + v6)) r2.1) r2.2.2)) rfl ?_
      exact hk112 v1 v3 v5 (v6 + (1 : Int32)) (mv_up r2.2.1 65 (Int32.toNatClampNeg (((8 : Int32) * v1) + v6)) r2.1) r2.2.2 _ h
def kf106_71 (N : Nat) : Nat → Int32 → Int32 → Int32 → Int32 → Int32 → kjI → kjL → Option (kjI × kjL)
  | 0, _, _, _, _, _, _, _ => none
  | n + 1, v1, v2, v3, v5, v6, I, L => if v3 ≤ v6 then (kf106_112 N N v1 v3 v5 v3 I L) else (bif mv_in (((8 : Int32) * (v2 - (1 : Int32))) + v6) 64 then (bif mv_in (((8 : Int32) * v1) + v6) 64 then ((fun v1 v2 v3 v5 v6 I L => kf106_71 N n v1 v2 v3 v5 v6 I L) v1 v2 v3 v5 (v6 + (1 : Int32)) (mv_up I 65 (Int32.toNatClampNeg (((8 : Int32) * v1) + v6)) (I 65 (Int32.toNatClampNeg (((8 : Int32) * (v2 - (1 : Int32))) + v6)))) L) else none) else none)
set_option maxRecDepth 100000 in
set_option maxHeartbeats 4000000 in
theorem kf106_71_ok (f : Bool) (N : Nat) (d : Nat)  : ∀ (n : Nat) (v1 : Int32) (v2 : Int32) (v3 : Int32) (v5 : Int32) (v6 : Int32) (I : kjI) (L : kjL) (r : kjI × kjL), kf106_71 N n v1 v2 v3 v5 v6 I L = some r → mv_G kjP kjSta (mv_C kjP kjSta (d + 2)) kjM_106 (kjQwv f r) (71, [some (.ref 59), some (.int v1), some (.int v2), some (.int v3), none, some (.int v5), some (.int v6)], [], 0, 0, kjS f I L) := by
  intro n
  induction n with
  | zero => intro v1 v2 v3 v5 v6 I L r h; cases h
  | succ n ih =>
    have hk71 := ih
    intro v1 v2 v3 v5 v6 I L r h
    unfold kf106_71 at h
    refine mv_G_run 2 (F' := (74, [some (.ref 59), some (.int v1), some (.int v2), some (.int v3), none, some (.int v5), some (.int v6)], [.int v3, .int v6], 0, 0, kjS f I L)) rfl ?_
    by_cases hc1 : v3 ≤ v6
    · rw [if_pos hc1] at h
      refine mv_G_br (tgt := 109) rfl rfl (by decide) (fun _ => ?_) (fun z => absurd hc1 z)
      refine mv_G_run 2 (F' := (112, [some (.ref 59), some (.int v1), some (.int v2), some (.int v3), none, some (.int v5), some (.int v3)], [], 0, 0, kjS f I L)) rfl ?_
      refine mv_G_fg (lc' := [some (.ref 59), some (.int v1), none, some (.int v3), none, some (.int v5), some (.int v3)]) (And.intro rfl (And.intro rfl (And.intro rfl (And.intro rfl (And.intro rfl trivial))))) ?_
      exact kf106_112_ok _ _ d _ _ _ _ _ _ _ _ h
    · rw [if_neg hc1] at h
      refine mv_G_br (tgt := 109) rfl rfl (by decide) (fun z => absurd z hc1) (fun _ => ?_)
      refine mv_G_run 16 (F' := (101, [some (.ref 59), some (.int v1), some (.int v2), some (.int v3), none, some (.int v5), some (.int v6)], [.int (((8 : Int32) * (v2 - (1 : Int32))) + v6), .ref 65, .int (((8 : Int32) * v1) + v6), .ref 65], 0, 0, kjS f I L)) rfl ?_
      obtain ⟨hi2, h⟩ := mv_bifs h
      refine mv_G_ald rfl rfl (mv_in_ok hi2) ?_
      obtain ⟨hi3, h⟩ := mv_bifs h
      refine mv_G_ast rfl rfl (mv_in_ok hi3) ?_
      refine mv_G_run 2 (F' := (71, [some (.ref 59), some (.int v1), some (.int v2), some (.int v3), none, some (.int v5), some (.int (v6 + (1 : Int32)))], [], 0, 0, kjS f (mv_up I 65 (Int32.toNatClampNeg (((8 : Int32) * v1) + v6)) (I 65 (Int32.toNatClampNeg (((8 : Int32) * (v2 - (1 : Int32))) + v6)))) L)) rfl ?_
      exact hk71 v1 v2 v3 v5 (v6 + (1 : Int32)) (mv_up I 65 (Int32.toNatClampNeg (((8 : Int32) * v1) + v6)) (I 65 (Int32.toNatClampNeg (((8 : Int32) * (v2 - (1 : Int32))) + v6)))) L _ h
def kf106_53 (N : Nat) (v1 : Int32) (v2 : Int32) (v3 : Int32) (s1 : Int32) (s2 : Int32) (I : kjI) (L : kjL) : Option (kjI × kjL) :=
  (kf104 s1 s2 I L).bind fun r1 => bif mv_in v1 8 then (kf106_71 N N v1 v2 v3 r1.1 (0 : Int32) (mv_up r1.2.1 64 (Int32.toNatClampNeg v1) (v3 + r1.1)) r1.2.2) else none
set_option maxRecDepth 100000 in
set_option maxHeartbeats 4000000 in
theorem kf106_53_ok (f : Bool) (N : Nat) (d : Nat)  (v1 : Int32) (v2 : Int32) (v3 : Int32) (s1 : Int32) (s2 : Int32) (I : kjI) (L : kjL) (r : kjI × kjL) (h : kf106_53 N v1 v2 v3 s1 s2 I L = some r) : mv_G kjP kjSta (mv_C kjP kjSta (d + 2)) kjM_106 (kjQwv f r) (53, [some (.ref 59), some (.int v1), some (.int v2), some (.int v3), none, none, none], [.int s2, .int s1, .ref 59], 0, 0, kjS f I L) := by
  unfold kf106_53 at h
  obtain ⟨r1, hc2, h⟩ := mv_bd h
  refine mv_G_call (r := []) (kf104_ok _ _ _ _ _ _ _ hc2) rfl rfl rfl rfl rfl (Nat.le_of_ble_eq_true rfl) (Nat.le_of_ble_eq_true rfl) (Nat.le_of_ble_eq_true rfl) ?_
  rintro _ _ ⟨rfl, rfl⟩
  refine mv_G_run 7 (F' := (67, [some (.ref 59), some (.int v1), some (.int v2), some (.int v3), none, some (.int r1.1), none], [.int (v3 + r1.1), .int v1, .ref 64], 0, 0, kjS f r1.2.1 r1.2.2)) rfl ?_
  obtain ⟨hi3, h⟩ := mv_bifs h
  refine mv_G_ast rfl rfl (mv_in_ok hi3) ?_
  refine mv_G_run 2 (F' := (71, [some (.ref 59), some (.int v1), some (.int v2), some (.int v3), none, some (.int r1.1), some (.int (0 : Int32))], [], 0, 0, kjS f (mv_up r1.2.1 64 (Int32.toNatClampNeg v1) (v3 + r1.1)) r1.2.2)) rfl ?_
  exact kf106_71_ok _ _ d _ _ _ _ _ _ _ _ _ h
def kf106_32 (N : Nat) (v1 : Int32) (v2 : Int32) (s0 : Int32) (I : kjI) (L : kjL) : Option (kjI × kjL) :=
  if (4 : Int32) ≤ ((8 : Int32) - s0) then (kf106_53 N v1 v2 s0 (0 : Int32) (4 : Int32) I L) else (kf106_53 N v1 v2 s0 (0 : Int32) ((8 : Int32) - s0) I L)
set_option maxRecDepth 100000 in
set_option maxHeartbeats 4000000 in
theorem kf106_32_ok (f : Bool) (N : Nat) (d : Nat)  (v1 : Int32) (v2 : Int32) (s0 : Int32) (I : kjI) (L : kjL) (r : kjI × kjL) (h : kf106_32 N v1 v2 s0 I L = some r) : mv_G kjP kjSta (mv_C kjP kjSta (d + 2)) kjM_106 (kjQwv f r) (32, [some (.ref 59), some (.int v1), some (.int v2), none, none, none, none], [.int s0], 0, 0, kjS f I L) := by
  unfold kf106_32 at h
  refine mv_G_run 9 (F' := (44, [some (.ref 59), some (.int v1), some (.int v2), some (.int s0), some (.int ((8 : Int32) - s0)), none, none], [.int (4 : Int32), .int ((8 : Int32) - s0), .int (0 : Int32), .ref 59], 0, 0, kjS f I L)) rfl ?_
  by_cases hc1 : (4 : Int32) ≤ ((8 : Int32) - s0)
  · rw [if_pos hc1] at h
    refine mv_G_br (tgt := 52) rfl rfl (by decide) (fun _ => ?_) (fun z => absurd hc1 z)
    refine mv_G_run 1 (F' := (53, [some (.ref 59), some (.int v1), some (.int v2), some (.int s0), some (.int ((8 : Int32) - s0)), none, none], [.int (4 : Int32), .int (0 : Int32), .ref 59], 0, 0, kjS f I L)) rfl ?_
    refine mv_G_fg (lc' := [some (.ref 59), some (.int v1), some (.int v2), some (.int s0), none, none, none]) (And.intro rfl (And.intro rfl (And.intro rfl (And.intro rfl trivial)))) ?_
    exact kf106_53_ok _ _ d _ _ _ _ _ _ _ _ h
  · rw [if_neg hc1] at h
    refine mv_G_br (tgt := 52) rfl rfl (by decide) (fun z => absurd z hc1) (fun _ => ?_)
    refine mv_G_run 2 (F' := (53, [some (.ref 59), some (.int v1), some (.int v2), some (.int s0), some (.int ((8 : Int32) - s0)), none, none], [.int ((8 : Int32) - s0), .int (0 : Int32), .ref 59], 0, 0, kjS f I L)) rfl ?_
    refine mv_G_fg (lc' := [some (.ref 59), some (.int v1), some (.int v2), some (.int s0), none, none, none]) (And.intro rfl (And.intro rfl (And.intro rfl (And.intro rfl trivial)))) ?_
    exact kf106_53_ok _ _ d _ _ _ _ _ _ _ _ h
def kf106 (N : Nat) (v1 : Int32) (I : kjI) (L : kjL) : Option (kjI × kjL) :=
  (kf104 (0 : Int32) v1 I L).bind fun r1 => bif mv_in v1 8 then (if ¬ r1.1 = 0 then (bif mv_in (r1.1 - (1 : Int32)) 8 then (kf106_32 N v1 r1.1 ((mv_up r1.2.1 63 (Int32.toNatClampNeg v1) (r1.1 - (1 : Int32))) 64 (Int32.toNatClampNeg (r1.1 - (1 : Int32)))) (mv_up r1.2.1 63 (Int32.toNatClampNeg v1) (r1.1 - (1 : Int32))) r1.2.2) else none) else (kf106_32 N v1 r1.1 (0 : Int32) (mv_up r1.2.1 63 (Int32.toNatClampNeg v1) (r1.1 - (1 : Int32))) r1.2.2)) else none
set_option maxRecDepth 100000 in
set_option maxHeartbeats 4000000 in
theorem kf106_ok (f : Bool) (N : Nat) (v1 : Int32) (I : kjI) (L : kjL) (d : Nat) (r : kjI × kjL) (h : kf106 N v1 I L = some r) : mv_C kjP kjSta (d + 3) 106 [.ref 59, .int v1] (kjS f I L) (kjQwv f r) := by
  unfold kf106 at h
  refine mv_C_in kjM_106 (lc := [some (.ref 59), some (.int v1), none, none, none, none, none]) rfl rfl rfl ?_
  refine mv_G_run 3 (F' := (3, [some (.ref 59), some (.int v1), none, none, none, none, none], [.int v1, .int (0 : Int32), .ref 59], 0, 0, kjS f I L)) rfl ?_
  obtain ⟨r1, hc2, h⟩ := mv_bd h
  refine mv_G_call (r := []) (kf104_ok _ _ _ _ _ _ _ hc2) rfl rfl rfl rfl rfl (Nat.le_of_ble_eq_true rfl) (Nat.le_of_ble_eq_true rfl) (Nat.le_of_ble_eq_true rfl) ?_
  rintro _ _ ⟨rfl, rfl⟩
  refine mv_G_run 7 (F' := (15, [some (.ref 59), some (.int v1), some (.int r1.1), none, none, none, none], [.int (r1.1 - (1 : Int32)), .int v1, .ref 63], 0, 0, kjS f r1.2.1 r1.2.2)) rfl ?_
  obtain ⟨hi3, h⟩ := mv_bifs h
  refine mv_G_ast rfl rfl (mv_in_ok hi3) ?_
  refine mv_G_run 1 (F' := (17, [some (.ref 59), some (.int v1), some (.int r1.1), none, none, none, none], [.int r1.1], 0, 0, kjS f (mv_up r1.2.1 63 (Int32.toNatClampNeg v1) (r1.1 - (1 : Int32))) r1.2.2)) rfl ?_
  by_cases hc4 : ¬ r1.1 = 0
  · rw [if_pos hc4] at h
    refine mv_G_br (tgt := 24) rfl rfl (by decide) (fun _ => ?_) (fun z => absurd hc4 z)
    refine mv_G_run 5 (F' := (31, [some (.ref 59), some (.int v1), some (.int r1.1), none, none, none, none], [.int (r1.1 - (1 : Int32)), .ref 64], 0, 0, kjS f (mv_up r1.2.1 63 (Int32.toNatClampNeg v1) (r1.1 - (1 : Int32))) r1.2.2)) rfl ?_
    obtain ⟨hi5, h⟩ := mv_bifs h
    refine mv_G_ald rfl rfl (mv_in_ok hi5) ?_
    exact kf106_32_ok _ _ d _ _ _ _ _ _ h
  · rw [if_neg hc4] at h
    refine mv_G_br (tgt := 24) rfl rfl (by decide) (fun z => absurd z hc4) (fun _ => ?_)
    refine mv_G_run 2 (F' := (32, [some (.ref 59), some (.int v1), some (.int r1.1), none, none, none, none], [.int (0 : Int32)], 0, 0, kjS f (mv_up r1.2.1 63 (Int32.toNatClampNeg v1) (r1.1 - (1 : Int32))) r1.2.2)) rfl ?_
    exact kf106_32_ok _ _ d _ _ _ _ _ _ h
/-! KindJudgeModel.readSelector(I)V on ('c', 59) -/
def kf107_14 (N : Nat) : Nat → Int32 → Int32 → kjI → kjL → Option (kjI × kjL)
  | 0, _, _, _, _ => none
  | n + 1, v1, v2, I, L => bif mv_in v1 8 then (if (I 66 (Int32.toNatClampNeg v1)) ≤ v2 then ((kf105 (1 : Int32) I L).bind fun r3 => bif mv_in v1 8 then (some ((mv_up r3.2.1 68 (Int32.toNatClampNeg v1) r3.1), r3.2.2)) else none) else ((kf105 (0 : Int32) I L).bind fun r6 => bif mv_in (((3 : Int32) * v1) + v2) 24 then ((fun v1 v2 I L => kf107_14 N n v1 v2 I L) v1 (v2 + (1 : Int32)) (mv_up r6.2.1 67 (Int32.toNatClampNeg (((3 : Int32) * v1) + v2)) r6.1) r6.2.2) else none)) else none
set_option maxRecDepth 100000 in
set_option maxHeartbeats 4000000 in
theorem kf107_14_ok (f : Bool) (N : Nat) (d : Nat)  : ∀ (n : Nat) (v1 : Int32) (v2 : Int32) (I : kjI) (L : kjL) (r : kjI × kjL), kf107_14 N n v1 v2 I L = some r → mv_G kjP kjSta (mv_C kjP kjSta (d + 2)) kjM_107 (kjQwv f r) (14, [some (.ref 59), some (.int v1), some (.int v2)], [], 0, 0, kjS f I L) := by
  intro n
  induction n with
  | zero => intro v1 v2 I L r h; cases h
  | succ n ih =>
    have hk14 := ih
    intro v1 v2 I L r h
    unfold kf107_14 at h
    refine mv_G_run 4 (F' := (20, [some (.ref 59), some (.int v1), some (.int v2)], [.int v1, .ref 66, .int v2], 0, 0, kjS f I L)) rfl ?_
    obtain ⟨hi1, h⟩ := mv_bifs h
    refine mv_G_ald rfl rfl (mv_in_ok hi1) ?_
    by_cases hc2 : (I 66 (Int32.toNatClampNeg v1)) ≤ v2
    · rw [if_pos hc2] at h
      refine mv_G_br (tgt := 45) rfl rfl (by decide) (fun _ => ?_) (fun z => absurd hc2 z)
      refine mv_G_run 5 (F' := (52, [some (.ref 59), some (.int v1), some (.int v2)], [.int (1 : Int32), .ref 59, .int v1, .ref 68], 0, 0, kjS f I L)) rfl ?_
      obtain ⟨r3, hc4, h⟩ := mv_bd h
      refine mv_G_call (r := [.int v1, .ref 68]) (kf105_ok _ _ _ _ _ _ hc4) rfl rfl rfl rfl rfl (Nat.le_of_ble_eq_true rfl) (Nat.le_of_ble_eq_true rfl) (Nat.le_of_ble_eq_true rfl) ?_
      rintro _ _ ⟨rfl, rfl⟩
      obtain ⟨hi5, h⟩ := mv_bifs h
      refine mv_G_ast rfl rfl (mv_in_ok hi5) ?_
      obtain rfl := Option.some.inj h
      exact mv_G_ret rfl rfl rfl (Nat.le_refl _) trivial ⟨rfl, rfl⟩
    · rw [if_neg hc2] at h
      refine mv_G_br (tgt := 45) rfl rfl (by decide) (fun z => absurd z hc2) (fun _ => ?_)
      refine mv_G_run 9 (F' := (35, [some (.ref 59), some (.int v1), some (.int v2)], [.int (0 : Int32), .ref 59, .int (((3 : Int32) * v1) + v2), .ref 67], 0, 0, kjS f I L)) rfl ?_
      obtain ⟨r6, hc7, h⟩ := mv_bd h
      refine mv_G_call (r := [.int (((3 : Int32) * v1) + v2), .ref 67]) (kf105_ok _ _ _ _ _ _ hc7) rfl rfl rfl rfl rfl (Nat.le_of_ble_eq_true rfl) (Nat.le_of_ble_eq_true rfl) (Nat.le_of_ble_eq_true rfl) ?_
      rintro _ _ ⟨rfl, rfl⟩
      obtain ⟨hi8, h⟩ := mv_bifs h
      refine mv_G_ast rfl rfl (mv_in_ok hi8) ?_
      refine mv_G_run 2 (F' := (14, [some (.ref 59), some (.int v1), some (.int (v2 + (1 : Int32)))], [], 0, 0, kjS f (mv_up r6.2.1 67 (Int32.toNatClampNeg (((3 : Int32) * v1) + v2)) r6.1) r6.2.2)) rfl ?_
      exact hk14 v1 (v2 + (1 : Int32)) (mv_up r6.2.1 67 (Int32.toNatClampNeg (((3 : Int32) * v1) + v2)) r6.1) r6.2.2 _ h
def kf107 (N : Nat) (v1 : Int32) (I : kjI) (L : kjL) : Option (kjI × kjL) :=
  (kf104 (0 : Int32) (3 : Int32) I L).bind fun r1 => bif mv_in v1 8 then (kf107_14 N N v1 (0 : Int32) (mv_up r1.2.1 66 (Int32.toNatClampNeg v1) r1.1) r1.2.2) else none
set_option maxRecDepth 100000 in
set_option maxHeartbeats 4000000 in
theorem kf107_ok (f : Bool) (N : Nat) (v1 : Int32) (I : kjI) (L : kjL) (d : Nat) (r : kjI × kjL) (h : kf107 N v1 I L = some r) : mv_C kjP kjSta (d + 3) 107 [.ref 59, .int v1] (kjS f I L) (kjQwv f r) := by
  unfold kf107 at h
  refine mv_C_in kjM_107 (lc := [some (.ref 59), some (.int v1), none]) rfl rfl rfl ?_
  refine mv_G_run 6 (F' := (8, [some (.ref 59), some (.int v1), none], [.int (3 : Int32), .int (0 : Int32), .ref 59, .int v1, .ref 66], 0, 0, kjS f I L)) rfl ?_
  obtain ⟨r1, hc2, h⟩ := mv_bd h
  refine mv_G_call (r := [.int v1, .ref 66]) (kf104_ok _ _ _ _ _ _ _ hc2) rfl rfl rfl rfl rfl (Nat.le_of_ble_eq_true rfl) (Nat.le_of_ble_eq_true rfl) (Nat.le_of_ble_eq_true rfl) ?_
  rintro _ _ ⟨rfl, rfl⟩
  obtain ⟨hi3, h⟩ := mv_bifs h
  refine mv_G_ast rfl rfl (mv_in_ok hi3) ?_
  refine mv_G_run 2 (F' := (14, [some (.ref 59), some (.int v1), some (.int (0 : Int32))], [], 0, 0, kjS f (mv_up r1.2.1 66 (Int32.toNatClampNeg v1) r1.1) r1.2.2)) rfl ?_
  exact kf107_14_ok _ _ d _ _ _ _ _ _ h
/-! KindJudgeModel.readMethod(I)V on ('c', 59) -/
def kf108_102 (N : Nat) : Nat → Int32 → Int32 → kjI → kjL → Option (kjI × kjL)
  | 0, _, _, _, _ => none
  | n + 1, v1, v2, I, L => bif mv_in v1 16 then (if (I 74 (Int32.toNatClampNeg v1)) ≤ v2 then (some (I, L)) else ((kf104 (0 : Int32) (255 : Int32) I L).bind fun r3 => bif mv_in (((120 : Int32) * v1) + v2) 1920 then ((fun v1 v2 I L => kf108_102 N n v1 v2 I L) v1 (v2 + (1 : Int32)) (mv_up r3.2.1 75 (Int32.toNatClampNeg (((120 : Int32) * v1) + v2)) r3.1) r3.2.2) else none)) else none
set_option maxRecDepth 100000 in
set_option maxHeartbeats 4000000 in
theorem kf108_102_ok (f : Bool) (N : Nat) (d : Nat)  : ∀ (n : Nat) (v1 : Int32) (v2 : Int32) (I : kjI) (L : kjL) (r : kjI × kjL), kf108_102 N n v1 v2 I L = some r → mv_G kjP kjSta (mv_C kjP kjSta (d + 2)) kjM_108 (kjQwv f r) (102, [some (.ref 59), some (.int v1), some (.int v2)], [], 0, 0, kjS f I L) := by
  intro n
  induction n with
  | zero => intro v1 v2 I L r h; cases h
  | succ n ih =>
    have hk102 := ih
    intro v1 v2 I L r h
    unfold kf108_102 at h
    refine mv_G_run 4 (F' := (108, [some (.ref 59), some (.int v1), some (.int v2)], [.int v1, .ref 74, .int v2], 0, 0, kjS f I L)) rfl ?_
    obtain ⟨hi1, h⟩ := mv_bifs h
    refine mv_G_ald rfl rfl (mv_in_ok hi1) ?_
    by_cases hc2 : (I 74 (Int32.toNatClampNeg v1)) ≤ v2
    · rw [if_pos hc2] at h
      refine mv_G_br (tgt := 137) rfl rfl (by decide) (fun _ => ?_) (fun z => absurd hc2 z)
      obtain rfl := Option.some.inj h
      exact mv_G_ret rfl rfl rfl (Nat.le_refl _) trivial ⟨rfl, rfl⟩
    · rw [if_neg hc2] at h
      refine mv_G_br (tgt := 137) rfl rfl (by decide) (fun z => absurd z hc2) (fun _ => ?_)
      refine mv_G_run 10 (F' := (127, [some (.ref 59), some (.int v1), some (.int v2)], [.int (255 : Int32), .int (0 : Int32), .ref 59, .int (((120 : Int32) * v1) + v2), .ref 75], 0, 0, kjS f I L)) rfl ?_
      obtain ⟨r3, hc4, h⟩ := mv_bd h
      refine mv_G_call (r := [.int (((120 : Int32) * v1) + v2), .ref 75]) (kf104_ok _ _ _ _ _ _ _ hc4) rfl rfl rfl rfl rfl (Nat.le_of_ble_eq_true rfl) (Nat.le_of_ble_eq_true rfl) (Nat.le_of_ble_eq_true rfl) ?_
      rintro _ _ ⟨rfl, rfl⟩
      obtain ⟨hi5, h⟩ := mv_bifs h
      refine mv_G_ast rfl rfl (mv_in_ok hi5) ?_
      refine mv_G_run 2 (F' := (102, [some (.ref 59), some (.int v1), some (.int (v2 + (1 : Int32)))], [], 0, 0, kjS f (mv_up r3.2.1 75 (Int32.toNatClampNeg (((120 : Int32) * v1) + v2)) r3.1) r3.2.2)) rfl ?_
      exact hk102 v1 (v2 + (1 : Int32)) (mv_up r3.2.1 75 (Int32.toNatClampNeg (((120 : Int32) * v1) + v2)) r3.1) r3.2.2 _ h
def kf108_14 (N : Nat) : Nat → Int32 → Int32 → kjI → kjL → Option (kjI × kjL)
  | 0, _, _, _, _ => none
  | n + 1, v1, v2, I, L => bif mv_in v1 16 then (if (I 69 (Int32.toNatClampNeg v1)) ≤ v2 then ((kf105 (1 : Int32) I L).bind fun r3 => bif mv_in v1 16 then (bif mv_in v1 16 then ((kf104 ((mv_up r3.2.1 71 (Int32.toNatClampNeg v1) r3.1) 69 (Int32.toNatClampNeg v1)) (8 : Int32) (mv_up r3.2.1 71 (Int32.toNatClampNeg v1) r3.1) r3.2.2).bind fun r7 => bif mv_in v1 16 then ((kf104 (0 : Int32) (8 : Int32) (mv_up r7.2.1 72 (Int32.toNatClampNeg v1) r7.1) r7.2.2).bind fun r10 => bif mv_in v1 16 then ((kf104 (1 : Int32) (120 : Int32) (mv_up r10.2.1 73 (Int32.toNatClampNeg v1) r10.1) r10.2.2).bind fun r13 => bif mv_in v1 16 then (kf108_102 N N v1 (0 : Int32) (mv_up r13.2.1 74 (Int32.toNatClampNeg v1) r13.1) r13.2.2) else none) else none) else none) else none) else none) else ((kf105 (0 : Int32) I L).bind fun r16 => bif mv_in (((4 : Int32) * v1) + v2) 64 then ((fun v1 v2 I L => kf108_14 N n v1 v2 I L) v1 (v2 + (1 : Int32)) (mv_up r16.2.1 70 (Int32.toNatClampNeg (((4 : Int32) * v1) + v2)) r16.1) r16.2.2) else none)) else none
set_option maxRecDepth 100000 in
set_option maxHeartbeats 4000000 in
theorem kf108_14_ok (f : Bool) (N : Nat) (d : Nat)  : ∀ (n : Nat) (v1 : Int32) (v2 : Int32) (I : kjI) (L : kjL) (r : kjI × kjL), kf108_14 N n v1 v2 I L = some r → mv_G kjP kjSta (mv_C kjP kjSta (d + 2)) kjM_108 (kjQwv f r) (14, [some (.ref 59), some (.int v1), some (.int v2)], [], 0, 0, kjS f I L) := by
  intro n
  induction n with
  | zero => intro v1 v2 I L r h; cases h
  | succ n ih =>
    have hk14 := ih
    intro v1 v2 I L r h
    unfold kf108_14 at h
    refine mv_G_run 4 (F' := (20, [some (.ref 59), some (.int v1), some (.int v2)], [.int v1, .ref 69, .int v2], 0, 0, kjS f I L)) rfl ?_
    obtain ⟨hi1, h⟩ := mv_bifs h
    refine mv_G_ald rfl rfl (mv_in_ok hi1) ?_
    by_cases hc2 : (I 69 (Int32.toNatClampNeg v1)) ≤ v2
    · rw [if_pos hc2] at h
      refine mv_G_br (tgt := 45) rfl rfl (by decide) (fun _ => ?_) (fun z => absurd hc2 z)
      refine mv_G_run 5 (F' := (52, [some (.ref 59), some (.int v1), some (.int v2)], [.int (1 : Int32), .ref 59, .int v1, .ref 71], 0, 0, kjS f I L)) rfl ?_
      obtain ⟨r3, hc4, h⟩ := mv_bd h
      refine mv_G_call (r := [.int v1, .ref 71]) (kf105_ok _ _ _ _ _ _ hc4) rfl rfl rfl rfl rfl (Nat.le_of_ble_eq_true rfl) (Nat.le_of_ble_eq_true rfl) (Nat.le_of_ble_eq_true rfl) ?_
      rintro _ _ ⟨rfl, rfl⟩
      obtain ⟨hi5, h⟩ := mv_bifs h
      refine mv_G_ast rfl rfl (mv_in_ok hi5) ?_
      refine mv_G_run 7 (F' := (67, [some (.ref 59), some (.int v1), some (.int v2)], [.int v1, .ref 69, .ref 59, .int v1, .ref 72], 0, 0, kjS f (mv_up r3.2.1 71 (Int32.toNatClampNeg v1) r3.1) r3.2.2)) rfl ?_
      obtain ⟨hi6, h⟩ := mv_bifs h
      refine mv_G_ald rfl rfl (mv_in_ok hi6) ?_
      refine mv_G_run 1 (F' := (70, [some (.ref 59), some (.int v1), some (.int v2)], [.int (8 : Int32), .int ((mv_up r3.2.1 71 (Int32.toNatClampNeg v1) r3.1) 69 (Int32.toNatClampNeg v1)), .ref 59, .int v1, .ref 72], 0, 0, kjS f (mv_up r3.2.1 71 (Int32.toNatClampNeg v1) r3.1) r3.2.2)) rfl ?_
      obtain ⟨r7, hc8, h⟩ := mv_bd h
      refine mv_G_call (r := [.int v1, .ref 72]) (kf104_ok _ _ _ _ _ _ _ hc8) rfl rfl rfl rfl rfl (Nat.le_of_ble_eq_true rfl) (Nat.le_of_ble_eq_true rfl) (Nat.le_of_ble_eq_true rfl) ?_
      rintro _ _ ⟨rfl, rfl⟩
      obtain ⟨hi9, h⟩ := mv_bifs h
      refine mv_G_ast rfl rfl (mv_in_ok hi9) ?_
      refine mv_G_run 6 (F' := (83, [some (.ref 59), some (.int v1), some (.int v2)], [.int (8 : Int32), .int (0 : Int32), .ref 59, .int v1, .ref 73], 0, 0, kjS f (mv_up r7.2.1 72 (Int32.toNatClampNeg v1) r7.1) r7.2.2)) rfl ?_
      obtain ⟨r10, hc11, h⟩ := mv_bd h
      refine mv_G_call (r := [.int v1, .ref 73]) (kf104_ok _ _ _ _ _ _ _ hc11) rfl rfl rfl rfl rfl (Nat.le_of_ble_eq_true rfl) (Nat.le_of_ble_eq_true rfl) (Nat.le_of_ble_eq_true rfl) ?_
      rintro _ _ ⟨rfl, rfl⟩
      obtain ⟨hi12, h⟩ := mv_bifs h
      refine mv_G_ast rfl rfl (mv_in_ok hi12) ?_
      refine mv_G_run 6 (F' := (96, [some (.ref 59), some (.int v1), some (.int v2)], [.int (120 : Int32), .int (1 : Int32), .ref 59, .int v1, .ref 74], 0, 0, kjS f (mv_up r10.2.1 73 (Int32.toNatClampNeg v1) r10.1) r10.2.2)) rfl ?_
      obtain ⟨r13, hc14, h⟩ := mv_bd h
      refine mv_G_call (r := [.int v1, .ref 74]) (kf104_ok _ _ _ _ _ _ _ hc14) rfl rfl rfl rfl rfl (Nat.le_of_ble_eq_true rfl) (Nat.le_of_ble_eq_true rfl) (Nat.le_of_ble_eq_true rfl) ?_
      rintro _ _ ⟨rfl, rfl⟩
      obtain ⟨hi15, h⟩ := mv_bifs h
      refine mv_G_ast rfl rfl (mv_in_ok hi15) ?_
      refine mv_G_run 2 (F' := (102, [some (.ref 59), some (.int v1), some (.int (0 : Int32))], [], 0, 0, kjS f (mv_up r13.2.1 74 (Int32.toNatClampNeg v1) r13.1) r13.2.2)) rfl ?_
      exact kf108_102_ok _ _ d _ _ _ _ _ _ h
    · rw [if_neg hc2] at h
      refine mv_G_br (tgt := 45) rfl rfl (by decide) (fun z => absurd z hc2) (fun _ => ?_)
      refine mv_G_run 9 (F' := (35, [some (.ref 59), some (.int v1), some (.int v2)], [.int (0 : Int32), .ref 59, .int (((4 : Int32) * v1) + v2), .ref 70], 0, 0, kjS f I L)) rfl ?_
      obtain ⟨r16, hc17, h⟩ := mv_bd h
      refine mv_G_call (r := [.int (((4 : Int32) * v1) + v2), .ref 70]) (kf105_ok _ _ _ _ _ _ hc17) rfl rfl rfl rfl rfl (Nat.le_of_ble_eq_true rfl) (Nat.le_of_ble_eq_true rfl) (Nat.le_of_ble_eq_true rfl) ?_
      rintro _ _ ⟨rfl, rfl⟩
      obtain ⟨hi18, h⟩ := mv_bifs h
      refine mv_G_ast rfl rfl (mv_in_ok hi18) ?_
      refine mv_G_run 2 (F' := (14, [some (.ref 59), some (.int v1), some (.int (v2 + (1 : Int32)))], [], 0, 0, kjS f (mv_up r16.2.1 70 (Int32.toNatClampNeg (((4 : Int32) * v1) + v2)) r16.1) r16.2.2)) rfl ?_
      exact hk14 v1 (v2 + (1 : Int32)) (mv_up r16.2.1 70 (Int32.toNatClampNeg (((4 : Int32) * v1) + v2)) r16.1) r16.2.2 _ h
def kf108 (N : Nat) (v1 : Int32) (I : kjI) (L : kjL) : Option (kjI × kjL) :=
  (kf104 (0 : Int32) (4 : Int32) I L).bind fun r1 => bif mv_in v1 16 then (kf108_14 N N v1 (0 : Int32) (mv_up r1.2.1 69 (Int32.toNatClampNeg v1) r1.1) r1.2.2) else none
set_option maxRecDepth 100000 in
set_option maxHeartbeats 4000000 in
theorem kf108_ok (f : Bool) (N : Nat) (v1 : Int32) (I : kjI) (L : kjL) (d : Nat) (r : kjI × kjL) (h : kf108 N v1 I L = some r) : mv_C kjP kjSta (d + 3) 108 [.ref 59, .int v1] (kjS f I L) (kjQwv f r) := by
  unfold kf108 at h
  refine mv_C_in kjM_108 (lc := [some (.ref 59), some (.int v1), none]) rfl rfl rfl ?_
  refine mv_G_run 6 (F' := (8, [some (.ref 59), some (.int v1), none], [.int (4 : Int32), .int (0 : Int32), .ref 59, .int v1, .ref 69], 0, 0, kjS f I L)) rfl ?_
  obtain ⟨r1, hc2, h⟩ := mv_bd h
  refine mv_G_call (r := [.int v1, .ref 69]) (kf104_ok _ _ _ _ _ _ _ hc2) rfl rfl rfl rfl rfl (Nat.le_of_ble_eq_true rfl) (Nat.le_of_ble_eq_true rfl) (Nat.le_of_ble_eq_true rfl) ?_
  rintro _ _ ⟨rfl, rfl⟩
  obtain ⟨hi3, h⟩ := mv_bifs h
  refine mv_G_ast rfl rfl (mv_in_ok hi3) ?_
  refine mv_G_run 2 (F' := (14, [some (.ref 59), some (.int v1), some (.int (0 : Int32))], [], 0, 0, kjS f (mv_up r1.2.1 69 (Int32.toNatClampNeg v1) r1.1) r1.2.2)) rfl ?_
  exact kf108_14_ok _ _ d _ _ _ _ _ _ h
/-! KindJudgeModel.isBelow(II)Z on ('c', 59) -/
def kf109_26 (N : Nat) (I : kjI) (L : kjL) (v3 : Int32) : Option (Int32) :=
  if v3 < 0 then (some (0 : Int32)) else (some (1 : Int32))
set_option maxRecDepth 100000 in
set_option maxHeartbeats 4000000 in
theorem kf109_26_ok (f : Bool) (N : Nat) (I : kjI) (L : kjL) (d : Nat)  (v3 : Int32) (r : Int32) (h : kf109_26 N I L v3 = some r) : mv_G kjP kjSta (mv_C kjP kjSta (d + 0)) kjM_109 (kjQi f I L r) (26, [none, none, none, some (.int v3)], [], 0, 0, kjS f I L) := by
  unfold kf109_26 at h
  refine mv_G_run 1 (F' := (27, [none, none, none, some (.int v3)], [.int v3], 0, 0, kjS f I L)) rfl ?_
  by_cases hc1 : v3 < 0
  · rw [if_pos hc1] at h
    refine mv_G_br (tgt := 34) rfl rfl (by decide) (fun _ => ?_) (fun z => absurd hc1 z)
    refine mv_G_run 1 (F' := (35, [none, none, none, some (.int v3)], [.int (0 : Int32)], 0, 0, kjS f I L)) rfl ?_
    obtain rfl := Option.some.inj h
    exact mv_G_ret rfl rfl rfl (Nat.le_refl _) (Or.inl rfl) ⟨rfl, rfl⟩
  · rw [if_neg hc1] at h
    refine mv_G_br (tgt := 34) rfl rfl (by decide) (fun z => absurd z hc1) (fun _ => ?_)
    refine mv_G_run 2 (F' := (35, [none, none, none, some (.int v3)], [.int (1 : Int32)], 0, 0, kjS f I L)) rfl ?_
    obtain rfl := Option.some.inj h
    exact mv_G_ret rfl rfl rfl (Nat.le_refl _) (Or.inr rfl) ⟨rfl, rfl⟩
def kf109_7 (N : Nat) (I : kjI) (L : kjL) : Nat → Int32 → Int32 → Option (Int32)
  | 0, _, _ => none
  | n + 1, v2, v3 => if v3 < 0 then (kf109_26 N I L v3) else (if v3 = v2 then (kf109_26 N I L v3) else (bif mv_in v3 8 then ((fun v2 v3 => kf109_7 N I L n v2 v3) v2 (I 63 (Int32.toNatClampNeg v3))) else none))
set_option maxRecDepth 100000 in
set_option maxHeartbeats 4000000 in
theorem kf109_7_ok (f : Bool) (N : Nat) (I : kjI) (L : kjL) (d : Nat)  : ∀ (n : Nat) (v2 : Int32) (v3 : Int32) (r : Int32), kf109_7 N I L n v2 v3 = some r → mv_G kjP kjSta (mv_C kjP kjSta (d + 0)) kjM_109 (kjQi f I L r) (7, [some (.ref 59), none, some (.int v2), some (.int v3)], [], 0, 0, kjS f I L) := by
  intro n
  induction n with
  | zero => intro v2 v3 r h; cases h
  | succ n ih =>
    have hk7 := ih
    intro v2 v3 r h
    unfold kf109_7 at h
    refine mv_G_run 1 (F' := (8, [some (.ref 59), none, some (.int v2), some (.int v3)], [.int v3], 0, 0, kjS f I L)) rfl ?_
    by_cases hc1 : v3 < 0
    · rw [if_pos hc1] at h
      refine mv_G_br (tgt := 26) rfl rfl (by decide) (fun _ => ?_) (fun z => absurd hc1 z)
      refine mv_G_fg (lc' := [none, none, none, some (.int v3)]) (And.intro rfl trivial) ?_
      exact kf109_26_ok _ _ _ _ d _ _ h
    · rw [if_neg hc1] at h
      refine mv_G_br (tgt := 26) rfl rfl (by decide) (fun z => absurd z hc1) (fun _ => ?_)
      refine mv_G_run 2 (F' := (13, [some (.ref 59), none, some (.int v2), some (.int v3)], [.int v2, .int v3], 0, 0, kjS f I L)) rfl ?_
      by_cases hc2 : v3 = v2
      · rw [if_pos hc2] at h
        refine mv_G_br (tgt := 26) rfl rfl (by decide) (fun _ => ?_) (fun z => absurd hc2 z)
        refine mv_G_fg (lc' := [none, none, none, some (.int v3)]) (And.intro rfl trivial) ?_
        exact kf109_26_ok _ _ _ _ d _ _ h
      · rw [if_neg hc2] at h
        refine mv_G_br (tgt := 26) rfl rfl (by decide) (fun z => absurd z hc2) (fun _ => ?_)
        refine mv_G_run 3 (F' := (21, [some (.ref 59), none, some (.int v2), some (.int v3)], [.int v3, .ref 63], 0, 0, kjS f I L)) rfl ?_
        obtain ⟨hi3, h⟩ := mv_bifs h
        refine mv_G_ald rfl rfl (mv_in_ok hi3) ?_
        refine mv_G_run 2 (F' := (7, [some (.ref 59), none, some (.int v2), some (.int (I 63 (Int32.toNatClampNeg v3)))], [], 0, 0, kjS f I L)) rfl ?_
        exact hk7 v2 (I 63 (Int32.toNatClampNeg v3)) _ h
def kf109 (N : Nat) (I : kjI) (L : kjL) (v1 : Int32) (v2 : Int32) : Option (Int32) :=
  bif mv_in v1 8 then (kf109_7 N I L N v2 (I 63 (Int32.toNatClampNeg v1))) else none
set_option maxRecDepth 100000 in
set_option maxHeartbeats 4000000 in
theorem kf109_ok (f : Bool) (N : Nat) (I : kjI) (L : kjL) (v1 : Int32) (v2 : Int32) (d : Nat) (r : Int32) (h : kf109 N I L v1 v2 = some r) : mv_C kjP kjSta (d + 1) 109 [.ref 59, .int v1, .int v2] (kjS f I L) (kjQi f I L r) := by
  unfold kf109 at h
  refine mv_C_in kjM_109 (lc := [some (.ref 59), some (.int v1), some (.int v2), none]) rfl rfl rfl ?_
  refine mv_G_run 3 (F' := (5, [some (.ref 59), some (.int v1), some (.int v2), none], [.int v1, .ref 63], 0, 0, kjS f I L)) rfl ?_
  obtain ⟨hi1, h⟩ := mv_bifs h
  refine mv_G_ald rfl rfl (mv_in_ok hi1) ?_
  refine mv_G_run 1 (F' := (7, [some (.ref 59), some (.int v1), some (.int v2), some (.int (I 63 (Int32.toNatClampNeg v1)))], [], 0, 0, kjS f I L)) rfl ?_
  refine mv_G_fg (lc' := [some (.ref 59), none, some (.int v2), some (.int (I 63 (Int32.toNatClampNeg v1)))]) (And.intro rfl (And.intro rfl (And.intro rfl trivial))) ?_
  exact kf109_7_ok _ _ _ _ d _ _ _ _ h
/-! KindJudgeModel.isOf(II)Z on ('c', 59) -/
def kf110 (N : Nat) (I : kjI) (L : kjL) (v1 : Int32) (v2 : Int32) : Option (Int32) :=
  if v1 = v2 then (some (1 : Int32)) else ((kf109 N I L v1 v2).bind fun r2 => if r2 = 0 then (some (0 : Int32)) else (some (1 : Int32)))
set_option maxRecDepth 100000 in
set_option maxHeartbeats 4000000 in
theorem kf110_ok (f : Bool) (N : Nat) (I : kjI) (L : kjL) (v1 : Int32) (v2 : Int32) (d : Nat) (r : Int32) (h : kf110 N I L v1 v2 = some r) : mv_C kjP kjSta (d + 2) 110 [.ref 59, .int v1, .int v2] (kjS f I L) (kjQi f I L r) := by
  unfold kf110 at h
  refine mv_C_in kjM_110 (lc := [some (.ref 59), some (.int v1), some (.int v2)]) rfl rfl rfl ?_
  refine mv_G_run 2 (F' := (2, [some (.ref 59), some (.int v1), some (.int v2)], [.int v2, .int v1], 0, 0, kjS f I L)) rfl ?_
  by_cases hc1 : v1 = v2
  · rw [if_pos hc1] at h
    refine mv_G_br (tgt := 14) rfl rfl (by decide) (fun _ => ?_) (fun z => absurd hc1 z)
    refine mv_G_run 2 (F' := (19, [some (.ref 59), some (.int v1), some (.int v2)], [.int (1 : Int32)], 0, 0, kjS f I L)) rfl ?_
    obtain rfl := Option.some.inj h
    exact mv_G_ret rfl rfl rfl (Nat.le_refl _) (Or.inr rfl) ⟨rfl, rfl⟩
  · rw [if_neg hc1] at h
    refine mv_G_br (tgt := 14) rfl rfl (by decide) (fun z => absurd z hc1) (fun _ => ?_)
    refine mv_G_run 3 (F' := (8, [some (.ref 59), some (.int v1), some (.int v2)], [.int v2, .int v1, .ref 59], 0, 0, kjS f I L)) rfl ?_
    obtain ⟨r2, hc3, h⟩ := mv_bd h
    refine mv_G_call (r := []) (kf109_ok _ _ _ _ _ _ _ _ hc3) rfl rfl rfl rfl rfl (Nat.le_of_ble_eq_true rfl) (Nat.le_of_ble_eq_true rfl) (Nat.le_of_ble_eq_true rfl) ?_
    rintro _ _ ⟨rfl, rfl⟩
    by_cases hc4 : r2 = 0
    · rw [if_pos hc4] at h
      refine mv_G_br (tgt := 18) rfl rfl (by decide) (fun _ => ?_) (fun z => absurd hc4 z)
      refine mv_G_run 1 (F' := (19, [some (.ref 59), some (.int v1), some (.int v2)], [.int (0 : Int32)], 0, 0, kjS f I L)) rfl ?_
      obtain rfl := Option.some.inj h
      exact mv_G_ret rfl rfl rfl (Nat.le_refl _) (Or.inl rfl) ⟨rfl, rfl⟩
    · rw [if_neg hc4] at h
      refine mv_G_br (tgt := 18) rfl rfl (by decide) (fun z => absurd z hc4) (fun _ => ?_)
      refine mv_G_run 2 (F' := (19, [some (.ref 59), some (.int v1), some (.int v2)], [.int (1 : Int32)], 0, 0, kjS f I L)) rfl ?_
      obtain rfl := Option.some.inj h
      exact mv_G_ret rfl rfl rfl (Nat.le_refl _) (Or.inr rfl) ⟨rfl, rfl⟩
/-! KindJudgeModel.mayStand(III)Z on ('c', 59) -/
def kf111_69 (N : Nat) (I : kjI) (L : kjL) : Nat → Int32 → Int32 → Int32 → Option (Int32)
  | 0, _, _, _ => none
  | n + 1, v2, v3, v4 => bif mv_in v2 8 then (if (I 66 (Int32.toNatClampNeg v2)) ≤ v4 then (some (1 : Int32)) else (bif mv_in ((((4 : Int32) * v3) + (1 : Int32)) + v4) 64 then (bif mv_in (((3 : Int32) * v2) + v4) 24 then (if (I 70 (Int32.toNatClampNeg ((((4 : Int32) * v3) + (1 : Int32)) + v4))) = (I 67 (Int32.toNatClampNeg (((3 : Int32) * v2) + v4))) then ((fun v2 v3 v4 => kf111_69 N I L n v2 v3 v4) v2 v3 (v4 + (1 : Int32))) else (some (0 : Int32))) else none) else none)) else none
set_option maxRecDepth 100000 in
set_option maxHeartbeats 4000000 in
theorem kf111_69_ok (f : Bool) (N : Nat) (I : kjI) (L : kjL) (d : Nat)  : ∀ (n : Nat) (v2 : Int32) (v3 : Int32) (v4 : Int32) (r : Int32), kf111_69 N I L n v2 v3 v4 = some r → mv_G kjP kjSta (mv_C kjP kjSta (d + 2)) kjM_111 (kjQi f I L r) (69, [some (.ref 59), none, some (.int v2), some (.int v3), some (.int v4)], [], 0, 0, kjS f I L) := by
  intro n
  induction n with
  | zero => intro v2 v3 v4 r h; cases h
  | succ n ih =>
    have hk69 := ih
    intro v2 v3 v4 r h
    unfold kf111_69 at h
    refine mv_G_run 4 (F' := (76, [some (.ref 59), none, some (.int v2), some (.int v3), some (.int v4)], [.int v2, .ref 66, .int v4], 0, 0, kjS f I L)) rfl ?_
    obtain ⟨hi1, h⟩ := mv_bifs h
    refine mv_G_ald rfl rfl (mv_in_ok hi1) ?_
    by_cases hc2 : (I 66 (Int32.toNatClampNeg v2)) ≤ v4
    · rw [if_pos hc2] at h
      refine mv_G_br (tgt := 115) rfl rfl (by decide) (fun _ => ?_) (fun z => absurd hc2 z)
      refine mv_G_run 1 (F' := (116, [some (.ref 59), none, some (.int v2), some (.int v3), some (.int v4)], [.int (1 : Int32)], 0, 0, kjS f I L)) rfl ?_
      obtain rfl := Option.some.inj h
      exact mv_G_ret rfl rfl rfl (Nat.le_refl _) (Or.inr rfl) ⟨rfl, rfl⟩
    · rw [if_neg hc2] at h
      refine mv_G_br (tgt := 115) rfl rfl (by decide) (fun z => absurd z hc2) (fun _ => ?_)
      refine mv_G_run 9 (F' := (92, [some (.ref 59), none, some (.int v2), some (.int v3), some (.int v4)], [.int ((((4 : Int32) * v3) + (1 : Int32)) + v4), .ref 70], 0, 0, kjS f I L)) rfl ?_
      obtain ⟨hi3, h⟩ := mv_bifs h
      refine mv_G_ald rfl rfl (mv_in_ok hi3) ?_
      refine mv_G_run 7 (F' := (103, [some (.ref 59), none, some (.int v2), some (.int v3), some (.int v4)], [.int (((3 : Int32) * v2) + v4), .ref 67, .int (I 70 (Int32.toNatClampNeg ((((4 : Int32) * v3) + (1 : Int32)) + v4)))], 0, 0, kjS f I L)) rfl ?_
      obtain ⟨hi4, h⟩ := mv_bifs h
      refine mv_G_ald rfl rfl (mv_in_ok hi4) ?_
      by_cases hc5 : (I 70 (Int32.toNatClampNeg ((((4 : Int32) * v3) + (1 : Int32)) + v4))) = (I 67 (Int32.toNatClampNeg (((3 : Int32) * v2) + v4)))
      · rw [if_pos hc5] at h
        refine mv_G_br (tgt := 109) rfl rfl (by decide) (fun _ => ?_) (fun z => absurd hc5 z)
        refine mv_G_run 2 (F' := (69, [some (.ref 59), none, some (.int v2), some (.int v3), some (.int (v4 + (1 : Int32)))], [], 0, 0, kjS f I L)) rfl ?_
        exact hk69 v2 v3 (v4 + (1 : Int32)) _ h
      · rw [if_neg hc5] at h
        refine mv_G_br (tgt := 109) rfl rfl (by decide) (fun z => absurd z hc5) (fun _ => ?_)
        refine mv_G_run 1 (F' := (108, [some (.ref 59), none, some (.int v2), some (.int v3), some (.int v4)], [.int (0 : Int32)], 0, 0, kjS f I L)) rfl ?_
        obtain rfl := Option.some.inj h
        exact mv_G_ret rfl rfl rfl (Nat.le_refl _) (Or.inl rfl) ⟨rfl, rfl⟩
def kf111 (N : Nat) (I : kjI) (L : kjL) (v1 : Int32) (v2 : Int32) (v3 : Int32) : Option (Int32) :=
  bif mv_in v3 16 then (bif mv_in v2 8 then (if ¬ (I 69 (Int32.toNatClampNeg v3)) = ((I 66 (Int32.toNatClampNeg v2)) + (1 : Int32)) then (some (0 : Int32)) else (bif mv_in v3 16 then (bif mv_in v2 8 then (if ¬ (I 71 (Int32.toNatClampNeg v3)) = (I 68 (Int32.toNatClampNeg v2)) then (some (0 : Int32)) else (bif mv_in ((4 : Int32) * v3) 64 then (if (I 70 (Int32.toNatClampNeg ((4 : Int32) * v3))) < (16 : Int32) then (some (0 : Int32)) else (bif mv_in ((4 : Int32) * v3) 64 then ((kf110 N I L v1 ((I 70 (Int32.toNatClampNeg ((4 : Int32) * v3))) - (16 : Int32))).bind fun r10 => if ¬ r10 = 0 then (kf111_69 N I L N v2 v3 (0 : Int32)) else (some (0 : Int32))) else none)) else none)) else none) else none)) else none) else none
set_option maxRecDepth 100000 in
set_option maxHeartbeats 4000000 in
theorem kf111_ok (f : Bool) (N : Nat) (I : kjI) (L : kjL) (v1 : Int32) (v2 : Int32) (v3 : Int32) (d : Nat) (r : Int32) (h : kf111 N I L v1 v2 v3 = some r) : mv_C kjP kjSta (d + 3) 111 [.ref 59, .int v1, .int v2, .int v3] (kjS f I L) (kjQi f I L r) := by
  unfold kf111 at h
  refine mv_C_in kjM_111 (lc := [some (.ref 59), some (.int v1), some (.int v2), some (.int v3), none]) rfl rfl rfl ?_
  refine mv_G_run 3 (F' := (5, [some (.ref 59), some (.int v1), some (.int v2), some (.int v3), none], [.int v3, .ref 69], 0, 0, kjS f I L)) rfl ?_
  obtain ⟨hi1, h⟩ := mv_bifs h
  refine mv_G_ald rfl rfl (mv_in_ok hi1) ?_
  refine mv_G_run 3 (F' := (11, [some (.ref 59), some (.int v1), some (.int v2), some (.int v3), none], [.int v2, .ref 66, .int (I 69 (Int32.toNatClampNeg v3))], 0, 0, kjS f I L)) rfl ?_
  obtain ⟨hi2, h⟩ := mv_bifs h
  refine mv_G_ald rfl rfl (mv_in_ok hi2) ?_
  refine mv_G_run 2 (F' := (14, [some (.ref 59), some (.int v1), some (.int v2), some (.int v3), none], [.int ((I 66 (Int32.toNatClampNeg v2)) + (1 : Int32)), .int (I 69 (Int32.toNatClampNeg v3))], 0, 0, kjS f I L)) rfl ?_
  by_cases hc3 : ¬ (I 69 (Int32.toNatClampNeg v3)) = ((I 66 (Int32.toNatClampNeg v2)) + (1 : Int32))
  · rw [if_pos hc3] at h
    refine mv_G_br (tgt := 64) rfl rfl (by decide) (fun _ => ?_) (fun z => absurd hc3 z)
    refine mv_G_run 1 (F' := (65, [some (.ref 59), some (.int v1), some (.int v2), some (.int v3), none], [.int (0 : Int32)], 0, 0, kjS f I L)) rfl ?_
    obtain rfl := Option.some.inj h
    exact mv_G_ret rfl rfl rfl (Nat.le_refl _) (Or.inl rfl) ⟨rfl, rfl⟩
  · rw [if_neg hc3] at h
    refine mv_G_br (tgt := 64) rfl rfl (by decide) (fun z => absurd z hc3) (fun _ => ?_)
    refine mv_G_run 3 (F' := (22, [some (.ref 59), some (.int v1), some (.int v2), some (.int v3), none], [.int v3, .ref 71], 0, 0, kjS f I L)) rfl ?_
    obtain ⟨hi4, h⟩ := mv_bifs h
    refine mv_G_ald rfl rfl (mv_in_ok hi4) ?_
    refine mv_G_run 3 (F' := (28, [some (.ref 59), some (.int v1), some (.int v2), some (.int v3), none], [.int v2, .ref 68, .int (I 71 (Int32.toNatClampNeg v3))], 0, 0, kjS f I L)) rfl ?_
    obtain ⟨hi5, h⟩ := mv_bifs h
    refine mv_G_ald rfl rfl (mv_in_ok hi5) ?_
    by_cases hc6 : ¬ (I 71 (Int32.toNatClampNeg v3)) = (I 68 (Int32.toNatClampNeg v2))
    · rw [if_pos hc6] at h
      refine mv_G_br (tgt := 64) rfl rfl (by decide) (fun _ => ?_) (fun z => absurd hc6 z)
      refine mv_G_run 1 (F' := (65, [some (.ref 59), some (.int v1), some (.int v2), some (.int v3), none], [.int (0 : Int32)], 0, 0, kjS f I L)) rfl ?_
      obtain rfl := Option.some.inj h
      exact mv_G_ret rfl rfl rfl (Nat.le_refl _) (Or.inl rfl) ⟨rfl, rfl⟩
    · rw [if_neg hc6] at h
      refine mv_G_br (tgt := 64) rfl rfl (by decide) (fun z => absurd z hc6) (fun _ => ?_)
      refine mv_G_run 5 (F' := (39, [some (.ref 59), some (.int v1), some (.int v2), some (.int v3), none], [.int ((4 : Int32) * v3), .ref 70], 0, 0, kjS f I L)) rfl ?_
      obtain ⟨hi7, h⟩ := mv_bifs h
      refine mv_G_ald rfl rfl (mv_in_ok hi7) ?_
      refine mv_G_run 1 (F' := (42, [some (.ref 59), some (.int v1), some (.int v2), some (.int v3), none], [.int (16 : Int32), .int (I 70 (Int32.toNatClampNeg ((4 : Int32) * v3)))], 0, 0, kjS f I L)) rfl ?_
      by_cases hc8 : (I 70 (Int32.toNatClampNeg ((4 : Int32) * v3))) < (16 : Int32)
      · rw [if_pos hc8] at h
        refine mv_G_br (tgt := 64) rfl rfl (by decide) (fun _ => ?_) (fun z => absurd hc8 z)
        refine mv_G_run 1 (F' := (65, [some (.ref 59), some (.int v1), some (.int v2), some (.int v3), none], [.int (0 : Int32)], 0, 0, kjS f I L)) rfl ?_
        obtain rfl := Option.some.inj h
        exact mv_G_ret rfl rfl rfl (Nat.le_refl _) (Or.inl rfl) ⟨rfl, rfl⟩
      · rw [if_neg hc8] at h
        refine mv_G_br (tgt := 64) rfl rfl (by decide) (fun z => absurd z hc8) (fun _ => ?_)
        refine mv_G_run 7 (F' := (54, [some (.ref 59), some (.int v1), some (.int v2), some (.int v3), none], [.int ((4 : Int32) * v3), .ref 70, .int v1, .ref 59], 0, 0, kjS f I L)) rfl ?_
        obtain ⟨hi9, h⟩ := mv_bifs h
        refine mv_G_ald rfl rfl (mv_in_ok hi9) ?_
        refine mv_G_run 2 (F' := (58, [some (.ref 59), some (.int v1), some (.int v2), some (.int v3), none], [.int ((I 70 (Int32.toNatClampNeg ((4 : Int32) * v3))) - (16 : Int32)), .int v1, .ref 59], 0, 0, kjS f I L)) rfl ?_
        obtain ⟨r10, hc11, h⟩ := mv_bd h
        refine mv_G_call (r := []) (kf110_ok _ _ _ _ _ _ _ _ hc11) rfl rfl rfl rfl rfl (Nat.le_of_ble_eq_true rfl) (Nat.le_of_ble_eq_true rfl) (Nat.le_of_ble_eq_true rfl) ?_
        rintro _ _ ⟨rfl, rfl⟩
        by_cases hc12 : ¬ r10 = 0
        · rw [if_pos hc12] at h
          refine mv_G_br (tgt := 66) rfl rfl (by decide) (fun _ => ?_) (fun z => absurd hc12 z)
          refine mv_G_run 2 (F' := (69, [some (.ref 59), some (.int v1), some (.int v2), some (.int v3), some (.int (0 : Int32))], [], 0, 0, kjS f I L)) rfl ?_
          refine mv_G_fg (lc' := [some (.ref 59), none, some (.int v2), some (.int v3), some (.int (0 : Int32))]) (And.intro rfl (And.intro rfl (And.intro rfl (And.intro rfl trivial)))) ?_
          exact kf111_69_ok _ _ _ _ d _ _ _ _ _ h
        · rw [if_neg hc12] at h
          refine mv_G_br (tgt := 66) rfl rfl (by decide) (fun z => absurd z hc12) (fun _ => ?_)
          refine mv_G_run 1 (F' := (65, [some (.ref 59), some (.int v1), some (.int v2), some (.int v3), none], [.int (0 : Int32)], 0, 0, kjS f I L)) rfl ?_
          obtain rfl := Option.some.inj h
          exact mv_G_ret rfl rfl rfl (Nat.le_refl _) (Or.inl rfl) ⟨rfl, rfl⟩
/-! KindJudgeModel.readTable(II)V on ('c', 59) -/
def kf112 (N : Nat) (v1 : Int32) (v2 : Int32) (I : kjI) (L : kjL) : Option (kjI × kjL) :=
  (kf104 (0 : Int32) (I 59 20) I L).bind fun r1 => bif mv_in (((8 : Int32) * v1) + v2) 64 then (if ¬ ((mv_up r1.2.1 77 (Int32.toNatClampNeg (((8 : Int32) * v1) + v2)) r1.1) 59 36) = 0 then (some ((mv_up r1.2.1 77 (Int32.toNatClampNeg (((8 : Int32) * v1) + v2)) r1.1), r1.2.2)) else (if r1.1 = 0 then (some ((mv_up r1.2.1 77 (Int32.toNatClampNeg (((8 : Int32) * v1) + v2)) r1.1), r1.2.2)) else ((kf111 N (mv_up r1.2.1 77 (Int32.toNatClampNeg (((8 : Int32) * v1) + v2)) r1.1) r1.2.2 v1 v2 (r1.1 - (1 : Int32))).bind fun r6 => if r6 = 0 then (some ((mv_up (mv_up (mv_up r1.2.1 77 (Int32.toNatClampNeg (((8 : Int32) * v1) + v2)) r1.1) 59 35 (((mv_up r1.2.1 77 (Int32.toNatClampNeg (((8 : Int32) * v1) + v2)) r1.1) 59 35) - (1 : Int32))) 59 36 (1 : Int32)), r1.2.2)) else (some ((mv_up r1.2.1 77 (Int32.toNatClampNeg (((8 : Int32) * v1) + v2)) r1.1), r1.2.2))))) else none
set_option maxRecDepth 100000 in
set_option maxHeartbeats 4000000 in
theorem kf112_ok (f : Bool) (N : Nat) (v1 : Int32) (v2 : Int32) (I : kjI) (L : kjL) (d : Nat) (r : kjI × kjL) (h : kf112 N v1 v2 I L = some r) : mv_C kjP kjSta (d + 4) 112 [.ref 59, .int v1, .int v2] (kjS f I L) (kjQwv f r) := by
  unfold kf112 at h
  refine mv_C_in kjM_112 (lc := [some (.ref 59), some (.int v1), some (.int v2), none]) rfl rfl rfl ?_
  refine mv_G_run 4 (F' := (6, [some (.ref 59), some (.int v1), some (.int v2), none], [.int (I 59 20), .int (0 : Int32), .ref 59], 0, 0, kjS f I L)) rfl ?_
  obtain ⟨r1, hc2, h⟩ := mv_bd h
  refine mv_G_call (r := []) (kf104_ok _ _ _ _ _ _ _ hc2) rfl rfl rfl rfl rfl (Nat.le_of_ble_eq_true rfl) (Nat.le_of_ble_eq_true rfl) (Nat.le_of_ble_eq_true rfl) ?_
  rintro _ _ ⟨rfl, rfl⟩
  refine mv_G_run 9 (F' := (21, [some (.ref 59), some (.int v1), some (.int v2), some (.int r1.1)], [.int r1.1, .int (((8 : Int32) * v1) + v2), .ref 77], 0, 0, kjS f r1.2.1 r1.2.2)) rfl ?_
  obtain ⟨hi3, h⟩ := mv_bifs h
  refine mv_G_ast rfl rfl (mv_in_ok hi3) ?_
  refine mv_G_run 2 (F' := (26, [some (.ref 59), some (.int v1), some (.int v2), some (.int r1.1)], [.int ((mv_up r1.2.1 77 (Int32.toNatClampNeg (((8 : Int32) * v1) + v2)) r1.1) 59 36)], 0, 0, kjS f (mv_up r1.2.1 77 (Int32.toNatClampNeg (((8 : Int32) * v1) + v2)) r1.1) r1.2.2)) rfl ?_
  by_cases hc4 : ¬ ((mv_up r1.2.1 77 (Int32.toNatClampNeg (((8 : Int32) * v1) + v2)) r1.1) 59 36) = 0
  · rw [if_pos hc4] at h
    refine mv_G_br (tgt := 45) rfl rfl (by decide) (fun _ => ?_) (fun z => absurd hc4 z)
    obtain rfl := Option.some.inj h
    exact mv_G_ret rfl rfl rfl (Nat.le_refl _) trivial ⟨rfl, rfl⟩
  · rw [if_neg hc4] at h
    refine mv_G_br (tgt := 45) rfl rfl (by decide) (fun z => absurd z hc4) (fun _ => ?_)
    refine mv_G_run 1 (F' := (30, [some (.ref 59), some (.int v1), some (.int v2), some (.int r1.1)], [.int r1.1], 0, 0, kjS f (mv_up r1.2.1 77 (Int32.toNatClampNeg (((8 : Int32) * v1) + v2)) r1.1) r1.2.2)) rfl ?_
    by_cases hc5 : r1.1 = 0
    · rw [if_pos hc5] at h
      refine mv_G_br (tgt := 45) rfl rfl (by decide) (fun _ => ?_) (fun z => absurd hc5 z)
      obtain rfl := Option.some.inj h
      exact mv_G_ret rfl rfl rfl (Nat.le_refl _) trivial ⟨rfl, rfl⟩
    · rw [if_neg hc5] at h
      refine mv_G_br (tgt := 45) rfl rfl (by decide) (fun z => absurd z hc5) (fun _ => ?_)
      refine mv_G_run 6 (F' := (39, [some (.ref 59), some (.int v1), some (.int v2), some (.int r1.1)], [.int (r1.1 - (1 : Int32)), .int v2, .int v1, .ref 59], 0, 0, kjS f (mv_up r1.2.1 77 (Int32.toNatClampNeg (((8 : Int32) * v1) + v2)) r1.1) r1.2.2)) rfl ?_
      obtain ⟨r6, hc7, h⟩ := mv_bd h
      refine mv_G_call (r := []) (kf111_ok _ _ _ _ _ _ _ _ _ hc7) rfl rfl rfl rfl rfl (Nat.le_of_ble_eq_true rfl) (Nat.le_of_ble_eq_true rfl) (Nat.le_of_ble_eq_true rfl) ?_
      rintro _ _ ⟨rfl, rfl⟩
      by_cases hc8 : r6 = 0
      · rw [if_pos hc8] at h
        refine mv_G_br (tgt := 46) rfl rfl (by decide) (fun _ => ?_) (fun z => absurd hc8 z)
        refine mv_G_run 9 (F' := (61, [some (.ref 59), some (.int v1), some (.int v2), some (.int r1.1)], [], 0, 0, kjS f (mv_up (mv_up (mv_up r1.2.1 77 (Int32.toNatClampNeg (((8 : Int32) * v1) + v2)) r1.1) 59 35 (((mv_up r1.2.1 77 (Int32.toNatClampNeg (((8 : Int32) * v1) + v2)) r1.1) 59 35) - (1 : Int32))) 59 36 (1 : Int32)) r1.2.2)) rfl ?_
        obtain rfl := Option.some.inj h
        exact mv_G_ret rfl rfl rfl (Nat.le_refl _) trivial ⟨rfl, rfl⟩
      · rw [if_neg hc8] at h
        refine mv_G_br (tgt := 46) rfl rfl (by decide) (fun z => absurd z hc8) (fun _ => ?_)
        obtain rfl := Option.some.inj h
        exact mv_G_ret rfl rfl rfl (Nat.le_refl _) trivial ⟨rfl, rfl⟩
/-! KindJudgeModel.takeApart()Z on ('c', 59) -/
def kf113_199 (N : Nat) (I : kjI) (L : kjL) : Option (Int32 × kjI × kjL) :=
  if ¬ (I 59 36) = 0 then (some ((0 : Int32), I, L)) else (some ((1 : Int32), I, L))
set_option maxRecDepth 100000 in
set_option maxHeartbeats 4000000 in
theorem kf113_199_ok (f : Bool) (N : Nat) (d : Nat)  (I : kjI) (L : kjL) (r : Int32 × kjI × kjL) (h : kf113_199 N I L = some r) : mv_G kjP kjSta (mv_C kjP kjSta (d + 4)) kjM_113 (kjQwi f r) (199, [some (.ref 59), none], [], 0, 0, kjS f I L) := by
  unfold kf113_199 at h
  refine mv_G_run 2 (F' := (203, [some (.ref 59), none], [.int (I 59 36)], 0, 0, kjS f I L)) rfl ?_
  by_cases hc1 : ¬ (I 59 36) = 0
  · rw [if_pos hc1] at h
    refine mv_G_br (tgt := 210) rfl rfl (by decide) (fun _ => ?_) (fun z => absurd hc1 z)
    refine mv_G_run 1 (F' := (211, [some (.ref 59), none], [.int (0 : Int32)], 0, 0, kjS f I L)) rfl ?_
    obtain rfl := Option.some.inj h
    exact mv_G_ret rfl rfl rfl (Nat.le_refl _) (Or.inl rfl) ⟨rfl, rfl⟩
  · rw [if_neg hc1] at h
    refine mv_G_br (tgt := 210) rfl rfl (by decide) (fun z => absurd z hc1) (fun _ => ?_)
    refine mv_G_run 2 (F' := (211, [some (.ref 59), none], [.int (1 : Int32)], 0, 0, kjS f I L)) rfl ?_
    obtain rfl := Option.some.inj h
    exact mv_G_ret rfl rfl rfl (Nat.le_refl _) (Or.inr rfl) ⟨rfl, rfl⟩
def kf113_176 (N : Nat) (I : kjI) (L : kjL) : Option (Int32 × kjI × kjL) :=
  if ¬ (I 59 36) = 0 then (kf113_199 N I L) else (if (I 59 5) ≤ (I 59 35) then (kf113_199 N I L) else (kf113_199 N (mv_up I 59 36 (1 : Int32)) L))
set_option maxRecDepth 100000 in
set_option maxHeartbeats 4000000 in
theorem kf113_176_ok (f : Bool) (N : Nat) (d : Nat)  (I : kjI) (L : kjL) (r : Int32 × kjI × kjL) (h : kf113_176 N I L = some r) : mv_G kjP kjSta (mv_C kjP kjSta (d + 4)) kjM_113 (kjQwi f r) (176, [some (.ref 59), none], [], 0, 0, kjS f I L) := by
  unfold kf113_176 at h
  refine mv_G_run 2 (F' := (180, [some (.ref 59), none], [.int (I 59 36)], 0, 0, kjS f I L)) rfl ?_
  by_cases hc1 : ¬ (I 59 36) = 0
  · rw [if_pos hc1] at h
    refine mv_G_br (tgt := 199) rfl rfl (by decide) (fun _ => ?_) (fun z => absurd hc1 z)
    exact kf113_199_ok _ _ d _ _ _ h
  · rw [if_neg hc1] at h
    refine mv_G_br (tgt := 199) rfl rfl (by decide) (fun z => absurd z hc1) (fun _ => ?_)
    refine mv_G_run 4 (F' := (191, [some (.ref 59), none], [.int (I 59 5), .int (I 59 35)], 0, 0, kjS f I L)) rfl ?_
    by_cases hc2 : (I 59 5) ≤ (I 59 35)
    · rw [if_pos hc2] at h
      refine mv_G_br (tgt := 199) rfl rfl (by decide) (fun _ => ?_) (fun z => absurd hc2 z)
      exact kf113_199_ok _ _ d _ _ _ h
    · rw [if_neg hc2] at h
      refine mv_G_br (tgt := 199) rfl rfl (by decide) (fun z => absurd z hc2) (fun _ => ?_)
      refine mv_G_run 3 (F' := (199, [some (.ref 59), none], [], 0, 0, kjS f (mv_up I 59 36 (1 : Int32)) L)) rfl ?_
      exact kf113_199_ok _ _ d _ _ _ h
def kf113_134 (N : Nat) : Nat → Int32 → kjI → kjL → Option (Int32 × kjI × kjL)
  | 0, _, _, _ => none
  | n + 1, v1, I, L => if ((I 59 12) * (I 59 16)) ≤ v1 then (kf113_176 N I L) else (if ¬ (I 59 36) = 0 then (kf113_176 N I L) else (if ¬ (I 59 16) = 0 then (if ¬ (I 59 16) = 0 then ((kf112 N (v1 / (I 59 16)) (v1 - v1 / (I 59 16) * (I 59 16)) I L).bind fun r5 => (fun v1 I L => kf113_134 N n v1 I L) (v1 + (1 : Int32)) r5.1 r5.2) else none) else none))
set_option maxRecDepth 100000 in
set_option maxHeartbeats 4000000 in
theorem kf113_134_ok (f : Bool) (N : Nat) (d : Nat)  : ∀ (n : Nat) (v1 : Int32) (I : kjI) (L : kjL) (r : Int32 × kjI × kjL), kf113_134 N n v1 I L = some r → mv_G kjP kjSta (mv_C kjP kjSta (d + 4)) kjM_113 (kjQwi f r) (134, [some (.ref 59), some (.int v1)], [], 0, 0, kjS f I L) := by
  intro n
  induction n with
  | zero => intro v1 I L r h; cases h
  | succ n ih =>
    have hk134 := ih
    intro v1 I L r h
    unfold kf113_134 at h
    refine mv_G_run 6 (F' := (144, [some (.ref 59), some (.int v1)], [.int ((I 59 12) * (I 59 16)), .int v1], 0, 0, kjS f I L)) rfl ?_
    by_cases hc1 : ((I 59 12) * (I 59 16)) ≤ v1
    · rw [if_pos hc1] at h
      refine mv_G_br (tgt := 176) rfl rfl (by decide) (fun _ => ?_) (fun z => absurd hc1 z)
      refine mv_G_fg (lc' := [some (.ref 59), none]) (And.intro rfl trivial) ?_
      exact kf113_176_ok _ _ d _ _ _ h
    · rw [if_neg hc1] at h
      refine mv_G_br (tgt := 176) rfl rfl (by decide) (fun z => absurd z hc1) (fun _ => ?_)
      refine mv_G_run 2 (F' := (151, [some (.ref 59), some (.int v1)], [.int (I 59 36)], 0, 0, kjS f I L)) rfl ?_
      by_cases hc2 : ¬ (I 59 36) = 0
      · rw [if_pos hc2] at h
        refine mv_G_br (tgt := 176) rfl rfl (by decide) (fun _ => ?_) (fun z => absurd hc2 z)
        refine mv_G_fg (lc' := [some (.ref 59), none]) (And.intro rfl trivial) ?_
        exact kf113_176_ok _ _ d _ _ _ h
      · rw [if_neg hc2] at h
        refine mv_G_br (tgt := 176) rfl rfl (by decide) (fun z => absurd z hc2) (fun _ => ?_)
        refine mv_G_run 4 (F' := (160, [some (.ref 59), some (.int v1)], [.int (I 59 16), .int v1, .ref 59], 0, 0, kjS f I L)) rfl ?_
        obtain ⟨hz3, h⟩ := mv_ifs h
        refine mv_G_div rfl rfl hz3 ?_
        refine mv_G_run 3 (F' := (166, [some (.ref 59), some (.int v1)], [.int (I 59 16), .int v1, .int (v1 / (I 59 16)), .ref 59], 0, 0, kjS f I L)) rfl ?_
        obtain ⟨hz4, h⟩ := mv_ifs h
        refine mv_G_div rfl rfl hz4 ?_
        obtain ⟨r5, hc6, h⟩ := mv_bd h
        refine mv_G_call (r := []) (kf112_ok _ _ _ _ _ _ _ _ hc6) rfl rfl rfl rfl rfl (Nat.le_of_ble_eq_true rfl) (Nat.le_of_ble_eq_true rfl) (Nat.le_of_ble_eq_true rfl) ?_
        rintro _ _ ⟨rfl, rfl⟩
        refine mv_G_run 2 (F' := (134, [some (.ref 59), some (.int (v1 + (1 : Int32)))], [], 0, 0, kjS f r5.1 r5.2)) rfl ?_
        exact hk134 (v1 + (1 : Int32)) r5.1 r5.2 _ h
def kf113_132 (N : Nat) (I : kjI) (L : kjL) : Option (Int32 × kjI × kjL) :=
  kf113_134 N N (0 : Int32) I L
set_option maxRecDepth 100000 in
set_option maxHeartbeats 4000000 in
theorem kf113_132_ok (f : Bool) (N : Nat) (d : Nat)  (I : kjI) (L : kjL) (r : Int32 × kjI × kjL) (h : kf113_132 N I L = some r) : mv_G kjP kjSta (mv_C kjP kjSta (d + 4)) kjM_113 (kjQwi f r) (132, [some (.ref 59), none], [], 0, 0, kjS f I L) := by
  unfold kf113_132 at h
  refine mv_G_run 2 (F' := (134, [some (.ref 59), some (.int (0 : Int32))], [], 0, 0, kjS f I L)) rfl ?_
  exact kf113_134_ok _ _ d _ _ _ _ _ h
def kf113_106 (N : Nat) : Nat → Int32 → kjI → kjL → Option (Int32 × kjI × kjL)
  | 0, _, _, _ => none
  | n + 1, v1, I, L => if (I 59 20) ≤ v1 then (kf113_132 N I L) else (if ¬ (I 59 36) = 0 then (kf113_132 N I L) else ((kf108 N v1 I L).bind fun r3 => (fun v1 I L => kf113_106 N n v1 I L) (v1 + (1 : Int32)) r3.1 r3.2))
set_option maxRecDepth 100000 in
set_option maxHeartbeats 4000000 in
theorem kf113_106_ok (f : Bool) (N : Nat) (d : Nat)  : ∀ (n : Nat) (v1 : Int32) (I : kjI) (L : kjL) (r : Int32 × kjI × kjL), kf113_106 N n v1 I L = some r → mv_G kjP kjSta (mv_C kjP kjSta (d + 4)) kjM_113 (kjQwi f r) (106, [some (.ref 59), some (.int v1)], [], 0, 0, kjS f I L) := by
  intro n
  induction n with
  | zero => intro v1 I L r h; cases h
  | succ n ih =>
    have hk106 := ih
    intro v1 I L r h
    unfold kf113_106 at h
    refine mv_G_run 3 (F' := (111, [some (.ref 59), some (.int v1)], [.int (I 59 20), .int v1], 0, 0, kjS f I L)) rfl ?_
    by_cases hc1 : (I 59 20) ≤ v1
    · rw [if_pos hc1] at h
      refine mv_G_br (tgt := 132) rfl rfl (by decide) (fun _ => ?_) (fun z => absurd hc1 z)
      refine mv_G_fg (lc' := [some (.ref 59), none]) (And.intro rfl trivial) ?_
      exact kf113_132_ok _ _ d _ _ _ h
    · rw [if_neg hc1] at h
      refine mv_G_br (tgt := 132) rfl rfl (by decide) (fun z => absurd z hc1) (fun _ => ?_)
      refine mv_G_run 2 (F' := (118, [some (.ref 59), some (.int v1)], [.int (I 59 36)], 0, 0, kjS f I L)) rfl ?_
      by_cases hc2 : ¬ (I 59 36) = 0
      · rw [if_pos hc2] at h
        refine mv_G_br (tgt := 132) rfl rfl (by decide) (fun _ => ?_) (fun z => absurd hc2 z)
        refine mv_G_fg (lc' := [some (.ref 59), none]) (And.intro rfl trivial) ?_
        exact kf113_132_ok _ _ d _ _ _ h
      · rw [if_neg hc2] at h
        refine mv_G_br (tgt := 132) rfl rfl (by decide) (fun z => absurd z hc2) (fun _ => ?_)
        refine mv_G_run 2 (F' := (123, [some (.ref 59), some (.int v1)], [.int v1, .ref 59], 0, 0, kjS f I L)) rfl ?_
        obtain ⟨r3, hc4, h⟩ := mv_bd h
        refine mv_G_call (r := []) (kf108_ok _ _ _ _ _ _ _ hc4) rfl rfl rfl rfl rfl (Nat.le_of_ble_eq_true rfl) (Nat.le_of_ble_eq_true rfl) (Nat.le_of_ble_eq_true rfl) ?_
        rintro _ _ ⟨rfl, rfl⟩
        refine mv_G_run 2 (F' := (106, [some (.ref 59), some (.int (v1 + (1 : Int32)))], [], 0, 0, kjS f r3.1 r3.2)) rfl ?_
        exact hk106 (v1 + (1 : Int32)) r3.1 r3.2 _ h
def kf113_93 (N : Nat) (I : kjI) (L : kjL) : Option (Int32 × kjI × kjL) :=
  (kf104 (1 : Int32) (16 : Int32) I L).bind fun r1 => kf113_106 N N (0 : Int32) (mv_up r1.2.1 59 20 r1.1) r1.2.2
set_option maxRecDepth 100000 in
set_option maxHeartbeats 4000000 in
theorem kf113_93_ok (f : Bool) (N : Nat) (d : Nat)  (I : kjI) (L : kjL) (r : Int32 × kjI × kjL) (h : kf113_93 N I L = some r) : mv_G kjP kjSta (mv_C kjP kjSta (d + 4)) kjM_113 (kjQwi f r) (93, [some (.ref 59), none], [], 0, 0, kjS f I L) := by
  unfold kf113_93 at h
  refine mv_G_run 4 (F' := (98, [some (.ref 59), none], [.int (16 : Int32), .int (1 : Int32), .ref 59, .ref 59], 0, 0, kjS f I L)) rfl ?_
  obtain ⟨r1, hc2, h⟩ := mv_bd h
  refine mv_G_call (r := [.ref 59]) (kf104_ok _ _ _ _ _ _ _ hc2) rfl rfl rfl rfl rfl (Nat.le_of_ble_eq_true rfl) (Nat.le_of_ble_eq_true rfl) (Nat.le_of_ble_eq_true rfl) ?_
  rintro _ _ ⟨rfl, rfl⟩
  refine mv_G_run 3 (F' := (106, [some (.ref 59), some (.int (0 : Int32))], [], 0, 0, kjS f (mv_up r1.2.1 59 20 r1.1) r1.2.2)) rfl ?_
  exact kf113_106_ok _ _ d _ _ _ _ _ h
def kf113_67 (N : Nat) : Nat → Int32 → kjI → kjL → Option (Int32 × kjI × kjL)
  | 0, _, _, _ => none
  | n + 1, v1, I, L => if (I 59 16) ≤ v1 then (kf113_93 N I L) else (if ¬ (I 59 36) = 0 then (kf113_93 N I L) else ((kf107 N v1 I L).bind fun r3 => (fun v1 I L => kf113_67 N n v1 I L) (v1 + (1 : Int32)) r3.1 r3.2))
set_option maxRecDepth 100000 in
set_option maxHeartbeats 4000000 in
theorem kf113_67_ok (f : Bool) (N : Nat) (d : Nat)  : ∀ (n : Nat) (v1 : Int32) (I : kjI) (L : kjL) (r : Int32 × kjI × kjL), kf113_67 N n v1 I L = some r → mv_G kjP kjSta (mv_C kjP kjSta (d + 4)) kjM_113 (kjQwi f r) (67, [some (.ref 59), some (.int v1)], [], 0, 0, kjS f I L) := by
  intro n
  induction n with
  | zero => intro v1 I L r h; cases h
  | succ n ih =>
    have hk67 := ih
    intro v1 I L r h
    unfold kf113_67 at h
    refine mv_G_run 3 (F' := (72, [some (.ref 59), some (.int v1)], [.int (I 59 16), .int v1], 0, 0, kjS f I L)) rfl ?_
    by_cases hc1 : (I 59 16) ≤ v1
    · rw [if_pos hc1] at h
      refine mv_G_br (tgt := 93) rfl rfl (by decide) (fun _ => ?_) (fun z => absurd hc1 z)
      refine mv_G_fg (lc' := [some (.ref 59), none]) (And.intro rfl trivial) ?_
      exact kf113_93_ok _ _ d _ _ _ h
    · rw [if_neg hc1] at h
      refine mv_G_br (tgt := 93) rfl rfl (by decide) (fun z => absurd z hc1) (fun _ => ?_)
      refine mv_G_run 2 (F' := (79, [some (.ref 59), some (.int v1)], [.int (I 59 36)], 0, 0, kjS f I L)) rfl ?_
      by_cases hc2 : ¬ (I 59 36) = 0
      · rw [if_pos hc2] at h
        refine mv_G_br (tgt := 93) rfl rfl (by decide) (fun _ => ?_) (fun z => absurd hc2 z)
        refine mv_G_fg (lc' := [some (.ref 59), none]) (And.intro rfl trivial) ?_
        exact kf113_93_ok _ _ d _ _ _ h
      · rw [if_neg hc2] at h
        refine mv_G_br (tgt := 93) rfl rfl (by decide) (fun z => absurd z hc2) (fun _ => ?_)
        refine mv_G_run 2 (F' := (84, [some (.ref 59), some (.int v1)], [.int v1, .ref 59], 0, 0, kjS f I L)) rfl ?_
        obtain ⟨r3, hc4, h⟩ := mv_bd h
        refine mv_G_call (r := []) (kf107_ok _ _ _ _ _ _ _ hc4) rfl rfl rfl rfl rfl (Nat.le_of_ble_eq_true rfl) (Nat.le_of_ble_eq_true rfl) (Nat.le_of_ble_eq_true rfl) ?_
        rintro _ _ ⟨rfl, rfl⟩
        refine mv_G_run 2 (F' := (67, [some (.ref 59), some (.int (v1 + (1 : Int32)))], [], 0, 0, kjS f r3.1 r3.2)) rfl ?_
        exact hk67 (v1 + (1 : Int32)) r3.1 r3.2 _ h
def kf113_54 (N : Nat) (I : kjI) (L : kjL) : Option (Int32 × kjI × kjL) :=
  (kf104 (0 : Int32) (8 : Int32) I L).bind fun r1 => kf113_67 N N (0 : Int32) (mv_up r1.2.1 59 16 r1.1) r1.2.2
set_option maxRecDepth 100000 in
set_option maxHeartbeats 4000000 in
theorem kf113_54_ok (f : Bool) (N : Nat) (d : Nat)  (I : kjI) (L : kjL) (r : Int32 × kjI × kjL) (h : kf113_54 N I L = some r) : mv_G kjP kjSta (mv_C kjP kjSta (d + 4)) kjM_113 (kjQwi f r) (54, [some (.ref 59), none], [], 0, 0, kjS f I L) := by
  unfold kf113_54 at h
  refine mv_G_run 4 (F' := (59, [some (.ref 59), none], [.int (8 : Int32), .int (0 : Int32), .ref 59, .ref 59], 0, 0, kjS f I L)) rfl ?_
  obtain ⟨r1, hc2, h⟩ := mv_bd h
  refine mv_G_call (r := [.ref 59]) (kf104_ok _ _ _ _ _ _ _ hc2) rfl rfl rfl rfl rfl (Nat.le_of_ble_eq_true rfl) (Nat.le_of_ble_eq_true rfl) (Nat.le_of_ble_eq_true rfl) ?_
  rintro _ _ ⟨rfl, rfl⟩
  refine mv_G_run 3 (F' := (67, [some (.ref 59), some (.int (0 : Int32))], [], 0, 0, kjS f (mv_up r1.2.1 59 16 r1.1) r1.2.2)) rfl ?_
  exact kf113_67_ok _ _ d _ _ _ _ _ h
def kf113_28 (N : Nat) : Nat → Int32 → kjI → kjL → Option (Int32 × kjI × kjL)
  | 0, _, _, _ => none
  | n + 1, v1, I, L => if (I 59 12) ≤ v1 then (kf113_54 N I L) else (if ¬ (I 59 36) = 0 then (kf113_54 N I L) else ((kf106 N v1 I L).bind fun r3 => (fun v1 I L => kf113_28 N n v1 I L) (v1 + (1 : Int32)) r3.1 r3.2))
set_option maxRecDepth 100000 in
set_option maxHeartbeats 4000000 in
theorem kf113_28_ok (f : Bool) (N : Nat) (d : Nat)  : ∀ (n : Nat) (v1 : Int32) (I : kjI) (L : kjL) (r : Int32 × kjI × kjL), kf113_28 N n v1 I L = some r → mv_G kjP kjSta (mv_C kjP kjSta (d + 4)) kjM_113 (kjQwi f r) (28, [some (.ref 59), some (.int v1)], [], 0, 0, kjS f I L) := by
  intro n
  induction n with
  | zero => intro v1 I L r h; cases h
  | succ n ih =>
    have hk28 := ih
    intro v1 I L r h
    unfold kf113_28 at h
    refine mv_G_run 3 (F' := (33, [some (.ref 59), some (.int v1)], [.int (I 59 12), .int v1], 0, 0, kjS f I L)) rfl ?_
    by_cases hc1 : (I 59 12) ≤ v1
    · rw [if_pos hc1] at h
      refine mv_G_br (tgt := 54) rfl rfl (by decide) (fun _ => ?_) (fun z => absurd hc1 z)
      refine mv_G_fg (lc' := [some (.ref 59), none]) (And.intro rfl trivial) ?_
      exact kf113_54_ok _ _ d _ _ _ h
    · rw [if_neg hc1] at h
      refine mv_G_br (tgt := 54) rfl rfl (by decide) (fun z => absurd z hc1) (fun _ => ?_)
      refine mv_G_run 2 (F' := (40, [some (.ref 59), some (.int v1)], [.int (I 59 36)], 0, 0, kjS f I L)) rfl ?_
      by_cases hc2 : ¬ (I 59 36) = 0
      · rw [if_pos hc2] at h
        refine mv_G_br (tgt := 54) rfl rfl (by decide) (fun _ => ?_) (fun z => absurd hc2 z)
        refine mv_G_fg (lc' := [some (.ref 59), none]) (And.intro rfl trivial) ?_
        exact kf113_54_ok _ _ d _ _ _ h
      · rw [if_neg hc2] at h
        refine mv_G_br (tgt := 54) rfl rfl (by decide) (fun z => absurd z hc2) (fun _ => ?_)
        refine mv_G_run 2 (F' := (45, [some (.ref 59), some (.int v1)], [.int v1, .ref 59], 0, 0, kjS f I L)) rfl ?_
        obtain ⟨r3, hc4, h⟩ := mv_bd h
        refine mv_G_call (r := []) (kf106_ok _ _ _ _ _ _ _ hc4) rfl rfl rfl rfl rfl (Nat.le_of_ble_eq_true rfl) (Nat.le_of_ble_eq_true rfl) (Nat.le_of_ble_eq_true rfl) ?_
        rintro _ _ ⟨rfl, rfl⟩
        refine mv_G_run 2 (F' := (28, [some (.ref 59), some (.int (v1 + (1 : Int32)))], [], 0, 0, kjS f r3.1 r3.2)) rfl ?_
        exact hk28 (v1 + (1 : Int32)) r3.1 r3.2 _ h
def kf113 (N : Nat) (I : kjI) (L : kjL) : Option (Int32 × kjI × kjL) :=
  (kf104 (0 : Int32) (8 : Int32) (mv_up (mv_up (mv_up I 59 35 (0 : Int32)) 59 36 (0 : Int32)) 59 12 (0 : Int32)) L).bind fun r1 => kf113_28 N N (0 : Int32) (mv_up r1.2.1 59 12 r1.1) r1.2.2
set_option maxRecDepth 100000 in
set_option maxHeartbeats 4000000 in
theorem kf113_ok (f : Bool) (N : Nat) (I : kjI) (L : kjL) (d : Nat) (r : Int32 × kjI × kjL) (h : kf113 N I L = some r) : mv_C kjP kjSta (d + 5) 113 [.ref 59] (kjS f I L) (kjQwi f r) := by
  unfold kf113 at h
  refine mv_C_in kjM_113 (lc := [some (.ref 59), none]) rfl rfl rfl ?_
  refine mv_G_run 13 (F' := (20, [some (.ref 59), none], [.int (8 : Int32), .int (0 : Int32), .ref 59, .ref 59], 0, 0, kjS f (mv_up (mv_up (mv_up I 59 35 (0 : Int32)) 59 36 (0 : Int32)) 59 12 (0 : Int32)) L)) rfl ?_
  obtain ⟨r1, hc2, h⟩ := mv_bd h
  refine mv_G_call (r := [.ref 59]) (kf104_ok _ _ _ _ _ _ _ hc2) rfl rfl rfl rfl rfl (Nat.le_of_ble_eq_true rfl) (Nat.le_of_ble_eq_true rfl) (Nat.le_of_ble_eq_true rfl) ?_
  rintro _ _ ⟨rfl, rfl⟩
  refine mv_G_run 3 (F' := (28, [some (.ref 59), some (.int (0 : Int32))], [], 0, 0, kjS f (mv_up r1.2.1 59 12 r1.1) r1.2.2)) rfl ?_
  exact kf113_28_ok _ _ d _ _ _ _ _ h
/-! KindJudgeModel.opLong(I)I -/
def kf114 (I : kjI) (L : kjL) (v0 : Int32) : Option (Int32) :=
  if (v0).toInt = 0 ∨ (v0).toInt = 3 ∨ (v0).toInt = 4 ∨ (v0).toInt = 38 ∨ (v0).toInt = 45 ∨ (v0).toInt = 46 ∨ (v0).toInt = 47 ∨ (v0).toInt = 48 then (some (2 : Int32)) else (if (v0).toInt = 1 ∨ (v0).toInt = 20 ∨ (v0).toInt = 39 ∨ (v0).toInt = 40 then (some (3 : Int32)) else (if v0 < (21 : Int32) then (some (1 : Int32)) else (if (37 : Int32) < v0 then (some (1 : Int32)) else (some (2 : Int32)))))
set_option maxRecDepth 100000 in
set_option maxHeartbeats 4000000 in
theorem kf114_ok (f : Bool) (I : kjI) (L : kjL) (v0 : Int32) (d : Nat) (r : Int32) (h : kf114 I L v0 = some r) : mv_C kjP kjSta (d + 1) 114 [.int v0] (kjS f I L) (kjQi f I L r) := by
  unfold kf114 at h
  refine mv_C_in kjM_114 (lc := [some (.int v0)]) rfl rfl rfl ?_
  refine mv_G_run 1 (F' := (1, [some (.int v0)], [.int v0], 0, 0, kjS f I L)) rfl ?_
  by_cases hw1 : (v0).toInt = 0 ∨ (v0).toInt = 3 ∨ (v0).toInt = 4 ∨ (v0).toInt = 38 ∨ (v0).toInt = 45 ∨ (v0).toInt = 46 ∨ (v0).toInt = 47 ∨ (v0).toInt = 48
  · rw [if_pos hw1] at h
    refine mv_G_sw (tgt := 214) (off := 213) rfl (by rcases hw1 with hw1 | hw1 | hw1 | hw1 | hw1 | hw1 | hw1 | hw1 <;> (simp only [mv_sw, hw1]; rfl)) (by decide) ?_
    refine mv_G_run 1 (F' := (215, [some (.int v0)], [.int (2 : Int32)], 0, 0, kjS f I L)) rfl ?_
    obtain rfl := Option.some.inj h
    exact mv_G_ret rfl rfl rfl (Nat.le_refl _) trivial ⟨rfl, rfl⟩
  rw [if_neg hw1] at h
  by_cases hw2 : (v0).toInt = 1 ∨ (v0).toInt = 20 ∨ (v0).toInt = 39 ∨ (v0).toInt = 40
  · rw [if_pos hw2] at h
    refine mv_G_sw (tgt := 212) (off := 211) rfl (by rcases hw2 with hw2 | hw2 | hw2 | hw2 <;> (simp only [mv_sw, hw2]; rfl)) (by decide) ?_
    refine mv_G_run 1 (F' := (213, [some (.int v0)], [.int (3 : Int32)], 0, 0, kjS f I L)) rfl ?_
    obtain rfl := Option.some.inj h
    exact mv_G_ret rfl rfl rfl (Nat.le_refl _) trivial ⟨rfl, rfl⟩
  rw [if_neg hw2] at h
  refine mv_G_sw (tgt := 216) (off := 215) rfl (by
    have hz5 : ((v0).toInt < 0 ∨ 48 < (v0).toInt) ∨ (v0).toInt = 2 ∨ (v0).toInt = 5 ∨ (v0).toInt = 6 ∨ (v0).toInt = 7 ∨ (v0).toInt = 8 ∨ (v0).toInt = 9 ∨ (v0).toInt = 10 ∨ (v0).toInt = 11 ∨ (v0).toInt = 12 ∨ (v0).toInt = 13 ∨ (v0).toInt = 14 ∨ (v0).toInt = 15 ∨ (v0).toInt = 16 ∨ (v0).toInt = 17 ∨ (v0).toInt = 18 ∨ (v0).toInt = 19 ∨ (v0).toInt = 21 ∨ (v0).toInt = 22 ∨ (v0).toInt = 23 ∨ (v0).toInt = 24 ∨ (v0).toInt = 25 ∨ (v0).toInt = 26 ∨ (v0).toInt = 27 ∨ (v0).toInt = 28 ∨ (v0).toInt = 29 ∨ (v0).toInt = 30 ∨ (v0).toInt = 31 ∨ (v0).toInt = 32 ∨ (v0).toInt = 33 ∨ (v0).toInt = 34 ∨ (v0).toInt = 35 ∨ (v0).toInt = 36 ∨ (v0).toInt = 37 ∨ (v0).toInt = 41 ∨ (v0).toInt = 42 ∨ (v0).toInt = 43 ∨ (v0).toInt = 44 := by omega
    rcases hz5 with hz5 | hz5 | hz5 | hz5 | hz5 | hz5 | hz5 | hz5 | hz5 | hz5 | hz5 | hz5 | hz5 | hz5 | hz5 | hz5 | hz5 | hz5 | hz5 | hz5 | hz5 | hz5 | hz5 | hz5 | hz5 | hz5 | hz5 | hz5 | hz5 | hz5 | hz5 | hz5 | hz5 | hz5 | hz5 | hz5 | hz5 | hz5
    · exact if_pos hz5
    · simp only [mv_sw, hz5]; rfl
    · simp only [mv_sw, hz5]; rfl
    · simp only [mv_sw, hz5]; rfl
    · simp only [mv_sw, hz5]; rfl
    · simp only [mv_sw, hz5]; rfl
    · simp only [mv_sw, hz5]; rfl
    · simp only [mv_sw, hz5]; rfl
    · simp only [mv_sw, hz5]; rfl
    · simp only [mv_sw, hz5]; rfl
    · simp only [mv_sw, hz5]; rfl
    · simp only [mv_sw, hz5]; rfl
    · simp only [mv_sw, hz5]; rfl
    · simp only [mv_sw, hz5]; rfl
    · simp only [mv_sw, hz5]; rfl
    · simp only [mv_sw, hz5]; rfl
    · simp only [mv_sw, hz5]; rfl
    · simp only [mv_sw, hz5]; rfl
    · simp only [mv_sw, hz5]; rfl
    · simp only [mv_sw, hz5]; rfl
    · simp only [mv_sw, hz5]; rfl
    · simp only [mv_sw, hz5]; rfl
    · simp only [mv_sw, hz5]; rfl
    · simp only [mv_sw, hz5]; rfl
    · simp only [mv_sw, hz5]; rfl
    · simp only [mv_sw, hz5]; rfl
    · simp only [mv_sw, hz5]; rfl
    · simp only [mv_sw, hz5]; rfl
    · simp only [mv_sw, hz5]; rfl
    · simp only [mv_sw, hz5]; rfl
    · simp only [mv_sw, hz5]; rfl
    · simp only [mv_sw, hz5]; rfl
    · simp only [mv_sw, hz5]; rfl
    · simp only [mv_sw, hz5]; rfl
    · simp only [mv_sw, hz5]; rfl
    · simp only [mv_sw, hz5]; rfl
    · simp only [mv_sw, hz5]; rfl
    · simp only [mv_sw, hz5]; rfl) (by decide) ?_
  refine mv_G_run 2 (F' := (219, [some (.int v0)], [.int (21 : Int32), .int v0], 0, 0, kjS f I L)) rfl ?_
  by_cases hc3 : v0 < (21 : Int32)
  · rw [if_pos hc3] at h
    refine mv_G_br (tgt := 232) rfl rfl (by decide) (fun _ => ?_) (fun z => absurd hc3 z)
    refine mv_G_run 1 (F' := (233, [some (.int v0)], [.int (1 : Int32)], 0, 0, kjS f I L)) rfl ?_
    obtain rfl := Option.some.inj h
    exact mv_G_ret rfl rfl rfl (Nat.le_refl _) trivial ⟨rfl, rfl⟩
  · rw [if_neg hc3] at h
    refine mv_G_br (tgt := 232) rfl rfl (by decide) (fun z => absurd z hc3) (fun _ => ?_)
    refine mv_G_run 2 (F' := (225, [some (.int v0)], [.int (37 : Int32), .int v0], 0, 0, kjS f I L)) rfl ?_
    by_cases hc4 : (37 : Int32) < v0
    · rw [if_pos hc4] at h
      refine mv_G_br (tgt := 232) rfl rfl (by decide) (fun _ => ?_) (fun z => absurd hc4 z)
      refine mv_G_run 1 (F' := (233, [some (.int v0)], [.int (1 : Int32)], 0, 0, kjS f I L)) rfl ?_
      obtain rfl := Option.some.inj h
      exact mv_G_ret rfl rfl rfl (Nat.le_refl _) trivial ⟨rfl, rfl⟩
    · rw [if_neg hc4] at h
      refine mv_G_br (tgt := 232) rfl rfl (by decide) (fun z => absurd z hc4) (fun _ => ?_)
      refine mv_G_run 2 (F' := (233, [some (.int v0)], [.int (2 : Int32)], 0, 0, kjS f I L)) rfl ?_
      obtain rfl := Option.some.inj h
      exact mv_G_ret rfl rfl rfl (Nat.le_refl _) trivial ⟨rfl, rfl⟩
/-! KindJudgeModel.byteAt(II)I on ('c', 59) -/
def kf115 (I : kjI) (L : kjL) (v1 : Int32) (v2 : Int32) : Option (Int32) :=
  bif mv_in (((120 : Int32) * v1) + v2) 1920 then (some (I 75 (Int32.toNatClampNeg (((120 : Int32) * v1) + v2)))) else none
set_option maxRecDepth 100000 in
set_option maxHeartbeats 4000000 in
theorem kf115_ok (f : Bool) (I : kjI) (L : kjL) (v1 : Int32) (v2 : Int32) (d : Nat) (r : Int32) (h : kf115 I L v1 v2 = some r) : mv_C kjP kjSta (d + 1) 115 [.ref 59, .int v1, .int v2] (kjS f I L) (kjQi f I L r) := by
  unfold kf115 at h
  refine mv_C_in kjM_115 (lc := [some (.ref 59), some (.int v1), some (.int v2)]) rfl rfl rfl ?_
  refine mv_G_run 7 (F' := (10, [some (.ref 59), some (.int v1), some (.int v2)], [.int (((120 : Int32) * v1) + v2), .ref 75], 0, 0, kjS f I L)) rfl ?_
  obtain ⟨hi1, h⟩ := mv_bifs h
  refine mv_G_ald rfl rfl (mv_in_ok hi1) ?_
  obtain rfl := Option.some.inj h
  exact mv_G_ret rfl rfl rfl (Nat.le_refl _) trivial ⟨rfl, rfl⟩
/-! KindJudgeModel.longOf(II)I on ('c', 59) -/
def kf116_56 (I : kjI) (L : kjL) (v1 : Int32) (v2 : Int32) (s0 : Int32) : Option (Int32) :=
  bif mv_in v1 16 then (if (v2 + s0) ≤ (I 74 (Int32.toNatClampNeg v1)) then (some s0) else (some (-1 : Int32))) else none
set_option maxRecDepth 100000 in
set_option maxHeartbeats 4000000 in
theorem kf116_56_ok (f : Bool) (I : kjI) (L : kjL) (d : Nat)  (v1 : Int32) (v2 : Int32) (s0 : Int32) (r : Int32) (h : kf116_56 I L v1 v2 s0 = some r) : mv_G kjP kjSta (mv_C kjP kjSta (d + 1)) kjM_116 (kjQi f I L r) (56, [some (.ref 59), some (.int v1), some (.int v2), none, none], [.int s0], 0, 0, kjS f I L) := by
  unfold kf116_56 at h
  refine mv_G_run 7 (F' := (67, [some (.ref 59), some (.int v1), some (.int v2), none, some (.int s0)], [.int v1, .ref 74, .int (v2 + s0)], 0, 0, kjS f I L)) rfl ?_
  obtain ⟨hi1, h⟩ := mv_bifs h
  refine mv_G_ald rfl rfl (mv_in_ok hi1) ?_
  by_cases hc2 : (v2 + s0) ≤ (I 74 (Int32.toNatClampNeg v1))
  · rw [if_pos hc2] at h
    refine mv_G_br (tgt := 75) rfl rfl (by decide) (fun _ => ?_) (fun z => absurd hc2 z)
    refine mv_G_run 1 (F' := (77, [some (.ref 59), some (.int v1), some (.int v2), none, some (.int s0)], [.int s0], 0, 0, kjS f I L)) rfl ?_
    obtain rfl := Option.some.inj h
    exact mv_G_ret rfl rfl rfl (Nat.le_refl _) trivial ⟨rfl, rfl⟩
  · rw [if_neg hc2] at h
    refine mv_G_br (tgt := 75) rfl rfl (by decide) (fun z => absurd z hc2) (fun _ => ?_)
    refine mv_G_run 2 (F' := (77, [some (.ref 59), some (.int v1), some (.int v2), none, some (.int s0)], [.int (-1 : Int32)], 0, 0, kjS f I L)) rfl ?_
    obtain rfl := Option.some.inj h
    exact mv_G_ret rfl rfl rfl (Nat.le_refl _) trivial ⟨rfl, rfl⟩
def kf116_33 (I : kjI) (L : kjL) (v1 : Int32) (v2 : Int32) (v3 : Int32) : Option (Int32) :=
  if ¬ v3 = (53 : Int32) then ((kf114 I L v3).bind fun r2 => kf116_56 I L v1 v2 r2) else ((kf115 I L v1 (v2 + (1 : Int32))).bind fun r4 => kf116_56 I L v1 v2 ((3 : Int32) + r4))
set_option maxRecDepth 100000 in
set_option maxHeartbeats 4000000 in
theorem kf116_33_ok (f : Bool) (I : kjI) (L : kjL) (d : Nat)  (v1 : Int32) (v2 : Int32) (v3 : Int32) (r : Int32) (h : kf116_33 I L v1 v2 v3 = some r) : mv_G kjP kjSta (mv_C kjP kjSta (d + 1)) kjM_116 (kjQi f I L r) (33, [some (.ref 59), some (.int v1), some (.int v2), some (.int v3), none], [], 0, 0, kjS f I L) := by
  unfold kf116_33 at h
  refine mv_G_run 2 (F' := (36, [some (.ref 59), some (.int v1), some (.int v2), some (.int v3), none], [.int (53 : Int32), .int v3], 0, 0, kjS f I L)) rfl ?_
  by_cases hc1 : ¬ v3 = (53 : Int32)
  · rw [if_pos hc1] at h
    refine mv_G_br (tgt := 52) rfl rfl (by decide) (fun _ => ?_) (fun z => absurd hc1 z)
    refine mv_G_run 1 (F' := (53, [some (.ref 59), some (.int v1), some (.int v2), some (.int v3), none], [.int v3], 0, 0, kjS f I L)) rfl ?_
    obtain ⟨r2, hc3, h⟩ := mv_bd h
    refine mv_G_call (r := []) (kf114_ok _ _ _ _ _ _ hc3) rfl rfl rfl rfl rfl (Nat.le_of_ble_eq_true rfl) (Nat.le_of_ble_eq_true rfl) (Nat.le_of_ble_eq_true rfl) ?_
    rintro _ _ ⟨rfl, rfl⟩
    refine mv_G_fg (lc' := [some (.ref 59), some (.int v1), some (.int v2), none, none]) (And.intro rfl (And.intro rfl (And.intro rfl trivial))) ?_
    exact kf116_56_ok _ _ _ d _ _ _ _ h
  · rw [if_neg hc1] at h
    refine mv_G_br (tgt := 52) rfl rfl (by decide) (fun z => absurd z hc1) (fun _ => ?_)
    refine mv_G_run 6 (F' := (45, [some (.ref 59), some (.int v1), some (.int v2), some (.int v3), none], [.int (v2 + (1 : Int32)), .int v1, .ref 59, .int (3 : Int32)], 0, 0, kjS f I L)) rfl ?_
    obtain ⟨r4, hc5, h⟩ := mv_bd h
    refine mv_G_call (r := [.int (3 : Int32)]) (kf115_ok _ _ _ _ _ _ _ hc5) rfl rfl rfl rfl rfl (Nat.le_of_ble_eq_true rfl) (Nat.le_of_ble_eq_true rfl) (Nat.le_of_ble_eq_true rfl) ?_
    rintro _ _ ⟨rfl, rfl⟩
    refine mv_G_run 2 (F' := (56, [some (.ref 59), some (.int v1), some (.int v2), some (.int v3), none], [.int ((3 : Int32) + r4)], 0, 0, kjS f I L)) rfl ?_
    refine mv_G_fg (lc' := [some (.ref 59), some (.int v1), some (.int v2), none, none]) (And.intro rfl (And.intro rfl (And.intro rfl trivial))) ?_
    exact kf116_56_ok _ _ _ d _ _ _ _ h
def kf116 (I : kjI) (L : kjL) (v1 : Int32) (v2 : Int32) : Option (Int32) :=
  (kf115 I L v1 v2).bind fun r1 => if (53 : Int32) < r1 then (some (-1 : Int32)) else (if ¬ r1 = (53 : Int32) then (kf116_33 I L v1 v2 r1) else (bif mv_in v1 16 then (if (v2 + (1 : Int32)) < (I 74 (Int32.toNatClampNeg v1)) then (kf116_33 I L v1 v2 r1) else (some (-1 : Int32))) else none))
set_option maxRecDepth 100000 in
set_option maxHeartbeats 4000000 in
theorem kf116_ok (f : Bool) (I : kjI) (L : kjL) (v1 : Int32) (v2 : Int32) (d : Nat) (r : Int32) (h : kf116 I L v1 v2 = some r) : mv_C kjP kjSta (d + 2) 116 [.ref 59, .int v1, .int v2] (kjS f I L) (kjQi f I L r) := by
  unfold kf116 at h
  refine mv_C_in kjM_116 (lc := [some (.ref 59), some (.int v1), some (.int v2), none, none]) rfl rfl rfl ?_
  refine mv_G_run 3 (F' := (3, [some (.ref 59), some (.int v1), some (.int v2), none, none], [.int v2, .int v1, .ref 59], 0, 0, kjS f I L)) rfl ?_
  obtain ⟨r1, hc2, h⟩ := mv_bd h
  refine mv_G_call (r := []) (kf115_ok _ _ _ _ _ _ _ hc2) rfl rfl rfl rfl rfl (Nat.le_of_ble_eq_true rfl) (Nat.le_of_ble_eq_true rfl) (Nat.le_of_ble_eq_true rfl) ?_
  rintro _ _ ⟨rfl, rfl⟩
  refine mv_G_run 3 (F' := (10, [some (.ref 59), some (.int v1), some (.int v2), some (.int r1), none], [.int (53 : Int32), .int r1], 0, 0, kjS f I L)) rfl ?_
  by_cases hc3 : (53 : Int32) < r1
  · rw [if_pos hc3] at h
    refine mv_G_br (tgt := 31) rfl rfl (by decide) (fun _ => ?_) (fun z => absurd hc3 z)
    refine mv_G_run 1 (F' := (32, [some (.ref 59), some (.int v1), some (.int v2), some (.int r1), none], [.int (-1 : Int32)], 0, 0, kjS f I L)) rfl ?_
    obtain rfl := Option.some.inj h
    exact mv_G_ret rfl rfl rfl (Nat.le_refl _) trivial ⟨rfl, rfl⟩
  · rw [if_neg hc3] at h
    refine mv_G_br (tgt := 31) rfl rfl (by decide) (fun z => absurd z hc3) (fun _ => ?_)
    refine mv_G_run 2 (F' := (16, [some (.ref 59), some (.int v1), some (.int v2), some (.int r1), none], [.int (53 : Int32), .int r1], 0, 0, kjS f I L)) rfl ?_
    by_cases hc4 : ¬ r1 = (53 : Int32)
    · rw [if_pos hc4] at h
      refine mv_G_br (tgt := 33) rfl rfl (by decide) (fun _ => ?_) (fun z => absurd hc4 z)
      exact kf116_33_ok _ _ _ d _ _ _ _ h
    · rw [if_neg hc4] at h
      refine mv_G_br (tgt := 33) rfl rfl (by decide) (fun z => absurd z hc4) (fun _ => ?_)
      refine mv_G_run 6 (F' := (27, [some (.ref 59), some (.int v1), some (.int v2), some (.int r1), none], [.int v1, .ref 74, .int (v2 + (1 : Int32))], 0, 0, kjS f I L)) rfl ?_
      obtain ⟨hi5, h⟩ := mv_bifs h
      refine mv_G_ald rfl rfl (mv_in_ok hi5) ?_
      by_cases hc6 : (v2 + (1 : Int32)) < (I 74 (Int32.toNatClampNeg v1))
      · rw [if_pos hc6] at h
        refine mv_G_br (tgt := 33) rfl rfl (by decide) (fun _ => ?_) (fun z => absurd hc6 z)
        exact kf116_33_ok _ _ _ d _ _ _ _ h
      · rw [if_neg hc6] at h
        refine mv_G_br (tgt := 33) rfl rfl (by decide) (fun z => absurd z hc6) (fun _ => ?_)
        refine mv_G_run 1 (F' := (32, [some (.ref 59), some (.int v1), some (.int v2), some (.int r1), none], [.int (-1 : Int32)], 0, 0, kjS f I L)) rfl ?_
        obtain rfl := Option.some.inj h
        exact mv_G_ret rfl rfl rfl (Nat.le_refl _) trivial ⟨rfl, rfl⟩
/-! KindJudgeModel.findBegins(I)V on ('c', 59) -/
def kf117_73 (N : Nat) (k28 : Int32 → Int32 → kjI → kjL → Option (kjI × kjL)) (v1 : Int32) (s0 : Int32) (I : kjI) (L : kjL) : Option (kjI × kjL) :=
  k28 v1 s0 I L
set_option maxRecDepth 100000 in
set_option maxHeartbeats 4000000 in
theorem kf117_73_ok (f : Bool) (N : Nat) (k28 : Int32 → Int32 → kjI → kjL → Option (kjI × kjL)) (d : Nat) (hk28 : ∀ (v1 : Int32) (v2 : Int32) (I : kjI) (L : kjL) (r : kjI × kjL), k28 v1 v2 I L = some r → mv_G kjP kjSta (mv_C kjP kjSta (d + 2)) kjM_117 (kjQwv f r) (28, [some (.ref 59), some (.int v1), some (.int v2), none], [], 0, 0, kjS f I L)) (v1 : Int32) (s0 : Int32) (I : kjI) (L : kjL) (r : kjI × kjL) (h : kf117_73 N k28 v1 s0 I L = some r) : mv_G kjP kjSta (mv_C kjP kjSta (d + 2)) kjM_117 (kjQwv f r) (73, [some (.ref 59), some (.int v1), none, none], [.int s0], 0, 0, kjS f I L) := by
  unfold kf117_73 at h
  refine mv_G_run 2 (F' := (28, [some (.ref 59), some (.int v1), some (.int s0), none], [], 0, 0, kjS f I L)) rfl ?_
  exact hk28 v1 s0 I L _ h
def kf117_28 (N : Nat) : Nat → Int32 → Int32 → kjI → kjL → Option (kjI × kjL)
  | 0, _, _, _, _ => none
  | n + 1, v1, v2, I, L => if v2 < 0 then (some (I, L)) else (bif mv_in v1 16 then (if (I 74 (Int32.toNatClampNeg v1)) ≤ v2 then (some (I, L)) else (bif mv_in (((120 : Int32) * v1) + v2) 1920 then ((kf116 (mv_up I 76 (Int32.toNatClampNeg (((120 : Int32) * v1) + v2)) ((1 : Int32) &&& 1)) L v1 v2).bind fun r5 => if ¬ r5 = (-1 : Int32) then (kf117_73 N (fun v1 v2 I L => kf117_28 N n v1 v2 I L) v1 (v2 + r5) (mv_up I 76 (Int32.toNatClampNeg (((120 : Int32) * v1) + v2)) ((1 : Int32) &&& 1)) L) else (kf117_73 N (fun v1 v2 I L => kf117_28 N n v1 v2 I L) v1 (-1 : Int32) (mv_up I 76 (Int32.toNatClampNeg (((120 : Int32) * v1) + v2)) ((1 : Int32) &&& 1)) L)) else none)) else none)
set_option maxRecDepth 100000 in
set_option maxHeartbeats 4000000 in
theorem kf117_28_ok (f : Bool) (N : Nat) (d : Nat)  : ∀ (n : Nat) (v1 : Int32) (v2 : Int32) (I : kjI) (L : kjL) (r : kjI × kjL), kf117_28 N n v1 v2 I L = some r → mv_G kjP kjSta (mv_C kjP kjSta (d + 2)) kjM_117 (kjQwv f r) (28, [some (.ref 59), some (.int v1), some (.int v2), none], [], 0, 0, kjS f I L) := by
  intro n
  induction n with
  | zero => intro v1 v2 I L r h; cases h
  | succ n ih =>
    have hk28 := ih
    intro v1 v2 I L r h
    unfold kf117_28 at h
    refine mv_G_run 1 (F' := (29, [some (.ref 59), some (.int v1), some (.int v2), none], [.int v2], 0, 0, kjS f I L)) rfl ?_
    by_cases hc1 : v2 < 0
    · rw [if_pos hc1] at h
      refine mv_G_br (tgt := 77) rfl rfl (by decide) (fun _ => ?_) (fun z => absurd hc1 z)
      obtain rfl := Option.some.inj h
      exact mv_G_ret rfl rfl rfl (Nat.le_refl _) trivial ⟨rfl, rfl⟩
    · rw [if_neg hc1] at h
      refine mv_G_br (tgt := 77) rfl rfl (by decide) (fun z => absurd z hc1) (fun _ => ?_)
      refine mv_G_run 4 (F' := (38, [some (.ref 59), some (.int v1), some (.int v2), none], [.int v1, .ref 74, .int v2], 0, 0, kjS f I L)) rfl ?_
      obtain ⟨hi2, h⟩ := mv_bifs h
      refine mv_G_ald rfl rfl (mv_in_ok hi2) ?_
      by_cases hc3 : (I 74 (Int32.toNatClampNeg v1)) ≤ v2
      · rw [if_pos hc3] at h
        refine mv_G_br (tgt := 77) rfl rfl (by decide) (fun _ => ?_) (fun z => absurd hc3 z)
        obtain rfl := Option.some.inj h
        exact mv_G_ret rfl rfl rfl (Nat.le_refl _) trivial ⟨rfl, rfl⟩
      · rw [if_neg hc3] at h
        refine mv_G_br (tgt := 77) rfl rfl (by decide) (fun z => absurd z hc3) (fun _ => ?_)
        refine mv_G_run 8 (F' := (53, [some (.ref 59), some (.int v1), some (.int v2), none], [.int (1 : Int32), .int (((120 : Int32) * v1) + v2), .ref 76], 0, 0, kjS f I L)) rfl ?_
        obtain ⟨hi4, h⟩ := mv_bifs h
        refine mv_G_ast rfl rfl (mv_in_ok hi4) ?_
        refine mv_G_run 3 (F' := (57, [some (.ref 59), some (.int v1), some (.int v2), none], [.int v2, .int v1, .ref 59], 0, 0, kjS f (mv_up I 76 (Int32.toNatClampNeg (((120 : Int32) * v1) + v2)) ((1 : Int32) &&& 1)) L)) rfl ?_
        obtain ⟨r5, hc6, h⟩ := mv_bd h
        refine mv_G_call (r := []) (kf116_ok _ _ _ _ _ _ _ hc6) rfl rfl rfl rfl rfl (Nat.le_of_ble_eq_true rfl) (Nat.le_of_ble_eq_true rfl) (Nat.le_of_ble_eq_true rfl) ?_
        rintro _ _ ⟨rfl, rfl⟩
        refine mv_G_run 3 (F' := (63, [some (.ref 59), some (.int v1), some (.int v2), some (.int r5)], [.int (-1 : Int32), .int r5], 0, 0, kjS f (mv_up I 76 (Int32.toNatClampNeg (((120 : Int32) * v1) + v2)) ((1 : Int32) &&& 1)) L)) rfl ?_
        by_cases hc7 : ¬ r5 = (-1 : Int32)
        · rw [if_pos hc7] at h
          refine mv_G_br (tgt := 70) rfl rfl (by decide) (fun _ => ?_) (fun z => absurd hc7 z)
          refine mv_G_run 3 (F' := (73, [some (.ref 59), some (.int v1), some (.int v2), some (.int r5)], [.int (v2 + r5)], 0, 0, kjS f (mv_up I 76 (Int32.toNatClampNeg (((120 : Int32) * v1) + v2)) ((1 : Int32) &&& 1)) L)) rfl ?_
          refine mv_G_fg (lc' := [some (.ref 59), some (.int v1), none, none]) (And.intro rfl (And.intro rfl trivial)) ?_
          exact kf117_73_ok _ _ _ d hk28 _ _ _ _ _ h
        · rw [if_neg hc7] at h
          refine mv_G_br (tgt := 70) rfl rfl (by decide) (fun z => absurd z hc7) (fun _ => ?_)
          refine mv_G_run 2 (F' := (73, [some (.ref 59), some (.int v1), some (.int v2), some (.int r5)], [.int (-1 : Int32)], 0, 0, kjS f (mv_up I 76 (Int32.toNatClampNeg (((120 : Int32) * v1) + v2)) ((1 : Int32) &&& 1)) L)) rfl ?_
          refine mv_G_fg (lc' := [some (.ref 59), some (.int v1), none, none]) (And.intro rfl (And.intro rfl trivial)) ?_
          exact kf117_73_ok _ _ _ d hk28 _ _ _ _ _ h
def kf117_2 (N : Nat) : Nat → Int32 → Int32 → kjI → kjL → Option (kjI × kjL)
  | 0, _, _, _, _ => none
  | n + 1, v1, v2, I, L => if (120 : Int32) ≤ v2 then (kf117_28 N N v1 (0 : Int32) I L) else (bif mv_in (((120 : Int32) * v1) + v2) 1920 then ((fun v1 v2 I L => kf117_2 N n v1 v2 I L) v1 (v2 + (1 : Int32)) (mv_up I 76 (Int32.toNatClampNeg (((120 : Int32) * v1) + v2)) ((0 : Int32) &&& 1)) L) else none)
set_option maxRecDepth 100000 in
set_option maxHeartbeats 4000000 in
theorem kf117_2_ok (f : Bool) (N : Nat) (d : Nat)  : ∀ (n : Nat) (v1 : Int32) (v2 : Int32) (I : kjI) (L : kjL) (r : kjI × kjL), kf117_2 N n v1 v2 I L = some r → mv_G kjP kjSta (mv_C kjP kjSta (d + 2)) kjM_117 (kjQwv f r) (2, [some (.ref 59), some (.int v1), some (.int v2), none], [], 0, 0, kjS f I L) := by
  intro n
  induction n with
  | zero => intro v1 v2 I L r h; cases h
  | succ n ih =>
    have hk2 := ih
    intro v1 v2 I L r h
    unfold kf117_2 at h
    refine mv_G_run 2 (F' := (5, [some (.ref 59), some (.int v1), some (.int v2), none], [.int (120 : Int32), .int v2], 0, 0, kjS f I L)) rfl ?_
    by_cases hc1 : (120 : Int32) ≤ v2
    · rw [if_pos hc1] at h
      refine mv_G_br (tgt := 26) rfl rfl (by decide) (fun _ => ?_) (fun z => absurd hc1 z)
      refine mv_G_run 2 (F' := (28, [some (.ref 59), some (.int v1), some (.int (0 : Int32)), none], [], 0, 0, kjS f I L)) rfl ?_
      exact kf117_28_ok _ _ d _ _ _ _ _ _ h
    · rw [if_neg hc1] at h
      refine mv_G_br (tgt := 26) rfl rfl (by decide) (fun z => absurd z hc1) (fun _ => ?_)
      refine mv_G_run 8 (F' := (19, [some (.ref 59), some (.int v1), some (.int v2), none], [.int (0 : Int32), .int (((120 : Int32) * v1) + v2), .ref 76], 0, 0, kjS f I L)) rfl ?_
      obtain ⟨hi2, h⟩ := mv_bifs h
      refine mv_G_ast rfl rfl (mv_in_ok hi2) ?_
      refine mv_G_run 2 (F' := (2, [some (.ref 59), some (.int v1), some (.int (v2 + (1 : Int32))), none], [], 0, 0, kjS f (mv_up I 76 (Int32.toNatClampNeg (((120 : Int32) * v1) + v2)) ((0 : Int32) &&& 1)) L)) rfl ?_
      exact hk2 v1 (v2 + (1 : Int32)) (mv_up I 76 (Int32.toNatClampNeg (((120 : Int32) * v1) + v2)) ((0 : Int32) &&& 1)) L _ h
def kf117 (N : Nat) (v1 : Int32) (I : kjI) (L : kjL) : Option (kjI × kjL) :=
  kf117_2 N N v1 (0 : Int32) I L
set_option maxRecDepth 100000 in
set_option maxHeartbeats 4000000 in
theorem kf117_ok (f : Bool) (N : Nat) (v1 : Int32) (I : kjI) (L : kjL) (d : Nat) (r : kjI × kjL) (h : kf117 N v1 I L = some r) : mv_C kjP kjSta (d + 3) 117 [.ref 59, .int v1] (kjS f I L) (kjQwv f r) := by
  unfold kf117 at h
  refine mv_C_in kjM_117 (lc := [some (.ref 59), some (.int v1), none, none]) rfl rfl rfl ?_
  refine mv_G_run 2 (F' := (2, [some (.ref 59), some (.int v1), some (.int (0 : Int32)), none], [], 0, 0, kjS f I L)) rfl ?_
  exact kf117_2_ok _ _ d _ _ _ _ _ _ h
/-! KindJudgeModel.isPlace(II)Z on ('c', 59) -/
def kf118 (I : kjI) (L : kjL) (v1 : Int32) (v2 : Int32) : Option (Int32) :=
  bif mv_in v1 16 then (if (I 74 (Int32.toNatClampNeg v1)) ≤ v2 then (some (0 : Int32)) else (bif mv_in (((120 : Int32) * v1) + v2) 1920 then (if (I 76 (Int32.toNatClampNeg (((120 : Int32) * v1) + v2))) = 0 then (some (0 : Int32)) else (some (1 : Int32))) else none)) else none
set_option maxRecDepth 100000 in
set_option maxHeartbeats 4000000 in
theorem kf118_ok (f : Bool) (I : kjI) (L : kjL) (v1 : Int32) (v2 : Int32) (d : Nat) (r : Int32) (h : kf118 I L v1 v2 = some r) : mv_C kjP kjSta (d + 1) 118 [.ref 59, .int v1, .int v2] (kjS f I L) (kjQi f I L r) := by
  unfold kf118 at h
  refine mv_C_in kjM_118 (lc := [some (.ref 59), some (.int v1), some (.int v2)]) rfl rfl rfl ?_
  refine mv_G_run 4 (F' := (6, [some (.ref 59), some (.int v1), some (.int v2)], [.int v1, .ref 74, .int v2], 0, 0, kjS f I L)) rfl ?_
  obtain ⟨hi1, h⟩ := mv_bifs h
  refine mv_G_ald rfl rfl (mv_in_ok hi1) ?_
  by_cases hc2 : (I 74 (Int32.toNatClampNeg v1)) ≤ v2
  · rw [if_pos hc2] at h
    refine mv_G_br (tgt := 28) rfl rfl (by decide) (fun _ => ?_) (fun z => absurd hc2 z)
    refine mv_G_run 1 (F' := (29, [some (.ref 59), some (.int v1), some (.int v2)], [.int (0 : Int32)], 0, 0, kjS f I L)) rfl ?_
    obtain rfl := Option.some.inj h
    exact mv_G_ret rfl rfl rfl (Nat.le_refl _) (Or.inl rfl) ⟨rfl, rfl⟩
  · rw [if_neg hc2] at h
    refine mv_G_br (tgt := 28) rfl rfl (by decide) (fun z => absurd z hc2) (fun _ => ?_)
    refine mv_G_run 7 (F' := (20, [some (.ref 59), some (.int v1), some (.int v2)], [.int (((120 : Int32) * v1) + v2), .ref 76], 0, 0, kjS f I L)) rfl ?_
    obtain ⟨hi3, h⟩ := mv_bifs h
    refine mv_G_ald rfl rfl (mv_in_ok hi3) ?_
    by_cases hc4 : (I 76 (Int32.toNatClampNeg (((120 : Int32) * v1) + v2))) = 0
    · rw [if_pos hc4] at h
      refine mv_G_br (tgt := 28) rfl rfl (by decide) (fun _ => ?_) (fun z => absurd hc4 z)
      refine mv_G_run 1 (F' := (29, [some (.ref 59), some (.int v1), some (.int v2)], [.int (0 : Int32)], 0, 0, kjS f I L)) rfl ?_
      obtain rfl := Option.some.inj h
      exact mv_G_ret rfl rfl rfl (Nat.le_refl _) (Or.inl rfl) ⟨rfl, rfl⟩
    · rw [if_neg hc4] at h
      refine mv_G_br (tgt := 28) rfl rfl (by decide) (fun z => absurd z hc4) (fun _ => ?_)
      refine mv_G_run 2 (F' := (29, [some (.ref 59), some (.int v1), some (.int v2)], [.int (1 : Int32)], 0, 0, kjS f I L)) rfl ?_
      obtain rfl := Option.some.inj h
      exact mv_G_ret rfl rfl rfl (Nat.le_refl _) (Or.inr rfl) ⟨rfl, rfl⟩
/-! KindJudgeModel.isGood(II)Z on ('c', 59) -/
def kf119_297 (N : Nat) (I : kjI) (L : kjL) : Nat → Int32 → Int32 → Int32 → Int32 → Option (Int32)
  | 0, _, _, _, _ => none
  | n + 1, v1, v2, v5, v6 => if v5 < v6 then (some (1 : Int32)) else ((kf115 I L v1 ((v2 + (2 : Int32)) + v6)).bind fun r2 => (kf118 I L v1 r2).bind fun r4 => if ¬ r4 = 0 then ((fun v1 v2 v5 v6 => kf119_297 N I L n v1 v2 v5 v6) v1 v2 v5 (v6 + (1 : Int32))) else (some (0 : Int32)))
set_option maxRecDepth 100000 in
set_option maxHeartbeats 4000000 in
theorem kf119_297_ok (f : Bool) (N : Nat) (I : kjI) (L : kjL) (d : Nat)  : ∀ (n : Nat) (v1 : Int32) (v2 : Int32) (v5 : Int32) (v6 : Int32) (r : Int32), kf119_297 N I L n v1 v2 v5 v6 = some r → mv_G kjP kjSta (mv_C kjP kjSta (d + 2)) kjM_119 (kjQi f I L r) (297, [some (.ref 59), some (.int v1), some (.int v2), none, none, some (.int v5), some (.int v6)], [], 0, 0, kjS f I L) := by
  intro n
  induction n with
  | zero => intro v1 v2 v5 v6 r h; cases h
  | succ n ih =>
    have hk297 := ih
    intro v1 v2 v5 v6 r h
    unfold kf119_297 at h
    refine mv_G_run 2 (F' := (301, [some (.ref 59), some (.int v1), some (.int v2), none, none, some (.int v5), some (.int v6)], [.int v5, .int v6], 0, 0, kjS f I L)) rfl ?_
    by_cases hc1 : v5 < v6
    · rw [if_pos hc1] at h
      refine mv_G_br (tgt := 331) rfl rfl (by decide) (fun _ => ?_) (fun z => absurd hc1 z)
      refine mv_G_run 1 (F' := (332, [some (.ref 59), some (.int v1), some (.int v2), none, none, some (.int v5), some (.int v6)], [.int (1 : Int32)], 0, 0, kjS f I L)) rfl ?_
      obtain rfl := Option.some.inj h
      exact mv_G_ret rfl rfl rfl (Nat.le_refl _) (Or.inr rfl) ⟨rfl, rfl⟩
    · rw [if_neg hc1] at h
      refine mv_G_br (tgt := 331) rfl rfl (by decide) (fun z => absurd z hc1) (fun _ => ?_)
      refine mv_G_run 9 (F' := (314, [some (.ref 59), some (.int v1), some (.int v2), none, none, some (.int v5), some (.int v6)], [.int ((v2 + (2 : Int32)) + v6), .int v1, .ref 59, .int v1, .ref 59], 0, 0, kjS f I L)) rfl ?_
      obtain ⟨r2, hc3, h⟩ := mv_bd h
      refine mv_G_call (r := [.int v1, .ref 59]) (kf115_ok _ _ _ _ _ _ _ hc3) rfl rfl rfl rfl rfl (Nat.le_of_ble_eq_true rfl) (Nat.le_of_ble_eq_true rfl) (Nat.le_of_ble_eq_true rfl) ?_
      rintro _ _ ⟨rfl, rfl⟩
      obtain ⟨r4, hc5, h⟩ := mv_bd h
      refine mv_G_call (r := []) (kf118_ok _ _ _ _ _ _ _ hc5) rfl rfl rfl rfl rfl (Nat.le_of_ble_eq_true rfl) (Nat.le_of_ble_eq_true rfl) (Nat.le_of_ble_eq_true rfl) ?_
      rintro _ _ ⟨rfl, rfl⟩
      by_cases hc6 : ¬ r4 = 0
      · rw [if_pos hc6] at h
        refine mv_G_br (tgt := 325) rfl rfl (by decide) (fun _ => ?_) (fun z => absurd hc6 z)
        refine mv_G_run 2 (F' := (297, [some (.ref 59), some (.int v1), some (.int v2), none, none, some (.int v5), some (.int (v6 + (1 : Int32)))], [], 0, 0, kjS f I L)) rfl ?_
        exact hk297 v1 v2 v5 (v6 + (1 : Int32)) _ h
      · rw [if_neg hc6] at h
        refine mv_G_br (tgt := 325) rfl rfl (by decide) (fun z => absurd z hc6) (fun _ => ?_)
        refine mv_G_run 1 (F' := (324, [some (.ref 59), some (.int v1), some (.int v2), none, none, some (.int v5), some (.int v6)], [.int (0 : Int32)], 0, 0, kjS f I L)) rfl ?_
        obtain rfl := Option.some.inj h
        exact mv_G_ret rfl rfl rfl (Nat.le_refl _) (Or.inl rfl) ⟨rfl, rfl⟩
def kf119_83 (N : Nat) (I : kjI) (L : kjL) (v1 : Int32) (v2 : Int32) (v4 : Int32) (v5 : Int32) : Option (Int32) :=
  if (v4).toInt = 3 ∨ (v4).toInt = 4 ∨ (v4).toInt = 20 then (bif mv_in v1 16 then (if (I 72 (Int32.toNatClampNeg v1)) ≤ v5 then (some (0 : Int32)) else (some (1 : Int32))) else none) else (if (v4).toInt = 38 ∨ (v4).toInt = 45 ∨ (v4).toInt = 46 then (if (I 59 12) ≤ v5 then (some (0 : Int32)) else (some (1 : Int32))) else (if (v4).toInt = 39 ∨ (v4).toInt = 40 then (if (I 59 12) ≤ v5 then (some (0 : Int32)) else ((kf115 I L v1 (v2 + (2 : Int32))).bind fun r8 => bif mv_in v5 8 then (if (I 64 (Int32.toNatClampNeg v5)) ≤ r8 then (some (0 : Int32)) else (some (1 : Int32))) else none)) else (if (v4).toInt = 47 then (if (I 59 20) ≤ v5 then (some (0 : Int32)) else (some (1 : Int32))) else (if (v4).toInt = 48 then (if (I 59 16) ≤ v5 then (some (0 : Int32)) else (some (1 : Int32))) else (if (v4).toInt = 53 then (if v5 < (1 : Int32) then (some (0 : Int32)) else (if v5 ≤ (8 : Int32) then (kf119_297 N I L N v1 v2 v5 (0 : Int32)) else (some (0 : Int32)))) else (if v4 < (21 : Int32) then (some (1 : Int32)) else (if (37 : Int32) < v4 then (some (1 : Int32)) else ((kf118 I L v1 v5).bind fun r21 => if r21 = 0 then (some (0 : Int32)) else (some (1 : Int32))))))))))
set_option maxRecDepth 100000 in
set_option maxHeartbeats 4000000 in
theorem kf119_83_ok (f : Bool) (N : Nat) (I : kjI) (L : kjL) (d : Nat)  (v1 : Int32) (v2 : Int32) (v4 : Int32) (v5 : Int32) (r : Int32) (h : kf119_83 N I L v1 v2 v4 v5 = some r) : mv_G kjP kjSta (mv_C kjP kjSta (d + 2)) kjM_119 (kjQi f I L r) (83, [some (.ref 59), some (.int v1), some (.int v2), none, some (.int v4), some (.int v5), none], [], 0, 0, kjS f I L) := by
  unfold kf119_83 at h
  refine mv_G_run 1 (F' := (85, [some (.ref 59), some (.int v1), some (.int v2), none, some (.int v4), some (.int v5), none], [.int v4], 0, 0, kjS f I L)) rfl ?_
  by_cases hw1 : (v4).toInt = 3 ∨ (v4).toInt = 4 ∨ (v4).toInt = 20
  · rw [if_pos hw1] at h
    refine mv_G_sw (tgt := 184) (off := 99) rfl (by rcases hw1 with hw1 | hw1 | hw1 <;> (simp only [mv_sw, hw1]; rfl)) (by decide) ?_
    refine mv_G_run 4 (F' := (191, [some (.ref 59), some (.int v1), some (.int v2), none, some (.int v4), some (.int v5), none], [.int v1, .ref 72, .int v5], 0, 0, kjS f I L)) rfl ?_
    obtain ⟨hi2, h⟩ := mv_bifs h
    refine mv_G_ald rfl rfl (mv_in_ok hi2) ?_
    by_cases hc3 : (I 72 (Int32.toNatClampNeg v1)) ≤ v5
    · rw [if_pos hc3] at h
      refine mv_G_br (tgt := 199) rfl rfl (by decide) (fun _ => ?_) (fun z => absurd hc3 z)
      refine mv_G_run 1 (F' := (200, [some (.ref 59), some (.int v1), some (.int v2), none, some (.int v4), some (.int v5), none], [.int (0 : Int32)], 0, 0, kjS f I L)) rfl ?_
      obtain rfl := Option.some.inj h
      exact mv_G_ret rfl rfl rfl (Nat.le_refl _) (Or.inl rfl) ⟨rfl, rfl⟩
    · rw [if_neg hc3] at h
      refine mv_G_br (tgt := 199) rfl rfl (by decide) (fun z => absurd z hc3) (fun _ => ?_)
      refine mv_G_run 2 (F' := (200, [some (.ref 59), some (.int v1), some (.int v2), none, some (.int v4), some (.int v5), none], [.int (1 : Int32)], 0, 0, kjS f I L)) rfl ?_
      obtain rfl := Option.some.inj h
      exact mv_G_ret rfl rfl rfl (Nat.le_refl _) (Or.inr rfl) ⟨rfl, rfl⟩
  rw [if_neg hw1] at h
  by_cases hw4 : (v4).toInt = 38 ∨ (v4).toInt = 45 ∨ (v4).toInt = 46
  · rw [if_pos hw4] at h
    refine mv_G_sw (tgt := 201) (off := 116) rfl (by rcases hw4 with hw4 | hw4 | hw4 <;> (simp only [mv_sw, hw4]; rfl)) (by decide) ?_
    refine mv_G_run 3 (F' := (207, [some (.ref 59), some (.int v1), some (.int v2), none, some (.int v4), some (.int v5), none], [.int (I 59 12), .int v5], 0, 0, kjS f I L)) rfl ?_
    by_cases hc5 : (I 59 12) ≤ v5
    · rw [if_pos hc5] at h
      refine mv_G_br (tgt := 214) rfl rfl (by decide) (fun _ => ?_) (fun z => absurd hc5 z)
      refine mv_G_run 1 (F' := (215, [some (.ref 59), some (.int v1), some (.int v2), none, some (.int v4), some (.int v5), none], [.int (0 : Int32)], 0, 0, kjS f I L)) rfl ?_
      obtain rfl := Option.some.inj h
      exact mv_G_ret rfl rfl rfl (Nat.le_refl _) (Or.inl rfl) ⟨rfl, rfl⟩
    · rw [if_neg hc5] at h
      refine mv_G_br (tgt := 214) rfl rfl (by decide) (fun z => absurd z hc5) (fun _ => ?_)
      refine mv_G_run 2 (F' := (215, [some (.ref 59), some (.int v1), some (.int v2), none, some (.int v4), some (.int v5), none], [.int (1 : Int32)], 0, 0, kjS f I L)) rfl ?_
      obtain rfl := Option.some.inj h
      exact mv_G_ret rfl rfl rfl (Nat.le_refl _) (Or.inr rfl) ⟨rfl, rfl⟩
  rw [if_neg hw4] at h
  by_cases hw6 : (v4).toInt = 39 ∨ (v4).toInt = 40
  · rw [if_pos hw6] at h
    refine mv_G_sw (tgt := 216) (off := 131) rfl (by rcases hw6 with hw6 | hw6 <;> (simp only [mv_sw, hw6]; rfl)) (by decide) ?_
    refine mv_G_run 3 (F' := (222, [some (.ref 59), some (.int v1), some (.int v2), none, some (.int v4), some (.int v5), none], [.int (I 59 12), .int v5], 0, 0, kjS f I L)) rfl ?_
    by_cases hc7 : (I 59 12) ≤ v5
    · rw [if_pos hc7] at h
      refine mv_G_br (tgt := 247) rfl rfl (by decide) (fun _ => ?_) (fun z => absurd hc7 z)
      refine mv_G_run 1 (F' := (248, [some (.ref 59), some (.int v1), some (.int v2), none, some (.int v4), some (.int v5), none], [.int (0 : Int32)], 0, 0, kjS f I L)) rfl ?_
      obtain rfl := Option.some.inj h
      exact mv_G_ret rfl rfl rfl (Nat.le_refl _) (Or.inl rfl) ⟨rfl, rfl⟩
    · rw [if_neg hc7] at h
      refine mv_G_br (tgt := 247) rfl rfl (by decide) (fun z => absurd z hc7) (fun _ => ?_)
      refine mv_G_run 5 (F' := (230, [some (.ref 59), some (.int v1), some (.int v2), none, some (.int v4), some (.int v5), none], [.int (v2 + (2 : Int32)), .int v1, .ref 59], 0, 0, kjS f I L)) rfl ?_
      obtain ⟨r8, hc9, h⟩ := mv_bd h
      refine mv_G_call (r := []) (kf115_ok _ _ _ _ _ _ _ hc9) rfl rfl rfl rfl rfl (Nat.le_of_ble_eq_true rfl) (Nat.le_of_ble_eq_true rfl) (Nat.le_of_ble_eq_true rfl) ?_
      rintro _ _ ⟨rfl, rfl⟩
      refine mv_G_run 3 (F' := (239, [some (.ref 59), some (.int v1), some (.int v2), none, some (.int v4), some (.int v5), none], [.int v5, .ref 64, .int r8], 0, 0, kjS f I L)) rfl ?_
      obtain ⟨hi10, h⟩ := mv_bifs h
      refine mv_G_ald rfl rfl (mv_in_ok hi10) ?_
      by_cases hc11 : (I 64 (Int32.toNatClampNeg v5)) ≤ r8
      · rw [if_pos hc11] at h
        refine mv_G_br (tgt := 247) rfl rfl (by decide) (fun _ => ?_) (fun z => absurd hc11 z)
        refine mv_G_run 1 (F' := (248, [some (.ref 59), some (.int v1), some (.int v2), none, some (.int v4), some (.int v5), none], [.int (0 : Int32)], 0, 0, kjS f I L)) rfl ?_
        obtain rfl := Option.some.inj h
        exact mv_G_ret rfl rfl rfl (Nat.le_refl _) (Or.inl rfl) ⟨rfl, rfl⟩
      · rw [if_neg hc11] at h
        refine mv_G_br (tgt := 247) rfl rfl (by decide) (fun z => absurd z hc11) (fun _ => ?_)
        refine mv_G_run 2 (F' := (248, [some (.ref 59), some (.int v1), some (.int v2), none, some (.int v4), some (.int v5), none], [.int (1 : Int32)], 0, 0, kjS f I L)) rfl ?_
        obtain rfl := Option.some.inj h
        exact mv_G_ret rfl rfl rfl (Nat.le_refl _) (Or.inr rfl) ⟨rfl, rfl⟩
  rw [if_neg hw6] at h
  by_cases hw12 : (v4).toInt = 47
  · rw [if_pos hw12] at h
    refine mv_G_sw (tgt := 249) (off := 164) rfl (by simp only [mv_sw, hw12]; rfl) (by decide) ?_
    refine mv_G_run 3 (F' := (255, [some (.ref 59), some (.int v1), some (.int v2), none, some (.int v4), some (.int v5), none], [.int (I 59 20), .int v5], 0, 0, kjS f I L)) rfl ?_
    by_cases hc13 : (I 59 20) ≤ v5
    · rw [if_pos hc13] at h
      refine mv_G_br (tgt := 262) rfl rfl (by decide) (fun _ => ?_) (fun z => absurd hc13 z)
      refine mv_G_run 1 (F' := (263, [some (.ref 59), some (.int v1), some (.int v2), none, some (.int v4), some (.int v5), none], [.int (0 : Int32)], 0, 0, kjS f I L)) rfl ?_
      obtain rfl := Option.some.inj h
      exact mv_G_ret rfl rfl rfl (Nat.le_refl _) (Or.inl rfl) ⟨rfl, rfl⟩
    · rw [if_neg hc13] at h
      refine mv_G_br (tgt := 262) rfl rfl (by decide) (fun z => absurd z hc13) (fun _ => ?_)
      refine mv_G_run 2 (F' := (263, [some (.ref 59), some (.int v1), some (.int v2), none, some (.int v4), some (.int v5), none], [.int (1 : Int32)], 0, 0, kjS f I L)) rfl ?_
      obtain rfl := Option.some.inj h
      exact mv_G_ret rfl rfl rfl (Nat.le_refl _) (Or.inr rfl) ⟨rfl, rfl⟩
  rw [if_neg hw12] at h
  by_cases hw14 : (v4).toInt = 48
  · rw [if_pos hw14] at h
    refine mv_G_sw (tgt := 264) (off := 179) rfl (by simp only [mv_sw, hw14]; rfl) (by decide) ?_
    refine mv_G_run 3 (F' := (270, [some (.ref 59), some (.int v1), some (.int v2), none, some (.int v4), some (.int v5), none], [.int (I 59 16), .int v5], 0, 0, kjS f I L)) rfl ?_
    by_cases hc15 : (I 59 16) ≤ v5
    · rw [if_pos hc15] at h
      refine mv_G_br (tgt := 277) rfl rfl (by decide) (fun _ => ?_) (fun z => absurd hc15 z)
      refine mv_G_run 1 (F' := (278, [some (.ref 59), some (.int v1), some (.int v2), none, some (.int v4), some (.int v5), none], [.int (0 : Int32)], 0, 0, kjS f I L)) rfl ?_
      obtain rfl := Option.some.inj h
      exact mv_G_ret rfl rfl rfl (Nat.le_refl _) (Or.inl rfl) ⟨rfl, rfl⟩
    · rw [if_neg hc15] at h
      refine mv_G_br (tgt := 277) rfl rfl (by decide) (fun z => absurd z hc15) (fun _ => ?_)
      refine mv_G_run 2 (F' := (278, [some (.ref 59), some (.int v1), some (.int v2), none, some (.int v4), some (.int v5), none], [.int (1 : Int32)], 0, 0, kjS f I L)) rfl ?_
      obtain rfl := Option.some.inj h
      exact mv_G_ret rfl rfl rfl (Nat.le_refl _) (Or.inr rfl) ⟨rfl, rfl⟩
  rw [if_neg hw14] at h
  by_cases hw16 : (v4).toInt = 53
  · rw [if_pos hw16] at h
    refine mv_G_sw (tgt := 279) (off := 194) rfl (by simp only [mv_sw, hw16]; rfl) (by decide) ?_
    refine mv_G_run 2 (F' := (282, [some (.ref 59), some (.int v1), some (.int v2), none, some (.int v4), some (.int v5), none], [.int (1 : Int32), .int v5], 0, 0, kjS f I L)) rfl ?_
    by_cases hc17 : v5 < (1 : Int32)
    · rw [if_pos hc17] at h
      refine mv_G_br (tgt := 292) rfl rfl (by decide) (fun _ => ?_) (fun z => absurd hc17 z)
      refine mv_G_run 1 (F' := (293, [some (.ref 59), some (.int v1), some (.int v2), none, some (.int v4), some (.int v5), none], [.int (0 : Int32)], 0, 0, kjS f I L)) rfl ?_
      obtain rfl := Option.some.inj h
      exact mv_G_ret rfl rfl rfl (Nat.le_refl _) (Or.inl rfl) ⟨rfl, rfl⟩
    · rw [if_neg hc17] at h
      refine mv_G_br (tgt := 292) rfl rfl (by decide) (fun z => absurd z hc17) (fun _ => ?_)
      refine mv_G_run 2 (F' := (289, [some (.ref 59), some (.int v1), some (.int v2), none, some (.int v4), some (.int v5), none], [.int (8 : Int32), .int v5], 0, 0, kjS f I L)) rfl ?_
      by_cases hc18 : v5 ≤ (8 : Int32)
      · rw [if_pos hc18] at h
        refine mv_G_br (tgt := 294) rfl rfl (by decide) (fun _ => ?_) (fun z => absurd hc18 z)
        refine mv_G_run 2 (F' := (297, [some (.ref 59), some (.int v1), some (.int v2), none, some (.int v4), some (.int v5), some (.int (0 : Int32))], [], 0, 0, kjS f I L)) rfl ?_
        refine mv_G_fg (lc' := [some (.ref 59), some (.int v1), some (.int v2), none, none, some (.int v5), some (.int (0 : Int32))]) (And.intro rfl (And.intro rfl (And.intro rfl (And.intro rfl (And.intro rfl trivial))))) ?_
        exact kf119_297_ok _ _ _ _ d _ _ _ _ _ _ h
      · rw [if_neg hc18] at h
        refine mv_G_br (tgt := 294) rfl rfl (by decide) (fun z => absurd z hc18) (fun _ => ?_)
        refine mv_G_run 1 (F' := (293, [some (.ref 59), some (.int v1), some (.int v2), none, some (.int v4), some (.int v5), none], [.int (0 : Int32)], 0, 0, kjS f I L)) rfl ?_
        obtain rfl := Option.some.inj h
        exact mv_G_ret rfl rfl rfl (Nat.le_refl _) (Or.inl rfl) ⟨rfl, rfl⟩
  rw [if_neg hw16] at h
  refine mv_G_sw (tgt := 333) (off := 248) rfl (by simp only [not_or] at hw1 hw4 hw6 hw12 hw14 hw16; simp [mv_sw, Op.lookupswitch.offset, eq_comm, hw1, hw4, hw6, hw12, hw14, hw16] <;> (repeat' split) <;> omega) (by decide) ?_
  refine mv_G_run 2 (F' := (337, [some (.ref 59), some (.int v1), some (.int v2), none, some (.int v4), some (.int v5), none], [.int (21 : Int32), .int v4], 0, 0, kjS f I L)) rfl ?_
  by_cases hc19 : v4 < (21 : Int32)
  · rw [if_pos hc19] at h
    refine mv_G_br (tgt := 357) rfl rfl (by decide) (fun _ => ?_) (fun z => absurd hc19 z)
    refine mv_G_run 2 (F' := (362, [some (.ref 59), some (.int v1), some (.int v2), none, some (.int v4), some (.int v5), none], [.int (1 : Int32)], 0, 0, kjS f I L)) rfl ?_
    obtain rfl := Option.some.inj h
    exact mv_G_ret rfl rfl rfl (Nat.le_refl _) (Or.inr rfl) ⟨rfl, rfl⟩
  · rw [if_neg hc19] at h
    refine mv_G_br (tgt := 357) rfl rfl (by decide) (fun z => absurd z hc19) (fun _ => ?_)
    refine mv_G_run 2 (F' := (344, [some (.ref 59), some (.int v1), some (.int v2), none, some (.int v4), some (.int v5), none], [.int (37 : Int32), .int v4], 0, 0, kjS f I L)) rfl ?_
    by_cases hc20 : (37 : Int32) < v4
    · rw [if_pos hc20] at h
      refine mv_G_br (tgt := 357) rfl rfl (by decide) (fun _ => ?_) (fun z => absurd hc20 z)
      refine mv_G_run 2 (F' := (362, [some (.ref 59), some (.int v1), some (.int v2), none, some (.int v4), some (.int v5), none], [.int (1 : Int32)], 0, 0, kjS f I L)) rfl ?_
      obtain rfl := Option.some.inj h
      exact mv_G_ret rfl rfl rfl (Nat.le_refl _) (Or.inr rfl) ⟨rfl, rfl⟩
    · rw [if_neg hc20] at h
      refine mv_G_br (tgt := 357) rfl rfl (by decide) (fun z => absurd z hc20) (fun _ => ?_)
      refine mv_G_run 3 (F' := (351, [some (.ref 59), some (.int v1), some (.int v2), none, some (.int v4), some (.int v5), none], [.int v5, .int v1, .ref 59], 0, 0, kjS f I L)) rfl ?_
      obtain ⟨r21, hc22, h⟩ := mv_bd h
      refine mv_G_call (r := []) (kf118_ok _ _ _ _ _ _ _ hc22) rfl rfl rfl rfl rfl (Nat.le_of_ble_eq_true rfl) (Nat.le_of_ble_eq_true rfl) (Nat.le_of_ble_eq_true rfl) ?_
      rintro _ _ ⟨rfl, rfl⟩
      by_cases hc23 : r21 = 0
      · rw [if_pos hc23] at h
        refine mv_G_br (tgt := 361) rfl rfl (by decide) (fun _ => ?_) (fun z => absurd hc23 z)
        refine mv_G_run 1 (F' := (362, [some (.ref 59), some (.int v1), some (.int v2), none, some (.int v4), some (.int v5), none], [.int (0 : Int32)], 0, 0, kjS f I L)) rfl ?_
        obtain rfl := Option.some.inj h
        exact mv_G_ret rfl rfl rfl (Nat.le_refl _) (Or.inl rfl) ⟨rfl, rfl⟩
      · rw [if_neg hc23] at h
        refine mv_G_br (tgt := 361) rfl rfl (by decide) (fun z => absurd z hc23) (fun _ => ?_)
        refine mv_G_run 2 (F' := (362, [some (.ref 59), some (.int v1), some (.int v2), none, some (.int v4), some (.int v5), none], [.int (1 : Int32)], 0, 0, kjS f I L)) rfl ?_
        obtain rfl := Option.some.inj h
        exact mv_G_ret rfl rfl rfl (Nat.le_refl _) (Or.inr rfl) ⟨rfl, rfl⟩
def kf119_39 (N : Nat) (I : kjI) (L : kjL) (v1 : Int32) (v2 : Int32) (v3 : Int32) (v4 : Int32) (s0 : Int32) : Option (Int32) :=
  bif mv_in v1 16 then (if ¬ (v2 + v3) = (I 74 (Int32.toNatClampNeg v1)) then (kf119_83 N I L v1 v2 v4 s0) else (if v4 = (21 : Int32) then (kf119_83 N I L v1 v2 v4 s0) else (if v4 = (49 : Int32) then (kf119_83 N I L v1 v2 v4 s0) else (if v4 = (50 : Int32) then (kf119_83 N I L v1 v2 v4 s0) else (if v4 = (53 : Int32) then (kf119_83 N I L v1 v2 v4 s0) else (some (0 : Int32))))))) else none
set_option maxRecDepth 100000 in
set_option maxHeartbeats 4000000 in
theorem kf119_39_ok (f : Bool) (N : Nat) (I : kjI) (L : kjL) (d : Nat)  (v1 : Int32) (v2 : Int32) (v3 : Int32) (v4 : Int32) (s0 : Int32) (r : Int32) (h : kf119_39 N I L v1 v2 v3 v4 s0 = some r) : mv_G kjP kjSta (mv_C kjP kjSta (d + 2)) kjM_119 (kjQi f I L r) (39, [some (.ref 59), some (.int v1), some (.int v2), some (.int v3), some (.int v4), none, none], [.int s0], 0, 0, kjS f I L) := by
  unfold kf119_39 at h
  refine mv_G_run 7 (F' := (49, [some (.ref 59), some (.int v1), some (.int v2), some (.int v3), some (.int v4), some (.int s0), none], [.int v1, .ref 74, .int (v2 + v3)], 0, 0, kjS f I L)) rfl ?_
  obtain ⟨hi1, h⟩ := mv_bifs h
  refine mv_G_ald rfl rfl (mv_in_ok hi1) ?_
  by_cases hc2 : ¬ (v2 + v3) = (I 74 (Int32.toNatClampNeg v1))
  · rw [if_pos hc2] at h
    refine mv_G_br (tgt := 83) rfl rfl (by decide) (fun _ => ?_) (fun z => absurd hc2 z)
    refine mv_G_fg (lc' := [some (.ref 59), some (.int v1), some (.int v2), none, some (.int v4), some (.int s0), none]) (And.intro rfl (And.intro rfl (And.intro rfl (And.intro rfl (And.intro rfl trivial))))) ?_
    exact kf119_83_ok _ _ _ _ d _ _ _ _ _ h
  · rw [if_neg hc2] at h
    refine mv_G_br (tgt := 83) rfl rfl (by decide) (fun z => absurd z hc2) (fun _ => ?_)
    refine mv_G_run 2 (F' := (57, [some (.ref 59), some (.int v1), some (.int v2), some (.int v3), some (.int v4), some (.int s0), none], [.int (21 : Int32), .int v4], 0, 0, kjS f I L)) rfl ?_
    by_cases hc3 : v4 = (21 : Int32)
    · rw [if_pos hc3] at h
      refine mv_G_br (tgt := 83) rfl rfl (by decide) (fun _ => ?_) (fun z => absurd hc3 z)
      refine mv_G_fg (lc' := [some (.ref 59), some (.int v1), some (.int v2), none, some (.int v4), some (.int s0), none]) (And.intro rfl (And.intro rfl (And.intro rfl (And.intro rfl (And.intro rfl trivial))))) ?_
      exact kf119_83_ok _ _ _ _ d _ _ _ _ _ h
    · rw [if_neg hc3] at h
      refine mv_G_br (tgt := 83) rfl rfl (by decide) (fun z => absurd z hc3) (fun _ => ?_)
      refine mv_G_run 2 (F' := (64, [some (.ref 59), some (.int v1), some (.int v2), some (.int v3), some (.int v4), some (.int s0), none], [.int (49 : Int32), .int v4], 0, 0, kjS f I L)) rfl ?_
      by_cases hc4 : v4 = (49 : Int32)
      · rw [if_pos hc4] at h
        refine mv_G_br (tgt := 83) rfl rfl (by decide) (fun _ => ?_) (fun z => absurd hc4 z)
        refine mv_G_fg (lc' := [some (.ref 59), some (.int v1), some (.int v2), none, some (.int v4), some (.int s0), none]) (And.intro rfl (And.intro rfl (And.intro rfl (And.intro rfl (And.intro rfl trivial))))) ?_
        exact kf119_83_ok _ _ _ _ d _ _ _ _ _ h
      · rw [if_neg hc4] at h
        refine mv_G_br (tgt := 83) rfl rfl (by decide) (fun z => absurd z hc4) (fun _ => ?_)
        refine mv_G_run 2 (F' := (71, [some (.ref 59), some (.int v1), some (.int v2), some (.int v3), some (.int v4), some (.int s0), none], [.int (50 : Int32), .int v4], 0, 0, kjS f I L)) rfl ?_
        by_cases hc5 : v4 = (50 : Int32)
        · rw [if_pos hc5] at h
          refine mv_G_br (tgt := 83) rfl rfl (by decide) (fun _ => ?_) (fun z => absurd hc5 z)
          refine mv_G_fg (lc' := [some (.ref 59), some (.int v1), some (.int v2), none, some (.int v4), some (.int s0), none]) (And.intro rfl (And.intro rfl (And.intro rfl (And.intro rfl (And.intro rfl trivial))))) ?_
          exact kf119_83_ok _ _ _ _ d _ _ _ _ _ h
        · rw [if_neg hc5] at h
          refine mv_G_br (tgt := 83) rfl rfl (by decide) (fun z => absurd z hc5) (fun _ => ?_)
          refine mv_G_run 2 (F' := (78, [some (.ref 59), some (.int v1), some (.int v2), some (.int v3), some (.int v4), some (.int s0), none], [.int (53 : Int32), .int v4], 0, 0, kjS f I L)) rfl ?_
          by_cases hc6 : v4 = (53 : Int32)
          · rw [if_pos hc6] at h
            refine mv_G_br (tgt := 83) rfl rfl (by decide) (fun _ => ?_) (fun z => absurd hc6 z)
            refine mv_G_fg (lc' := [some (.ref 59), some (.int v1), some (.int v2), none, some (.int v4), some (.int s0), none]) (And.intro rfl (And.intro rfl (And.intro rfl (And.intro rfl (And.intro rfl trivial))))) ?_
            exact kf119_83_ok _ _ _ _ d _ _ _ _ _ h
          · rw [if_neg hc6] at h
            refine mv_G_br (tgt := 83) rfl rfl (by decide) (fun z => absurd z hc6) (fun _ => ?_)
            refine mv_G_run 1 (F' := (82, [some (.ref 59), some (.int v1), some (.int v2), some (.int v3), some (.int v4), some (.int s0), none], [.int (0 : Int32)], 0, 0, kjS f I L)) rfl ?_
            obtain rfl := Option.some.inj h
            exact mv_G_ret rfl rfl rfl (Nat.le_refl _) (Or.inl rfl) ⟨rfl, rfl⟩
def kf119 (N : Nat) (I : kjI) (L : kjL) (v1 : Int32) (v2 : Int32) : Option (Int32) :=
  (kf116 I L v1 v2).bind fun r1 => if ¬ r1 = (-1 : Int32) then ((kf115 I L v1 v2).bind fun r4 => if r1 ≤ (1 : Int32) then (kf119_39 N I L v1 v2 r1 r4 (0 : Int32)) else ((kf115 I L v1 (v2 + (1 : Int32))).bind fun r7 => kf119_39 N I L v1 v2 r1 r4 r7)) else (some (0 : Int32))
set_option maxRecDepth 100000 in
set_option maxHeartbeats 4000000 in
theorem kf119_ok (f : Bool) (N : Nat) (I : kjI) (L : kjL) (v1 : Int32) (v2 : Int32) (d : Nat) (r : Int32) (h : kf119 N I L v1 v2 = some r) : mv_C kjP kjSta (d + 3) 119 [.ref 59, .int v1, .int v2] (kjS f I L) (kjQi f I L r) := by
  unfold kf119 at h
  refine mv_C_in kjM_119 (lc := [some (.ref 59), some (.int v1), some (.int v2), none, none, none, none]) rfl rfl rfl ?_
  refine mv_G_run 3 (F' := (3, [some (.ref 59), some (.int v1), some (.int v2), none, none, none, none], [.int v2, .int v1, .ref 59], 0, 0, kjS f I L)) rfl ?_
  obtain ⟨r1, hc2, h⟩ := mv_bd h
  refine mv_G_call (r := []) (kf116_ok _ _ _ _ _ _ _ hc2) rfl rfl rfl rfl rfl (Nat.le_of_ble_eq_true rfl) (Nat.le_of_ble_eq_true rfl) (Nat.le_of_ble_eq_true rfl) ?_
  rintro _ _ ⟨rfl, rfl⟩
  refine mv_G_run 3 (F' := (9, [some (.ref 59), some (.int v1), some (.int v2), some (.int r1), none, none, none], [.int (-1 : Int32), .int r1], 0, 0, kjS f I L)) rfl ?_
  by_cases hc3 : ¬ r1 = (-1 : Int32)
  · rw [if_pos hc3] at h
    refine mv_G_br (tgt := 14) rfl rfl (by decide) (fun _ => ?_) (fun z => absurd hc3 z)
    refine mv_G_run 3 (F' := (17, [some (.ref 59), some (.int v1), some (.int v2), some (.int r1), none, none, none], [.int v2, .int v1, .ref 59], 0, 0, kjS f I L)) rfl ?_
    obtain ⟨r4, hc5, h⟩ := mv_bd h
    refine mv_G_call (r := []) (kf115_ok _ _ _ _ _ _ _ hc5) rfl rfl rfl rfl rfl (Nat.le_of_ble_eq_true rfl) (Nat.le_of_ble_eq_true rfl) (Nat.le_of_ble_eq_true rfl) ?_
    rintro _ _ ⟨rfl, rfl⟩
    refine mv_G_run 3 (F' := (24, [some (.ref 59), some (.int v1), some (.int v2), some (.int r1), some (.int r4), none, none], [.int (1 : Int32), .int r1], 0, 0, kjS f I L)) rfl ?_
    by_cases hc6 : r1 ≤ (1 : Int32)
    · rw [if_pos hc6] at h
      refine mv_G_br (tgt := 38) rfl rfl (by decide) (fun _ => ?_) (fun z => absurd hc6 z)
      refine mv_G_run 1 (F' := (39, [some (.ref 59), some (.int v1), some (.int v2), some (.int r1), some (.int r4), none, none], [.int (0 : Int32)], 0, 0, kjS f I L)) rfl ?_
      exact kf119_39_ok _ _ _ _ d _ _ _ _ _ _ h
    · rw [if_neg hc6] at h
      refine mv_G_br (tgt := 38) rfl rfl (by decide) (fun z => absurd z hc6) (fun _ => ?_)
      refine mv_G_run 5 (F' := (32, [some (.ref 59), some (.int v1), some (.int v2), some (.int r1), some (.int r4), none, none], [.int (v2 + (1 : Int32)), .int v1, .ref 59], 0, 0, kjS f I L)) rfl ?_
      obtain ⟨r7, hc8, h⟩ := mv_bd h
      refine mv_G_call (r := []) (kf115_ok _ _ _ _ _ _ _ hc8) rfl rfl rfl rfl rfl (Nat.le_of_ble_eq_true rfl) (Nat.le_of_ble_eq_true rfl) (Nat.le_of_ble_eq_true rfl) ?_
      rintro _ _ ⟨rfl, rfl⟩
      refine mv_G_run 1 (F' := (39, [some (.ref 59), some (.int v1), some (.int v2), some (.int r1), some (.int r4), none, none], [.int r7], 0, 0, kjS f I L)) rfl ?_
      exact kf119_39_ok _ _ _ _ d _ _ _ _ _ _ h
  · rw [if_neg hc3] at h
    refine mv_G_br (tgt := 14) rfl rfl (by decide) (fun z => absurd z hc3) (fun _ => ?_)
    refine mv_G_run 1 (F' := (13, [some (.ref 59), some (.int v1), some (.int v2), some (.int r1), none, none, none], [.int (0 : Int32)], 0, 0, kjS f I L)) rfl ?_
    obtain rfl := Option.some.inj h
    exact mv_G_ret rfl rfl rfl (Nat.le_refl _) (Or.inl rfl) ⟨rfl, rfl⟩
/-! KindJudgeModel.findFault(III)Z on ('c', 59) -/
def kf120 (v1 : Int32) (v2 : Int32) (v3 : Int32) (I : kjI) (L : kjL) : Option (Int32 × kjI × kjL) :=
  some ((0 : Int32), (mv_up (mv_up (mv_up I 59 9 v1) 59 11 v2) 59 10 v3), L)
set_option maxRecDepth 100000 in
set_option maxHeartbeats 4000000 in
theorem kf120_ok (f : Bool) (v1 : Int32) (v2 : Int32) (v3 : Int32) (I : kjI) (L : kjL) (d : Nat) (r : Int32 × kjI × kjL) (h : kf120 v1 v2 v3 I L = some r) : mv_C kjP kjSta (d + 1) 120 [.ref 59, .int v1, .int v2, .int v3] (kjS f I L) (kjQwi f r) := by
  unfold kf120 at h
  refine mv_C_in kjM_120 (lc := [some (.ref 59), some (.int v1), some (.int v2), some (.int v3)]) rfl rfl rfl ?_
  refine mv_G_run 10 (F' := (16, [some (.ref 59), some (.int v1), some (.int v2), some (.int v3)], [.int (0 : Int32)], 0, 0, kjS f (mv_up (mv_up (mv_up I 59 9 v1) 59 11 v2) 59 10 v3) L)) rfl ?_
  obtain rfl := Option.some.inj h
  exact mv_G_ret rfl rfl rfl (Nat.le_refl _) (Or.inl rfl) ⟨rfl, rfl⟩
/-! KindJudgeModel.joined(II)I on ('c', 59) -/
def kf126_77 (N : Nat) (I : kjI) (L : kjL) : Nat → Int32 → Int32 → Option (Int32)
  | 0, _, _ => none
  | n + 1, v2, v3 => if v3 < 0 then (some (15 : Int32)) else ((kf110 N I L (v2 - (16 : Int32)) v3).bind fun r2 => if r2 = 0 then (bif mv_in v3 8 then ((fun v2 v3 => kf126_77 N I L n v2 v3) v2 (I 63 (Int32.toNatClampNeg v3))) else none) else (some ((16 : Int32) + v3)))
set_option maxRecDepth 100000 in
set_option maxHeartbeats 4000000 in
theorem kf126_77_ok (f : Bool) (N : Nat) (I : kjI) (L : kjL) (d : Nat)  : ∀ (n : Nat) (v2 : Int32) (v3 : Int32) (r : Int32), kf126_77 N I L n v2 v3 = some r → mv_G kjP kjSta (mv_C kjP kjSta (d + 2)) kjM_126 (kjQi f I L r) (77, [some (.ref 59), none, some (.int v2), some (.int v3)], [], 0, 0, kjS f I L) := by
  intro n
  induction n with
  | zero => intro v2 v3 r h; cases h
  | succ n ih =>
    have hk77 := ih
    intro v2 v3 r h
    unfold kf126_77 at h
    refine mv_G_run 1 (F' := (78, [some (.ref 59), none, some (.int v2), some (.int v3)], [.int v3], 0, 0, kjS f I L)) rfl ?_
    by_cases hc1 : v3 < 0
    · rw [if_pos hc1] at h
      refine mv_G_br (tgt := 108) rfl rfl (by decide) (fun _ => ?_) (fun z => absurd hc1 z)
      refine mv_G_run 1 (F' := (110, [some (.ref 59), none, some (.int v2), some (.int v3)], [.int (15 : Int32)], 0, 0, kjS f I L)) rfl ?_
      obtain rfl := Option.some.inj h
      exact mv_G_ret rfl rfl rfl (Nat.le_refl _) trivial ⟨rfl, rfl⟩
    · rw [if_neg hc1] at h
      refine mv_G_br (tgt := 108) rfl rfl (by decide) (fun z => absurd z hc1) (fun _ => ?_)
      refine mv_G_run 5 (F' := (87, [some (.ref 59), none, some (.int v2), some (.int v3)], [.int v3, .int (v2 - (16 : Int32)), .ref 59], 0, 0, kjS f I L)) rfl ?_
      obtain ⟨r2, hc3, h⟩ := mv_bd h
      refine mv_G_call (r := []) (kf110_ok _ _ _ _ _ _ _ _ hc3) rfl rfl rfl rfl rfl (Nat.le_of_ble_eq_true rfl) (Nat.le_of_ble_eq_true rfl) (Nat.le_of_ble_eq_true rfl) ?_
      rintro _ _ ⟨rfl, rfl⟩
      by_cases hc4 : r2 = 0
      · rw [if_pos hc4] at h
        refine mv_G_br (tgt := 98) rfl rfl (by decide) (fun _ => ?_) (fun z => absurd hc4 z)
        refine mv_G_run 3 (F' := (103, [some (.ref 59), none, some (.int v2), some (.int v3)], [.int v3, .ref 63], 0, 0, kjS f I L)) rfl ?_
        obtain ⟨hi5, h⟩ := mv_bifs h
        refine mv_G_ald rfl rfl (mv_in_ok hi5) ?_
        refine mv_G_run 2 (F' := (77, [some (.ref 59), none, some (.int v2), some (.int (I 63 (Int32.toNatClampNeg v3)))], [], 0, 0, kjS f I L)) rfl ?_
        exact hk77 v2 (I 63 (Int32.toNatClampNeg v3)) _ h
      · rw [if_neg hc4] at h
        refine mv_G_br (tgt := 98) rfl rfl (by decide) (fun z => absurd z hc4) (fun _ => ?_)
        refine mv_G_run 3 (F' := (97, [some (.ref 59), none, some (.int v2), some (.int v3)], [.int ((16 : Int32) + v3)], 0, 0, kjS f I L)) rfl ?_
        obtain rfl := Option.some.inj h
        exact mv_G_ret rfl rfl rfl (Nat.le_refl _) trivial ⟨rfl, rfl⟩
def kf126_43 (N : Nat) (I : kjI) (L : kjL) (v1 : Int32) (v2 : Int32) : Option (Int32) :=
  if v1 < (15 : Int32) then (some (0 : Int32)) else (if (15 : Int32) ≤ v2 then (if v1 = (15 : Int32) then (some (15 : Int32)) else (if ¬ v2 = (15 : Int32) then (kf126_77 N I L N v2 (v1 - (16 : Int32))) else (some (15 : Int32)))) else (some (0 : Int32)))
set_option maxRecDepth 100000 in
set_option maxHeartbeats 4000000 in
theorem kf126_43_ok (f : Bool) (N : Nat) (I : kjI) (L : kjL) (d : Nat)  (v1 : Int32) (v2 : Int32) (r : Int32) (h : kf126_43 N I L v1 v2 = some r) : mv_G kjP kjSta (mv_C kjP kjSta (d + 2)) kjM_126 (kjQi f I L r) (43, [some (.ref 59), some (.int v1), some (.int v2), none], [], 0, 0, kjS f I L) := by
  unfold kf126_43 at h
  refine mv_G_run 2 (F' := (46, [some (.ref 59), some (.int v1), some (.int v2), none], [.int (15 : Int32), .int v1], 0, 0, kjS f I L)) rfl ?_
  by_cases hc1 : v1 < (15 : Int32)
  · rw [if_pos hc1] at h
    refine mv_G_br (tgt := 55) rfl rfl (by decide) (fun _ => ?_) (fun z => absurd hc1 z)
    refine mv_G_run 1 (F' := (56, [some (.ref 59), some (.int v1), some (.int v2), none], [.int (0 : Int32)], 0, 0, kjS f I L)) rfl ?_
    obtain rfl := Option.some.inj h
    exact mv_G_ret rfl rfl rfl (Nat.le_refl _) trivial ⟨rfl, rfl⟩
  · rw [if_neg hc1] at h
    refine mv_G_br (tgt := 55) rfl rfl (by decide) (fun z => absurd z hc1) (fun _ => ?_)
    refine mv_G_run 2 (F' := (52, [some (.ref 59), some (.int v1), some (.int v2), none], [.int (15 : Int32), .int v2], 0, 0, kjS f I L)) rfl ?_
    by_cases hc2 : (15 : Int32) ≤ v2
    · rw [if_pos hc2] at h
      refine mv_G_br (tgt := 57) rfl rfl (by decide) (fun _ => ?_) (fun z => absurd hc2 z)
      refine mv_G_run 2 (F' := (60, [some (.ref 59), some (.int v1), some (.int v2), none], [.int (15 : Int32), .int v1], 0, 0, kjS f I L)) rfl ?_
      by_cases hc3 : v1 = (15 : Int32)
      · rw [if_pos hc3] at h
        refine mv_G_br (tgt := 69) rfl rfl (by decide) (fun _ => ?_) (fun z => absurd hc3 z)
        refine mv_G_run 1 (F' := (71, [some (.ref 59), some (.int v1), some (.int v2), none], [.int (15 : Int32)], 0, 0, kjS f I L)) rfl ?_
        obtain rfl := Option.some.inj h
        exact mv_G_ret rfl rfl rfl (Nat.le_refl _) trivial ⟨rfl, rfl⟩
      · rw [if_neg hc3] at h
        refine mv_G_br (tgt := 69) rfl rfl (by decide) (fun z => absurd z hc3) (fun _ => ?_)
        refine mv_G_run 2 (F' := (66, [some (.ref 59), some (.int v1), some (.int v2), none], [.int (15 : Int32), .int v2], 0, 0, kjS f I L)) rfl ?_
        by_cases hc4 : ¬ v2 = (15 : Int32)
        · rw [if_pos hc4] at h
          refine mv_G_br (tgt := 72) rfl rfl (by decide) (fun _ => ?_) (fun z => absurd hc4 z)
          refine mv_G_run 4 (F' := (77, [some (.ref 59), some (.int v1), some (.int v2), some (.int (v1 - (16 : Int32)))], [], 0, 0, kjS f I L)) rfl ?_
          refine mv_G_fg (lc' := [some (.ref 59), none, some (.int v2), some (.int (v1 - (16 : Int32)))]) (And.intro rfl (And.intro rfl (And.intro rfl trivial))) ?_
          exact kf126_77_ok _ _ _ _ d _ _ _ _ h
        · rw [if_neg hc4] at h
          refine mv_G_br (tgt := 72) rfl rfl (by decide) (fun z => absurd z hc4) (fun _ => ?_)
          refine mv_G_run 1 (F' := (71, [some (.ref 59), some (.int v1), some (.int v2), none], [.int (15 : Int32)], 0, 0, kjS f I L)) rfl ?_
          obtain rfl := Option.some.inj h
          exact mv_G_ret rfl rfl rfl (Nat.le_refl _) trivial ⟨rfl, rfl⟩
    · rw [if_neg hc2] at h
      refine mv_G_br (tgt := 57) rfl rfl (by decide) (fun z => absurd z hc2) (fun _ => ?_)
      refine mv_G_run 1 (F' := (56, [some (.ref 59), some (.int v1), some (.int v2), none], [.int (0 : Int32)], 0, 0, kjS f I L)) rfl ?_
      obtain rfl := Option.some.inj h
      exact mv_G_ret rfl rfl rfl (Nat.le_refl _) trivial ⟨rfl, rfl⟩
def kf126_25 (N : Nat) (I : kjI) (L : kjL) (v1 : Int32) (v2 : Int32) : Option (Int32) :=
  if ¬ v2 = (3 : Int32) then (kf126_43 N I L v1 v2) else (if v1 = (2 : Int32) then (some v1) else (if v1 < (15 : Int32) then (kf126_43 N I L v1 v2) else (some v1)))
set_option maxRecDepth 100000 in
set_option maxHeartbeats 4000000 in
theorem kf126_25_ok (f : Bool) (N : Nat) (I : kjI) (L : kjL) (d : Nat)  (v1 : Int32) (v2 : Int32) (r : Int32) (h : kf126_25 N I L v1 v2 = some r) : mv_G kjP kjSta (mv_C kjP kjSta (d + 2)) kjM_126 (kjQi f I L r) (25, [some (.ref 59), some (.int v1), some (.int v2), none], [], 0, 0, kjS f I L) := by
  unfold kf126_25 at h
  refine mv_G_run 2 (F' := (27, [some (.ref 59), some (.int v1), some (.int v2), none], [.int (3 : Int32), .int v2], 0, 0, kjS f I L)) rfl ?_
  by_cases hc1 : ¬ v2 = (3 : Int32)
  · rw [if_pos hc1] at h
    refine mv_G_br (tgt := 43) rfl rfl (by decide) (fun _ => ?_) (fun z => absurd hc1 z)
    exact kf126_43_ok _ _ _ _ d _ _ _ h
  · rw [if_neg hc1] at h
    refine mv_G_br (tgt := 43) rfl rfl (by decide) (fun z => absurd z hc1) (fun _ => ?_)
    refine mv_G_run 2 (F' := (32, [some (.ref 59), some (.int v1), some (.int v2), none], [.int (2 : Int32), .int v1], 0, 0, kjS f I L)) rfl ?_
    by_cases hc2 : v1 = (2 : Int32)
    · rw [if_pos hc2] at h
      refine mv_G_br (tgt := 41) rfl rfl (by decide) (fun _ => ?_) (fun z => absurd hc2 z)
      refine mv_G_run 1 (F' := (42, [some (.ref 59), some (.int v1), some (.int v2), none], [.int v1], 0, 0, kjS f I L)) rfl ?_
      obtain rfl := Option.some.inj h
      exact mv_G_ret rfl rfl rfl (Nat.le_refl _) trivial ⟨rfl, rfl⟩
    · rw [if_neg hc2] at h
      refine mv_G_br (tgt := 41) rfl rfl (by decide) (fun z => absurd z hc2) (fun _ => ?_)
      refine mv_G_run 2 (F' := (38, [some (.ref 59), some (.int v1), some (.int v2), none], [.int (15 : Int32), .int v1], 0, 0, kjS f I L)) rfl ?_
      by_cases hc3 : v1 < (15 : Int32)
      · rw [if_pos hc3] at h
        refine mv_G_br (tgt := 43) rfl rfl (by decide) (fun _ => ?_) (fun z => absurd hc3 z)
        exact kf126_43_ok _ _ _ _ d _ _ _ h
      · rw [if_neg hc3] at h
        refine mv_G_br (tgt := 43) rfl rfl (by decide) (fun z => absurd z hc3) (fun _ => ?_)
        refine mv_G_run 1 (F' := (42, [some (.ref 59), some (.int v1), some (.int v2), none], [.int v1], 0, 0, kjS f I L)) rfl ?_
        obtain rfl := Option.some.inj h
        exact mv_G_ret rfl rfl rfl (Nat.le_refl _) trivial ⟨rfl, rfl⟩
def kf126 (N : Nat) (I : kjI) (L : kjL) (v1 : Int32) (v2 : Int32) : Option (Int32) :=
  if ¬ v1 = v2 then (if ¬ v1 = (3 : Int32) then (kf126_25 N I L v1 v2) else (if v2 = (2 : Int32) then (some v2) else (if v2 < (15 : Int32) then (kf126_25 N I L v1 v2) else (some v2)))) else (some v1)
set_option maxRecDepth 100000 in
set_option maxHeartbeats 4000000 in
theorem kf126_ok (f : Bool) (N : Nat) (I : kjI) (L : kjL) (v1 : Int32) (v2 : Int32) (d : Nat) (r : Int32) (h : kf126 N I L v1 v2 = some r) : mv_C kjP kjSta (d + 3) 126 [.ref 59, .int v1, .int v2] (kjS f I L) (kjQi f I L r) := by
  unfold kf126 at h
  refine mv_C_in kjM_126 (lc := [some (.ref 59), some (.int v1), some (.int v2), none]) rfl rfl rfl ?_
  refine mv_G_run 2 (F' := (2, [some (.ref 59), some (.int v1), some (.int v2), none], [.int v2, .int v1], 0, 0, kjS f I L)) rfl ?_
  by_cases hc1 : ¬ v1 = v2
  · rw [if_pos hc1] at h
    refine mv_G_br (tgt := 7) rfl rfl (by decide) (fun _ => ?_) (fun z => absurd hc1 z)
    refine mv_G_run 2 (F' := (9, [some (.ref 59), some (.int v1), some (.int v2), none], [.int (3 : Int32), .int v1], 0, 0, kjS f I L)) rfl ?_
    by_cases hc2 : ¬ v1 = (3 : Int32)
    · rw [if_pos hc2] at h
      refine mv_G_br (tgt := 25) rfl rfl (by decide) (fun _ => ?_) (fun z => absurd hc2 z)
      exact kf126_25_ok _ _ _ _ d _ _ _ h
    · rw [if_neg hc2] at h
      refine mv_G_br (tgt := 25) rfl rfl (by decide) (fun z => absurd z hc2) (fun _ => ?_)
      refine mv_G_run 2 (F' := (14, [some (.ref 59), some (.int v1), some (.int v2), none], [.int (2 : Int32), .int v2], 0, 0, kjS f I L)) rfl ?_
      by_cases hc3 : v2 = (2 : Int32)
      · rw [if_pos hc3] at h
        refine mv_G_br (tgt := 23) rfl rfl (by decide) (fun _ => ?_) (fun z => absurd hc3 z)
        refine mv_G_run 1 (F' := (24, [some (.ref 59), some (.int v1), some (.int v2), none], [.int v2], 0, 0, kjS f I L)) rfl ?_
        obtain rfl := Option.some.inj h
        exact mv_G_ret rfl rfl rfl (Nat.le_refl _) trivial ⟨rfl, rfl⟩
      · rw [if_neg hc3] at h
        refine mv_G_br (tgt := 23) rfl rfl (by decide) (fun z => absurd z hc3) (fun _ => ?_)
        refine mv_G_run 2 (F' := (20, [some (.ref 59), some (.int v1), some (.int v2), none], [.int (15 : Int32), .int v2], 0, 0, kjS f I L)) rfl ?_
        by_cases hc4 : v2 < (15 : Int32)
        · rw [if_pos hc4] at h
          refine mv_G_br (tgt := 25) rfl rfl (by decide) (fun _ => ?_) (fun z => absurd hc4 z)
          exact kf126_25_ok _ _ _ _ d _ _ _ h
        · rw [if_neg hc4] at h
          refine mv_G_br (tgt := 25) rfl rfl (by decide) (fun z => absurd z hc4) (fun _ => ?_)
          refine mv_G_run 1 (F' := (24, [some (.ref 59), some (.int v1), some (.int v2), none], [.int v2], 0, 0, kjS f I L)) rfl ?_
          obtain rfl := Option.some.inj h
          exact mv_G_ret rfl rfl rfl (Nat.le_refl _) trivial ⟨rfl, rfl⟩
  · rw [if_neg hc1] at h
    refine mv_G_br (tgt := 7) rfl rfl (by decide) (fun z => absurd z hc1) (fun _ => ?_)
    refine mv_G_run 1 (F' := (6, [some (.ref 59), some (.int v1), some (.int v2), none], [.int v1], 0, 0, kjS f I L)) rfl ?_
    obtain rfl := Option.some.inj h
    exact mv_G_ret rfl rfl rfl (Nat.le_refl _) trivial ⟨rfl, rfl⟩
/-! KindJudgeModel.merge(IIZ)Z on ('c', 59) -/
def kf127_51 (N : Nat) (v4 : Int32) (I : kjI) (L : kjL) : Option (Int32 × kjI × kjL) :=
  bif mv_in v4 1920 then (some ((1 : Int32), (mv_up I 78 (Int32.toNatClampNeg v4) (-2 : Int32)), L)) else none
set_option maxRecDepth 100000 in
set_option maxHeartbeats 4000000 in
theorem kf127_51_ok (f : Bool) (N : Nat) (d : Nat)  (v4 : Int32) (I : kjI) (L : kjL) (r : Int32 × kjI × kjL) (h : kf127_51 N v4 I L = some r) : mv_G kjP kjSta (mv_C kjP kjSta (d + 3)) kjM_127 (kjQwi f r) (51, [some (.ref 59), none, none, none, some (.int v4), none, none, none], [], 0, 0, kjS f I L) := by
  unfold kf127_51 at h
  refine mv_G_run 4 (F' := (59, [some (.ref 59), none, none, none, some (.int v4), none, none, none], [.int (-2 : Int32), .int v4, .ref 78], 0, 0, kjS f I L)) rfl ?_
  obtain ⟨hi1, h⟩ := mv_bifs h
  refine mv_G_ast rfl rfl (mv_in_ok hi1) ?_
  refine mv_G_run 1 (F' := (61, [some (.ref 59), none, none, none, some (.int v4), none, none, none], [.int (1 : Int32)], 0, 0, kjS f (mv_up I 78 (Int32.toNatClampNeg v4) (-2 : Int32)) L)) rfl ?_
  obtain rfl := Option.some.inj h
  exact mv_G_ret rfl rfl rfl (Nat.le_refl _) (Or.inr rfl) ⟨rfl, rfl⟩
def kf127_174 (N : Nat) (k83 : Int32 → Int32 → Int32 → kjI → kjL → Option (Int32 × kjI × kjL)) (v4 : Int32) (v6 : Int32) (v7 : Int32) (s0 : Int32) (I : kjI) (L : kjL) : Option (Int32 × kjI × kjL) :=
  bif mv_in (((16 : Int32) * v4) + v6) 30720 then (k83 v4 s0 (v6 + (1 : Int32)) (mv_up I 79 (Int32.toNatClampNeg (((16 : Int32) * v4) + v6)) v7) L) else none
set_option maxRecDepth 100000 in
set_option maxHeartbeats 4000000 in
theorem kf127_174_ok (f : Bool) (N : Nat) (k83 : Int32 → Int32 → Int32 → kjI → kjL → Option (Int32 × kjI × kjL)) (d : Nat) (hk83 : ∀ (v4 : Int32) (v5 : Int32) (v6 : Int32) (I : kjI) (L : kjL) (r : Int32 × kjI × kjL), k83 v4 v5 v6 I L = some r → mv_G kjP kjSta (mv_C kjP kjSta (d + 3)) kjM_127 (kjQwi f r) (83, [some (.ref 59), none, none, none, some (.int v4), some (.int v5), some (.int v6), none], [], 0, 0, kjS f I L)) (v4 : Int32) (v6 : Int32) (v7 : Int32) (s0 : Int32) (I : kjI) (L : kjL) (r : Int32 × kjI × kjL) (h : kf127_174 N k83 v4 v6 v7 s0 I L = some r) : mv_G kjP kjSta (mv_C kjP kjSta (d + 3)) kjM_127 (kjQwi f r) (174, [some (.ref 59), none, none, none, some (.int v4), none, some (.int v6), some (.int v7)], [.int s0], 0, 0, kjS f I L) := by
  unfold kf127_174 at h
  refine mv_G_run 9 (F' := (190, [some (.ref 59), none, none, none, some (.int v4), some (.int s0), some (.int v6), some (.int v7)], [.int v7, .int (((16 : Int32) * v4) + v6), .ref 79], 0, 0, kjS f I L)) rfl ?_
  obtain ⟨hi1, h⟩ := mv_bifs h
  refine mv_G_ast rfl rfl (mv_in_ok hi1) ?_
  refine mv_G_run 2 (F' := (83, [some (.ref 59), none, none, none, some (.int v4), some (.int s0), some (.int (v6 + (1 : Int32))), some (.int v7)], [], 0, 0, kjS f (mv_up I 79 (Int32.toNatClampNeg (((16 : Int32) * v4) + v6)) v7) L)) rfl ?_
  refine mv_G_fg (lc' := [some (.ref 59), none, none, none, some (.int v4), some (.int s0), some (.int (v6 + (1 : Int32))), none]) (And.intro rfl (And.intro rfl (And.intro rfl (And.intro rfl trivial)))) ?_
  exact hk83 v4 s0 (v6 + (1 : Int32)) (mv_up I 79 (Int32.toNatClampNeg (((16 : Int32) * v4) + v6)) v7) L _ h
def kf127_169 (N : Nat) (k83 : Int32 → Int32 → Int32 → kjI → kjL → Option (Int32 × kjI × kjL)) (v4 : Int32) (v6 : Int32) (v7 : Int32) (I : kjI) (L : kjL) : Option (Int32 × kjI × kjL) :=
  kf127_174 N k83 v4 v6 v7 (1 : Int32) I L
set_option maxRecDepth 100000 in
set_option maxHeartbeats 4000000 in
theorem kf127_169_ok (f : Bool) (N : Nat) (k83 : Int32 → Int32 → Int32 → kjI → kjL → Option (Int32 × kjI × kjL)) (d : Nat) (hk83 : ∀ (v4 : Int32) (v5 : Int32) (v6 : Int32) (I : kjI) (L : kjL) (r : Int32 × kjI × kjL), k83 v4 v5 v6 I L = some r → mv_G kjP kjSta (mv_C kjP kjSta (d + 3)) kjM_127 (kjQwi f r) (83, [some (.ref 59), none, none, none, some (.int v4), some (.int v5), some (.int v6), none], [], 0, 0, kjS f I L)) (v4 : Int32) (v6 : Int32) (v7 : Int32) (I : kjI) (L : kjL) (r : Int32 × kjI × kjL) (h : kf127_169 N k83 v4 v6 v7 I L = some r) : mv_G kjP kjSta (mv_C kjP kjSta (d + 3)) kjM_127 (kjQwi f r) (169, [some (.ref 59), none, none, none, some (.int v4), none, some (.int v6), some (.int v7)], [], 0, 0, kjS f I L) := by
  unfold kf127_169 at h
  refine mv_G_run 2 (F' := (174, [some (.ref 59), none, none, none, some (.int v4), none, some (.int v6), some (.int v7)], [.int (1 : Int32)], 0, 0, kjS f I L)) rfl ?_
  exact kf127_174_ok _ _ _ d hk83 _ _ _ _ _ _ _ h
def kf127_146 (N : Nat) (k83 : Int32 → Int32 → Int32 → kjI → kjL → Option (Int32 × kjI × kjL)) (v4 : Int32) (v5 : Int32) (v6 : Int32) (v7 : Int32) (I : kjI) (L : kjL) : Option (Int32 × kjI × kjL) :=
  if ¬ v5 = 0 then (kf127_169 N k83 v4 v6 v7 I L) else (bif mv_in (((16 : Int32) * v4) + v6) 30720 then (if v7 = (I 79 (Int32.toNatClampNeg (((16 : Int32) * v4) + v6))) then (kf127_174 N k83 v4 v6 v7 (0 : Int32) I L) else (kf127_169 N k83 v4 v6 v7 I L)) else none)
set_option maxRecDepth 100000 in
set_option maxHeartbeats 4000000 in
theorem kf127_146_ok (f : Bool) (N : Nat) (k83 : Int32 → Int32 → Int32 → kjI → kjL → Option (Int32 × kjI × kjL)) (d : Nat) (hk83 : ∀ (v4 : Int32) (v5 : Int32) (v6 : Int32) (I : kjI) (L : kjL) (r : Int32 × kjI × kjL), k83 v4 v5 v6 I L = some r → mv_G kjP kjSta (mv_C kjP kjSta (d + 3)) kjM_127 (kjQwi f r) (83, [some (.ref 59), none, none, none, some (.int v4), some (.int v5), some (.int v6), none], [], 0, 0, kjS f I L)) (v4 : Int32) (v5 : Int32) (v6 : Int32) (v7 : Int32) (I : kjI) (L : kjL) (r : Int32 × kjI × kjL) (h : kf127_146 N k83 v4 v5 v6 v7 I L = some r) : mv_G kjP kjSta (mv_C kjP kjSta (d + 3)) kjM_127 (kjQwi f r) (146, [some (.ref 59), none, none, none, some (.int v4), some (.int v5), some (.int v6), some (.int v7)], [], 0, 0, kjS f I L) := by
  unfold kf127_146 at h
  refine mv_G_run 1 (F' := (148, [some (.ref 59), none, none, none, some (.int v4), some (.int v5), some (.int v6), some (.int v7)], [.int v5], 0, 0, kjS f I L)) rfl ?_
  by_cases hc1 : ¬ v5 = 0
  · rw [if_pos hc1] at h
    refine mv_G_br (tgt := 169) rfl rfl (by decide) (fun _ => ?_) (fun z => absurd hc1 z)
    refine mv_G_fg (lc' := [some (.ref 59), none, none, none, some (.int v4), none, some (.int v6), some (.int v7)]) (And.intro rfl (And.intro rfl (And.intro rfl (And.intro rfl trivial)))) ?_
    exact kf127_169_ok _ _ _ d hk83 _ _ _ _ _ _ h
  · rw [if_neg hc1] at h
    refine mv_G_br (tgt := 169) rfl rfl (by decide) (fun z => absurd z hc1) (fun _ => ?_)
    refine mv_G_run 8 (F' := (165, [some (.ref 59), none, none, none, some (.int v4), some (.int v5), some (.int v6), some (.int v7)], [.int (((16 : Int32) * v4) + v6), .ref 79, .int v7], 0, 0, kjS f I L)) rfl ?_
    obtain ⟨hi2, h⟩ := mv_bifs h
    refine mv_G_ald rfl rfl (mv_in_ok hi2) ?_
    by_cases hc3 : v7 = (I 79 (Int32.toNatClampNeg (((16 : Int32) * v4) + v6)))
    · rw [if_pos hc3] at h
      refine mv_G_br (tgt := 173) rfl rfl (by decide) (fun _ => ?_) (fun z => absurd hc3 z)
      refine mv_G_run 1 (F' := (174, [some (.ref 59), none, none, none, some (.int v4), some (.int v5), some (.int v6), some (.int v7)], [.int (0 : Int32)], 0, 0, kjS f I L)) rfl ?_
      refine mv_G_fg (lc' := [some (.ref 59), none, none, none, some (.int v4), none, some (.int v6), some (.int v7)]) (And.intro rfl (And.intro rfl (And.intro rfl (And.intro rfl trivial)))) ?_
      exact kf127_174_ok _ _ _ d hk83 _ _ _ _ _ _ _ h
    · rw [if_neg hc3] at h
      refine mv_G_br (tgt := 173) rfl rfl (by decide) (fun z => absurd z hc3) (fun _ => ?_)
      refine mv_G_fg (lc' := [some (.ref 59), none, none, none, some (.int v4), none, some (.int v6), some (.int v7)]) (And.intro rfl (And.intro rfl (And.intro rfl (And.intro rfl trivial)))) ?_
      exact kf127_169_ok _ _ _ d hk83 _ _ _ _ _ _ h
def kf127_129 (N : Nat) (k83 : Int32 → Int32 → Int32 → kjI → kjL → Option (Int32 × kjI × kjL)) (v4 : Int32) (v5 : Int32) (v6 : Int32) (s0 : Int32) (I : kjI) (L : kjL) : Option (Int32 × kjI × kjL) :=
  if v6 < ((8 : Int32) + (I 59 33)) then (kf127_146 N k83 v4 v5 v6 s0 I L) else (kf127_146 N k83 v4 v5 v6 (0 : Int32) I L)
set_option maxRecDepth 100000 in
set_option maxHeartbeats 4000000 in
theorem kf127_129_ok (f : Bool) (N : Nat) (k83 : Int32 → Int32 → Int32 → kjI → kjL → Option (Int32 × kjI × kjL)) (d : Nat) (hk83 : ∀ (v4 : Int32) (v5 : Int32) (v6 : Int32) (I : kjI) (L : kjL) (r : Int32 × kjI × kjL), k83 v4 v5 v6 I L = some r → mv_G kjP kjSta (mv_C kjP kjSta (d + 3)) kjM_127 (kjQwi f r) (83, [some (.ref 59), none, none, none, some (.int v4), some (.int v5), some (.int v6), none], [], 0, 0, kjS f I L)) (v4 : Int32) (v5 : Int32) (v6 : Int32) (s0 : Int32) (I : kjI) (L : kjL) (r : Int32 × kjI × kjL) (h : kf127_129 N k83 v4 v5 v6 s0 I L = some r) : mv_G kjP kjSta (mv_C kjP kjSta (d + 3)) kjM_127 (kjQwi f r) (129, [some (.ref 59), none, none, none, some (.int v4), some (.int v5), some (.int v6), none], [.int s0], 0, 0, kjS f I L) := by
  unfold kf127_129 at h
  refine mv_G_run 6 (F' := (140, [some (.ref 59), none, none, none, some (.int v4), some (.int v5), some (.int v6), some (.int s0)], [.int ((8 : Int32) + (I 59 33)), .int v6], 0, 0, kjS f I L)) rfl ?_
  by_cases hc1 : v6 < ((8 : Int32) + (I 59 33))
  · rw [if_pos hc1] at h
    refine mv_G_br (tgt := 146) rfl rfl (by decide) (fun _ => ?_) (fun z => absurd hc1 z)
    exact kf127_146_ok _ _ _ d hk83 _ _ _ _ _ _ _ h
  · rw [if_neg hc1] at h
    refine mv_G_br (tgt := 146) rfl rfl (by decide) (fun z => absurd z hc1) (fun _ => ?_)
    refine mv_G_run 2 (F' := (146, [some (.ref 59), none, none, none, some (.int v4), some (.int v5), some (.int v6), some (.int (0 : Int32))], [], 0, 0, kjS f I L)) rfl ?_
    exact kf127_146_ok _ _ _ d hk83 _ _ _ _ _ _ _ h
def kf127_83 (N : Nat) : Nat → Int32 → Int32 → Int32 → kjI → kjL → Option (Int32 × kjI × kjL)
  | 0, _, _, _, _, _ => none
  | n + 1, v4, v5, v6, I, L => if (16 : Int32) ≤ v6 then (bif mv_in v4 1920 then (if v5 = 0 ∨ v5 = 1 then some (v5, (mv_up I 78 (Int32.toNatClampNeg v4) (I 59 33)), L) else none) else none) else (if v5 = 0 then (bif mv_in (((16 : Int32) * v4) + v6) 30720 then (bif mv_in v6 16 then ((kf126 N I L (I 79 (Int32.toNatClampNeg (((16 : Int32) * v4) + v6))) (I 80 (Int32.toNatClampNeg v6))).bind fun r7 => kf127_129 N (fun v4 v5 v6 I L => kf127_83 N n v4 v5 v6 I L) v4 v5 v6 r7 I L) else none) else none) else (bif mv_in v6 16 then (kf127_129 N (fun v4 v5 v6 I L => kf127_83 N n v4 v5 v6 I L) v4 v5 v6 (I 80 (Int32.toNatClampNeg v6)) I L) else none))
set_option maxRecDepth 100000 in
set_option maxHeartbeats 4000000 in
theorem kf127_83_ok (f : Bool) (N : Nat) (d : Nat)  : ∀ (n : Nat) (v4 : Int32) (v5 : Int32) (v6 : Int32) (I : kjI) (L : kjL) (r : Int32 × kjI × kjL), kf127_83 N n v4 v5 v6 I L = some r → mv_G kjP kjSta (mv_C kjP kjSta (d + 3)) kjM_127 (kjQwi f r) (83, [some (.ref 59), none, none, none, some (.int v4), some (.int v5), some (.int v6), none], [], 0, 0, kjS f I L) := by
  intro n
  induction n with
  | zero => intro v4 v5 v6 I L r h; cases h
  | succ n ih =>
    have hk83 := ih
    intro v4 v5 v6 I L r h
    unfold kf127_83 at h
    refine mv_G_run 2 (F' := (87, [some (.ref 59), none, none, none, some (.int v4), some (.int v5), some (.int v6), none], [.int (16 : Int32), .int v6], 0, 0, kjS f I L)) rfl ?_
    by_cases hc1 : (16 : Int32) ≤ v6
    · rw [if_pos hc1] at h
      refine mv_G_br (tgt := 197) rfl rfl (by decide) (fun _ => ?_) (fun z => absurd hc1 z)
      refine mv_G_run 5 (F' := (207, [some (.ref 59), none, none, none, some (.int v4), some (.int v5), some (.int v6), none], [.int (I 59 33), .int v4, .ref 78], 0, 0, kjS f I L)) rfl ?_
      obtain ⟨hi2, h⟩ := mv_bifs h
      refine mv_G_ast rfl rfl (mv_in_ok hi2) ?_
      refine mv_G_run 1 (F' := (210, [some (.ref 59), none, none, none, some (.int v4), some (.int v5), some (.int v6), none], [.int v5], 0, 0, kjS f (mv_up I 78 (Int32.toNatClampNeg v4) (I 59 33)) L)) rfl ?_
      obtain ⟨hb3, h⟩ := mv_ifs h
      obtain rfl := Option.some.inj h
      exact mv_G_ret rfl rfl rfl (Nat.le_refl _) hb3 ⟨rfl, rfl⟩
    · rw [if_neg hc1] at h
      refine mv_G_br (tgt := 197) rfl rfl (by decide) (fun z => absurd z hc1) (fun _ => ?_)
      refine mv_G_run 1 (F' := (92, [some (.ref 59), none, none, none, some (.int v4), some (.int v5), some (.int v6), none], [.int v5], 0, 0, kjS f I L)) rfl ?_
      by_cases hc4 : v5 = 0
      · rw [if_pos hc4] at h
        refine mv_G_br (tgt := 105) rfl rfl (by decide) (fun _ => ?_) (fun z => absurd hc4 z)
        refine mv_G_run 8 (F' := (118, [some (.ref 59), none, none, none, some (.int v4), some (.int v5), some (.int v6), none], [.int (((16 : Int32) * v4) + v6), .ref 79, .ref 59], 0, 0, kjS f I L)) rfl ?_
        obtain ⟨hi5, h⟩ := mv_bifs h
        refine mv_G_ald rfl rfl (mv_in_ok hi5) ?_
        refine mv_G_run 3 (F' := (125, [some (.ref 59), none, none, none, some (.int v4), some (.int v5), some (.int v6), none], [.int v6, .ref 80, .int (I 79 (Int32.toNatClampNeg (((16 : Int32) * v4) + v6))), .ref 59], 0, 0, kjS f I L)) rfl ?_
        obtain ⟨hi6, h⟩ := mv_bifs h
        refine mv_G_ald rfl rfl (mv_in_ok hi6) ?_
        obtain ⟨r7, hc8, h⟩ := mv_bd h
        refine mv_G_call (r := []) (kf126_ok _ _ _ _ _ _ _ _ hc8) rfl rfl rfl rfl rfl (Nat.le_of_ble_eq_true rfl) (Nat.le_of_ble_eq_true rfl) (Nat.le_of_ble_eq_true rfl) ?_
        rintro _ _ ⟨rfl, rfl⟩
        exact kf127_129_ok _ _ _ d hk83 _ _ _ _ _ _ _ h
      · rw [if_neg hc4] at h
        refine mv_G_br (tgt := 105) rfl rfl (by decide) (fun z => absurd z hc4) (fun _ => ?_)
        refine mv_G_run 3 (F' := (101, [some (.ref 59), none, none, none, some (.int v4), some (.int v5), some (.int v6), none], [.int v6, .ref 80], 0, 0, kjS f I L)) rfl ?_
        obtain ⟨hi9, h⟩ := mv_bifs h
        refine mv_G_ald rfl rfl (mv_in_ok hi9) ?_
        refine mv_G_run 1 (F' := (129, [some (.ref 59), none, none, none, some (.int v4), some (.int v5), some (.int v6), none], [.int (I 80 (Int32.toNatClampNeg v6))], 0, 0, kjS f I L)) rfl ?_
        exact kf127_129_ok _ _ _ d hk83 _ _ _ _ _ _ _ h
def kf127_78 (N : Nat) (v4 : Int32) (s0 : Int32) (I : kjI) (L : kjL) : Option (Int32 × kjI × kjL) :=
  kf127_83 N N v4 s0 (0 : Int32) I L
set_option maxRecDepth 100000 in
set_option maxHeartbeats 4000000 in
theorem kf127_78_ok (f : Bool) (N : Nat) (d : Nat)  (v4 : Int32) (s0 : Int32) (I : kjI) (L : kjL) (r : Int32 × kjI × kjL) (h : kf127_78 N v4 s0 I L = some r) : mv_G kjP kjSta (mv_C kjP kjSta (d + 3)) kjM_127 (kjQwi f r) (78, [some (.ref 59), none, none, none, some (.int v4), none, none, none], [.int s0], 0, 0, kjS f I L) := by
  unfold kf127_78 at h
  refine mv_G_run 3 (F' := (83, [some (.ref 59), none, none, none, some (.int v4), some (.int s0), some (.int (0 : Int32)), none], [], 0, 0, kjS f I L)) rfl ?_
  exact kf127_83_ok _ _ d _ _ _ _ _ _ _ h
def kf127_62 (N : Nat) (v4 : Int32) (I : kjI) (L : kjL) : Option (Int32 × kjI × kjL) :=
  bif mv_in v4 1920 then (if ¬ (I 78 (Int32.toNatClampNeg v4)) = (-1 : Int32) then (kf127_78 N v4 (0 : Int32) I L) else (kf127_78 N v4 (1 : Int32) I L)) else none
set_option maxRecDepth 100000 in
set_option maxHeartbeats 4000000 in
theorem kf127_62_ok (f : Bool) (N : Nat) (d : Nat)  (v4 : Int32) (I : kjI) (L : kjL) (r : Int32 × kjI × kjL) (h : kf127_62 N v4 I L = some r) : mv_G kjP kjSta (mv_C kjP kjSta (d + 3)) kjM_127 (kjQwi f r) (62, [some (.ref 59), none, none, none, some (.int v4), none, none, none], [], 0, 0, kjS f I L) := by
  unfold kf127_62 at h
  refine mv_G_run 3 (F' := (68, [some (.ref 59), none, none, none, some (.int v4), none, none, none], [.int v4, .ref 78], 0, 0, kjS f I L)) rfl ?_
  obtain ⟨hi1, h⟩ := mv_bifs h
  refine mv_G_ald rfl rfl (mv_in_ok hi1) ?_
  refine mv_G_run 1 (F' := (70, [some (.ref 59), none, none, none, some (.int v4), none, none, none], [.int (-1 : Int32), .int (I 78 (Int32.toNatClampNeg v4))], 0, 0, kjS f I L)) rfl ?_
  by_cases hc2 : ¬ (I 78 (Int32.toNatClampNeg v4)) = (-1 : Int32)
  · rw [if_pos hc2] at h
    refine mv_G_br (tgt := 77) rfl rfl (by decide) (fun _ => ?_) (fun z => absurd hc2 z)
    refine mv_G_run 1 (F' := (78, [some (.ref 59), none, none, none, some (.int v4), none, none, none], [.int (0 : Int32)], 0, 0, kjS f I L)) rfl ?_
    exact kf127_78_ok _ _ d _ _ _ _ _ h
  · rw [if_neg hc2] at h
    refine mv_G_br (tgt := 77) rfl rfl (by decide) (fun z => absurd z hc2) (fun _ => ?_)
    refine mv_G_run 2 (F' := (78, [some (.ref 59), none, none, none, some (.int v4), none, none, none], [.int (1 : Int32)], 0, 0, kjS f I L)) rfl ?_
    exact kf127_78_ok _ _ d _ _ _ _ _ h
def kf127 (N : Nat) (v1 : Int32) (v2 : Int32) (v3 : Int32) (I : kjI) (L : kjL) : Option (Int32 × kjI × kjL) :=
  bif mv_in (((120 : Int32) * v1) + v2) 1920 then (if ¬ (I 78 (Int32.toNatClampNeg (((120 : Int32) * v1) + v2))) = (-2 : Int32) then (if ¬ v3 = 0 then (kf127_51 N (((120 : Int32) * v1) + v2) I L) else (bif mv_in (((120 : Int32) * v1) + v2) 1920 then (if (I 78 (Int32.toNatClampNeg (((120 : Int32) * v1) + v2))) = (-1 : Int32) then (kf127_62 N (((120 : Int32) * v1) + v2) I L) else (bif mv_in (((120 : Int32) * v1) + v2) 1920 then (if (I 78 (Int32.toNatClampNeg (((120 : Int32) * v1) + v2))) = (I 59 33) then (kf127_62 N (((120 : Int32) * v1) + v2) I L) else (kf127_51 N (((120 : Int32) * v1) + v2) I L)) else none)) else none)) else (some ((0 : Int32), I, L))) else none
set_option maxRecDepth 100000 in
set_option maxHeartbeats 4000000 in
theorem kf127_ok (f : Bool) (N : Nat) (v1 : Int32) (v2 : Int32) (v3 : Int32) (I : kjI) (L : kjL) (d : Nat) (r : Int32 × kjI × kjL) (h : kf127 N v1 v2 v3 I L = some r) : mv_C kjP kjSta (d + 4) 127 [.ref 59, .int v1, .int v2, .int v3] (kjS f I L) (kjQwi f r) := by
  unfold kf127 at h
  refine mv_C_in kjM_127 (lc := [some (.ref 59), some (.int v1), some (.int v2), some (.int v3), none, none, none, none]) rfl rfl rfl ?_
  refine mv_G_run 9 (F' := (14, [some (.ref 59), some (.int v1), some (.int v2), some (.int v3), some (.int (((120 : Int32) * v1) + v2)), none, none, none], [.int (((120 : Int32) * v1) + v2), .ref 78], 0, 0, kjS f I L)) rfl ?_
  obtain ⟨hi1, h⟩ := mv_bifs h
  refine mv_G_ald rfl rfl (mv_in_ok hi1) ?_
  refine mv_G_run 1 (F' := (17, [some (.ref 59), some (.int v1), some (.int v2), some (.int v3), some (.int (((120 : Int32) * v1) + v2)), none, none, none], [.int (-2 : Int32), .int (I 78 (Int32.toNatClampNeg (((120 : Int32) * v1) + v2)))], 0, 0, kjS f I L)) rfl ?_
  by_cases hc2 : ¬ (I 78 (Int32.toNatClampNeg (((120 : Int32) * v1) + v2))) = (-2 : Int32)
  · rw [if_pos hc2] at h
    refine mv_G_br (tgt := 22) rfl rfl (by decide) (fun _ => ?_) (fun z => absurd hc2 z)
    refine mv_G_run 1 (F' := (23, [some (.ref 59), some (.int v1), some (.int v2), some (.int v3), some (.int (((120 : Int32) * v1) + v2)), none, none, none], [.int v3], 0, 0, kjS f I L)) rfl ?_
    by_cases hc3 : ¬ v3 = 0
    · rw [if_pos hc3] at h
      refine mv_G_br (tgt := 51) rfl rfl (by decide) (fun _ => ?_) (fun z => absurd hc3 z)
      refine mv_G_fg (lc' := [some (.ref 59), none, none, none, some (.int (((120 : Int32) * v1) + v2)), none, none, none]) (And.intro rfl (And.intro rfl trivial)) ?_
      exact kf127_51_ok _ _ d _ _ _ _ h
    · rw [if_neg hc3] at h
      refine mv_G_br (tgt := 51) rfl rfl (by decide) (fun z => absurd z hc3) (fun _ => ?_)
      refine mv_G_run 3 (F' := (32, [some (.ref 59), some (.int v1), some (.int v2), some (.int v3), some (.int (((120 : Int32) * v1) + v2)), none, none, none], [.int (((120 : Int32) * v1) + v2), .ref 78], 0, 0, kjS f I L)) rfl ?_
      obtain ⟨hi4, h⟩ := mv_bifs h
      refine mv_G_ald rfl rfl (mv_in_ok hi4) ?_
      refine mv_G_run 1 (F' := (34, [some (.ref 59), some (.int v1), some (.int v2), some (.int v3), some (.int (((120 : Int32) * v1) + v2)), none, none, none], [.int (-1 : Int32), .int (I 78 (Int32.toNatClampNeg (((120 : Int32) * v1) + v2)))], 0, 0, kjS f I L)) rfl ?_
      by_cases hc5 : (I 78 (Int32.toNatClampNeg (((120 : Int32) * v1) + v2))) = (-1 : Int32)
      · rw [if_pos hc5] at h
        refine mv_G_br (tgt := 62) rfl rfl (by decide) (fun _ => ?_) (fun z => absurd hc5 z)
        refine mv_G_fg (lc' := [some (.ref 59), none, none, none, some (.int (((120 : Int32) * v1) + v2)), none, none, none]) (And.intro rfl (And.intro rfl trivial)) ?_
        exact kf127_62_ok _ _ d _ _ _ _ h
      · rw [if_neg hc5] at h
        refine mv_G_br (tgt := 62) rfl rfl (by decide) (fun z => absurd z hc5) (fun _ => ?_)
        refine mv_G_run 3 (F' := (43, [some (.ref 59), some (.int v1), some (.int v2), some (.int v3), some (.int (((120 : Int32) * v1) + v2)), none, none, none], [.int (((120 : Int32) * v1) + v2), .ref 78], 0, 0, kjS f I L)) rfl ?_
        obtain ⟨hi6, h⟩ := mv_bifs h
        refine mv_G_ald rfl rfl (mv_in_ok hi6) ?_
        refine mv_G_run 2 (F' := (48, [some (.ref 59), some (.int v1), some (.int v2), some (.int v3), some (.int (((120 : Int32) * v1) + v2)), none, none, none], [.int (I 59 33), .int (I 78 (Int32.toNatClampNeg (((120 : Int32) * v1) + v2)))], 0, 0, kjS f I L)) rfl ?_
        by_cases hc7 : (I 78 (Int32.toNatClampNeg (((120 : Int32) * v1) + v2))) = (I 59 33)
        · rw [if_pos hc7] at h
          refine mv_G_br (tgt := 62) rfl rfl (by decide) (fun _ => ?_) (fun z => absurd hc7 z)
          refine mv_G_fg (lc' := [some (.ref 59), none, none, none, some (.int (((120 : Int32) * v1) + v2)), none, none, none]) (And.intro rfl (And.intro rfl trivial)) ?_
          exact kf127_62_ok _ _ d _ _ _ _ h
        · rw [if_neg hc7] at h
          refine mv_G_br (tgt := 62) rfl rfl (by decide) (fun z => absurd z hc7) (fun _ => ?_)
          refine mv_G_fg (lc' := [some (.ref 59), none, none, none, some (.int (((120 : Int32) * v1) + v2)), none, none, none]) (And.intro rfl (And.intro rfl trivial)) ?_
          exact kf127_51_ok _ _ d _ _ _ _ h
  · rw [if_neg hc2] at h
    refine mv_G_br (tgt := 22) rfl rfl (by decide) (fun z => absurd z hc2) (fun _ => ?_)
    refine mv_G_run 1 (F' := (21, [some (.ref 59), some (.int v1), some (.int v2), some (.int v3), some (.int (((120 : Int32) * v1) + v2)), none, none, none], [.int (0 : Int32)], 0, 0, kjS f I L)) rfl ?_
    obtain rfl := Option.some.inj h
    exact mv_G_ret rfl rfl rfl (Nat.le_refl _) (Or.inl rfl) ⟨rfl, rfl⟩
/-! KindJudgeModel.takes(II)I on ('c', 59) -/
def kf133_288 (I : kjI) (L : kjL) (v3 : Int32) : Option (Int32) :=
  if v3 < (22 : Int32) then (some (0 : Int32)) else (if (27 : Int32) < v3 then (some (0 : Int32)) else (some (1 : Int32)))
set_option maxRecDepth 100000 in
set_option maxHeartbeats 4000000 in
theorem kf133_288_ok (f : Bool) (I : kjI) (L : kjL) (d : Nat)  (v3 : Int32) (r : Int32) (h : kf133_288 I L v3 = some r) : mv_G kjP kjSta (mv_C kjP kjSta (d + 1)) kjM_133 (kjQi f I L r) (288, [none, none, none, some (.int v3)], [], 0, 0, kjS f I L) := by
  unfold kf133_288 at h
  refine mv_G_run 2 (F' := (291, [none, none, none, some (.int v3)], [.int (22 : Int32), .int v3], 0, 0, kjS f I L)) rfl ?_
  by_cases hc1 : v3 < (22 : Int32)
  · rw [if_pos hc1] at h
    refine mv_G_br (tgt := 304) rfl rfl (by decide) (fun _ => ?_) (fun z => absurd hc1 z)
    refine mv_G_run 1 (F' := (305, [none, none, none, some (.int v3)], [.int (0 : Int32)], 0, 0, kjS f I L)) rfl ?_
    obtain rfl := Option.some.inj h
    exact mv_G_ret rfl rfl rfl (Nat.le_refl _) trivial ⟨rfl, rfl⟩
  · rw [if_neg hc1] at h
    refine mv_G_br (tgt := 304) rfl rfl (by decide) (fun z => absurd z hc1) (fun _ => ?_)
    refine mv_G_run 2 (F' := (297, [none, none, none, some (.int v3)], [.int (27 : Int32), .int v3], 0, 0, kjS f I L)) rfl ?_
    by_cases hc2 : (27 : Int32) < v3
    · rw [if_pos hc2] at h
      refine mv_G_br (tgt := 304) rfl rfl (by decide) (fun _ => ?_) (fun z => absurd hc2 z)
      refine mv_G_run 1 (F' := (305, [none, none, none, some (.int v3)], [.int (0 : Int32)], 0, 0, kjS f I L)) rfl ?_
      obtain rfl := Option.some.inj h
      exact mv_G_ret rfl rfl rfl (Nat.le_refl _) trivial ⟨rfl, rfl⟩
    · rw [if_neg hc2] at h
      refine mv_G_br (tgt := 304) rfl rfl (by decide) (fun z => absurd z hc2) (fun _ => ?_)
      refine mv_G_run 2 (F' := (305, [none, none, none, some (.int v3)], [.int (1 : Int32)], 0, 0, kjS f I L)) rfl ?_
      obtain rfl := Option.some.inj h
      exact mv_G_ret rfl rfl rfl (Nat.le_refl _) trivial ⟨rfl, rfl⟩
def kf133_272 (I : kjI) (L : kjL) (v3 : Int32) : Option (Int32) :=
  if v3 < (28 : Int32) then (kf133_288 I L v3) else (if (33 : Int32) < v3 then (kf133_288 I L v3) else (some (2 : Int32)))
set_option maxRecDepth 100000 in
set_option maxHeartbeats 4000000 in
theorem kf133_272_ok (f : Bool) (I : kjI) (L : kjL) (d : Nat)  (v3 : Int32) (r : Int32) (h : kf133_272 I L v3 = some r) : mv_G kjP kjSta (mv_C kjP kjSta (d + 1)) kjM_133 (kjQi f I L r) (272, [none, none, none, some (.int v3)], [], 0, 0, kjS f I L) := by
  unfold kf133_272 at h
  refine mv_G_run 2 (F' := (275, [none, none, none, some (.int v3)], [.int (28 : Int32), .int v3], 0, 0, kjS f I L)) rfl ?_
  by_cases hc1 : v3 < (28 : Int32)
  · rw [if_pos hc1] at h
    refine mv_G_br (tgt := 288) rfl rfl (by decide) (fun _ => ?_) (fun z => absurd hc1 z)
    exact kf133_288_ok _ _ _ d _ _ h
  · rw [if_neg hc1] at h
    refine mv_G_br (tgt := 288) rfl rfl (by decide) (fun z => absurd z hc1) (fun _ => ?_)
    refine mv_G_run 2 (F' := (281, [none, none, none, some (.int v3)], [.int (33 : Int32), .int v3], 0, 0, kjS f I L)) rfl ?_
    by_cases hc2 : (33 : Int32) < v3
    · rw [if_pos hc2] at h
      refine mv_G_br (tgt := 288) rfl rfl (by decide) (fun _ => ?_) (fun z => absurd hc2 z)
      exact kf133_288_ok _ _ _ d _ _ h
    · rw [if_neg hc2] at h
      refine mv_G_br (tgt := 288) rfl rfl (by decide) (fun z => absurd z hc2) (fun _ => ?_)
      refine mv_G_run 2 (F' := (305, [none, none, none, some (.int v3)], [.int (2 : Int32)], 0, 0, kjS f I L)) rfl ?_
      obtain rfl := Option.some.inj h
      exact mv_G_ret rfl rfl rfl (Nat.le_refl _) trivial ⟨rfl, rfl⟩
def kf133 (I : kjI) (L : kjL) (v1 : Int32) (v2 : Int32) : Option (Int32) :=
  (kf115 I L v1 v2).bind fun r1 => if (r1).toInt = 4 ∨ (r1).toInt = 5 ∨ (r1).toInt = 6 ∨ (r1).toInt = 19 ∨ (r1).toInt = 34 ∨ (r1).toInt = 35 ∨ (r1).toInt = 39 ∨ (r1).toInt = 41 ∨ (r1).toInt = 44 ∨ (r1).toInt = 45 ∨ (r1).toInt = 46 ∨ (r1).toInt = 50 ∨ (r1).toInt = 51 ∨ (r1).toInt = 53 then (some (1 : Int32)) else (if (r1).toInt = 7 ∨ (r1).toInt = 36 ∨ (r1).toInt = 37 ∨ (r1).toInt = 40 ∨ (r1).toInt = 42 then (some (2 : Int32)) else (if (r1).toInt = 43 then (some (3 : Int32)) else (if (r1).toInt = 47 then ((kf115 I L v1 (v2 + (1 : Int32))).bind fun r7 => bif mv_in r7 16 then (some (I 69 (Int32.toNatClampNeg r7))) else none) else (if (r1).toInt = 48 then ((kf115 I L v1 (v2 + (1 : Int32))).bind fun r11 => bif mv_in r11 8 then (some ((1 : Int32) + (I 66 (Int32.toNatClampNeg r11)))) else none) else (if r1 < (8 : Int32) then (kf133_272 I L r1) else (if r1 ≤ (18 : Int32) then (some (2 : Int32)) else (kf133_272 I L r1)))))))
set_option maxRecDepth 100000 in
set_option maxHeartbeats 4000000 in
theorem kf133_ok (f : Bool) (I : kjI) (L : kjL) (v1 : Int32) (v2 : Int32) (d : Nat) (r : Int32) (h : kf133 I L v1 v2 = some r) : mv_C kjP kjSta (d + 2) 133 [.ref 59, .int v1, .int v2] (kjS f I L) (kjQi f I L r) := by
  unfold kf133 at h
  refine mv_C_in kjM_133 (lc := [some (.ref 59), some (.int v1), some (.int v2), none]) rfl rfl rfl ?_
  refine mv_G_run 3 (F' := (3, [some (.ref 59), some (.int v1), some (.int v2), none], [.int v2, .int v1, .ref 59], 0, 0, kjS f I L)) rfl ?_
  obtain ⟨r1, hc2, h⟩ := mv_bd h
  refine mv_G_call (r := []) (kf115_ok _ _ _ _ _ _ _ hc2) rfl rfl rfl rfl rfl (Nat.le_of_ble_eq_true rfl) (Nat.le_of_ble_eq_true rfl) (Nat.le_of_ble_eq_true rfl) ?_
  rintro _ _ ⟨rfl, rfl⟩
  refine mv_G_run 2 (F' := (8, [some (.ref 59), some (.int v1), some (.int v2), some (.int r1)], [.int r1], 0, 0, kjS f I L)) rfl ?_
  by_cases hw3 : (r1).toInt = 4 ∨ (r1).toInt = 5 ∨ (r1).toInt = 6 ∨ (r1).toInt = 19 ∨ (r1).toInt = 34 ∨ (r1).toInt = 35 ∨ (r1).toInt = 39 ∨ (r1).toInt = 41 ∨ (r1).toInt = 44 ∨ (r1).toInt = 45 ∨ (r1).toInt = 46 ∨ (r1).toInt = 50 ∨ (r1).toInt = 51 ∨ (r1).toInt = 53
  · rw [if_pos hw3] at h
    refine mv_G_sw (tgt := 224) (off := 216) rfl (by rcases hw3 with hw3 | hw3 | hw3 | hw3 | hw3 | hw3 | hw3 | hw3 | hw3 | hw3 | hw3 | hw3 | hw3 | hw3 <;> (simp only [mv_sw, hw3]; rfl)) (by decide) ?_
    refine mv_G_run 1 (F' := (225, [some (.ref 59), some (.int v1), some (.int v2), some (.int r1)], [.int (1 : Int32)], 0, 0, kjS f I L)) rfl ?_
    obtain rfl := Option.some.inj h
    exact mv_G_ret rfl rfl rfl (Nat.le_refl _) trivial ⟨rfl, rfl⟩
  rw [if_neg hw3] at h
  by_cases hw4 : (r1).toInt = 7 ∨ (r1).toInt = 36 ∨ (r1).toInt = 37 ∨ (r1).toInt = 40 ∨ (r1).toInt = 42
  · rw [if_pos hw4] at h
    refine mv_G_sw (tgt := 226) (off := 218) rfl (by rcases hw4 with hw4 | hw4 | hw4 | hw4 | hw4 <;> (simp only [mv_sw, hw4]; rfl)) (by decide) ?_
    refine mv_G_run 1 (F' := (227, [some (.ref 59), some (.int v1), some (.int v2), some (.int r1)], [.int (2 : Int32)], 0, 0, kjS f I L)) rfl ?_
    obtain rfl := Option.some.inj h
    exact mv_G_ret rfl rfl rfl (Nat.le_refl _) trivial ⟨rfl, rfl⟩
  rw [if_neg hw4] at h
  by_cases hw5 : (r1).toInt = 43
  · rw [if_pos hw5] at h
    refine mv_G_sw (tgt := 228) (off := 220) rfl (by simp only [mv_sw, hw5]; rfl) (by decide) ?_
    refine mv_G_run 1 (F' := (229, [some (.ref 59), some (.int v1), some (.int v2), some (.int r1)], [.int (3 : Int32)], 0, 0, kjS f I L)) rfl ?_
    obtain rfl := Option.some.inj h
    exact mv_G_ret rfl rfl rfl (Nat.le_refl _) trivial ⟨rfl, rfl⟩
  rw [if_neg hw5] at h
  by_cases hw6 : (r1).toInt = 47
  · rw [if_pos hw6] at h
    refine mv_G_sw (tgt := 230) (off := 222) rfl (by simp only [mv_sw, hw6]; rfl) (by decide) ?_
    refine mv_G_run 7 (F' := (239, [some (.ref 59), some (.int v1), some (.int v2), some (.int r1)], [.int (v2 + (1 : Int32)), .int v1, .ref 59, .ref 69], 0, 0, kjS f I L)) rfl ?_
    obtain ⟨r7, hc8, h⟩ := mv_bd h
    refine mv_G_call (r := [.ref 69]) (kf115_ok _ _ _ _ _ _ _ hc8) rfl rfl rfl rfl rfl (Nat.le_of_ble_eq_true rfl) (Nat.le_of_ble_eq_true rfl) (Nat.le_of_ble_eq_true rfl) ?_
    rintro _ _ ⟨rfl, rfl⟩
    obtain ⟨hi9, h⟩ := mv_bifs h
    refine mv_G_ald rfl rfl (mv_in_ok hi9) ?_
    obtain rfl := Option.some.inj h
    exact mv_G_ret rfl rfl rfl (Nat.le_refl _) trivial ⟨rfl, rfl⟩
  rw [if_neg hw6] at h
  by_cases hw10 : (r1).toInt = 48
  · rw [if_pos hw10] at h
    refine mv_G_sw (tgt := 244) (off := 236) rfl (by simp only [mv_sw, hw10]; rfl) (by decide) ?_
    refine mv_G_run 8 (F' := (254, [some (.ref 59), some (.int v1), some (.int v2), some (.int r1)], [.int (v2 + (1 : Int32)), .int v1, .ref 59, .ref 66, .int (1 : Int32)], 0, 0, kjS f I L)) rfl ?_
    obtain ⟨r11, hc12, h⟩ := mv_bd h
    refine mv_G_call (r := [.ref 66, .int (1 : Int32)]) (kf115_ok _ _ _ _ _ _ _ hc12) rfl rfl rfl rfl rfl (Nat.le_of_ble_eq_true rfl) (Nat.le_of_ble_eq_true rfl) (Nat.le_of_ble_eq_true rfl) ?_
    rintro _ _ ⟨rfl, rfl⟩
    obtain ⟨hi13, h⟩ := mv_bifs h
    refine mv_G_ald rfl rfl (mv_in_ok hi13) ?_
    refine mv_G_run 1 (F' := (259, [some (.ref 59), some (.int v1), some (.int v2), some (.int r1)], [.int ((1 : Int32) + (I 66 (Int32.toNatClampNeg r11)))], 0, 0, kjS f I L)) rfl ?_
    obtain rfl := Option.some.inj h
    exact mv_G_ret rfl rfl rfl (Nat.le_refl _) trivial ⟨rfl, rfl⟩
  rw [if_neg hw10] at h
  refine mv_G_sw (tgt := 260) (off := 252) rfl (by
    have hz16 : ((r1).toInt < 4 ∨ 53 < (r1).toInt) ∨ (r1).toInt = 8 ∨ (r1).toInt = 9 ∨ (r1).toInt = 10 ∨ (r1).toInt = 11 ∨ (r1).toInt = 12 ∨ (r1).toInt = 13 ∨ (r1).toInt = 14 ∨ (r1).toInt = 15 ∨ (r1).toInt = 16 ∨ (r1).toInt = 17 ∨ (r1).toInt = 18 ∨ (r1).toInt = 20 ∨ (r1).toInt = 21 ∨ (r1).toInt = 22 ∨ (r1).toInt = 23 ∨ (r1).toInt = 24 ∨ (r1).toInt = 25 ∨ (r1).toInt = 26 ∨ (r1).toInt = 27 ∨ (r1).toInt = 28 ∨ (r1).toInt = 29 ∨ (r1).toInt = 30 ∨ (r1).toInt = 31 ∨ (r1).toInt = 32 ∨ (r1).toInt = 33 ∨ (r1).toInt = 38 ∨ (r1).toInt = 49 ∨ (r1).toInt = 52 := by omega
    rcases hz16 with hz16 | hz16 | hz16 | hz16 | hz16 | hz16 | hz16 | hz16 | hz16 | hz16 | hz16 | hz16 | hz16 | hz16 | hz16 | hz16 | hz16 | hz16 | hz16 | hz16 | hz16 | hz16 | hz16 | hz16 | hz16 | hz16 | hz16 | hz16 | hz16
    · exact if_pos hz16
    · simp only [mv_sw, hz16]; rfl
    · simp only [mv_sw, hz16]; rfl
    · simp only [mv_sw, hz16]; rfl
    · simp only [mv_sw, hz16]; rfl
    · simp only [mv_sw, hz16]; rfl
    · simp only [mv_sw, hz16]; rfl
    · simp only [mv_sw, hz16]; rfl
    · simp only [mv_sw, hz16]; rfl
    · simp only [mv_sw, hz16]; rfl
    · simp only [mv_sw, hz16]; rfl
    · simp only [mv_sw, hz16]; rfl
    · simp only [mv_sw, hz16]; rfl
    · simp only [mv_sw, hz16]; rfl
    · simp only [mv_sw, hz16]; rfl
    · simp only [mv_sw, hz16]; rfl
    · simp only [mv_sw, hz16]; rfl
    · simp only [mv_sw, hz16]; rfl
    · simp only [mv_sw, hz16]; rfl
    · simp only [mv_sw, hz16]; rfl
    · simp only [mv_sw, hz16]; rfl
    · simp only [mv_sw, hz16]; rfl
    · simp only [mv_sw, hz16]; rfl
    · simp only [mv_sw, hz16]; rfl
    · simp only [mv_sw, hz16]; rfl
    · simp only [mv_sw, hz16]; rfl
    · simp only [mv_sw, hz16]; rfl
    · simp only [mv_sw, hz16]; rfl
    · simp only [mv_sw, hz16]; rfl) (by decide) ?_
  refine mv_G_run 2 (F' := (263, [some (.ref 59), some (.int v1), some (.int v2), some (.int r1)], [.int (8 : Int32), .int r1], 0, 0, kjS f I L)) rfl ?_
  by_cases hc14 : r1 < (8 : Int32)
  · rw [if_pos hc14] at h
    refine mv_G_br (tgt := 272) rfl rfl (by decide) (fun _ => ?_) (fun z => absurd hc14 z)
    refine mv_G_fg (lc' := [none, none, none, some (.int r1)]) (And.intro rfl trivial) ?_
    exact kf133_272_ok _ _ _ d _ _ h
  · rw [if_neg hc14] at h
    refine mv_G_br (tgt := 272) rfl rfl (by decide) (fun z => absurd z hc14) (fun _ => ?_)
    refine mv_G_run 2 (F' := (269, [some (.ref 59), some (.int v1), some (.int v2), some (.int r1)], [.int (18 : Int32), .int r1], 0, 0, kjS f I L)) rfl ?_
    by_cases hc15 : r1 ≤ (18 : Int32)
    · rw [if_pos hc15] at h
      refine mv_G_br (tgt := 284) rfl rfl (by decide) (fun _ => ?_) (fun z => absurd hc15 z)
      refine mv_G_run 2 (F' := (305, [some (.ref 59), some (.int v1), some (.int v2), some (.int r1)], [.int (2 : Int32)], 0, 0, kjS f I L)) rfl ?_
      obtain rfl := Option.some.inj h
      exact mv_G_ret rfl rfl rfl (Nat.le_refl _) trivial ⟨rfl, rfl⟩
    · rw [if_neg hc15] at h
      refine mv_G_br (tgt := 284) rfl rfl (by decide) (fun z => absurd z hc15) (fun _ => ?_)
      refine mv_G_fg (lc' := [none, none, none, some (.int r1)]) (And.intro rfl trivial) ?_
      exact kf133_272_ok _ _ _ d _ _ h
/-! KindJudgeModel.popKind()I on ('c', 59) -/
def kf130 (I : kjI) (L : kjL) : Option (Int32 × kjI × kjL) :=
  if ¬ (I 59 33) = 0 then (bif mv_in ((8 : Int32) + ((mv_up I 59 33 ((I 59 33) - (1 : Int32))) 59 33)) 16 then (some (((mv_up I 59 33 ((I 59 33) - (1 : Int32))) 80 (Int32.toNatClampNeg ((8 : Int32) + ((mv_up I 59 33 ((I 59 33) - (1 : Int32))) 59 33)))), (mv_up I 59 33 ((I 59 33) - (1 : Int32))), L)) else none) else (some ((0 : Int32), (mv_up I 59 34 (1 : Int32)), L))
set_option maxRecDepth 100000 in
set_option maxHeartbeats 4000000 in
theorem kf130_ok (f : Bool) (I : kjI) (L : kjL) (d : Nat) (r : Int32 × kjI × kjL) (h : kf130 I L = some r) : mv_C kjP kjSta (d + 1) 130 [.ref 59] (kjS f I L) (kjQwi f r) := by
  unfold kf130 at h
  refine mv_C_in kjM_130 (lc := [some (.ref 59)]) rfl rfl rfl ?_
  refine mv_G_run 2 (F' := (4, [some (.ref 59)], [.int (I 59 33)], 0, 0, kjS f I L)) rfl ?_
  by_cases hc1 : ¬ (I 59 33) = 0
  · rw [if_pos hc1] at h
    refine mv_G_br (tgt := 14) rfl rfl (by decide) (fun _ => ?_) (fun z => absurd hc1 z)
    refine mv_G_run 12 (F' := (35, [some (.ref 59)], [.int ((8 : Int32) + ((mv_up I 59 33 ((I 59 33) - (1 : Int32))) 59 33)), .ref 80], 0, 0, kjS f (mv_up I 59 33 ((I 59 33) - (1 : Int32))) L)) rfl ?_
    obtain ⟨hi2, h⟩ := mv_bifs h
    refine mv_G_ald rfl rfl (mv_in_ok hi2) ?_
    obtain rfl := Option.some.inj h
    exact mv_G_ret rfl rfl rfl (Nat.le_refl _) trivial ⟨rfl, rfl⟩
  · rw [if_neg hc1] at h
    refine mv_G_br (tgt := 14) rfl rfl (by decide) (fun z => absurd z hc1) (fun _ => ?_)
    refine mv_G_run 4 (F' := (13, [some (.ref 59)], [.int (0 : Int32)], 0, 0, kjS f (mv_up I 59 34 (1 : Int32)) L)) rfl ?_
    obtain rfl := Option.some.inj h
    exact mv_G_ret rfl rfl rfl (Nat.le_refl _) trivial ⟨rfl, rfl⟩
/-! KindJudgeModel.drop(I)V on ('c', 59) -/
def kf132_2 (N : Nat) : Nat → Int32 → Int32 → kjI → kjL → Option (kjI × kjL)
  | 0, _, _, _, _ => none
  | n + 1, v1, v2, I, L => if v1 ≤ v2 then (some (I, L)) else ((kf130 I L).bind fun r2 => (fun v1 v2 I L => kf132_2 N n v1 v2 I L) v1 (v2 + (1 : Int32)) r2.2.1 r2.2.2)
set_option maxRecDepth 100000 in
set_option maxHeartbeats 4000000 in
theorem kf132_2_ok (f : Bool) (N : Nat) (d : Nat)  : ∀ (n : Nat) (v1 : Int32) (v2 : Int32) (I : kjI) (L : kjL) (r : kjI × kjL), kf132_2 N n v1 v2 I L = some r → mv_G kjP kjSta (mv_C kjP kjSta (d + 1)) kjM_132 (kjQwv f r) (2, [some (.ref 59), some (.int v1), some (.int v2)], [], 0, 0, kjS f I L) := by
  intro n
  induction n with
  | zero => intro v1 v2 I L r h; cases h
  | succ n ih =>
    have hk2 := ih
    intro v1 v2 I L r h
    unfold kf132_2 at h
    refine mv_G_run 2 (F' := (4, [some (.ref 59), some (.int v1), some (.int v2)], [.int v1, .int v2], 0, 0, kjS f I L)) rfl ?_
    by_cases hc1 : v1 ≤ v2
    · rw [if_pos hc1] at h
      refine mv_G_br (tgt := 18) rfl rfl (by decide) (fun _ => ?_) (fun z => absurd hc1 z)
      obtain rfl := Option.some.inj h
      exact mv_G_ret rfl rfl rfl (Nat.le_refl _) trivial ⟨rfl, rfl⟩
    · rw [if_neg hc1] at h
      refine mv_G_br (tgt := 18) rfl rfl (by decide) (fun z => absurd z hc1) (fun _ => ?_)
      refine mv_G_run 1 (F' := (8, [some (.ref 59), some (.int v1), some (.int v2)], [.ref 59], 0, 0, kjS f I L)) rfl ?_
      obtain ⟨r2, hc3, h⟩ := mv_bd h
      refine mv_G_call (r := []) (kf130_ok _ _ _ _ _ hc3) rfl rfl rfl rfl rfl (Nat.le_of_ble_eq_true rfl) (Nat.le_of_ble_eq_true rfl) (Nat.le_of_ble_eq_true rfl) ?_
      rintro _ _ ⟨rfl, rfl⟩
      refine mv_G_run 3 (F' := (2, [some (.ref 59), some (.int v1), some (.int (v2 + (1 : Int32)))], [], 0, 0, kjS f r2.2.1 r2.2.2)) rfl ?_
      exact hk2 v1 (v2 + (1 : Int32)) r2.2.1 r2.2.2 _ h
def kf132 (N : Nat) (v1 : Int32) (I : kjI) (L : kjL) : Option (kjI × kjL) :=
  kf132_2 N N v1 (0 : Int32) I L
set_option maxRecDepth 100000 in
set_option maxHeartbeats 4000000 in
theorem kf132_ok (f : Bool) (N : Nat) (v1 : Int32) (I : kjI) (L : kjL) (d : Nat) (r : kjI × kjL) (h : kf132 N v1 I L = some r) : mv_C kjP kjSta (d + 2) 132 [.ref 59, .int v1] (kjS f I L) (kjQwv f r) := by
  unfold kf132 at h
  refine mv_C_in kjM_132 (lc := [some (.ref 59), some (.int v1), none]) rfl rfl rfl ?_
  refine mv_G_run 2 (F' := (2, [some (.ref 59), some (.int v1), some (.int (0 : Int32))], [], 0, 0, kjS f I L)) rfl ?_
  exact kf132_2_ok _ _ d _ _ _ _ _ _ h
/-! KindJudgeModel.pushKind(I)V on ('c', 59) -/
def kf131_22 (I : kjI) (L : kjL) : Option (kjI × kjL) :=
  some ((mv_up I 59 33 ((I 59 33) + (1 : Int32))), L)
set_option maxRecDepth 100000 in
set_option maxHeartbeats 4000000 in
theorem kf131_22_ok (f : Bool) (d : Nat)  (I : kjI) (L : kjL) (r : kjI × kjL) (h : kf131_22 I L = some r) : mv_G kjP kjSta (mv_C kjP kjSta (d + 0)) kjM_131 (kjQwv f r) (22, [some (.ref 59), none], [], 0, 0, kjS f I L) := by
  unfold kf131_22 at h
  refine mv_G_run 6 (F' := (32, [some (.ref 59), none], [], 0, 0, kjS f (mv_up I 59 33 ((I 59 33) + (1 : Int32))) L)) rfl ?_
  obtain rfl := Option.some.inj h
  exact mv_G_ret rfl rfl rfl (Nat.le_refl _) trivial ⟨rfl, rfl⟩
def kf131 (v1 : Int32) (I : kjI) (L : kjL) : Option (kjI × kjL) :=
  if (8 : Int32) ≤ (I 59 33) then (kf131_22 I L) else (bif mv_in ((8 : Int32) + (I 59 33)) 16 then (kf131_22 (mv_up I 80 (Int32.toNatClampNeg ((8 : Int32) + (I 59 33))) v1) L) else none)
set_option maxRecDepth 100000 in
set_option maxHeartbeats 4000000 in
theorem kf131_ok (f : Bool) (v1 : Int32) (I : kjI) (L : kjL) (d : Nat) (r : kjI × kjL) (h : kf131 v1 I L = some r) : mv_C kjP kjSta (d + 1) 131 [.ref 59, .int v1] (kjS f I L) (kjQwv f r) := by
  unfold kf131 at h
  refine mv_C_in kjM_131 (lc := [some (.ref 59), some (.int v1)]) rfl rfl rfl ?_
  refine mv_G_run 3 (F' := (6, [some (.ref 59), some (.int v1)], [.int (8 : Int32), .int (I 59 33)], 0, 0, kjS f I L)) rfl ?_
  by_cases hc1 : (8 : Int32) ≤ (I 59 33)
  · rw [if_pos hc1] at h
    refine mv_G_br (tgt := 22) rfl rfl (by decide) (fun _ => ?_) (fun z => absurd hc1 z)
    refine mv_G_fg (lc' := [some (.ref 59), none]) (And.intro rfl trivial) ?_
    exact kf131_22_ok _ d _ _ _ h
  · rw [if_neg hc1] at h
    refine mv_G_br (tgt := 22) rfl rfl (by decide) (fun z => absurd z hc1) (fun _ => ?_)
    refine mv_G_run 7 (F' := (21, [some (.ref 59), some (.int v1)], [.int v1, .int ((8 : Int32) + (I 59 33)), .ref 80], 0, 0, kjS f I L)) rfl ?_
    obtain ⟨hi2, h⟩ := mv_bifs h
    refine mv_G_ast rfl rfl (mv_in_ok hi2) ?_
    refine mv_G_fg (lc' := [some (.ref 59), none]) (And.intro rfl trivial) ?_
    exact kf131_22_ok _ d _ _ _ h
/-! KindJudgeModel.behind(II)V on ('c', 59) -/
def kf134_140 (N : Nat) (v1 : Int32) (v2 : Int32) (v4 : Int32) (v5 : Int32) (v6 : Int32) (s0 : Int32) (I : kjI) (L : kjL) : Option (kjI × kjL) :=
  (kf133 I L v1 v2).bind fun r1 => (kf132 N r1 I L).bind fun r3 => if (v4).toInt = 0 ∨ (v4).toInt = 1 ∨ (v4).toInt = 42 ∨ (v4).toInt = 44 ∨ (v4).toInt = 45 ∨ (v4).toInt = 52 then ((kf131 (1 : Int32) r3.1 r3.2).bind fun r6 => some (r6.1, r6.2)) else (if (v4).toInt = 2 then ((kf131 (3 : Int32) r3.1 r3.2).bind fun r9 => some (r9.1, r9.2)) else (if (v4).toInt = 3 then (bif mv_in v5 16 then ((kf131 (r3.1 80 (Int32.toNatClampNeg v5)) r3.1 r3.2).bind fun r13 => some (r13.1, r13.2)) else none) else (if (v4).toInt = 4 then (bif mv_in v5 16 then (some ((mv_up r3.1 80 (Int32.toNatClampNeg v5) v6), r3.2)) else none) else (if (v4).toInt = 6 then ((kf131 v6 r3.1 r3.2).bind fun r18 => (kf131 v6 r18.1 r18.2).bind fun r20 => some (r20.1, r20.2)) else (if (v4).toInt = 7 then ((kf131 v6 r3.1 r3.2).bind fun r23 => (kf131 s0 r23.1 r23.2).bind fun r25 => some (r25.1, r25.2)) else (if (v4).toInt = 38 ∨ (v4).toInt = 46 then ((kf131 ((16 : Int32) + v5) r3.1 r3.2).bind fun r28 => some (r28.1, r28.2)) else (if (v4).toInt = 39 then ((kf115 r3.1 r3.2 v1 (v2 + (2 : Int32))).bind fun r31 => bif mv_in (((8 : Int32) * v5) + r31) 64 then ((kf131 (r3.1 65 (Int32.toNatClampNeg (((8 : Int32) * v5) + r31))) r3.1 r3.2).bind fun r34 => some (r34.1, r34.2)) else none) else (if (v4).toInt = 41 then ((kf131 (2 : Int32) r3.1 r3.2).bind fun r37 => some (r37.1, r37.2)) else (if (v4).toInt = 47 then (bif mv_in v5 16 then (if (r3.1 71 (Int32.toNatClampNeg v5)) ≤ 0 then (some (r3.1, r3.2)) else (bif mv_in v5 16 then ((kf131 (r3.1 71 (Int32.toNatClampNeg v5)) r3.1 r3.2).bind fun r43 => some (r43.1, r43.2)) else none)) else none) else (if (v4).toInt = 48 then (bif mv_in v5 8 then (if (r3.1 68 (Int32.toNatClampNeg v5)) ≤ 0 then (some (r3.1, r3.2)) else (bif mv_in v5 8 then ((kf131 (r3.1 68 (Int32.toNatClampNeg v5)) r3.1 r3.2).bind fun r49 => some (r49.1, r49.2)) else none)) else none) else (if v4 < (8 : Int32) then (some (r3.1, r3.2)) else (if (19 : Int32) < v4 then (some (r3.1, r3.2)) else ((kf131 (1 : Int32) r3.1 r3.2).bind fun r53 => some (r53.1, r53.2))))))))))))))
set_option maxRecDepth 100000 in
set_option maxHeartbeats 4000000 in
theorem kf134_140_ok (f : Bool) (N : Nat) (d : Nat)  (v1 : Int32) (v2 : Int32) (v4 : Int32) (v5 : Int32) (v6 : Int32) (s0 : Int32) (I : kjI) (L : kjL) (r : kjI × kjL) (h : kf134_140 N v1 v2 v4 v5 v6 s0 I L = some r) : mv_G kjP kjSta (mv_C kjP kjSta (d + 2)) kjM_134 (kjQwv f r) (140, [some (.ref 59), some (.int v1), some (.int v2), none, some (.int v4), some (.int v5), some (.int v6), none], [.int s0], 0, 0, kjS f I L) := by
  unfold kf134_140 at h
  refine mv_G_run 5 (F' := (146, [some (.ref 59), some (.int v1), some (.int v2), none, some (.int v4), some (.int v5), some (.int v6), some (.int s0)], [.int v2, .int v1, .ref 59, .ref 59], 0, 0, kjS f I L)) rfl ?_
  obtain ⟨r1, hc2, h⟩ := mv_bd h
  refine mv_G_call (r := [.ref 59]) (kf133_ok _ _ _ _ _ _ _ hc2) rfl rfl rfl rfl rfl (Nat.le_of_ble_eq_true rfl) (Nat.le_of_ble_eq_true rfl) (Nat.le_of_ble_eq_true rfl) ?_
  rintro _ _ ⟨rfl, rfl⟩
  obtain ⟨r3, hc4, h⟩ := mv_bd h
  refine mv_G_call (r := []) (kf132_ok _ _ _ _ _ _ _ hc4) rfl rfl rfl rfl rfl (Nat.le_of_ble_eq_true rfl) (Nat.le_of_ble_eq_true rfl) (Nat.le_of_ble_eq_true rfl) ?_
  rintro _ _ ⟨rfl, rfl⟩
  refine mv_G_run 1 (F' := (154, [some (.ref 59), some (.int v1), some (.int v2), none, some (.int v4), some (.int v5), some (.int v6), some (.int s0)], [.int v4], 0, 0, kjS f r3.1 r3.2)) rfl ?_
  by_cases hw5 : (v4).toInt = 0 ∨ (v4).toInt = 1 ∨ (v4).toInt = 42 ∨ (v4).toInt = 44 ∨ (v4).toInt = 45 ∨ (v4).toInt = 52
  · rw [if_pos hw5] at h
    refine mv_G_sw (tgt := 380) (off := 226) rfl (by rcases hw5 with hw5 | hw5 | hw5 | hw5 | hw5 | hw5 <;> (simp only [mv_sw, hw5]; rfl)) (by decide) ?_
    refine mv_G_run 2 (F' := (382, [some (.ref 59), some (.int v1), some (.int v2), none, some (.int v4), some (.int v5), some (.int v6), some (.int s0)], [.int (1 : Int32), .ref 59], 0, 0, kjS f r3.1 r3.2)) rfl ?_
    obtain ⟨r6, hc7, h⟩ := mv_bd h
    refine mv_G_call (r := []) (kf131_ok _ _ _ _ _ _ hc7) rfl rfl rfl rfl rfl (Nat.le_of_ble_eq_true rfl) (Nat.le_of_ble_eq_true rfl) (Nat.le_of_ble_eq_true rfl) ?_
    rintro _ _ ⟨rfl, rfl⟩
    refine mv_G_run 1 (F' := (565, [some (.ref 59), some (.int v1), some (.int v2), none, some (.int v4), some (.int v5), some (.int v6), some (.int s0)], [], 0, 0, kjS f r6.1 r6.2)) rfl ?_
    obtain rfl := Option.some.inj h
    exact mv_G_ret rfl rfl rfl (Nat.le_refl _) trivial ⟨rfl, rfl⟩
  rw [if_neg hw5] at h
  by_cases hw8 : (v4).toInt = 2
  · rw [if_pos hw8] at h
    refine mv_G_sw (tgt := 388) (off := 234) rfl (by simp only [mv_sw, hw8]; rfl) (by decide) ?_
    refine mv_G_run 2 (F' := (390, [some (.ref 59), some (.int v1), some (.int v2), none, some (.int v4), some (.int v5), some (.int v6), some (.int s0)], [.int (3 : Int32), .ref 59], 0, 0, kjS f r3.1 r3.2)) rfl ?_
    obtain ⟨r9, hc10, h⟩ := mv_bd h
    refine mv_G_call (r := []) (kf131_ok _ _ _ _ _ _ hc10) rfl rfl rfl rfl rfl (Nat.le_of_ble_eq_true rfl) (Nat.le_of_ble_eq_true rfl) (Nat.le_of_ble_eq_true rfl) ?_
    rintro _ _ ⟨rfl, rfl⟩
    refine mv_G_run 1 (F' := (565, [some (.ref 59), some (.int v1), some (.int v2), none, some (.int v4), some (.int v5), some (.int v6), some (.int s0)], [], 0, 0, kjS f r9.1 r9.2)) rfl ?_
    obtain rfl := Option.some.inj h
    exact mv_G_ret rfl rfl rfl (Nat.le_refl _) trivial ⟨rfl, rfl⟩
  rw [if_neg hw8] at h
  by_cases hw11 : (v4).toInt = 3
  · rw [if_pos hw11] at h
    refine mv_G_sw (tgt := 396) (off := 242) rfl (by simp only [mv_sw, hw11]; rfl) (by decide) ?_
    refine mv_G_run 4 (F' := (403, [some (.ref 59), some (.int v1), some (.int v2), none, some (.int v4), some (.int v5), some (.int v6), some (.int s0)], [.int v5, .ref 80, .ref 59], 0, 0, kjS f r3.1 r3.2)) rfl ?_
    obtain ⟨hi12, h⟩ := mv_bifs h
    refine mv_G_ald rfl rfl (mv_in_ok hi12) ?_
    obtain ⟨r13, hc14, h⟩ := mv_bd h
    refine mv_G_call (r := []) (kf131_ok _ _ _ _ _ _ hc14) rfl rfl rfl rfl rfl (Nat.le_of_ble_eq_true rfl) (Nat.le_of_ble_eq_true rfl) (Nat.le_of_ble_eq_true rfl) ?_
    rintro _ _ ⟨rfl, rfl⟩
    refine mv_G_run 1 (F' := (565, [some (.ref 59), some (.int v1), some (.int v2), none, some (.int v4), some (.int v5), some (.int v6), some (.int s0)], [], 0, 0, kjS f r13.1 r13.2)) rfl ?_
    obtain rfl := Option.some.inj h
    exact mv_G_ret rfl rfl rfl (Nat.le_refl _) trivial ⟨rfl, rfl⟩
  rw [if_neg hw11] at h
  by_cases hw15 : (v4).toInt = 4
  · rw [if_pos hw15] at h
    refine mv_G_sw (tgt := 410) (off := 256) rfl (by simp only [mv_sw, hw15]; rfl) (by decide) ?_
    refine mv_G_run 4 (F' := (418, [some (.ref 59), some (.int v1), some (.int v2), none, some (.int v4), some (.int v5), some (.int v6), some (.int s0)], [.int v6, .int v5, .ref 80], 0, 0, kjS f r3.1 r3.2)) rfl ?_
    obtain ⟨hi16, h⟩ := mv_bifs h
    refine mv_G_ast rfl rfl (mv_in_ok hi16) ?_
    refine mv_G_run 1 (F' := (565, [some (.ref 59), some (.int v1), some (.int v2), none, some (.int v4), some (.int v5), some (.int v6), some (.int s0)], [], 0, 0, kjS f (mv_up r3.1 80 (Int32.toNatClampNeg v5) v6) r3.2)) rfl ?_
    obtain rfl := Option.some.inj h
    exact mv_G_ret rfl rfl rfl (Nat.le_refl _) trivial ⟨rfl, rfl⟩
  rw [if_neg hw15] at h
  by_cases hw17 : (v4).toInt = 6
  · rw [if_pos hw17] at h
    refine mv_G_sw (tgt := 422) (off := 268) rfl (by simp only [mv_sw, hw17]; rfl) (by decide) ?_
    refine mv_G_run 2 (F' := (425, [some (.ref 59), some (.int v1), some (.int v2), none, some (.int v4), some (.int v5), some (.int v6), some (.int s0)], [.int v6, .ref 59], 0, 0, kjS f r3.1 r3.2)) rfl ?_
    obtain ⟨r18, hc19, h⟩ := mv_bd h
    refine mv_G_call (r := []) (kf131_ok _ _ _ _ _ _ hc19) rfl rfl rfl rfl rfl (Nat.le_of_ble_eq_true rfl) (Nat.le_of_ble_eq_true rfl) (Nat.le_of_ble_eq_true rfl) ?_
    rintro _ _ ⟨rfl, rfl⟩
    refine mv_G_run 2 (F' := (431, [some (.ref 59), some (.int v1), some (.int v2), none, some (.int v4), some (.int v5), some (.int v6), some (.int s0)], [.int v6, .ref 59], 0, 0, kjS f r18.1 r18.2)) rfl ?_
    obtain ⟨r20, hc21, h⟩ := mv_bd h
    refine mv_G_call (r := []) (kf131_ok _ _ _ _ _ _ hc21) rfl rfl rfl rfl rfl (Nat.le_of_ble_eq_true rfl) (Nat.le_of_ble_eq_true rfl) (Nat.le_of_ble_eq_true rfl) ?_
    rintro _ _ ⟨rfl, rfl⟩
    refine mv_G_run 1 (F' := (565, [some (.ref 59), some (.int v1), some (.int v2), none, some (.int v4), some (.int v5), some (.int v6), some (.int s0)], [], 0, 0, kjS f r20.1 r20.2)) rfl ?_
    obtain rfl := Option.some.inj h
    exact mv_G_ret rfl rfl rfl (Nat.le_refl _) trivial ⟨rfl, rfl⟩
  rw [if_neg hw17] at h
  by_cases hw22 : (v4).toInt = 7
  · rw [if_pos hw22] at h
    refine mv_G_sw (tgt := 437) (off := 283) rfl (by simp only [mv_sw, hw22]; rfl) (by decide) ?_
    refine mv_G_run 2 (F' := (440, [some (.ref 59), some (.int v1), some (.int v2), none, some (.int v4), some (.int v5), some (.int v6), some (.int s0)], [.int v6, .ref 59], 0, 0, kjS f r3.1 r3.2)) rfl ?_
    obtain ⟨r23, hc24, h⟩ := mv_bd h
    refine mv_G_call (r := []) (kf131_ok _ _ _ _ _ _ hc24) rfl rfl rfl rfl rfl (Nat.le_of_ble_eq_true rfl) (Nat.le_of_ble_eq_true rfl) (Nat.le_of_ble_eq_true rfl) ?_
    rintro _ _ ⟨rfl, rfl⟩
    refine mv_G_run 2 (F' := (446, [some (.ref 59), some (.int v1), some (.int v2), none, some (.int v4), some (.int v5), some (.int v6), some (.int s0)], [.int s0, .ref 59], 0, 0, kjS f r23.1 r23.2)) rfl ?_
    obtain ⟨r25, hc26, h⟩ := mv_bd h
    refine mv_G_call (r := []) (kf131_ok _ _ _ _ _ _ hc26) rfl rfl rfl rfl rfl (Nat.le_of_ble_eq_true rfl) (Nat.le_of_ble_eq_true rfl) (Nat.le_of_ble_eq_true rfl) ?_
    rintro _ _ ⟨rfl, rfl⟩
    refine mv_G_run 1 (F' := (565, [some (.ref 59), some (.int v1), some (.int v2), none, some (.int v4), some (.int v5), some (.int v6), some (.int s0)], [], 0, 0, kjS f r25.1 r25.2)) rfl ?_
    obtain rfl := Option.some.inj h
    exact mv_G_ret rfl rfl rfl (Nat.le_refl _) trivial ⟨rfl, rfl⟩
  rw [if_neg hw22] at h
  by_cases hw27 : (v4).toInt = 38 ∨ (v4).toInt = 46
  · rw [if_pos hw27] at h
    refine mv_G_sw (tgt := 452) (off := 298) rfl (by rcases hw27 with hw27 | hw27 <;> (simp only [mv_sw, hw27]; rfl)) (by decide) ?_
    refine mv_G_run 4 (F' := (458, [some (.ref 59), some (.int v1), some (.int v2), none, some (.int v4), some (.int v5), some (.int v6), some (.int s0)], [.int ((16 : Int32) + v5), .ref 59], 0, 0, kjS f r3.1 r3.2)) rfl ?_
    obtain ⟨r28, hc29, h⟩ := mv_bd h
    refine mv_G_call (r := []) (kf131_ok _ _ _ _ _ _ hc29) rfl rfl rfl rfl rfl (Nat.le_of_ble_eq_true rfl) (Nat.le_of_ble_eq_true rfl) (Nat.le_of_ble_eq_true rfl) ?_
    rintro _ _ ⟨rfl, rfl⟩
    refine mv_G_run 1 (F' := (565, [some (.ref 59), some (.int v1), some (.int v2), none, some (.int v4), some (.int v5), some (.int v6), some (.int s0)], [], 0, 0, kjS f r28.1 r28.2)) rfl ?_
    obtain rfl := Option.some.inj h
    exact mv_G_ret rfl rfl rfl (Nat.le_refl _) trivial ⟨rfl, rfl⟩
  rw [if_neg hw27] at h
  by_cases hw30 : (v4).toInt = 39
  · rw [if_pos hw30] at h
    refine mv_G_sw (tgt := 464) (off := 310) rfl (by simp only [mv_sw, hw30]; rfl) (by decide) ?_
    refine mv_G_run 11 (F' := (479, [some (.ref 59), some (.int v1), some (.int v2), none, some (.int v4), some (.int v5), some (.int v6), some (.int s0)], [.int (v2 + (2 : Int32)), .int v1, .ref 59, .int ((8 : Int32) * v5), .ref 65, .ref 59], 0, 0, kjS f r3.1 r3.2)) rfl ?_
    obtain ⟨r31, hc32, h⟩ := mv_bd h
    refine mv_G_call (r := [.int ((8 : Int32) * v5), .ref 65, .ref 59]) (kf115_ok _ _ _ _ _ _ _ hc32) rfl rfl rfl rfl rfl (Nat.le_of_ble_eq_true rfl) (Nat.le_of_ble_eq_true rfl) (Nat.le_of_ble_eq_true rfl) ?_
    rintro _ _ ⟨rfl, rfl⟩
    refine mv_G_run 1 (F' := (483, [some (.ref 59), some (.int v1), some (.int v2), none, some (.int v4), some (.int v5), some (.int v6), some (.int s0)], [.int (((8 : Int32) * v5) + r31), .ref 65, .ref 59], 0, 0, kjS f r3.1 r3.2)) rfl ?_
    obtain ⟨hi33, h⟩ := mv_bifs h
    refine mv_G_ald rfl rfl (mv_in_ok hi33) ?_
    obtain ⟨r34, hc35, h⟩ := mv_bd h
    refine mv_G_call (r := []) (kf131_ok _ _ _ _ _ _ hc35) rfl rfl rfl rfl rfl (Nat.le_of_ble_eq_true rfl) (Nat.le_of_ble_eq_true rfl) (Nat.le_of_ble_eq_true rfl) ?_
    rintro _ _ ⟨rfl, rfl⟩
    refine mv_G_run 1 (F' := (565, [some (.ref 59), some (.int v1), some (.int v2), none, some (.int v4), some (.int v5), some (.int v6), some (.int s0)], [], 0, 0, kjS f r34.1 r34.2)) rfl ?_
    obtain rfl := Option.some.inj h
    exact mv_G_ret rfl rfl rfl (Nat.le_refl _) trivial ⟨rfl, rfl⟩
  rw [if_neg hw30] at h
  by_cases hw36 : (v4).toInt = 41
  · rw [if_pos hw36] at h
    refine mv_G_sw (tgt := 490) (off := 336) rfl (by simp only [mv_sw, hw36]; rfl) (by decide) ?_
    refine mv_G_run 2 (F' := (492, [some (.ref 59), some (.int v1), some (.int v2), none, some (.int v4), some (.int v5), some (.int v6), some (.int s0)], [.int (2 : Int32), .ref 59], 0, 0, kjS f r3.1 r3.2)) rfl ?_
    obtain ⟨r37, hc38, h⟩ := mv_bd h
    refine mv_G_call (r := []) (kf131_ok _ _ _ _ _ _ hc38) rfl rfl rfl rfl rfl (Nat.le_of_ble_eq_true rfl) (Nat.le_of_ble_eq_true rfl) (Nat.le_of_ble_eq_true rfl) ?_
    rintro _ _ ⟨rfl, rfl⟩
    refine mv_G_run 1 (F' := (565, [some (.ref 59), some (.int v1), some (.int v2), none, some (.int v4), some (.int v5), some (.int v6), some (.int s0)], [], 0, 0, kjS f r37.1 r37.2)) rfl ?_
    obtain rfl := Option.some.inj h
    exact mv_G_ret rfl rfl rfl (Nat.le_refl _) trivial ⟨rfl, rfl⟩
  rw [if_neg hw36] at h
  by_cases hw39 : (v4).toInt = 47
  · rw [if_pos hw39] at h
    refine mv_G_sw (tgt := 498) (off := 344) rfl (by simp only [mv_sw, hw39]; rfl) (by decide) ?_
    refine mv_G_run 3 (F' := (504, [some (.ref 59), some (.int v1), some (.int v2), none, some (.int v4), some (.int v5), some (.int v6), some (.int s0)], [.int v5, .ref 71], 0, 0, kjS f r3.1 r3.2)) rfl ?_
    obtain ⟨hi40, h⟩ := mv_bifs h
    refine mv_G_ald rfl rfl (mv_in_ok hi40) ?_
    by_cases hc41 : (r3.1 71 (Int32.toNatClampNeg v5)) ≤ 0
    · rw [if_pos hc41] at h
      refine mv_G_br (tgt := 565) rfl rfl (by decide) (fun _ => ?_) (fun z => absurd hc41 z)
      obtain rfl := Option.some.inj h
      exact mv_G_ret rfl rfl rfl (Nat.le_refl _) trivial ⟨rfl, rfl⟩
    · rw [if_neg hc41] at h
      refine mv_G_br (tgt := 565) rfl rfl (by decide) (fun z => absurd z hc41) (fun _ => ?_)
      refine mv_G_run 4 (F' := (515, [some (.ref 59), some (.int v1), some (.int v2), none, some (.int v4), some (.int v5), some (.int v6), some (.int s0)], [.int v5, .ref 71, .ref 59], 0, 0, kjS f r3.1 r3.2)) rfl ?_
      obtain ⟨hi42, h⟩ := mv_bifs h
      refine mv_G_ald rfl rfl (mv_in_ok hi42) ?_
      obtain ⟨r43, hc44, h⟩ := mv_bd h
      refine mv_G_call (r := []) (kf131_ok _ _ _ _ _ _ hc44) rfl rfl rfl rfl rfl (Nat.le_of_ble_eq_true rfl) (Nat.le_of_ble_eq_true rfl) (Nat.le_of_ble_eq_true rfl) ?_
      rintro _ _ ⟨rfl, rfl⟩
      refine mv_G_run 1 (F' := (565, [some (.ref 59), some (.int v1), some (.int v2), none, some (.int v4), some (.int v5), some (.int v6), some (.int s0)], [], 0, 0, kjS f r43.1 r43.2)) rfl ?_
      obtain rfl := Option.some.inj h
      exact mv_G_ret rfl rfl rfl (Nat.le_refl _) trivial ⟨rfl, rfl⟩
  rw [if_neg hw39] at h
  by_cases hw45 : (v4).toInt = 48
  · rw [if_pos hw45] at h
    refine mv_G_sw (tgt := 522) (off := 368) rfl (by simp only [mv_sw, hw45]; rfl) (by decide) ?_
    refine mv_G_run 3 (F' := (528, [some (.ref 59), some (.int v1), some (.int v2), none, some (.int v4), some (.int v5), some (.int v6), some (.int s0)], [.int v5, .ref 68], 0, 0, kjS f r3.1 r3.2)) rfl ?_
    obtain ⟨hi46, h⟩ := mv_bifs h
    refine mv_G_ald rfl rfl (mv_in_ok hi46) ?_
    by_cases hc47 : (r3.1 68 (Int32.toNatClampNeg v5)) ≤ 0
    · rw [if_pos hc47] at h
      refine mv_G_br (tgt := 565) rfl rfl (by decide) (fun _ => ?_) (fun z => absurd hc47 z)
      obtain rfl := Option.some.inj h
      exact mv_G_ret rfl rfl rfl (Nat.le_refl _) trivial ⟨rfl, rfl⟩
    · rw [if_neg hc47] at h
      refine mv_G_br (tgt := 565) rfl rfl (by decide) (fun z => absurd z hc47) (fun _ => ?_)
      refine mv_G_run 4 (F' := (539, [some (.ref 59), some (.int v1), some (.int v2), none, some (.int v4), some (.int v5), some (.int v6), some (.int s0)], [.int v5, .ref 68, .ref 59], 0, 0, kjS f r3.1 r3.2)) rfl ?_
      obtain ⟨hi48, h⟩ := mv_bifs h
      refine mv_G_ald rfl rfl (mv_in_ok hi48) ?_
      obtain ⟨r49, hc50, h⟩ := mv_bd h
      refine mv_G_call (r := []) (kf131_ok _ _ _ _ _ _ hc50) rfl rfl rfl rfl rfl (Nat.le_of_ble_eq_true rfl) (Nat.le_of_ble_eq_true rfl) (Nat.le_of_ble_eq_true rfl) ?_
      rintro _ _ ⟨rfl, rfl⟩
      refine mv_G_run 1 (F' := (565, [some (.ref 59), some (.int v1), some (.int v2), none, some (.int v4), some (.int v5), some (.int v6), some (.int s0)], [], 0, 0, kjS f r49.1 r49.2)) rfl ?_
      obtain rfl := Option.some.inj h
      exact mv_G_ret rfl rfl rfl (Nat.le_refl _) trivial ⟨rfl, rfl⟩
  rw [if_neg hw45] at h
  refine mv_G_sw (tgt := 546) (off := 392) rfl (by
    have hz55 : ((v4).toInt < 0 ∨ 52 < (v4).toInt) ∨ (v4).toInt = 5 ∨ (v4).toInt = 8 ∨ (v4).toInt = 9 ∨ (v4).toInt = 10 ∨ (v4).toInt = 11 ∨ (v4).toInt = 12 ∨ (v4).toInt = 13 ∨ (v4).toInt = 14 ∨ (v4).toInt = 15 ∨ (v4).toInt = 16 ∨ (v4).toInt = 17 ∨ (v4).toInt = 18 ∨ (v4).toInt = 19 ∨ (v4).toInt = 20 ∨ (v4).toInt = 21 ∨ (v4).toInt = 22 ∨ (v4).toInt = 23 ∨ (v4).toInt = 24 ∨ (v4).toInt = 25 ∨ (v4).toInt = 26 ∨ (v4).toInt = 27 ∨ (v4).toInt = 28 ∨ (v4).toInt = 29 ∨ (v4).toInt = 30 ∨ (v4).toInt = 31 ∨ (v4).toInt = 32 ∨ (v4).toInt = 33 ∨ (v4).toInt = 34 ∨ (v4).toInt = 35 ∨ (v4).toInt = 36 ∨ (v4).toInt = 37 ∨ (v4).toInt = 40 ∨ (v4).toInt = 43 ∨ (v4).toInt = 49 ∨ (v4).toInt = 50 ∨ (v4).toInt = 51 := by omega
    rcases hz55 with hz55 | hz55 | hz55 | hz55 | hz55 | hz55 | hz55 | hz55 | hz55 | hz55 | hz55 | hz55 | hz55 | hz55 | hz55 | hz55 | hz55 | hz55 | hz55 | hz55 | hz55 | hz55 | hz55 | hz55 | hz55 | hz55 | hz55 | hz55 | hz55 | hz55 | hz55 | hz55 | hz55 | hz55 | hz55 | hz55 | hz55
    · exact if_pos hz55
    · simp only [mv_sw, hz55]; rfl
    · simp only [mv_sw, hz55]; rfl
    · simp only [mv_sw, hz55]; rfl
    · simp only [mv_sw, hz55]; rfl
    · simp only [mv_sw, hz55]; rfl
    · simp only [mv_sw, hz55]; rfl
    · simp only [mv_sw, hz55]; rfl
    · simp only [mv_sw, hz55]; rfl
    · simp only [mv_sw, hz55]; rfl
    · simp only [mv_sw, hz55]; rfl
    · simp only [mv_sw, hz55]; rfl
    · simp only [mv_sw, hz55]; rfl
    · simp only [mv_sw, hz55]; rfl
    · simp only [mv_sw, hz55]; rfl
    · simp only [mv_sw, hz55]; rfl
    · simp only [mv_sw, hz55]; rfl
    · simp only [mv_sw, hz55]; rfl
    · simp only [mv_sw, hz55]; rfl
    · simp only [mv_sw, hz55]; rfl
    · simp only [mv_sw, hz55]; rfl
    · simp only [mv_sw, hz55]; rfl
    · simp only [mv_sw, hz55]; rfl
    · simp only [mv_sw, hz55]; rfl
    · simp only [mv_sw, hz55]; rfl
    · simp only [mv_sw, hz55]; rfl
    · simp only [mv_sw, hz55]; rfl
    · simp only [mv_sw, hz55]; rfl
    · simp only [mv_sw, hz55]; rfl
    · simp only [mv_sw, hz55]; rfl
    · simp only [mv_sw, hz55]; rfl
    · simp only [mv_sw, hz55]; rfl
    · simp only [mv_sw, hz55]; rfl
    · simp only [mv_sw, hz55]; rfl
    · simp only [mv_sw, hz55]; rfl
    · simp only [mv_sw, hz55]; rfl
    · simp only [mv_sw, hz55]; rfl) (by decide) ?_
  refine mv_G_run 2 (F' := (550, [some (.ref 59), some (.int v1), some (.int v2), none, some (.int v4), some (.int v5), some (.int v6), some (.int s0)], [.int (8 : Int32), .int v4], 0, 0, kjS f r3.1 r3.2)) rfl ?_
  by_cases hc51 : v4 < (8 : Int32)
  · rw [if_pos hc51] at h
    refine mv_G_br (tgt := 565) rfl rfl (by decide) (fun _ => ?_) (fun z => absurd hc51 z)
    obtain rfl := Option.some.inj h
    exact mv_G_ret rfl rfl rfl (Nat.le_refl _) trivial ⟨rfl, rfl⟩
  · rw [if_neg hc51] at h
    refine mv_G_br (tgt := 565) rfl rfl (by decide) (fun z => absurd z hc51) (fun _ => ?_)
    refine mv_G_run 2 (F' := (557, [some (.ref 59), some (.int v1), some (.int v2), none, some (.int v4), some (.int v5), some (.int v6), some (.int s0)], [.int (19 : Int32), .int v4], 0, 0, kjS f r3.1 r3.2)) rfl ?_
    by_cases hc52 : (19 : Int32) < v4
    · rw [if_pos hc52] at h
      refine mv_G_br (tgt := 565) rfl rfl (by decide) (fun _ => ?_) (fun z => absurd hc52 z)
      obtain rfl := Option.some.inj h
      exact mv_G_ret rfl rfl rfl (Nat.le_refl _) trivial ⟨rfl, rfl⟩
    · rw [if_neg hc52] at h
      refine mv_G_br (tgt := 565) rfl rfl (by decide) (fun z => absurd z hc52) (fun _ => ?_)
      refine mv_G_run 2 (F' := (562, [some (.ref 59), some (.int v1), some (.int v2), none, some (.int v4), some (.int v5), some (.int v6), some (.int s0)], [.int (1 : Int32), .ref 59], 0, 0, kjS f r3.1 r3.2)) rfl ?_
      obtain ⟨r53, hc54, h⟩ := mv_bd h
      refine mv_G_call (r := []) (kf131_ok _ _ _ _ _ _ hc54) rfl rfl rfl rfl rfl (Nat.le_of_ble_eq_true rfl) (Nat.le_of_ble_eq_true rfl) (Nat.le_of_ble_eq_true rfl) ?_
      rintro _ _ ⟨rfl, rfl⟩
      obtain rfl := Option.some.inj h
      exact mv_G_ret rfl rfl rfl (Nat.le_refl _) trivial ⟨rfl, rfl⟩
def kf134_114 (N : Nat) (v1 : Int32) (v2 : Int32) (v4 : Int32) (v5 : Int32) (s0 : Int32) (I : kjI) (L : kjL) : Option (kjI × kjL) :=
  if (I 59 33) ≤ (1 : Int32) then (kf134_140 N v1 v2 v4 v5 s0 (0 : Int32) I L) else (bif mv_in ((6 : Int32) + (I 59 33)) 16 then (kf134_140 N v1 v2 v4 v5 s0 (I 80 (Int32.toNatClampNeg ((6 : Int32) + (I 59 33)))) I L) else none)
set_option maxRecDepth 100000 in
set_option maxHeartbeats 4000000 in
theorem kf134_114_ok (f : Bool) (N : Nat) (d : Nat)  (v1 : Int32) (v2 : Int32) (v4 : Int32) (v5 : Int32) (s0 : Int32) (I : kjI) (L : kjL) (r : kjI × kjL) (h : kf134_114 N v1 v2 v4 v5 s0 I L = some r) : mv_G kjP kjSta (mv_C kjP kjSta (d + 2)) kjM_134 (kjQwv f r) (114, [some (.ref 59), some (.int v1), some (.int v2), none, some (.int v4), some (.int v5), none, none], [.int s0], 0, 0, kjS f I L) := by
  unfold kf134_114 at h
  refine mv_G_run 4 (F' := (121, [some (.ref 59), some (.int v1), some (.int v2), none, some (.int v4), some (.int v5), some (.int s0), none], [.int (1 : Int32), .int (I 59 33)], 0, 0, kjS f I L)) rfl ?_
  by_cases hc1 : (I 59 33) ≤ (1 : Int32)
  · rw [if_pos hc1] at h
    refine mv_G_br (tgt := 139) rfl rfl (by decide) (fun _ => ?_) (fun z => absurd hc1 z)
    refine mv_G_run 1 (F' := (140, [some (.ref 59), some (.int v1), some (.int v2), none, some (.int v4), some (.int v5), some (.int s0), none], [.int (0 : Int32)], 0, 0, kjS f I L)) rfl ?_
    exact kf134_140_ok _ _ d _ _ _ _ _ _ _ _ _ h
  · rw [if_neg hc1] at h
    refine mv_G_br (tgt := 139) rfl rfl (by decide) (fun z => absurd z hc1) (fun _ => ?_)
    refine mv_G_run 6 (F' := (135, [some (.ref 59), some (.int v1), some (.int v2), none, some (.int v4), some (.int v5), some (.int s0), none], [.int ((6 : Int32) + (I 59 33)), .ref 80], 0, 0, kjS f I L)) rfl ?_
    obtain ⟨hi2, h⟩ := mv_bifs h
    refine mv_G_ald rfl rfl (mv_in_ok hi2) ?_
    refine mv_G_run 1 (F' := (140, [some (.ref 59), some (.int v1), some (.int v2), none, some (.int v4), some (.int v5), some (.int s0), none], [.int (I 80 (Int32.toNatClampNeg ((6 : Int32) + (I 59 33))))], 0, 0, kjS f I L)) rfl ?_
    exact kf134_140_ok _ _ d _ _ _ _ _ _ _ _ _ h
def kf134_44 (N : Nat) : Nat → Int32 → Int32 → Int32 → Int32 → Int32 → Int32 → kjI → kjL → Option (kjI × kjL)
  | 0, _, _, _, _, _, _, _, _ => none
  | n + 1, v1, v2, v3, v4, v5, v6, I, L => if (16 : Int32) ≤ v6 then (bif mv_in v3 1920 then (if ((mv_up (mv_up I 59 33 (I 78 (Int32.toNatClampNeg v3))) 59 34 (0 : Int32)) 59 33) ≤ 0 then (kf134_114 N v1 v2 v4 v5 (0 : Int32) (mv_up (mv_up I 59 33 (I 78 (Int32.toNatClampNeg v3))) 59 34 (0 : Int32)) L) else (bif mv_in ((7 : Int32) + ((mv_up (mv_up I 59 33 (I 78 (Int32.toNatClampNeg v3))) 59 34 (0 : Int32)) 59 33)) 16 then (kf134_114 N v1 v2 v4 v5 ((mv_up (mv_up I 59 33 (I 78 (Int32.toNatClampNeg v3))) 59 34 (0 : Int32)) 80 (Int32.toNatClampNeg ((7 : Int32) + ((mv_up (mv_up I 59 33 (I 78 (Int32.toNatClampNeg v3))) 59 34 (0 : Int32)) 59 33)))) (mv_up (mv_up I 59 33 (I 78 (Int32.toNatClampNeg v3))) 59 34 (0 : Int32)) L) else none)) else none) else (bif mv_in (((16 : Int32) * v3) + v6) 30720 then (bif mv_in v6 16 then ((fun v1 v2 v3 v4 v5 v6 I L => kf134_44 N n v1 v2 v3 v4 v5 v6 I L) v1 v2 v3 v4 v5 (v6 + (1 : Int32)) (mv_up I 80 (Int32.toNatClampNeg v6) (I 79 (Int32.toNatClampNeg (((16 : Int32) * v3) + v6)))) L) else none) else none)
set_option maxRecDepth 100000 in
set_option maxHeartbeats 4000000 in
theorem kf134_44_ok (f : Bool) (N : Nat) (d : Nat)  : ∀ (n : Nat) (v1 : Int32) (v2 : Int32) (v3 : Int32) (v4 : Int32) (v5 : Int32) (v6 : Int32) (I : kjI) (L : kjL) (r : kjI × kjL), kf134_44 N n v1 v2 v3 v4 v5 v6 I L = some r → mv_G kjP kjSta (mv_C kjP kjSta (d + 2)) kjM_134 (kjQwv f r) (44, [some (.ref 59), some (.int v1), some (.int v2), some (.int v3), some (.int v4), some (.int v5), some (.int v6), none], [], 0, 0, kjS f I L) := by
  intro n
  induction n with
  | zero => intro v1 v2 v3 v4 v5 v6 I L r h; cases h
  | succ n ih =>
    have hk44 := ih
    intro v1 v2 v3 v4 v5 v6 I L r h
    unfold kf134_44 at h
    refine mv_G_run 2 (F' := (48, [some (.ref 59), some (.int v1), some (.int v2), some (.int v3), some (.int v4), some (.int v5), some (.int v6), none], [.int (16 : Int32), .int v6], 0, 0, kjS f I L)) rfl ?_
    by_cases hc1 : (16 : Int32) ≤ v6
    · rw [if_pos hc1] at h
      refine mv_G_br (tgt := 76) rfl rfl (by decide) (fun _ => ?_) (fun z => absurd hc1 z)
      refine mv_G_run 4 (F' := (82, [some (.ref 59), some (.int v1), some (.int v2), some (.int v3), some (.int v4), some (.int v5), some (.int v6), none], [.int v3, .ref 78, .ref 59], 0, 0, kjS f I L)) rfl ?_
      obtain ⟨hi2, h⟩ := mv_bifs h
      refine mv_G_ald rfl rfl (mv_in_ok hi2) ?_
      refine mv_G_run 6 (F' := (95, [some (.ref 59), some (.int v1), some (.int v2), some (.int v3), some (.int v4), some (.int v5), some (.int v6), none], [.int ((mv_up (mv_up I 59 33 (I 78 (Int32.toNatClampNeg v3))) 59 34 (0 : Int32)) 59 33)], 0, 0, kjS f (mv_up (mv_up I 59 33 (I 78 (Int32.toNatClampNeg v3))) 59 34 (0 : Int32)) L)) rfl ?_
      by_cases hc3 : ((mv_up (mv_up I 59 33 (I 78 (Int32.toNatClampNeg v3))) 59 34 (0 : Int32)) 59 33) ≤ 0
      · rw [if_pos hc3] at h
        refine mv_G_br (tgt := 113) rfl rfl (by decide) (fun _ => ?_) (fun z => absurd hc3 z)
        refine mv_G_run 1 (F' := (114, [some (.ref 59), some (.int v1), some (.int v2), some (.int v3), some (.int v4), some (.int v5), some (.int v6), none], [.int (0 : Int32)], 0, 0, kjS f (mv_up (mv_up I 59 33 (I 78 (Int32.toNatClampNeg v3))) 59 34 (0 : Int32)) L)) rfl ?_
        refine mv_G_fg (lc' := [some (.ref 59), some (.int v1), some (.int v2), none, some (.int v4), some (.int v5), none, none]) (And.intro rfl (And.intro rfl (And.intro rfl (And.intro rfl (And.intro rfl trivial))))) ?_
        exact kf134_114_ok _ _ d _ _ _ _ _ _ _ _ h
      · rw [if_neg hc3] at h
        refine mv_G_br (tgt := 113) rfl rfl (by decide) (fun z => absurd z hc3) (fun _ => ?_)
        refine mv_G_run 6 (F' := (109, [some (.ref 59), some (.int v1), some (.int v2), some (.int v3), some (.int v4), some (.int v5), some (.int v6), none], [.int ((7 : Int32) + ((mv_up (mv_up I 59 33 (I 78 (Int32.toNatClampNeg v3))) 59 34 (0 : Int32)) 59 33)), .ref 80], 0, 0, kjS f (mv_up (mv_up I 59 33 (I 78 (Int32.toNatClampNeg v3))) 59 34 (0 : Int32)) L)) rfl ?_
        obtain ⟨hi4, h⟩ := mv_bifs h
        refine mv_G_ald rfl rfl (mv_in_ok hi4) ?_
        refine mv_G_run 1 (F' := (114, [some (.ref 59), some (.int v1), some (.int v2), some (.int v3), some (.int v4), some (.int v5), some (.int v6), none], [.int ((mv_up (mv_up I 59 33 (I 78 (Int32.toNatClampNeg v3))) 59 34 (0 : Int32)) 80 (Int32.toNatClampNeg ((7 : Int32) + ((mv_up (mv_up I 59 33 (I 78 (Int32.toNatClampNeg v3))) 59 34 (0 : Int32)) 59 33))))], 0, 0, kjS f (mv_up (mv_up I 59 33 (I 78 (Int32.toNatClampNeg v3))) 59 34 (0 : Int32)) L)) rfl ?_
        refine mv_G_fg (lc' := [some (.ref 59), some (.int v1), some (.int v2), none, some (.int v4), some (.int v5), none, none]) (And.intro rfl (And.intro rfl (And.intro rfl (And.intro rfl (And.intro rfl trivial))))) ?_
        exact kf134_114_ok _ _ d _ _ _ _ _ _ _ _ h
    · rw [if_neg hc1] at h
      refine mv_G_br (tgt := 76) rfl rfl (by decide) (fun z => absurd z hc1) (fun _ => ?_)
      refine mv_G_run 10 (F' := (68, [some (.ref 59), some (.int v1), some (.int v2), some (.int v3), some (.int v4), some (.int v5), some (.int v6), none], [.int (((16 : Int32) * v3) + v6), .ref 79, .int v6, .ref 80], 0, 0, kjS f I L)) rfl ?_
      obtain ⟨hi5, h⟩ := mv_bifs h
      refine mv_G_ald rfl rfl (mv_in_ok hi5) ?_
      obtain ⟨hi6, h⟩ := mv_bifs h
      refine mv_G_ast rfl rfl (mv_in_ok hi6) ?_
      refine mv_G_run 2 (F' := (44, [some (.ref 59), some (.int v1), some (.int v2), some (.int v3), some (.int v4), some (.int v5), some (.int (v6 + (1 : Int32))), none], [], 0, 0, kjS f (mv_up I 80 (Int32.toNatClampNeg v6) (I 79 (Int32.toNatClampNeg (((16 : Int32) * v3) + v6)))) L)) rfl ?_
      exact hk44 v1 v2 v3 v4 v5 (v6 + (1 : Int32)) (mv_up I 80 (Int32.toNatClampNeg v6) (I 79 (Int32.toNatClampNeg (((16 : Int32) * v3) + v6)))) L _ h
def kf134_39 (N : Nat) (v1 : Int32) (v2 : Int32) (v3 : Int32) (v4 : Int32) (s0 : Int32) (I : kjI) (L : kjL) : Option (kjI × kjL) :=
  kf134_44 N N v1 v2 v3 v4 s0 (0 : Int32) I L
set_option maxRecDepth 100000 in
set_option maxHeartbeats 4000000 in
theorem kf134_39_ok (f : Bool) (N : Nat) (d : Nat)  (v1 : Int32) (v2 : Int32) (v3 : Int32) (v4 : Int32) (s0 : Int32) (I : kjI) (L : kjL) (r : kjI × kjL) (h : kf134_39 N v1 v2 v3 v4 s0 I L = some r) : mv_G kjP kjSta (mv_C kjP kjSta (d + 2)) kjM_134 (kjQwv f r) (39, [some (.ref 59), some (.int v1), some (.int v2), some (.int v3), some (.int v4), none, none, none], [.int s0], 0, 0, kjS f I L) := by
  unfold kf134_39 at h
  refine mv_G_run 3 (F' := (44, [some (.ref 59), some (.int v1), some (.int v2), some (.int v3), some (.int v4), some (.int s0), some (.int (0 : Int32)), none], [], 0, 0, kjS f I L)) rfl ?_
  exact kf134_44_ok _ _ d _ _ _ _ _ _ _ _ _ _ h
def kf134 (N : Nat) (v1 : Int32) (v2 : Int32) (I : kjI) (L : kjL) : Option (kjI × kjL) :=
  (kf115 I L v1 v2).bind fun r1 => bif mv_in v1 16 then (if (I 74 (Int32.toNatClampNeg v1)) ≤ (v2 + (1 : Int32)) then (kf134_39 N v1 v2 (((120 : Int32) * v1) + v2) r1 (0 : Int32) I L) else ((kf115 I L v1 (v2 + (1 : Int32))).bind fun r5 => kf134_39 N v1 v2 (((120 : Int32) * v1) + v2) r1 r5 I L)) else none
set_option maxRecDepth 100000 in
set_option maxHeartbeats 4000000 in
theorem kf134_ok (f : Bool) (N : Nat) (v1 : Int32) (v2 : Int32) (I : kjI) (L : kjL) (d : Nat) (r : kjI × kjL) (h : kf134 N v1 v2 I L = some r) : mv_C kjP kjSta (d + 3) 134 [.ref 59, .int v1, .int v2] (kjS f I L) (kjQwv f r) := by
  unfold kf134 at h
  refine mv_C_in kjM_134 (lc := [some (.ref 59), some (.int v1), some (.int v2), none, none, none, none, none]) rfl rfl rfl ?_
  refine mv_G_run 9 (F' := (10, [some (.ref 59), some (.int v1), some (.int v2), some (.int (((120 : Int32) * v1) + v2)), none, none, none, none], [.int v2, .int v1, .ref 59], 0, 0, kjS f I L)) rfl ?_
  obtain ⟨r1, hc2, h⟩ := mv_bd h
  refine mv_G_call (r := []) (kf115_ok _ _ _ _ _ _ _ hc2) rfl rfl rfl rfl rfl (Nat.le_of_ble_eq_true rfl) (Nat.le_of_ble_eq_true rfl) (Nat.le_of_ble_eq_true rfl) ?_
  rintro _ _ ⟨rfl, rfl⟩
  refine mv_G_run 4 (F' := (20, [some (.ref 59), some (.int v1), some (.int v2), some (.int (((120 : Int32) * v1) + v2)), some (.int r1), none, none, none], [.int v1, .ref 74], 0, 0, kjS f I L)) rfl ?_
  obtain ⟨hi3, h⟩ := mv_bifs h
  refine mv_G_ald rfl rfl (mv_in_ok hi3) ?_
  refine mv_G_run 3 (F' := (24, [some (.ref 59), some (.int v1), some (.int v2), some (.int (((120 : Int32) * v1) + v2)), some (.int r1), none, none, none], [.int (v2 + (1 : Int32)), .int (I 74 (Int32.toNatClampNeg v1))], 0, 0, kjS f I L)) rfl ?_
  by_cases hc4 : (I 74 (Int32.toNatClampNeg v1)) ≤ (v2 + (1 : Int32))
  · rw [if_pos hc4] at h
    refine mv_G_br (tgt := 38) rfl rfl (by decide) (fun _ => ?_) (fun z => absurd hc4 z)
    refine mv_G_run 1 (F' := (39, [some (.ref 59), some (.int v1), some (.int v2), some (.int (((120 : Int32) * v1) + v2)), some (.int r1), none, none, none], [.int (0 : Int32)], 0, 0, kjS f I L)) rfl ?_
    exact kf134_39_ok _ _ d _ _ _ _ _ _ _ _ h
  · rw [if_neg hc4] at h
    refine mv_G_br (tgt := 38) rfl rfl (by decide) (fun z => absurd z hc4) (fun _ => ?_)
    refine mv_G_run 5 (F' := (32, [some (.ref 59), some (.int v1), some (.int v2), some (.int (((120 : Int32) * v1) + v2)), some (.int r1), none, none, none], [.int (v2 + (1 : Int32)), .int v1, .ref 59], 0, 0, kjS f I L)) rfl ?_
    obtain ⟨r5, hc6, h⟩ := mv_bd h
    refine mv_G_call (r := []) (kf115_ok _ _ _ _ _ _ _ hc6) rfl rfl rfl rfl rfl (Nat.le_of_ble_eq_true rfl) (Nat.le_of_ble_eq_true rfl) (Nat.le_of_ble_eq_true rfl) ?_
    rintro _ _ ⟨rfl, rfl⟩
    refine mv_G_run 1 (F' := (39, [some (.ref 59), some (.int v1), some (.int v2), some (.int (((120 : Int32) * v1) + v2)), some (.int r1), none, none, none], [.int r5], 0, 0, kjS f I L)) rfl ?_
    exact kf134_39_ok _ _ d _ _ _ _ _ _ _ _ h
/-! KindJudgeModel.goOn(II)Z on ('c', 59) -/
def kf129_221 (N : Nat) (s0 : Int32) (I : kjI) (L : kjL) : Option (Int32 × kjI × kjL) :=
  if s0 = 0 ∨ s0 = 1 then some (s0, I, L) else none
set_option maxRecDepth 100000 in
set_option maxHeartbeats 4000000 in
theorem kf129_221_ok (f : Bool) (N : Nat) (d : Nat)  (s0 : Int32) (I : kjI) (L : kjL) (r : Int32 × kjI × kjL) (h : kf129_221 N s0 I L = some r) : mv_G kjP kjSta (mv_C kjP kjSta (d + 4)) kjM_129 (kjQwi f r) (221, [none, none, none, none, none, none, none, none], [.int s0], 0, 0, kjS f I L) := by
  unfold kf129_221 at h
  refine mv_G_run 2 (F' := (225, [none, none, none, none, none, some (.int s0), none, none], [.int s0], 0, 0, kjS f I L)) rfl ?_
  obtain ⟨hb1, h⟩ := mv_ifs h
  obtain rfl := Option.some.inj h
  exact mv_G_ret rfl rfl rfl (Nat.le_refl _) hb1 ⟨rfl, rfl⟩
def kf129_216 (N : Nat) (I : kjI) (L : kjL) : Option (Int32 × kjI × kjL) :=
  kf129_221 N (1 : Int32) I L
set_option maxRecDepth 100000 in
set_option maxHeartbeats 4000000 in
theorem kf129_216_ok (f : Bool) (N : Nat) (d : Nat)  (I : kjI) (L : kjL) (r : Int32 × kjI × kjL) (h : kf129_216 N I L = some r) : mv_G kjP kjSta (mv_C kjP kjSta (d + 4)) kjM_129 (kjQwi f r) (216, [none, none, none, none, none, none, none, none], [], 0, 0, kjS f I L) := by
  unfold kf129_216 at h
  refine mv_G_run 2 (F' := (221, [none, none, none, none, none, none, none, none], [.int (1 : Int32)], 0, 0, kjS f I L)) rfl ?_
  exact kf129_221_ok _ _ d _ _ _ _ h
def kf129_165 (N : Nat) (v1 : Int32) (v2 : Int32) (v3 : Int32) (v4 : Int32) (v5 : Int32) (I : kjI) (L : kjL) : Option (Int32 × kjI × kjL) :=
  if v3 = (21 : Int32) then (if v5 = 0 ∨ v5 = 1 then some (v5, I, L) else none) else (if v3 = (49 : Int32) then (if v5 = 0 ∨ v5 = 1 then some (v5, I, L) else none) else (if v3 = (50 : Int32) then (if v5 = 0 ∨ v5 = 1 then some (v5, I, L) else none) else (if v3 = (53 : Int32) then (if v5 = 0 ∨ v5 = 1 then some (v5, I, L) else none) else ((kf116 I L v1 v2).bind fun r9 => (kf127 N v1 (v2 + r9) v4 I L).bind fun r11 => if ¬ v5 = 0 then (kf129_216 N r11.2.1 r11.2.2) else (if r11.1 = 0 then (kf129_221 N (0 : Int32) r11.2.1 r11.2.2) else (kf129_216 N r11.2.1 r11.2.2))))))
set_option maxRecDepth 100000 in
set_option maxHeartbeats 4000000 in
theorem kf129_165_ok (f : Bool) (N : Nat) (d : Nat)  (v1 : Int32) (v2 : Int32) (v3 : Int32) (v4 : Int32) (v5 : Int32) (I : kjI) (L : kjL) (r : Int32 × kjI × kjL) (h : kf129_165 N v1 v2 v3 v4 v5 I L = some r) : mv_G kjP kjSta (mv_C kjP kjSta (d + 4)) kjM_129 (kjQwi f r) (165, [some (.ref 59), some (.int v1), some (.int v2), some (.int v3), some (.int v4), some (.int v5), none, none], [], 0, 0, kjS f I L) := by
  unfold kf129_165 at h
  refine mv_G_run 2 (F' := (168, [some (.ref 59), some (.int v1), some (.int v2), some (.int v3), some (.int v4), some (.int v5), none, none], [.int (21 : Int32), .int v3], 0, 0, kjS f I L)) rfl ?_
  by_cases hc1 : v3 = (21 : Int32)
  · rw [if_pos hc1] at h
    refine mv_G_br (tgt := 223) rfl rfl (by decide) (fun _ => ?_) (fun z => absurd hc1 z)
    refine mv_G_run 1 (F' := (225, [some (.ref 59), some (.int v1), some (.int v2), some (.int v3), some (.int v4), some (.int v5), none, none], [.int v5], 0, 0, kjS f I L)) rfl ?_
    obtain ⟨hb2, h⟩ := mv_ifs h
    obtain rfl := Option.some.inj h
    exact mv_G_ret rfl rfl rfl (Nat.le_refl _) hb2 ⟨rfl, rfl⟩
  · rw [if_neg hc1] at h
    refine mv_G_br (tgt := 223) rfl rfl (by decide) (fun z => absurd z hc1) (fun _ => ?_)
    refine mv_G_run 2 (F' := (174, [some (.ref 59), some (.int v1), some (.int v2), some (.int v3), some (.int v4), some (.int v5), none, none], [.int (49 : Int32), .int v3], 0, 0, kjS f I L)) rfl ?_
    by_cases hc3 : v3 = (49 : Int32)
    · rw [if_pos hc3] at h
      refine mv_G_br (tgt := 223) rfl rfl (by decide) (fun _ => ?_) (fun z => absurd hc3 z)
      refine mv_G_run 1 (F' := (225, [some (.ref 59), some (.int v1), some (.int v2), some (.int v3), some (.int v4), some (.int v5), none, none], [.int v5], 0, 0, kjS f I L)) rfl ?_
      obtain ⟨hb4, h⟩ := mv_ifs h
      obtain rfl := Option.some.inj h
      exact mv_G_ret rfl rfl rfl (Nat.le_refl _) hb4 ⟨rfl, rfl⟩
    · rw [if_neg hc3] at h
      refine mv_G_br (tgt := 223) rfl rfl (by decide) (fun z => absurd z hc3) (fun _ => ?_)
      refine mv_G_run 2 (F' := (180, [some (.ref 59), some (.int v1), some (.int v2), some (.int v3), some (.int v4), some (.int v5), none, none], [.int (50 : Int32), .int v3], 0, 0, kjS f I L)) rfl ?_
      by_cases hc5 : v3 = (50 : Int32)
      · rw [if_pos hc5] at h
        refine mv_G_br (tgt := 223) rfl rfl (by decide) (fun _ => ?_) (fun z => absurd hc5 z)
        refine mv_G_run 1 (F' := (225, [some (.ref 59), some (.int v1), some (.int v2), some (.int v3), some (.int v4), some (.int v5), none, none], [.int v5], 0, 0, kjS f I L)) rfl ?_
        obtain ⟨hb6, h⟩ := mv_ifs h
        obtain rfl := Option.some.inj h
        exact mv_G_ret rfl rfl rfl (Nat.le_refl _) hb6 ⟨rfl, rfl⟩
      · rw [if_neg hc5] at h
        refine mv_G_br (tgt := 223) rfl rfl (by decide) (fun z => absurd z hc5) (fun _ => ?_)
        refine mv_G_run 2 (F' := (186, [some (.ref 59), some (.int v1), some (.int v2), some (.int v3), some (.int v4), some (.int v5), none, none], [.int (53 : Int32), .int v3], 0, 0, kjS f I L)) rfl ?_
        by_cases hc7 : v3 = (53 : Int32)
        · rw [if_pos hc7] at h
          refine mv_G_br (tgt := 223) rfl rfl (by decide) (fun _ => ?_) (fun z => absurd hc7 z)
          refine mv_G_run 1 (F' := (225, [some (.ref 59), some (.int v1), some (.int v2), some (.int v3), some (.int v4), some (.int v5), none, none], [.int v5], 0, 0, kjS f I L)) rfl ?_
          obtain ⟨hb8, h⟩ := mv_ifs h
          obtain rfl := Option.some.inj h
          exact mv_G_ret rfl rfl rfl (Nat.le_refl _) hb8 ⟨rfl, rfl⟩
        · rw [if_neg hc7] at h
          refine mv_G_br (tgt := 223) rfl rfl (by decide) (fun z => absurd z hc7) (fun _ => ?_)
          refine mv_G_run 6 (F' := (195, [some (.ref 59), some (.int v1), some (.int v2), some (.int v3), some (.int v4), some (.int v5), none, none], [.int v2, .int v1, .ref 59, .int v2, .int v1, .ref 59], 0, 0, kjS f I L)) rfl ?_
          obtain ⟨r9, hc10, h⟩ := mv_bd h
          refine mv_G_call (r := [.int v2, .int v1, .ref 59]) (kf116_ok _ _ _ _ _ _ _ hc10) rfl rfl rfl rfl rfl (Nat.le_of_ble_eq_true rfl) (Nat.le_of_ble_eq_true rfl) (Nat.le_of_ble_eq_true rfl) ?_
          rintro _ _ ⟨rfl, rfl⟩
          refine mv_G_run 2 (F' := (201, [some (.ref 59), some (.int v1), some (.int v2), some (.int v3), some (.int v4), some (.int v5), none, none], [.int v4, .int (v2 + r9), .int v1, .ref 59], 0, 0, kjS f I L)) rfl ?_
          obtain ⟨r11, hc12, h⟩ := mv_bd h
          refine mv_G_call (r := []) (kf127_ok _ _ _ _ _ _ _ _ _ hc12) rfl rfl rfl rfl rfl (Nat.le_of_ble_eq_true rfl) (Nat.le_of_ble_eq_true rfl) (Nat.le_of_ble_eq_true rfl) ?_
          rintro _ _ ⟨rfl, rfl⟩
          refine mv_G_run 2 (F' := (208, [some (.ref 59), some (.int v1), some (.int v2), some (.int v3), some (.int v4), some (.int v5), some (.int r11.1), none], [.int v5], 0, 0, kjS f r11.2.1 r11.2.2)) rfl ?_
          by_cases hc13 : ¬ v5 = 0
          · rw [if_pos hc13] at h
            refine mv_G_br (tgt := 216) rfl rfl (by decide) (fun _ => ?_) (fun z => absurd hc13 z)
            refine mv_G_fg (lc' := [none, none, none, none, none, none, none, none]) (trivial) ?_
            exact kf129_216_ok _ _ d _ _ _ h
          · rw [if_neg hc13] at h
            refine mv_G_br (tgt := 216) rfl rfl (by decide) (fun z => absurd z hc13) (fun _ => ?_)
            refine mv_G_run 1 (F' := (213, [some (.ref 59), some (.int v1), some (.int v2), some (.int v3), some (.int v4), some (.int v5), some (.int r11.1), none], [.int r11.1], 0, 0, kjS f r11.2.1 r11.2.2)) rfl ?_
            by_cases hc14 : r11.1 = 0
            · rw [if_pos hc14] at h
              refine mv_G_br (tgt := 220) rfl rfl (by decide) (fun _ => ?_) (fun z => absurd hc14 z)
              refine mv_G_run 1 (F' := (221, [some (.ref 59), some (.int v1), some (.int v2), some (.int v3), some (.int v4), some (.int v5), some (.int r11.1), none], [.int (0 : Int32)], 0, 0, kjS f r11.2.1 r11.2.2)) rfl ?_
              refine mv_G_fg (lc' := [none, none, none, none, none, none, none, none]) (trivial) ?_
              exact kf129_221_ok _ _ d _ _ _ _ h
            · rw [if_neg hc14] at h
              refine mv_G_br (tgt := 220) rfl rfl (by decide) (fun z => absurd z hc14) (fun _ => ?_)
              refine mv_G_fg (lc' := [none, none, none, none, none, none, none, none]) (trivial) ?_
              exact kf129_216_ok _ _ d _ _ _ h
def kf129_157 (N : Nat) (k103 : Int32 → Int32 → Int32 → Int32 → Int32 → Int32 → kjI → kjL → Option (Int32 × kjI × kjL)) (v1 : Int32) (v2 : Int32) (v3 : Int32) (v4 : Int32) (v6 : Int32) (s0 : Int32) (I : kjI) (L : kjL) : Option (Int32 × kjI × kjL) :=
  k103 v1 v2 v3 v4 s0 (v6 + (1 : Int32)) I L
set_option maxRecDepth 100000 in
set_option maxHeartbeats 4000000 in
theorem kf129_157_ok (f : Bool) (N : Nat) (k103 : Int32 → Int32 → Int32 → Int32 → Int32 → Int32 → kjI → kjL → Option (Int32 × kjI × kjL)) (d : Nat) (hk103 : ∀ (v1 : Int32) (v2 : Int32) (v3 : Int32) (v4 : Int32) (v5 : Int32) (v6 : Int32) (I : kjI) (L : kjL) (r : Int32 × kjI × kjL), k103 v1 v2 v3 v4 v5 v6 I L = some r → mv_G kjP kjSta (mv_C kjP kjSta (d + 4)) kjM_129 (kjQwi f r) (103, [some (.ref 59), some (.int v1), some (.int v2), some (.int v3), some (.int v4), some (.int v5), some (.int v6), none], [], 0, 0, kjS f I L)) (v1 : Int32) (v2 : Int32) (v3 : Int32) (v4 : Int32) (v6 : Int32) (s0 : Int32) (I : kjI) (L : kjL) (r : Int32 × kjI × kjL) (h : kf129_157 N k103 v1 v2 v3 v4 v6 s0 I L = some r) : mv_G kjP kjSta (mv_C kjP kjSta (d + 4)) kjM_129 (kjQwi f r) (157, [some (.ref 59), some (.int v1), some (.int v2), some (.int v3), some (.int v4), none, some (.int v6), none], [.int s0], 0, 0, kjS f I L) := by
  unfold kf129_157 at h
  refine mv_G_run 3 (F' := (103, [some (.ref 59), some (.int v1), some (.int v2), some (.int v3), some (.int v4), some (.int s0), some (.int (v6 + (1 : Int32))), none], [], 0, 0, kjS f I L)) rfl ?_
  exact hk103 v1 v2 v3 v4 s0 (v6 + (1 : Int32)) I L _ h
def kf129_152 (N : Nat) (k103 : Int32 → Int32 → Int32 → Int32 → Int32 → Int32 → kjI → kjL → Option (Int32 × kjI × kjL)) (v1 : Int32) (v2 : Int32) (v3 : Int32) (v4 : Int32) (v6 : Int32) (I : kjI) (L : kjL) : Option (Int32 × kjI × kjL) :=
  kf129_157 N k103 v1 v2 v3 v4 v6 (1 : Int32) I L
set_option maxRecDepth 100000 in
set_option maxHeartbeats 4000000 in
theorem kf129_152_ok (f : Bool) (N : Nat) (k103 : Int32 → Int32 → Int32 → Int32 → Int32 → Int32 → kjI → kjL → Option (Int32 × kjI × kjL)) (d : Nat) (hk103 : ∀ (v1 : Int32) (v2 : Int32) (v3 : Int32) (v4 : Int32) (v5 : Int32) (v6 : Int32) (I : kjI) (L : kjL) (r : Int32 × kjI × kjL), k103 v1 v2 v3 v4 v5 v6 I L = some r → mv_G kjP kjSta (mv_C kjP kjSta (d + 4)) kjM_129 (kjQwi f r) (103, [some (.ref 59), some (.int v1), some (.int v2), some (.int v3), some (.int v4), some (.int v5), some (.int v6), none], [], 0, 0, kjS f I L)) (v1 : Int32) (v2 : Int32) (v3 : Int32) (v4 : Int32) (v6 : Int32) (I : kjI) (L : kjL) (r : Int32 × kjI × kjL) (h : kf129_152 N k103 v1 v2 v3 v4 v6 I L = some r) : mv_G kjP kjSta (mv_C kjP kjSta (d + 4)) kjM_129 (kjQwi f r) (152, [some (.ref 59), some (.int v1), some (.int v2), some (.int v3), some (.int v4), none, some (.int v6), none], [], 0, 0, kjS f I L) := by
  unfold kf129_152 at h
  refine mv_G_run 2 (F' := (157, [some (.ref 59), some (.int v1), some (.int v2), some (.int v3), some (.int v4), none, some (.int v6), none], [.int (1 : Int32)], 0, 0, kjS f I L)) rfl ?_
  exact kf129_157_ok _ _ _ d hk103 _ _ _ _ _ _ _ _ _ h
def kf129_103 (N : Nat) : Nat → Int32 → Int32 → Int32 → Int32 → Int32 → Int32 → kjI → kjL → Option (Int32 × kjI × kjL)
  | 0, _, _, _, _, _, _, _, _ => none
  | n + 1, v1, v2, v3, v4, v5, v6, I, L => if ¬ v3 = (53 : Int32) then (kf129_165 N v1 v2 v3 v4 v5 I L) else ((kf115 I L v1 (v2 + (1 : Int32))).bind fun r2 => if r2 < v6 then (kf129_165 N v1 v2 v3 v4 v5 I L) else ((kf115 I L v1 ((v2 + (2 : Int32)) + v6)).bind fun r5 => (kf127 N v1 r5 v4 I L).bind fun r7 => if ¬ v5 = 0 then (kf129_152 N (fun v1 v2 v3 v4 v5 v6 I L => kf129_103 N n v1 v2 v3 v4 v5 v6 I L) v1 v2 v3 v4 v6 r7.2.1 r7.2.2) else (if r7.1 = 0 then (kf129_157 N (fun v1 v2 v3 v4 v5 v6 I L => kf129_103 N n v1 v2 v3 v4 v5 v6 I L) v1 v2 v3 v4 v6 (0 : Int32) r7.2.1 r7.2.2) else (kf129_152 N (fun v1 v2 v3 v4 v5 v6 I L => kf129_103 N n v1 v2 v3 v4 v5 v6 I L) v1 v2 v3 v4 v6 r7.2.1 r7.2.2))))
set_option maxRecDepth 100000 in
set_option maxHeartbeats 4000000 in
theorem kf129_103_ok (f : Bool) (N : Nat) (d : Nat)  : ∀ (n : Nat) (v1 : Int32) (v2 : Int32) (v3 : Int32) (v4 : Int32) (v5 : Int32) (v6 : Int32) (I : kjI) (L : kjL) (r : Int32 × kjI × kjL), kf129_103 N n v1 v2 v3 v4 v5 v6 I L = some r → mv_G kjP kjSta (mv_C kjP kjSta (d + 4)) kjM_129 (kjQwi f r) (103, [some (.ref 59), some (.int v1), some (.int v2), some (.int v3), some (.int v4), some (.int v5), some (.int v6), none], [], 0, 0, kjS f I L) := by
  intro n
  induction n with
  | zero => intro v1 v2 v3 v4 v5 v6 I L r h; cases h
  | succ n ih =>
    have hk103 := ih
    intro v1 v2 v3 v4 v5 v6 I L r h
    unfold kf129_103 at h
    refine mv_G_run 2 (F' := (106, [some (.ref 59), some (.int v1), some (.int v2), some (.int v3), some (.int v4), some (.int v5), some (.int v6), none], [.int (53 : Int32), .int v3], 0, 0, kjS f I L)) rfl ?_
    by_cases hc1 : ¬ v3 = (53 : Int32)
    · rw [if_pos hc1] at h
      refine mv_G_br (tgt := 165) rfl rfl (by decide) (fun _ => ?_) (fun z => absurd hc1 z)
      refine mv_G_fg (lc' := [some (.ref 59), some (.int v1), some (.int v2), some (.int v3), some (.int v4), some (.int v5), none, none]) (And.intro rfl (And.intro rfl (And.intro rfl (And.intro rfl (And.intro rfl (And.intro rfl trivial)))))) ?_
      exact kf129_165_ok _ _ d _ _ _ _ _ _ _ _ h
    · rw [if_neg hc1] at h
      refine mv_G_br (tgt := 165) rfl rfl (by decide) (fun z => absurd z hc1) (fun _ => ?_)
      refine mv_G_run 6 (F' := (116, [some (.ref 59), some (.int v1), some (.int v2), some (.int v3), some (.int v4), some (.int v5), some (.int v6), none], [.int (v2 + (1 : Int32)), .int v1, .ref 59, .int v6], 0, 0, kjS f I L)) rfl ?_
      obtain ⟨r2, hc3, h⟩ := mv_bd h
      refine mv_G_call (r := [.int v6]) (kf115_ok _ _ _ _ _ _ _ hc3) rfl rfl rfl rfl rfl (Nat.le_of_ble_eq_true rfl) (Nat.le_of_ble_eq_true rfl) (Nat.le_of_ble_eq_true rfl) ?_
      rintro _ _ ⟨rfl, rfl⟩
      by_cases hc4 : r2 < v6
      · rw [if_pos hc4] at h
        refine mv_G_br (tgt := 165) rfl rfl (by decide) (fun _ => ?_) (fun z => absurd hc4 z)
        refine mv_G_fg (lc' := [some (.ref 59), some (.int v1), some (.int v2), some (.int v3), some (.int v4), some (.int v5), none, none]) (And.intro rfl (And.intro rfl (And.intro rfl (And.intro rfl (And.intro rfl (And.intro rfl trivial)))))) ?_
        exact kf129_165_ok _ _ d _ _ _ _ _ _ _ _ h
      · rw [if_neg hc4] at h
        refine mv_G_br (tgt := 165) rfl rfl (by decide) (fun z => absurd z hc4) (fun _ => ?_)
        refine mv_G_run 9 (F' := (132, [some (.ref 59), some (.int v1), some (.int v2), some (.int v3), some (.int v4), some (.int v5), some (.int v6), none], [.int ((v2 + (2 : Int32)) + v6), .int v1, .ref 59, .int v1, .ref 59], 0, 0, kjS f I L)) rfl ?_
        obtain ⟨r5, hc6, h⟩ := mv_bd h
        refine mv_G_call (r := [.int v1, .ref 59]) (kf115_ok _ _ _ _ _ _ _ hc6) rfl rfl rfl rfl rfl (Nat.le_of_ble_eq_true rfl) (Nat.le_of_ble_eq_true rfl) (Nat.le_of_ble_eq_true rfl) ?_
        rintro _ _ ⟨rfl, rfl⟩
        refine mv_G_run 1 (F' := (137, [some (.ref 59), some (.int v1), some (.int v2), some (.int v3), some (.int v4), some (.int v5), some (.int v6), none], [.int v4, .int r5, .int v1, .ref 59], 0, 0, kjS f I L)) rfl ?_
        obtain ⟨r7, hc8, h⟩ := mv_bd h
        refine mv_G_call (r := []) (kf127_ok _ _ _ _ _ _ _ _ _ hc8) rfl rfl rfl rfl rfl (Nat.le_of_ble_eq_true rfl) (Nat.le_of_ble_eq_true rfl) (Nat.le_of_ble_eq_true rfl) ?_
        rintro _ _ ⟨rfl, rfl⟩
        refine mv_G_run 2 (F' := (144, [some (.ref 59), some (.int v1), some (.int v2), some (.int v3), some (.int v4), some (.int v5), some (.int v6), some (.int r7.1)], [.int v5], 0, 0, kjS f r7.2.1 r7.2.2)) rfl ?_
        by_cases hc9 : ¬ v5 = 0
        · rw [if_pos hc9] at h
          refine mv_G_br (tgt := 152) rfl rfl (by decide) (fun _ => ?_) (fun z => absurd hc9 z)
          refine mv_G_fg (lc' := [some (.ref 59), some (.int v1), some (.int v2), some (.int v3), some (.int v4), none, some (.int v6), none]) (And.intro rfl (And.intro rfl (And.intro rfl (And.intro rfl (And.intro rfl (And.intro rfl trivial)))))) ?_
          exact kf129_152_ok _ _ _ d hk103 _ _ _ _ _ _ _ _ h
        · rw [if_neg hc9] at h
          refine mv_G_br (tgt := 152) rfl rfl (by decide) (fun z => absurd z hc9) (fun _ => ?_)
          refine mv_G_run 1 (F' := (149, [some (.ref 59), some (.int v1), some (.int v2), some (.int v3), some (.int v4), some (.int v5), some (.int v6), some (.int r7.1)], [.int r7.1], 0, 0, kjS f r7.2.1 r7.2.2)) rfl ?_
          by_cases hc10 : r7.1 = 0
          · rw [if_pos hc10] at h
            refine mv_G_br (tgt := 156) rfl rfl (by decide) (fun _ => ?_) (fun z => absurd hc10 z)
            refine mv_G_run 1 (F' := (157, [some (.ref 59), some (.int v1), some (.int v2), some (.int v3), some (.int v4), some (.int v5), some (.int v6), some (.int r7.1)], [.int (0 : Int32)], 0, 0, kjS f r7.2.1 r7.2.2)) rfl ?_
            refine mv_G_fg (lc' := [some (.ref 59), some (.int v1), some (.int v2), some (.int v3), some (.int v4), none, some (.int v6), none]) (And.intro rfl (And.intro rfl (And.intro rfl (And.intro rfl (And.intro rfl (And.intro rfl trivial)))))) ?_
            exact kf129_157_ok _ _ _ d hk103 _ _ _ _ _ _ _ _ _ h
          · rw [if_neg hc10] at h
            refine mv_G_br (tgt := 156) rfl rfl (by decide) (fun z => absurd z hc10) (fun _ => ?_)
            refine mv_G_fg (lc' := [some (.ref 59), some (.int v1), some (.int v2), some (.int v3), some (.int v4), none, some (.int v6), none]) (And.intro rfl (And.intro rfl (And.intro rfl (And.intro rfl (And.intro rfl (And.intro rfl trivial)))))) ?_
            exact kf129_152_ok _ _ _ d hk103 _ _ _ _ _ _ _ _ h
def kf129_100 (N : Nat) (v1 : Int32) (v2 : Int32) (v3 : Int32) (v4 : Int32) (v5 : Int32) (I : kjI) (L : kjL) : Option (Int32 × kjI × kjL) :=
  kf129_103 N N v1 v2 v3 v4 v5 (0 : Int32) I L
set_option maxRecDepth 100000 in
set_option maxHeartbeats 4000000 in
theorem kf129_100_ok (f : Bool) (N : Nat) (d : Nat)  (v1 : Int32) (v2 : Int32) (v3 : Int32) (v4 : Int32) (v5 : Int32) (I : kjI) (L : kjL) (r : Int32 × kjI × kjL) (h : kf129_100 N v1 v2 v3 v4 v5 I L = some r) : mv_G kjP kjSta (mv_C kjP kjSta (d + 4)) kjM_129 (kjQwi f r) (100, [some (.ref 59), some (.int v1), some (.int v2), some (.int v3), some (.int v4), some (.int v5), none, none], [], 0, 0, kjS f I L) := by
  unfold kf129_100 at h
  refine mv_G_run 2 (F' := (103, [some (.ref 59), some (.int v1), some (.int v2), some (.int v3), some (.int v4), some (.int v5), some (.int (0 : Int32)), none], [], 0, 0, kjS f I L)) rfl ?_
  exact kf129_103_ok _ _ d _ _ _ _ _ _ _ _ _ _ h
def kf129_68 (N : Nat) (v1 : Int32) (v2 : Int32) (v3 : Int32) (v4 : Int32) (I : kjI) (L : kjL) : Option (Int32 × kjI × kjL) :=
  if v3 < (21 : Int32) then (kf129_100 N v1 v2 v3 v4 (0 : Int32) I L) else (if (37 : Int32) < v3 then (kf129_100 N v1 v2 v3 v4 (0 : Int32) I L) else ((kf115 I L v1 (v2 + (1 : Int32))).bind fun r3 => (kf127 N v1 r3 v4 I L).bind fun r5 => kf129_100 N v1 v2 v3 v4 r5.1 r5.2.1 r5.2.2))
set_option maxRecDepth 100000 in
set_option maxHeartbeats 4000000 in
theorem kf129_68_ok (f : Bool) (N : Nat) (d : Nat)  (v1 : Int32) (v2 : Int32) (v3 : Int32) (v4 : Int32) (I : kjI) (L : kjL) (r : Int32 × kjI × kjL) (h : kf129_68 N v1 v2 v3 v4 I L = some r) : mv_G kjP kjSta (mv_C kjP kjSta (d + 4)) kjM_129 (kjQwi f r) (68, [some (.ref 59), some (.int v1), some (.int v2), some (.int v3), some (.int v4), none, none, none], [], 0, 0, kjS f I L) := by
  unfold kf129_68 at h
  refine mv_G_run 4 (F' := (74, [some (.ref 59), some (.int v1), some (.int v2), some (.int v3), some (.int v4), some (.int (0 : Int32)), none, none], [.int (21 : Int32), .int v3], 0, 0, kjS f I L)) rfl ?_
  by_cases hc1 : v3 < (21 : Int32)
  · rw [if_pos hc1] at h
    refine mv_G_br (tgt := 100) rfl rfl (by decide) (fun _ => ?_) (fun z => absurd hc1 z)
    exact kf129_100_ok _ _ d _ _ _ _ _ _ _ _ h
  · rw [if_neg hc1] at h
    refine mv_G_br (tgt := 100) rfl rfl (by decide) (fun z => absurd z hc1) (fun _ => ?_)
    refine mv_G_run 2 (F' := (80, [some (.ref 59), some (.int v1), some (.int v2), some (.int v3), some (.int v4), some (.int (0 : Int32)), none, none], [.int (37 : Int32), .int v3], 0, 0, kjS f I L)) rfl ?_
    by_cases hc2 : (37 : Int32) < v3
    · rw [if_pos hc2] at h
      refine mv_G_br (tgt := 100) rfl rfl (by decide) (fun _ => ?_) (fun z => absurd hc2 z)
      exact kf129_100_ok _ _ d _ _ _ _ _ _ _ _ h
    · rw [if_neg hc2] at h
      refine mv_G_br (tgt := 100) rfl rfl (by decide) (fun z => absurd z hc2) (fun _ => ?_)
      refine mv_G_run 7 (F' := (90, [some (.ref 59), some (.int v1), some (.int v2), some (.int v3), some (.int v4), some (.int (0 : Int32)), none, none], [.int (v2 + (1 : Int32)), .int v1, .ref 59, .int v1, .ref 59], 0, 0, kjS f I L)) rfl ?_
      obtain ⟨r3, hc4, h⟩ := mv_bd h
      refine mv_G_call (r := [.int v1, .ref 59]) (kf115_ok _ _ _ _ _ _ _ hc4) rfl rfl rfl rfl rfl (Nat.le_of_ble_eq_true rfl) (Nat.le_of_ble_eq_true rfl) (Nat.le_of_ble_eq_true rfl) ?_
      rintro _ _ ⟨rfl, rfl⟩
      refine mv_G_run 1 (F' := (95, [some (.ref 59), some (.int v1), some (.int v2), some (.int v3), some (.int v4), some (.int (0 : Int32)), none, none], [.int v4, .int r3, .int v1, .ref 59], 0, 0, kjS f I L)) rfl ?_
      obtain ⟨r5, hc6, h⟩ := mv_bd h
      refine mv_G_call (r := []) (kf127_ok _ _ _ _ _ _ _ _ _ hc6) rfl rfl rfl rfl rfl (Nat.le_of_ble_eq_true rfl) (Nat.le_of_ble_eq_true rfl) (Nat.le_of_ble_eq_true rfl) ?_
      rintro _ _ ⟨rfl, rfl⟩
      refine mv_G_run 1 (F' := (100, [some (.ref 59), some (.int v1), some (.int v2), some (.int v3), some (.int v4), some (.int r5.1), none, none], [], 0, 0, kjS f r5.2.1 r5.2.2)) rfl ?_
      exact kf129_100_ok _ _ d _ _ _ _ _ _ _ _ h
def kf129_66 (N : Nat) (v1 : Int32) (v2 : Int32) (v3 : Int32) (s0 : Int32) (I : kjI) (L : kjL) : Option (Int32 × kjI × kjL) :=
  kf129_68 N v1 v2 v3 s0 I L
set_option maxRecDepth 100000 in
set_option maxHeartbeats 4000000 in
theorem kf129_66_ok (f : Bool) (N : Nat) (d : Nat)  (v1 : Int32) (v2 : Int32) (v3 : Int32) (s0 : Int32) (I : kjI) (L : kjL) (r : Int32 × kjI × kjL) (h : kf129_66 N v1 v2 v3 s0 I L = some r) : mv_G kjP kjSta (mv_C kjP kjSta (d + 4)) kjM_129 (kjQwi f r) (66, [some (.ref 59), some (.int v1), some (.int v2), some (.int v3), none, none, none, none], [.int s0], 0, 0, kjS f I L) := by
  unfold kf129_66 at h
  refine mv_G_run 1 (F' := (68, [some (.ref 59), some (.int v1), some (.int v2), some (.int v3), some (.int s0), none, none, none], [], 0, 0, kjS f I L)) rfl ?_
  exact kf129_68_ok _ _ d _ _ _ _ _ _ _ h
def kf129_61 (N : Nat) (v1 : Int32) (v2 : Int32) (v3 : Int32) (I : kjI) (L : kjL) : Option (Int32 × kjI × kjL) :=
  kf129_66 N v1 v2 v3 (1 : Int32) I L
set_option maxRecDepth 100000 in
set_option maxHeartbeats 4000000 in
theorem kf129_61_ok (f : Bool) (N : Nat) (d : Nat)  (v1 : Int32) (v2 : Int32) (v3 : Int32) (I : kjI) (L : kjL) (r : Int32 × kjI × kjL) (h : kf129_61 N v1 v2 v3 I L = some r) : mv_G kjP kjSta (mv_C kjP kjSta (d + 4)) kjM_129 (kjQwi f r) (61, [some (.ref 59), some (.int v1), some (.int v2), some (.int v3), none, none, none, none], [], 0, 0, kjS f I L) := by
  unfold kf129_61 at h
  refine mv_G_run 2 (F' := (66, [some (.ref 59), some (.int v1), some (.int v2), some (.int v3), none, none, none, none], [.int (1 : Int32)], 0, 0, kjS f I L)) rfl ?_
  exact kf129_66_ok _ _ d _ _ _ _ _ _ _ h
def kf129_28 (N : Nat) (v1 : Int32) (v2 : Int32) (v3 : Int32) (s0 : Int32) (I : kjI) (L : kjL) : Option (Int32 × kjI × kjL) :=
  if ¬ s0 = 0 then (kf129_68 N v1 v2 v3 s0 I L) else ((kf134 N v1 v2 I L).bind fun r2 => if ¬ (r2.1 59 34) = 0 then (kf129_61 N v1 v2 v3 r2.1 r2.2) else (bif mv_in v1 16 then (if (r2.1 59 33) ≤ (r2.1 73 (Int32.toNatClampNeg v1)) then (kf129_66 N v1 v2 v3 (0 : Int32) r2.1 r2.2) else (kf129_61 N v1 v2 v3 r2.1 r2.2)) else none))
set_option maxRecDepth 100000 in
set_option maxHeartbeats 4000000 in
theorem kf129_28_ok (f : Bool) (N : Nat) (d : Nat)  (v1 : Int32) (v2 : Int32) (v3 : Int32) (s0 : Int32) (I : kjI) (L : kjL) (r : Int32 × kjI × kjL) (h : kf129_28 N v1 v2 v3 s0 I L = some r) : mv_G kjP kjSta (mv_C kjP kjSta (d + 4)) kjM_129 (kjQwi f r) (28, [some (.ref 59), some (.int v1), some (.int v2), some (.int v3), none, none, none, none], [.int s0], 0, 0, kjS f I L) := by
  unfold kf129_28 at h
  refine mv_G_run 2 (F' := (32, [some (.ref 59), some (.int v1), some (.int v2), some (.int v3), some (.int s0), none, none, none], [.int s0], 0, 0, kjS f I L)) rfl ?_
  by_cases hc1 : ¬ s0 = 0
  · rw [if_pos hc1] at h
    refine mv_G_br (tgt := 68) rfl rfl (by decide) (fun _ => ?_) (fun z => absurd hc1 z)
    exact kf129_68_ok _ _ d _ _ _ _ _ _ _ h
  · rw [if_neg hc1] at h
    refine mv_G_br (tgt := 68) rfl rfl (by decide) (fun z => absurd z hc1) (fun _ => ?_)
    refine mv_G_run 3 (F' := (38, [some (.ref 59), some (.int v1), some (.int v2), some (.int v3), some (.int s0), none, none, none], [.int v2, .int v1, .ref 59], 0, 0, kjS f I L)) rfl ?_
    obtain ⟨r2, hc3, h⟩ := mv_bd h
    refine mv_G_call (r := []) (kf134_ok _ _ _ _ _ _ _ _ hc3) rfl rfl rfl rfl rfl (Nat.le_of_ble_eq_true rfl) (Nat.le_of_ble_eq_true rfl) (Nat.le_of_ble_eq_true rfl) ?_
    rintro _ _ ⟨rfl, rfl⟩
    refine mv_G_run 2 (F' := (45, [some (.ref 59), some (.int v1), some (.int v2), some (.int v3), some (.int s0), none, none, none], [.int (r2.1 59 34)], 0, 0, kjS f r2.1 r2.2)) rfl ?_
    by_cases hc4 : ¬ (r2.1 59 34) = 0
    · rw [if_pos hc4] at h
      refine mv_G_br (tgt := 61) rfl rfl (by decide) (fun _ => ?_) (fun z => absurd hc4 z)
      refine mv_G_fg (lc' := [some (.ref 59), some (.int v1), some (.int v2), some (.int v3), none, none, none, none]) (And.intro rfl (And.intro rfl (And.intro rfl (And.intro rfl trivial)))) ?_
      exact kf129_61_ok _ _ d _ _ _ _ _ _ h
    · rw [if_neg hc4] at h
      refine mv_G_br (tgt := 61) rfl rfl (by decide) (fun z => absurd z hc4) (fun _ => ?_)
      refine mv_G_run 5 (F' := (57, [some (.ref 59), some (.int v1), some (.int v2), some (.int v3), some (.int s0), none, none, none], [.int v1, .ref 73, .int (r2.1 59 33)], 0, 0, kjS f r2.1 r2.2)) rfl ?_
      obtain ⟨hi5, h⟩ := mv_bifs h
      refine mv_G_ald rfl rfl (mv_in_ok hi5) ?_
      by_cases hc6 : (r2.1 59 33) ≤ (r2.1 73 (Int32.toNatClampNeg v1))
      · rw [if_pos hc6] at h
        refine mv_G_br (tgt := 65) rfl rfl (by decide) (fun _ => ?_) (fun z => absurd hc6 z)
        refine mv_G_run 1 (F' := (66, [some (.ref 59), some (.int v1), some (.int v2), some (.int v3), some (.int s0), none, none, none], [.int (0 : Int32)], 0, 0, kjS f r2.1 r2.2)) rfl ?_
        refine mv_G_fg (lc' := [some (.ref 59), some (.int v1), some (.int v2), some (.int v3), none, none, none, none]) (And.intro rfl (And.intro rfl (And.intro rfl (And.intro rfl trivial)))) ?_
        exact kf129_66_ok _ _ d _ _ _ _ _ _ _ h
      · rw [if_neg hc6] at h
        refine mv_G_br (tgt := 65) rfl rfl (by decide) (fun z => absurd z hc6) (fun _ => ?_)
        refine mv_G_fg (lc' := [some (.ref 59), some (.int v1), some (.int v2), some (.int v3), none, none, none, none]) (And.intro rfl (And.intro rfl (And.intro rfl (And.intro rfl trivial)))) ?_
        exact kf129_61_ok _ _ d _ _ _ _ _ _ h
def kf129 (N : Nat) (v1 : Int32) (v2 : Int32) (I : kjI) (L : kjL) : Option (Int32 × kjI × kjL) :=
  (kf115 I L v1 v2).bind fun r1 => bif mv_in (((120 : Int32) * v1) + v2) 1920 then (if ¬ (I 78 (Int32.toNatClampNeg (((120 : Int32) * v1) + v2))) = (-2 : Int32) then (kf129_28 N v1 v2 r1 (0 : Int32) I L) else (kf129_28 N v1 v2 r1 (1 : Int32) I L)) else none
set_option maxRecDepth 100000 in
set_option maxHeartbeats 4000000 in
theorem kf129_ok (f : Bool) (N : Nat) (v1 : Int32) (v2 : Int32) (I : kjI) (L : kjL) (d : Nat) (r : Int32 × kjI × kjL) (h : kf129 N v1 v2 I L = some r) : mv_C kjP kjSta (d + 5) 129 [.ref 59, .int v1, .int v2] (kjS f I L) (kjQwi f r) := by
  unfold kf129 at h
  refine mv_C_in kjM_129 (lc := [some (.ref 59), some (.int v1), some (.int v2), none, none, none, none, none]) rfl rfl rfl ?_
  refine mv_G_run 3 (F' := (3, [some (.ref 59), some (.int v1), some (.int v2), none, none, none, none, none], [.int v2, .int v1, .ref 59], 0, 0, kjS f I L)) rfl ?_
  obtain ⟨r1, hc2, h⟩ := mv_bd h
  refine mv_G_call (r := []) (kf115_ok _ _ _ _ _ _ _ hc2) rfl rfl rfl rfl rfl (Nat.le_of_ble_eq_true rfl) (Nat.le_of_ble_eq_true rfl) (Nat.le_of_ble_eq_true rfl) ?_
  rintro _ _ ⟨rfl, rfl⟩
  refine mv_G_run 8 (F' := (17, [some (.ref 59), some (.int v1), some (.int v2), some (.int r1), none, none, none, none], [.int (((120 : Int32) * v1) + v2), .ref 78], 0, 0, kjS f I L)) rfl ?_
  obtain ⟨hi3, h⟩ := mv_bifs h
  refine mv_G_ald rfl rfl (mv_in_ok hi3) ?_
  refine mv_G_run 1 (F' := (20, [some (.ref 59), some (.int v1), some (.int v2), some (.int r1), none, none, none, none], [.int (-2 : Int32), .int (I 78 (Int32.toNatClampNeg (((120 : Int32) * v1) + v2)))], 0, 0, kjS f I L)) rfl ?_
  by_cases hc4 : ¬ (I 78 (Int32.toNatClampNeg (((120 : Int32) * v1) + v2))) = (-2 : Int32)
  · rw [if_pos hc4] at h
    refine mv_G_br (tgt := 27) rfl rfl (by decide) (fun _ => ?_) (fun z => absurd hc4 z)
    refine mv_G_run 1 (F' := (28, [some (.ref 59), some (.int v1), some (.int v2), some (.int r1), none, none, none, none], [.int (0 : Int32)], 0, 0, kjS f I L)) rfl ?_
    exact kf129_28_ok _ _ d _ _ _ _ _ _ _ h
  · rw [if_neg hc4] at h
    refine mv_G_br (tgt := 27) rfl rfl (by decide) (fun z => absurd z hc4) (fun _ => ?_)
    refine mv_G_run 2 (F' := (28, [some (.ref 59), some (.int v1), some (.int v2), some (.int r1), none, none, none, none], [.int (1 : Int32)], 0, 0, kjS f I L)) rfl ?_
    exact kf129_28_ok _ _ d _ _ _ _ _ _ _ h
/-! KindJudgeModel.flow(I)V on ('c', 59) -/
def kf128_142 (N : Nat) (k83 : Int32 → Int32 → kjI → kjL → Option (kjI × kjL)) (k91 : Int32 → Int32 → Int32 → kjI → kjL → Option (kjI × kjL)) (v1 : Int32) (v2 : Int32) (v3 : Int32) (I : kjI) (L : kjL) : Option (kjI × kjL) :=
  k91 v1 v2 (v3 + (1 : Int32)) I L
set_option maxRecDepth 100000 in
set_option maxHeartbeats 4000000 in
theorem kf128_142_ok (f : Bool) (N : Nat) (k83 : Int32 → Int32 → kjI → kjL → Option (kjI × kjL)) (k91 : Int32 → Int32 → Int32 → kjI → kjL → Option (kjI × kjL)) (d : Nat) (hk83 : ∀ (v1 : Int32) (v2 : Int32) (I : kjI) (L : kjL) (r : kjI × kjL), k83 v1 v2 I L = some r → mv_G kjP kjSta (mv_C kjP kjSta (d + 5)) kjM_128 (kjQwv f r) (83, [some (.ref 59), some (.int v1), some (.int v2), none, none], [], 0, 0, kjS f I L)) (hk91 : ∀ (v1 : Int32) (v2 : Int32) (v3 : Int32) (I : kjI) (L : kjL) (r : kjI × kjL), k91 v1 v2 v3 I L = some r → mv_G kjP kjSta (mv_C kjP kjSta (d + 5)) kjM_128 (kjQwv f r) (91, [some (.ref 59), some (.int v1), some (.int v2), some (.int v3), none], [], 0, 0, kjS f I L)) (v1 : Int32) (v2 : Int32) (v3 : Int32) (I : kjI) (L : kjL) (r : kjI × kjL) (h : kf128_142 N k83 k91 v1 v2 v3 I L = some r) : mv_G kjP kjSta (mv_C kjP kjSta (d + 5)) kjM_128 (kjQwv f r) (142, [some (.ref 59), some (.int v1), some (.int v2), some (.int v3), none], [], 0, 0, kjS f I L) := by
  unfold kf128_142 at h
  refine mv_G_run 2 (F' := (91, [some (.ref 59), some (.int v1), some (.int v2), some (.int (v3 + (1 : Int32))), none], [], 0, 0, kjS f I L)) rfl ?_
  exact hk91 v1 v2 (v3 + (1 : Int32)) I L _ h
def kf128_141 (N : Nat) (k83 : Int32 → Int32 → kjI → kjL → Option (kjI × kjL)) (k91 : Int32 → Int32 → Int32 → kjI → kjL → Option (kjI × kjL)) (v1 : Int32) (v3 : Int32) (s0 : Int32) (I : kjI) (L : kjL) : Option (kjI × kjL) :=
  kf128_142 N k83 k91 v1 s0 v3 I L
set_option maxRecDepth 100000 in
set_option maxHeartbeats 4000000 in
theorem kf128_141_ok (f : Bool) (N : Nat) (k83 : Int32 → Int32 → kjI → kjL → Option (kjI × kjL)) (k91 : Int32 → Int32 → Int32 → kjI → kjL → Option (kjI × kjL)) (d : Nat) (hk83 : ∀ (v1 : Int32) (v2 : Int32) (I : kjI) (L : kjL) (r : kjI × kjL), k83 v1 v2 I L = some r → mv_G kjP kjSta (mv_C kjP kjSta (d + 5)) kjM_128 (kjQwv f r) (83, [some (.ref 59), some (.int v1), some (.int v2), none, none], [], 0, 0, kjS f I L)) (hk91 : ∀ (v1 : Int32) (v2 : Int32) (v3 : Int32) (I : kjI) (L : kjL) (r : kjI × kjL), k91 v1 v2 v3 I L = some r → mv_G kjP kjSta (mv_C kjP kjSta (d + 5)) kjM_128 (kjQwv f r) (91, [some (.ref 59), some (.int v1), some (.int v2), some (.int v3), none], [], 0, 0, kjS f I L)) (v1 : Int32) (v3 : Int32) (s0 : Int32) (I : kjI) (L : kjL) (r : kjI × kjL) (h : kf128_141 N k83 k91 v1 v3 s0 I L = some r) : mv_G kjP kjSta (mv_C kjP kjSta (d + 5)) kjM_128 (kjQwv f r) (141, [some (.ref 59), some (.int v1), none, some (.int v3), none], [.int s0], 0, 0, kjS f I L) := by
  unfold kf128_141 at h
  refine mv_G_run 1 (F' := (142, [some (.ref 59), some (.int v1), some (.int s0), some (.int v3), none], [], 0, 0, kjS f I L)) rfl ?_
  exact kf128_142_ok _ _ _ _ d hk83 hk91 _ _ _ _ _ _ h
def kf128_136 (N : Nat) (k83 : Int32 → Int32 → kjI → kjL → Option (kjI × kjL)) (k91 : Int32 → Int32 → Int32 → kjI → kjL → Option (kjI × kjL)) (v1 : Int32) (v3 : Int32) (I : kjI) (L : kjL) : Option (kjI × kjL) :=
  kf128_141 N k83 k91 v1 v3 (1 : Int32) I L
set_option maxRecDepth 100000 in
set_option maxHeartbeats 4000000 in
theorem kf128_136_ok (f : Bool) (N : Nat) (k83 : Int32 → Int32 → kjI → kjL → Option (kjI × kjL)) (k91 : Int32 → Int32 → Int32 → kjI → kjL → Option (kjI × kjL)) (d : Nat) (hk83 : ∀ (v1 : Int32) (v2 : Int32) (I : kjI) (L : kjL) (r : kjI × kjL), k83 v1 v2 I L = some r → mv_G kjP kjSta (mv_C kjP kjSta (d + 5)) kjM_128 (kjQwv f r) (83, [some (.ref 59), some (.int v1), some (.int v2), none, none], [], 0, 0, kjS f I L)) (hk91 : ∀ (v1 : Int32) (v2 : Int32) (v3 : Int32) (I : kjI) (L : kjL) (r : kjI × kjL), k91 v1 v2 v3 I L = some r → mv_G kjP kjSta (mv_C kjP kjSta (d + 5)) kjM_128 (kjQwv f r) (91, [some (.ref 59), some (.int v1), some (.int v2), some (.int v3), none], [], 0, 0, kjS f I L)) (v1 : Int32) (v3 : Int32) (I : kjI) (L : kjL) (r : kjI × kjL) (h : kf128_136 N k83 k91 v1 v3 I L = some r) : mv_G kjP kjSta (mv_C kjP kjSta (d + 5)) kjM_128 (kjQwv f r) (136, [some (.ref 59), some (.int v1), none, some (.int v3), none], [], 0, 0, kjS f I L) := by
  unfold kf128_136 at h
  refine mv_G_run 2 (F' := (141, [some (.ref 59), some (.int v1), none, some (.int v3), none], [.int (1 : Int32)], 0, 0, kjS f I L)) rfl ?_
  exact kf128_141_ok _ _ _ _ d hk83 hk91 _ _ _ _ _ _ h
def kf128_91 (N : Nat) (k83 : Int32 → Int32 → kjI → kjL → Option (kjI × kjL)) : Nat → Int32 → Int32 → Int32 → kjI → kjL → Option (kjI × kjL)
  | 0, _, _, _, _, _ => none
  | n + 1, v1, v2, v3, I, L => bif mv_in v1 16 then (if (I 74 (Int32.toNatClampNeg v1)) ≤ v3 then (k83 v1 v2 I L) else (bif mv_in (((120 : Int32) * v1) + v3) 1920 then (if ¬ (I 78 (Int32.toNatClampNeg (((120 : Int32) * v1) + v3))) = (-1 : Int32) then ((kf129 N v1 v3 I L).bind fun r5 => if ¬ v2 = 0 then (kf128_136 N k83 (fun v1 v2 v3 I L => kf128_91 N k83 n v1 v2 v3 I L) v1 v3 r5.2.1 r5.2.2) else (if r5.1 = 0 then (kf128_141 N k83 (fun v1 v2 v3 I L => kf128_91 N k83 n v1 v2 v3 I L) v1 v3 (0 : Int32) r5.2.1 r5.2.2) else (kf128_136 N k83 (fun v1 v2 v3 I L => kf128_91 N k83 n v1 v2 v3 I L) v1 v3 r5.2.1 r5.2.2))) else (kf128_142 N k83 (fun v1 v2 v3 I L => kf128_91 N k83 n v1 v2 v3 I L) v1 v2 v3 I L)) else none)) else none
set_option maxRecDepth 100000 in
set_option maxHeartbeats 4000000 in
theorem kf128_91_ok (f : Bool) (N : Nat) (k83 : Int32 → Int32 → kjI → kjL → Option (kjI × kjL)) (d : Nat) (hk83 : ∀ (v1 : Int32) (v2 : Int32) (I : kjI) (L : kjL) (r : kjI × kjL), k83 v1 v2 I L = some r → mv_G kjP kjSta (mv_C kjP kjSta (d + 5)) kjM_128 (kjQwv f r) (83, [some (.ref 59), some (.int v1), some (.int v2), none, none], [], 0, 0, kjS f I L)) : ∀ (n : Nat) (v1 : Int32) (v2 : Int32) (v3 : Int32) (I : kjI) (L : kjL) (r : kjI × kjL), kf128_91 N k83 n v1 v2 v3 I L = some r → mv_G kjP kjSta (mv_C kjP kjSta (d + 5)) kjM_128 (kjQwv f r) (91, [some (.ref 59), some (.int v1), some (.int v2), some (.int v3), none], [], 0, 0, kjS f I L) := by
  intro n
  induction n with
  | zero => intro v1 v2 v3 I L r h; cases h
  | succ n ih =>
    have hk91 := ih
    intro v1 v2 v3 I L r h
    unfold kf128_91 at h
    refine mv_G_run 4 (F' := (97, [some (.ref 59), some (.int v1), some (.int v2), some (.int v3), none], [.int v1, .ref 74, .int v3], 0, 0, kjS f I L)) rfl ?_
    obtain ⟨hi1, h⟩ := mv_bifs h
    refine mv_G_ald rfl rfl (mv_in_ok hi1) ?_
    by_cases hc2 : (I 74 (Int32.toNatClampNeg v1)) ≤ v3
    · rw [if_pos hc2] at h
      refine mv_G_br (tgt := 148) rfl rfl (by decide) (fun _ => ?_) (fun z => absurd hc2 z)
      refine mv_G_run 1 (F' := (83, [some (.ref 59), some (.int v1), some (.int v2), some (.int v3), none], [], 0, 0, kjS f I L)) rfl ?_
      refine mv_G_fg (lc' := [some (.ref 59), some (.int v1), some (.int v2), none, none]) (And.intro rfl (And.intro rfl (And.intro rfl trivial))) ?_
      exact hk83 v1 v2 I L _ h
    · rw [if_neg hc2] at h
      refine mv_G_br (tgt := 148) rfl rfl (by decide) (fun z => absurd z hc2) (fun _ => ?_)
      refine mv_G_run 7 (F' := (111, [some (.ref 59), some (.int v1), some (.int v2), some (.int v3), none], [.int (((120 : Int32) * v1) + v3), .ref 78], 0, 0, kjS f I L)) rfl ?_
      obtain ⟨hi3, h⟩ := mv_bifs h
      refine mv_G_ald rfl rfl (mv_in_ok hi3) ?_
      refine mv_G_run 1 (F' := (113, [some (.ref 59), some (.int v1), some (.int v2), some (.int v3), none], [.int (-1 : Int32), .int (I 78 (Int32.toNatClampNeg (((120 : Int32) * v1) + v3)))], 0, 0, kjS f I L)) rfl ?_
      by_cases hc4 : ¬ (I 78 (Int32.toNatClampNeg (((120 : Int32) * v1) + v3))) = (-1 : Int32)
      · rw [if_pos hc4] at h
        refine mv_G_br (tgt := 119) rfl rfl (by decide) (fun _ => ?_) (fun z => absurd hc4 z)
        refine mv_G_run 3 (F' := (122, [some (.ref 59), some (.int v1), some (.int v2), some (.int v3), none], [.int v3, .int v1, .ref 59], 0, 0, kjS f I L)) rfl ?_
        obtain ⟨r5, hc6, h⟩ := mv_bd h
        refine mv_G_call (r := []) (kf129_ok _ _ _ _ _ _ _ _ hc6) rfl rfl rfl rfl rfl (Nat.le_of_ble_eq_true rfl) (Nat.le_of_ble_eq_true rfl) (Nat.le_of_ble_eq_true rfl) ?_
        rintro _ _ ⟨rfl, rfl⟩
        refine mv_G_run 2 (F' := (128, [some (.ref 59), some (.int v1), some (.int v2), some (.int v3), some (.int r5.1)], [.int v2], 0, 0, kjS f r5.2.1 r5.2.2)) rfl ?_
        by_cases hc7 : ¬ v2 = 0
        · rw [if_pos hc7] at h
          refine mv_G_br (tgt := 136) rfl rfl (by decide) (fun _ => ?_) (fun z => absurd hc7 z)
          refine mv_G_fg (lc' := [some (.ref 59), some (.int v1), none, some (.int v3), none]) (And.intro rfl (And.intro rfl (And.intro rfl trivial))) ?_
          exact kf128_136_ok _ _ _ _ d hk83 hk91 _ _ _ _ _ h
        · rw [if_neg hc7] at h
          refine mv_G_br (tgt := 136) rfl rfl (by decide) (fun z => absurd z hc7) (fun _ => ?_)
          refine mv_G_run 1 (F' := (133, [some (.ref 59), some (.int v1), some (.int v2), some (.int v3), some (.int r5.1)], [.int r5.1], 0, 0, kjS f r5.2.1 r5.2.2)) rfl ?_
          by_cases hc8 : r5.1 = 0
          · rw [if_pos hc8] at h
            refine mv_G_br (tgt := 140) rfl rfl (by decide) (fun _ => ?_) (fun z => absurd hc8 z)
            refine mv_G_run 1 (F' := (141, [some (.ref 59), some (.int v1), some (.int v2), some (.int v3), some (.int r5.1)], [.int (0 : Int32)], 0, 0, kjS f r5.2.1 r5.2.2)) rfl ?_
            refine mv_G_fg (lc' := [some (.ref 59), some (.int v1), none, some (.int v3), none]) (And.intro rfl (And.intro rfl (And.intro rfl trivial))) ?_
            exact kf128_141_ok _ _ _ _ d hk83 hk91 _ _ _ _ _ _ h
          · rw [if_neg hc8] at h
            refine mv_G_br (tgt := 140) rfl rfl (by decide) (fun z => absurd z hc8) (fun _ => ?_)
            refine mv_G_fg (lc' := [some (.ref 59), some (.int v1), none, some (.int v3), none]) (And.intro rfl (And.intro rfl (And.intro rfl trivial))) ?_
            exact kf128_136_ok _ _ _ _ d hk83 hk91 _ _ _ _ _ h
      · rw [if_neg hc4] at h
        refine mv_G_br (tgt := 119) rfl rfl (by decide) (fun z => absurd z hc4) (fun _ => ?_)
        refine mv_G_run 1 (F' := (142, [some (.ref 59), some (.int v1), some (.int v2), some (.int v3), none], [], 0, 0, kjS f I L)) rfl ?_
        exact kf128_142_ok _ _ _ _ d hk83 hk91 _ _ _ _ _ _ h
def kf128_83 (N : Nat) : Nat → Int32 → Int32 → kjI → kjL → Option (kjI × kjL)
  | 0, _, _, _, _ => none
  | n + 1, v1, v2, I, L => if v2 = 0 then (some (I, L)) else (kf128_91 N (fun v1 v2 I L => kf128_83 N n v1 v2 I L) N v1 (0 : Int32) (0 : Int32) I L)
set_option maxRecDepth 100000 in
set_option maxHeartbeats 4000000 in
theorem kf128_83_ok (f : Bool) (N : Nat) (d : Nat)  : ∀ (n : Nat) (v1 : Int32) (v2 : Int32) (I : kjI) (L : kjL) (r : kjI × kjL), kf128_83 N n v1 v2 I L = some r → mv_G kjP kjSta (mv_C kjP kjSta (d + 5)) kjM_128 (kjQwv f r) (83, [some (.ref 59), some (.int v1), some (.int v2), none, none], [], 0, 0, kjS f I L) := by
  intro n
  induction n with
  | zero => intro v1 v2 I L r h; cases h
  | succ n ih =>
    have hk83 := ih
    intro v1 v2 I L r h
    unfold kf128_83 at h
    refine mv_G_run 1 (F' := (84, [some (.ref 59), some (.int v1), some (.int v2), none, none], [.int v2], 0, 0, kjS f I L)) rfl ?_
    by_cases hc1 : v2 = 0
    · rw [if_pos hc1] at h
      refine mv_G_br (tgt := 151) rfl rfl (by decide) (fun _ => ?_) (fun z => absurd hc1 z)
      obtain rfl := Option.some.inj h
      exact mv_G_ret rfl rfl rfl (Nat.le_refl _) trivial ⟨rfl, rfl⟩
    · rw [if_neg hc1] at h
      refine mv_G_br (tgt := 151) rfl rfl (by decide) (fun z => absurd z hc1) (fun _ => ?_)
      refine mv_G_run 4 (F' := (91, [some (.ref 59), some (.int v1), some (.int (0 : Int32)), some (.int (0 : Int32)), none], [], 0, 0, kjS f I L)) rfl ?_
      exact kf128_91_ok _ _ _ d hk83 _ _ _ _ _ _ _ h
def kf128_63 (N : Nat) (k28 : Int32 → Int32 → kjI → kjL → Option (kjI × kjL)) (v1 : Int32) (v2 : Int32) (s1 : Int32) (s2 : Int32) (I : kjI) (L : kjL) : Option (kjI × kjL) :=
  bif mv_in s1 16 then (k28 v1 (v2 + (1 : Int32)) (mv_up I 80 (Int32.toNatClampNeg s1) s2) L) else none
set_option maxRecDepth 100000 in
set_option maxHeartbeats 4000000 in
theorem kf128_63_ok (f : Bool) (N : Nat) (k28 : Int32 → Int32 → kjI → kjL → Option (kjI × kjL)) (d : Nat) (hk28 : ∀ (v1 : Int32) (v2 : Int32) (I : kjI) (L : kjL) (r : kjI × kjL), k28 v1 v2 I L = some r → mv_G kjP kjSta (mv_C kjP kjSta (d + 5)) kjM_128 (kjQwv f r) (28, [some (.ref 59), some (.int v1), some (.int v2), none, none], [], 0, 0, kjS f I L)) (v1 : Int32) (v2 : Int32) (s1 : Int32) (s2 : Int32) (I : kjI) (L : kjL) (r : kjI × kjL) (h : kf128_63 N k28 v1 v2 s1 s2 I L = some r) : mv_G kjP kjSta (mv_C kjP kjSta (d + 5)) kjM_128 (kjQwv f r) (63, [some (.ref 59), some (.int v1), some (.int v2), none, none], [.int s2, .int s1, .ref 80], 0, 0, kjS f I L) := by
  unfold kf128_63 at h
  obtain ⟨hi1, h⟩ := mv_bifs h
  refine mv_G_ast rfl rfl (mv_in_ok hi1) ?_
  refine mv_G_run 2 (F' := (28, [some (.ref 59), some (.int v1), some (.int (v2 + (1 : Int32))), none, none], [], 0, 0, kjS f (mv_up I 80 (Int32.toNatClampNeg s1) s2) L)) rfl ?_
  exact hk28 v1 (v2 + (1 : Int32)) (mv_up I 80 (Int32.toNatClampNeg s1) s2) L _ h
def kf128_28 (N : Nat) : Nat → Int32 → Int32 → kjI → kjL → Option (kjI × kjL)
  | 0, _, _, _, _ => none
  | n + 1, v1, v2, I, L => if (16 : Int32) ≤ v2 then ((kf127 N v1 (0 : Int32) (0 : Int32) (mv_up I 59 33 (0 : Int32)) L).bind fun r2 => kf128_83 N N v1 r2.1 r2.2.1 r2.2.2) else (bif mv_in v1 16 then (if (I 69 (Int32.toNatClampNeg v1)) ≤ v2 then (kf128_63 N (fun v1 v2 I L => kf128_28 N n v1 v2 I L) v1 v2 v2 (0 : Int32) I L) else (bif mv_in (((4 : Int32) * v1) + v2) 64 then (kf128_63 N (fun v1 v2 I L => kf128_28 N n v1 v2 I L) v1 v2 v2 (I 70 (Int32.toNatClampNeg (((4 : Int32) * v1) + v2))) I L) else none)) else none)
set_option maxRecDepth 100000 in
set_option maxHeartbeats 4000000 in
theorem kf128_28_ok (f : Bool) (N : Nat) (d : Nat)  : ∀ (n : Nat) (v1 : Int32) (v2 : Int32) (I : kjI) (L : kjL) (r : kjI × kjL), kf128_28 N n v1 v2 I L = some r → mv_G kjP kjSta (mv_C kjP kjSta (d + 5)) kjM_128 (kjQwv f r) (28, [some (.ref 59), some (.int v1), some (.int v2), none, none], [], 0, 0, kjS f I L) := by
  intro n
  induction n with
  | zero => intro v1 v2 I L r h; cases h
  | succ n ih =>
    have hk28 := ih
    intro v1 v2 I L r h
    unfold kf128_28 at h
    refine mv_G_run 2 (F' := (31, [some (.ref 59), some (.int v1), some (.int v2), none, none], [.int (16 : Int32), .int v2], 0, 0, kjS f I L)) rfl ?_
    by_cases hc1 : (16 : Int32) ≤ v2
    · rw [if_pos hc1] at h
      refine mv_G_br (tgt := 70) rfl rfl (by decide) (fun _ => ?_) (fun z => absurd hc1 z)
      refine mv_G_run 7 (F' := (79, [some (.ref 59), some (.int v1), some (.int v2), none, none], [.int (0 : Int32), .int (0 : Int32), .int v1, .ref 59], 0, 0, kjS f (mv_up I 59 33 (0 : Int32)) L)) rfl ?_
      obtain ⟨r2, hc3, h⟩ := mv_bd h
      refine mv_G_call (r := []) (kf127_ok _ _ _ _ _ _ _ _ _ hc3) rfl rfl rfl rfl rfl (Nat.le_of_ble_eq_true rfl) (Nat.le_of_ble_eq_true rfl) (Nat.le_of_ble_eq_true rfl) ?_
      rintro _ _ ⟨rfl, rfl⟩
      refine mv_G_run 1 (F' := (83, [some (.ref 59), some (.int v1), some (.int r2.1), none, none], [], 0, 0, kjS f r2.2.1 r2.2.2)) rfl ?_
      exact kf128_83_ok _ _ d _ _ _ _ _ _ h
    · rw [if_neg hc1] at h
      refine mv_G_br (tgt := 70) rfl rfl (by decide) (fun z => absurd z hc1) (fun _ => ?_)
      refine mv_G_run 7 (F' := (45, [some (.ref 59), some (.int v1), some (.int v2), none, none], [.int v1, .ref 69, .int v2, .int v2, .ref 80], 0, 0, kjS f I L)) rfl ?_
      obtain ⟨hi4, h⟩ := mv_bifs h
      refine mv_G_ald rfl rfl (mv_in_ok hi4) ?_
      by_cases hc5 : (I 69 (Int32.toNatClampNeg v1)) ≤ v2
      · rw [if_pos hc5] at h
        refine mv_G_br (tgt := 62) rfl rfl (by decide) (fun _ => ?_) (fun z => absurd hc5 z)
        refine mv_G_run 1 (F' := (63, [some (.ref 59), some (.int v1), some (.int v2), none, none], [.int (0 : Int32), .int v2, .ref 80], 0, 0, kjS f I L)) rfl ?_
        exact kf128_63_ok _ _ _ d hk28 _ _ _ _ _ _ _ h
      · rw [if_neg hc5] at h
        refine mv_G_br (tgt := 62) rfl rfl (by decide) (fun z => absurd z hc5) (fun _ => ?_)
        refine mv_G_run 7 (F' := (58, [some (.ref 59), some (.int v1), some (.int v2), none, none], [.int (((4 : Int32) * v1) + v2), .ref 70, .int v2, .ref 80], 0, 0, kjS f I L)) rfl ?_
        obtain ⟨hi6, h⟩ := mv_bifs h
        refine mv_G_ald rfl rfl (mv_in_ok hi6) ?_
        refine mv_G_run 1 (F' := (63, [some (.ref 59), some (.int v1), some (.int v2), none, none], [.int (I 70 (Int32.toNatClampNeg (((4 : Int32) * v1) + v2))), .int v2, .ref 80], 0, 0, kjS f I L)) rfl ?_
        exact kf128_63_ok _ _ _ d hk28 _ _ _ _ _ _ _ h
def kf128_2 (N : Nat) : Nat → Int32 → Int32 → kjI → kjL → Option (kjI × kjL)
  | 0, _, _, _, _ => none
  | n + 1, v1, v2, I, L => if (120 : Int32) ≤ v2 then (kf128_28 N N v1 (0 : Int32) I L) else (bif mv_in (((120 : Int32) * v1) + v2) 1920 then ((fun v1 v2 I L => kf128_2 N n v1 v2 I L) v1 (v2 + (1 : Int32)) (mv_up I 78 (Int32.toNatClampNeg (((120 : Int32) * v1) + v2)) (-1 : Int32)) L) else none)
set_option maxRecDepth 100000 in
set_option maxHeartbeats 4000000 in
theorem kf128_2_ok (f : Bool) (N : Nat) (d : Nat)  : ∀ (n : Nat) (v1 : Int32) (v2 : Int32) (I : kjI) (L : kjL) (r : kjI × kjL), kf128_2 N n v1 v2 I L = some r → mv_G kjP kjSta (mv_C kjP kjSta (d + 5)) kjM_128 (kjQwv f r) (2, [some (.ref 59), some (.int v1), some (.int v2), none, none], [], 0, 0, kjS f I L) := by
  intro n
  induction n with
  | zero => intro v1 v2 I L r h; cases h
  | succ n ih =>
    have hk2 := ih
    intro v1 v2 I L r h
    unfold kf128_2 at h
    refine mv_G_run 2 (F' := (5, [some (.ref 59), some (.int v1), some (.int v2), none, none], [.int (120 : Int32), .int v2], 0, 0, kjS f I L)) rfl ?_
    by_cases hc1 : (120 : Int32) ≤ v2
    · rw [if_pos hc1] at h
      refine mv_G_br (tgt := 26) rfl rfl (by decide) (fun _ => ?_) (fun z => absurd hc1 z)
      refine mv_G_run 2 (F' := (28, [some (.ref 59), some (.int v1), some (.int (0 : Int32)), none, none], [], 0, 0, kjS f I L)) rfl ?_
      exact kf128_28_ok _ _ d _ _ _ _ _ _ h
    · rw [if_neg hc1] at h
      refine mv_G_br (tgt := 26) rfl rfl (by decide) (fun z => absurd z hc1) (fun _ => ?_)
      refine mv_G_run 8 (F' := (19, [some (.ref 59), some (.int v1), some (.int v2), none, none], [.int (-1 : Int32), .int (((120 : Int32) * v1) + v2), .ref 78], 0, 0, kjS f I L)) rfl ?_
      obtain ⟨hi2, h⟩ := mv_bifs h
      refine mv_G_ast rfl rfl (mv_in_ok hi2) ?_
      refine mv_G_run 2 (F' := (2, [some (.ref 59), some (.int v1), some (.int (v2 + (1 : Int32))), none, none], [], 0, 0, kjS f (mv_up I 78 (Int32.toNatClampNeg (((120 : Int32) * v1) + v2)) (-1 : Int32)) L)) rfl ?_
      exact hk2 v1 (v2 + (1 : Int32)) (mv_up I 78 (Int32.toNatClampNeg (((120 : Int32) * v1) + v2)) (-1 : Int32)) L _ h
def kf128 (N : Nat) (v1 : Int32) (I : kjI) (L : kjL) : Option (kjI × kjL) :=
  kf128_2 N N v1 (0 : Int32) I L
set_option maxRecDepth 100000 in
set_option maxHeartbeats 4000000 in
theorem kf128_ok (f : Bool) (N : Nat) (v1 : Int32) (I : kjI) (L : kjL) (d : Nat) (r : kjI × kjL) (h : kf128 N v1 I L = some r) : mv_C kjP kjSta (d + 6) 128 [.ref 59, .int v1] (kjS f I L) (kjQwv f r) := by
  unfold kf128 at h
  refine mv_C_in kjM_128 (lc := [some (.ref 59), some (.int v1), none, none, none]) rfl rfl rfl ?_
  refine mv_G_run 2 (F' := (2, [some (.ref 59), some (.int v1), some (.int (0 : Int32)), none, none], [], 0, 0, kjS f I L)) rfl ?_
  exact kf128_2_ok _ _ d _ _ _ _ _ _ h
/-! KindJudgeModel.isFit(II)Z on ('c', 59) -/
def kf135_15 (N : Nat) (I : kjI) (L : kjL) (v1 : Int32) (v2 : Int32) : Option (Int32) :=
  if v1 < (16 : Int32) then (some (0 : Int32)) else (if v2 < (16 : Int32) then (some (0 : Int32)) else ((kf109 N I L (v1 - (16 : Int32)) (v2 - (16 : Int32))).bind fun r3 => if r3 = 0 then (some (0 : Int32)) else (some (1 : Int32))))
set_option maxRecDepth 100000 in
set_option maxHeartbeats 4000000 in
theorem kf135_15_ok (f : Bool) (N : Nat) (I : kjI) (L : kjL) (d : Nat)  (v1 : Int32) (v2 : Int32) (r : Int32) (h : kf135_15 N I L v1 v2 = some r) : mv_G kjP kjSta (mv_C kjP kjSta (d + 1)) kjM_135 (kjQi f I L r) (15, [some (.ref 59), some (.int v1), some (.int v2)], [], 0, 0, kjS f I L) := by
  unfold kf135_15 at h
  refine mv_G_run 2 (F' := (18, [some (.ref 59), some (.int v1), some (.int v2)], [.int (16 : Int32), .int v1], 0, 0, kjS f I L)) rfl ?_
  by_cases hc1 : v1 < (16 : Int32)
  · rw [if_pos hc1] at h
    refine mv_G_br (tgt := 46) rfl rfl (by decide) (fun _ => ?_) (fun z => absurd hc1 z)
    refine mv_G_run 1 (F' := (47, [some (.ref 59), some (.int v1), some (.int v2)], [.int (0 : Int32)], 0, 0, kjS f I L)) rfl ?_
    obtain rfl := Option.some.inj h
    exact mv_G_ret rfl rfl rfl (Nat.le_refl _) (Or.inl rfl) ⟨rfl, rfl⟩
  · rw [if_neg hc1] at h
    refine mv_G_br (tgt := 46) rfl rfl (by decide) (fun z => absurd z hc1) (fun _ => ?_)
    refine mv_G_run 2 (F' := (24, [some (.ref 59), some (.int v1), some (.int v2)], [.int (16 : Int32), .int v2], 0, 0, kjS f I L)) rfl ?_
    by_cases hc2 : v2 < (16 : Int32)
    · rw [if_pos hc2] at h
      refine mv_G_br (tgt := 46) rfl rfl (by decide) (fun _ => ?_) (fun z => absurd hc2 z)
      refine mv_G_run 1 (F' := (47, [some (.ref 59), some (.int v1), some (.int v2)], [.int (0 : Int32)], 0, 0, kjS f I L)) rfl ?_
      obtain rfl := Option.some.inj h
      exact mv_G_ret rfl rfl rfl (Nat.le_refl _) (Or.inl rfl) ⟨rfl, rfl⟩
    · rw [if_neg hc2] at h
      refine mv_G_br (tgt := 46) rfl rfl (by decide) (fun z => absurd z hc2) (fun _ => ?_)
      refine mv_G_run 7 (F' := (36, [some (.ref 59), some (.int v1), some (.int v2)], [.int (v2 - (16 : Int32)), .int (v1 - (16 : Int32)), .ref 59], 0, 0, kjS f I L)) rfl ?_
      obtain ⟨r3, hc4, h⟩ := mv_bd h
      refine mv_G_call (r := []) (kf109_ok _ _ _ _ _ _ _ _ hc4) rfl rfl rfl rfl rfl (Nat.le_of_ble_eq_true rfl) (Nat.le_of_ble_eq_true rfl) (Nat.le_of_ble_eq_true rfl) ?_
      rintro _ _ ⟨rfl, rfl⟩
      by_cases hc5 : r3 = 0
      · rw [if_pos hc5] at h
        refine mv_G_br (tgt := 46) rfl rfl (by decide) (fun _ => ?_) (fun z => absurd hc5 z)
        refine mv_G_run 1 (F' := (47, [some (.ref 59), some (.int v1), some (.int v2)], [.int (0 : Int32)], 0, 0, kjS f I L)) rfl ?_
        obtain rfl := Option.some.inj h
        exact mv_G_ret rfl rfl rfl (Nat.le_refl _) (Or.inl rfl) ⟨rfl, rfl⟩
      · rw [if_neg hc5] at h
        refine mv_G_br (tgt := 46) rfl rfl (by decide) (fun z => absurd z hc5) (fun _ => ?_)
        refine mv_G_run 2 (F' := (47, [some (.ref 59), some (.int v1), some (.int v2)], [.int (1 : Int32)], 0, 0, kjS f I L)) rfl ?_
        obtain rfl := Option.some.inj h
        exact mv_G_ret rfl rfl rfl (Nat.le_refl _) (Or.inr rfl) ⟨rfl, rfl⟩
def kf135 (N : Nat) (I : kjI) (L : kjL) (v1 : Int32) (v2 : Int32) : Option (Int32) :=
  if v1 = v2 then (some (1 : Int32)) else (if ¬ v1 = (3 : Int32) then (kf135_15 N I L v1 v2) else (if ¬ v2 = (1 : Int32) then (some (1 : Int32)) else (kf135_15 N I L v1 v2)))
set_option maxRecDepth 100000 in
set_option maxHeartbeats 4000000 in
theorem kf135_ok (f : Bool) (N : Nat) (I : kjI) (L : kjL) (v1 : Int32) (v2 : Int32) (d : Nat) (r : Int32) (h : kf135 N I L v1 v2 = some r) : mv_C kjP kjSta (d + 2) 135 [.ref 59, .int v1, .int v2] (kjS f I L) (kjQi f I L r) := by
  unfold kf135 at h
  refine mv_C_in kjM_135 (lc := [some (.ref 59), some (.int v1), some (.int v2)]) rfl rfl rfl ?_
  refine mv_G_run 2 (F' := (2, [some (.ref 59), some (.int v1), some (.int v2)], [.int v2, .int v1], 0, 0, kjS f I L)) rfl ?_
  by_cases hc1 : v1 = v2
  · rw [if_pos hc1] at h
    refine mv_G_br (tgt := 42) rfl rfl (by decide) (fun _ => ?_) (fun z => absurd hc1 z)
    refine mv_G_run 2 (F' := (47, [some (.ref 59), some (.int v1), some (.int v2)], [.int (1 : Int32)], 0, 0, kjS f I L)) rfl ?_
    obtain rfl := Option.some.inj h
    exact mv_G_ret rfl rfl rfl (Nat.le_refl _) (Or.inr rfl) ⟨rfl, rfl⟩
  · rw [if_neg hc1] at h
    refine mv_G_br (tgt := 42) rfl rfl (by decide) (fun z => absurd z hc1) (fun _ => ?_)
    refine mv_G_run 2 (F' := (7, [some (.ref 59), some (.int v1), some (.int v2)], [.int (3 : Int32), .int v1], 0, 0, kjS f I L)) rfl ?_
    by_cases hc2 : ¬ v1 = (3 : Int32)
    · rw [if_pos hc2] at h
      refine mv_G_br (tgt := 15) rfl rfl (by decide) (fun _ => ?_) (fun z => absurd hc2 z)
      exact kf135_15_ok _ _ _ _ d _ _ _ h
    · rw [if_neg hc2] at h
      refine mv_G_br (tgt := 15) rfl rfl (by decide) (fun z => absurd z hc2) (fun _ => ?_)
      refine mv_G_run 2 (F' := (12, [some (.ref 59), some (.int v1), some (.int v2)], [.int (1 : Int32), .int v2], 0, 0, kjS f I L)) rfl ?_
      by_cases hc3 : ¬ v2 = (1 : Int32)
      · rw [if_pos hc3] at h
        refine mv_G_br (tgt := 42) rfl rfl (by decide) (fun _ => ?_) (fun z => absurd hc3 z)
        refine mv_G_run 2 (F' := (47, [some (.ref 59), some (.int v1), some (.int v2)], [.int (1 : Int32)], 0, 0, kjS f I L)) rfl ?_
        obtain rfl := Option.some.inj h
        exact mv_G_ret rfl rfl rfl (Nat.le_refl _) (Or.inr rfl) ⟨rfl, rfl⟩
      · rw [if_neg hc3] at h
        refine mv_G_br (tgt := 42) rfl rfl (by decide) (fun z => absurd z hc3) (fun _ => ?_)
        exact kf135_15_ok _ _ _ _ d _ _ _ h
/-! KindJudgeModel.resolve(II)I on ('c', 59) -/
def kf125_2 (N : Nat) (I : kjI) (L : kjL) : Nat → Int32 → Int32 → Option (Int32)
  | 0, _, _ => none
  | n + 1, v2, v3 => if v3 < 0 then (some (-1 : Int32)) else (bif mv_in (((8 : Int32) * v3) + v2) 64 then (if (I 77 (Int32.toNatClampNeg (((8 : Int32) * v3) + v2))) ≤ 0 then (bif mv_in v3 8 then ((fun v2 v3 => kf125_2 N I L n v2 v3) v2 (I 63 (Int32.toNatClampNeg v3))) else none) else (bif mv_in (((8 : Int32) * v3) + v2) 64 then (some ((I 77 (Int32.toNatClampNeg (((8 : Int32) * v3) + v2))) - (1 : Int32))) else none)) else none)
set_option maxRecDepth 100000 in
set_option maxHeartbeats 4000000 in
theorem kf125_2_ok (f : Bool) (N : Nat) (I : kjI) (L : kjL) (d : Nat)  : ∀ (n : Nat) (v2 : Int32) (v3 : Int32) (r : Int32), kf125_2 N I L n v2 v3 = some r → mv_G kjP kjSta (mv_C kjP kjSta (d + 0)) kjM_125 (kjQi f I L r) (2, [some (.ref 59), none, some (.int v2), some (.int v3)], [], 0, 0, kjS f I L) := by
  intro n
  induction n with
  | zero => intro v2 v3 r h; cases h
  | succ n ih =>
    have hk2 := ih
    intro v2 v3 r h
    unfold kf125_2 at h
    refine mv_G_run 1 (F' := (3, [some (.ref 59), none, some (.int v2), some (.int v3)], [.int v3], 0, 0, kjS f I L)) rfl ?_
    by_cases hc1 : v3 < 0
    · rw [if_pos hc1] at h
      refine mv_G_br (tgt := 44) rfl rfl (by decide) (fun _ => ?_) (fun z => absurd hc1 z)
      refine mv_G_run 1 (F' := (45, [some (.ref 59), none, some (.int v2), some (.int v3)], [.int (-1 : Int32)], 0, 0, kjS f I L)) rfl ?_
      obtain rfl := Option.some.inj h
      exact mv_G_ret rfl rfl rfl (Nat.le_refl _) trivial ⟨rfl, rfl⟩
    · rw [if_neg hc1] at h
      refine mv_G_br (tgt := 44) rfl rfl (by decide) (fun z => absurd z hc1) (fun _ => ?_)
      refine mv_G_run 7 (F' := (16, [some (.ref 59), none, some (.int v2), some (.int v3)], [.int (((8 : Int32) * v3) + v2), .ref 77], 0, 0, kjS f I L)) rfl ?_
      obtain ⟨hi2, h⟩ := mv_bifs h
      refine mv_G_ald rfl rfl (mv_in_ok hi2) ?_
      by_cases hc3 : (I 77 (Int32.toNatClampNeg (((8 : Int32) * v3) + v2))) ≤ 0
      · rw [if_pos hc3] at h
        refine mv_G_br (tgt := 34) rfl rfl (by decide) (fun _ => ?_) (fun z => absurd hc3 z)
        refine mv_G_run 3 (F' := (39, [some (.ref 59), none, some (.int v2), some (.int v3)], [.int v3, .ref 63], 0, 0, kjS f I L)) rfl ?_
        obtain ⟨hi4, h⟩ := mv_bifs h
        refine mv_G_ald rfl rfl (mv_in_ok hi4) ?_
        refine mv_G_run 2 (F' := (2, [some (.ref 59), none, some (.int v2), some (.int (I 63 (Int32.toNatClampNeg v3)))], [], 0, 0, kjS f I L)) rfl ?_
        exact hk2 v2 (I 63 (Int32.toNatClampNeg v3)) _ h
      · rw [if_neg hc3] at h
        refine mv_G_br (tgt := 34) rfl rfl (by decide) (fun z => absurd z hc3) (fun _ => ?_)
        refine mv_G_run 7 (F' := (30, [some (.ref 59), none, some (.int v2), some (.int v3)], [.int (((8 : Int32) * v3) + v2), .ref 77], 0, 0, kjS f I L)) rfl ?_
        obtain ⟨hi5, h⟩ := mv_bifs h
        refine mv_G_ald rfl rfl (mv_in_ok hi5) ?_
        refine mv_G_run 2 (F' := (33, [some (.ref 59), none, some (.int v2), some (.int v3)], [.int ((I 77 (Int32.toNatClampNeg (((8 : Int32) * v3) + v2))) - (1 : Int32))], 0, 0, kjS f I L)) rfl ?_
        obtain rfl := Option.some.inj h
        exact mv_G_ret rfl rfl rfl (Nat.le_refl _) trivial ⟨rfl, rfl⟩
def kf125 (N : Nat) (I : kjI) (L : kjL) (v1 : Int32) (v2 : Int32) : Option (Int32) :=
  kf125_2 N I L N v2 v1
set_option maxRecDepth 100000 in
set_option maxHeartbeats 4000000 in
theorem kf125_ok (f : Bool) (N : Nat) (I : kjI) (L : kjL) (v1 : Int32) (v2 : Int32) (d : Nat) (r : Int32) (h : kf125 N I L v1 v2 = some r) : mv_C kjP kjSta (d + 1) 125 [.ref 59, .int v1, .int v2] (kjS f I L) (kjQi f I L r) := by
  unfold kf125 at h
  refine mv_C_in kjM_125 (lc := [some (.ref 59), some (.int v1), some (.int v2), none]) rfl rfl rfl ?_
  refine mv_G_run 2 (F' := (2, [some (.ref 59), some (.int v1), some (.int v2), some (.int v1)], [], 0, 0, kjS f I L)) rfl ?_
  refine mv_G_fg (lc' := [some (.ref 59), none, some (.int v2), some (.int v1)]) (And.intro rfl (And.intro rfl (And.intro rfl trivial))) ?_
  exact kf125_2_ok _ _ _ _ d _ _ _ _ h
/-! KindJudgeModel.isThing(I)Z -/
def kf136 (I : kjI) (L : kjL) (v0 : Int32) : Option (Int32) :=
  if v0 = (1 : Int32) then (some (0 : Int32)) else (if v0 = 0 then (some (0 : Int32)) else (some (1 : Int32)))
set_option maxRecDepth 100000 in
set_option maxHeartbeats 4000000 in
theorem kf136_ok (f : Bool) (I : kjI) (L : kjL) (v0 : Int32) (d : Nat) (r : Int32) (h : kf136 I L v0 = some r) : mv_C kjP kjSta (d + 1) 136 [.int v0] (kjS f I L) (kjQi f I L r) := by
  unfold kf136 at h
  refine mv_C_in kjM_136 (lc := [some (.int v0)]) rfl rfl rfl ?_
  refine mv_G_run 2 (F' := (2, [some (.int v0)], [.int (1 : Int32), .int v0], 0, 0, kjS f I L)) rfl ?_
  by_cases hc1 : v0 = (1 : Int32)
  · rw [if_pos hc1] at h
    refine mv_G_br (tgt := 13) rfl rfl (by decide) (fun _ => ?_) (fun z => absurd hc1 z)
    refine mv_G_run 1 (F' := (14, [some (.int v0)], [.int (0 : Int32)], 0, 0, kjS f I L)) rfl ?_
    obtain rfl := Option.some.inj h
    exact mv_G_ret rfl rfl rfl (Nat.le_refl _) (Or.inl rfl) ⟨rfl, rfl⟩
  · rw [if_neg hc1] at h
    refine mv_G_br (tgt := 13) rfl rfl (by decide) (fun z => absurd z hc1) (fun _ => ?_)
    refine mv_G_run 1 (F' := (6, [some (.int v0)], [.int v0], 0, 0, kjS f I L)) rfl ?_
    by_cases hc2 : v0 = 0
    · rw [if_pos hc2] at h
      refine mv_G_br (tgt := 13) rfl rfl (by decide) (fun _ => ?_) (fun z => absurd hc2 z)
      refine mv_G_run 1 (F' := (14, [some (.int v0)], [.int (0 : Int32)], 0, 0, kjS f I L)) rfl ?_
      obtain rfl := Option.some.inj h
      exact mv_G_ret rfl rfl rfl (Nat.le_refl _) (Or.inl rfl) ⟨rfl, rfl⟩
    · rw [if_neg hc2] at h
      refine mv_G_br (tgt := 13) rfl rfl (by decide) (fun z => absurd z hc2) (fun _ => ?_)
      refine mv_G_run 2 (F' := (14, [some (.int v0)], [.int (1 : Int32)], 0, 0, kjS f I L)) rfl ?_
      obtain rfl := Option.some.inj h
      exact mv_G_ret rfl rfl rfl (Nat.le_refl _) (Or.inr rfl) ⟨rfl, rfl⟩
/-! KindJudgeModel.isWrong(II)Z on ('c', 59) -/
def kf137_493 (N : Nat) (v7 : Int32) (v8 : Int32) (I : kjI) (L : kjL) : Option (Int32 × kjI × kjL) :=
  if ¬ v8 = (2 : Int32) then (some ((0 : Int32), I, L)) else (if v7 < (15 : Int32) then (some ((0 : Int32), I, L)) else (some ((1 : Int32), I, L)))
set_option maxRecDepth 100000 in
set_option maxHeartbeats 4000000 in
theorem kf137_493_ok (f : Bool) (N : Nat) (d : Nat)  (v7 : Int32) (v8 : Int32) (I : kjI) (L : kjL) (r : Int32 × kjI × kjL) (h : kf137_493 N v7 v8 I L = some r) : mv_G kjP kjSta (mv_C kjP kjSta (d + 3)) kjM_137 (kjQwi f r) (493, [none, none, none, none, none, none, none, some (.int v7), some (.int v8), none, none], [], 0, 0, kjS f I L) := by
  unfold kf137_493 at h
  refine mv_G_run 2 (F' := (496, [none, none, none, none, none, none, none, some (.int v7), some (.int v8), none, none], [.int (2 : Int32), .int v8], 0, 0, kjS f I L)) rfl ?_
  by_cases hc1 : ¬ v8 = (2 : Int32)
  · rw [if_pos hc1] at h
    refine mv_G_br (tgt := 510) rfl rfl (by decide) (fun _ => ?_) (fun z => absurd hc1 z)
    refine mv_G_run 1 (F' := (511, [none, none, none, none, none, none, none, some (.int v7), some (.int v8), none, none], [.int (0 : Int32)], 0, 0, kjS f I L)) rfl ?_
    obtain rfl := Option.some.inj h
    exact mv_G_ret rfl rfl rfl (Nat.le_refl _) (Or.inl rfl) ⟨rfl, rfl⟩
  · rw [if_neg hc1] at h
    refine mv_G_br (tgt := 510) rfl rfl (by decide) (fun z => absurd z hc1) (fun _ => ?_)
    refine mv_G_run 2 (F' := (503, [none, none, none, none, none, none, none, some (.int v7), some (.int v8), none, none], [.int (15 : Int32), .int v7], 0, 0, kjS f I L)) rfl ?_
    by_cases hc2 : v7 < (15 : Int32)
    · rw [if_pos hc2] at h
      refine mv_G_br (tgt := 510) rfl rfl (by decide) (fun _ => ?_) (fun z => absurd hc2 z)
      refine mv_G_run 1 (F' := (511, [none, none, none, none, none, none, none, some (.int v7), some (.int v8), none, none], [.int (0 : Int32)], 0, 0, kjS f I L)) rfl ?_
      obtain rfl := Option.some.inj h
      exact mv_G_ret rfl rfl rfl (Nat.le_refl _) (Or.inl rfl) ⟨rfl, rfl⟩
    · rw [if_neg hc2] at h
      refine mv_G_br (tgt := 510) rfl rfl (by decide) (fun z => absurd z hc2) (fun _ => ?_)
      refine mv_G_run 2 (F' := (511, [none, none, none, none, none, none, none, some (.int v7), some (.int v8), none, none], [.int (1 : Int32)], 0, 0, kjS f I L)) rfl ?_
      obtain rfl := Option.some.inj h
      exact mv_G_ret rfl rfl rfl (Nat.le_refl _) (Or.inr rfl) ⟨rfl, rfl⟩
def kf137_676 (N : Nat) : Nat → Int32 → Int32 → Int32 → kjI → kjL → Option (Int32 × kjI × kjL)
  | 0, _, _, _, _, _ => none
  | n + 1, v4, v6, v9, I, L => bif mv_in v6 16 then (if (I 69 (Int32.toNatClampNeg v6)) ≤ v9 then (some ((0 : Int32), I, L)) else (bif mv_in v6 16 then (bif mv_in ((v4 - (I 69 (Int32.toNatClampNeg v6))) + v9) 30720 then (bif mv_in (((4 : Int32) * v6) + v9) 64 then ((kf135 N I L (I 79 (Int32.toNatClampNeg ((v4 - (I 69 (Int32.toNatClampNeg v6))) + v9))) (I 70 (Int32.toNatClampNeg (((4 : Int32) * v6) + v9)))).bind fun r6 => if ¬ r6 = 0 then ((fun v4 v6 v9 I L => kf137_676 N n v4 v6 v9 I L) v4 v6 (v9 + (1 : Int32)) I L) else (some ((1 : Int32), I, L))) else none) else none) else none)) else none
set_option maxRecDepth 100000 in
set_option maxHeartbeats 4000000 in
theorem kf137_676_ok (f : Bool) (N : Nat) (d : Nat)  : ∀ (n : Nat) (v4 : Int32) (v6 : Int32) (v9 : Int32) (I : kjI) (L : kjL) (r : Int32 × kjI × kjL), kf137_676 N n v4 v6 v9 I L = some r → mv_G kjP kjSta (mv_C kjP kjSta (d + 3)) kjM_137 (kjQwi f r) (676, [some (.ref 59), none, none, none, some (.int v4), none, some (.int v6), none, none, some (.int v9), none], [], 0, 0, kjS f I L) := by
  intro n
  induction n with
  | zero => intro v4 v6 v9 I L r h; cases h
  | succ n ih =>
    have hk676 := ih
    intro v4 v6 v9 I L r h
    unfold kf137_676 at h
    refine mv_G_run 4 (F' := (684, [some (.ref 59), none, none, none, some (.int v4), none, some (.int v6), none, none, some (.int v9), none], [.int v6, .ref 69, .int v9], 0, 0, kjS f I L)) rfl ?_
    obtain ⟨hi1, h⟩ := mv_bifs h
    refine mv_G_ald rfl rfl (mv_in_ok hi1) ?_
    by_cases hc2 : (I 69 (Int32.toNatClampNeg v6)) ≤ v9
    · rw [if_pos hc2] at h
      refine mv_G_br (tgt := 733) rfl rfl (by decide) (fun _ => ?_) (fun z => absurd hc2 z)
      refine mv_G_run 1 (F' := (734, [some (.ref 59), none, none, none, some (.int v4), none, some (.int v6), none, none, some (.int v9), none], [.int (0 : Int32)], 0, 0, kjS f I L)) rfl ?_
      obtain rfl := Option.some.inj h
      exact mv_G_ret rfl rfl rfl (Nat.le_refl _) (Or.inl rfl) ⟨rfl, rfl⟩
    · rw [if_neg hc2] at h
      refine mv_G_br (tgt := 733) rfl rfl (by decide) (fun z => absurd z hc2) (fun _ => ?_)
      refine mv_G_run 7 (F' := (701, [some (.ref 59), none, none, none, some (.int v4), none, some (.int v6), none, none, some (.int v9), none], [.int v6, .ref 69, .int v4, .ref 79, .ref 59], 0, 0, kjS f I L)) rfl ?_
      obtain ⟨hi3, h⟩ := mv_bifs h
      refine mv_G_ald rfl rfl (mv_in_ok hi3) ?_
      refine mv_G_run 3 (F' := (706, [some (.ref 59), none, none, none, some (.int v4), none, some (.int v6), none, none, some (.int v9), none], [.int ((v4 - (I 69 (Int32.toNatClampNeg v6))) + v9), .ref 79, .ref 59], 0, 0, kjS f I L)) rfl ?_
      obtain ⟨hi4, h⟩ := mv_bifs h
      refine mv_G_ald rfl rfl (mv_in_ok hi4) ?_
      refine mv_G_run 7 (F' := (718, [some (.ref 59), none, none, none, some (.int v4), none, some (.int v6), none, none, some (.int v9), none], [.int (((4 : Int32) * v6) + v9), .ref 70, .int (I 79 (Int32.toNatClampNeg ((v4 - (I 69 (Int32.toNatClampNeg v6))) + v9))), .ref 59], 0, 0, kjS f I L)) rfl ?_
      obtain ⟨hi5, h⟩ := mv_bifs h
      refine mv_G_ald rfl rfl (mv_in_ok hi5) ?_
      obtain ⟨r6, hc7, h⟩ := mv_bd h
      refine mv_G_call (r := []) (kf135_ok _ _ _ _ _ _ _ _ hc7) rfl rfl rfl rfl rfl (Nat.le_of_ble_eq_true rfl) (Nat.le_of_ble_eq_true rfl) (Nat.le_of_ble_eq_true rfl) ?_
      rintro _ _ ⟨rfl, rfl⟩
      by_cases hc8 : ¬ r6 = 0
      · rw [if_pos hc8] at h
        refine mv_G_br (tgt := 727) rfl rfl (by decide) (fun _ => ?_) (fun z => absurd hc8 z)
        refine mv_G_run 2 (F' := (676, [some (.ref 59), none, none, none, some (.int v4), none, some (.int v6), none, none, some (.int (v9 + (1 : Int32))), none], [], 0, 0, kjS f I L)) rfl ?_
        exact hk676 v4 v6 (v9 + (1 : Int32)) I L _ h
      · rw [if_neg hc8] at h
        refine mv_G_br (tgt := 727) rfl rfl (by decide) (fun z => absurd z hc8) (fun _ => ?_)
        refine mv_G_run 1 (F' := (726, [some (.ref 59), none, none, none, some (.int v4), none, some (.int v6), none, none, some (.int v9), none], [.int (1 : Int32)], 0, 0, kjS f I L)) rfl ?_
        obtain rfl := Option.some.inj h
        exact mv_G_ret rfl rfl rfl (Nat.le_refl _) (Or.inr rfl) ⟨rfl, rfl⟩
def kf137_757 (N : Nat) : Nat → Int32 → Int32 → Int32 → Int32 → kjI → kjL → Option (Int32 × kjI × kjL)
  | 0, _, _, _, _, _, _ => none
  | n + 1, v4, v6, v9, v10, I, L => bif mv_in v6 8 then (if (I 66 (Int32.toNatClampNeg v6)) ≤ v10 then (if v9 < (16 : Int32) then (some ((1 : Int32), I, L)) else ((kf125 N I L (v9 - (16 : Int32)) v6).bind fun r4 => if ¬ r4 = (-1 : Int32) then (some ((0 : Int32), I, L)) else (some ((1 : Int32), I, L)))) else (bif mv_in v6 8 then (bif mv_in ((v4 - (I 66 (Int32.toNatClampNeg v6))) + v10) 30720 then (bif mv_in (((3 : Int32) * v6) + v10) 24 then ((kf135 N I L (I 79 (Int32.toNatClampNeg ((v4 - (I 66 (Int32.toNatClampNeg v6))) + v10))) (I 67 (Int32.toNatClampNeg (((3 : Int32) * v6) + v10)))).bind fun r10 => if ¬ r10 = 0 then ((fun v4 v6 v9 v10 I L => kf137_757 N n v4 v6 v9 v10 I L) v4 v6 v9 (v10 + (1 : Int32)) I L) else (some ((1 : Int32), I, L))) else none) else none) else none)) else none
set_option maxRecDepth 100000 in
set_option maxHeartbeats 4000000 in
theorem kf137_757_ok (f : Bool) (N : Nat) (d : Nat)  : ∀ (n : Nat) (v4 : Int32) (v6 : Int32) (v9 : Int32) (v10 : Int32) (I : kjI) (L : kjL) (r : Int32 × kjI × kjL), kf137_757 N n v4 v6 v9 v10 I L = some r → mv_G kjP kjSta (mv_C kjP kjSta (d + 3)) kjM_137 (kjQwi f r) (757, [some (.ref 59), none, none, none, some (.int v4), none, some (.int v6), none, none, some (.int v9), some (.int v10)], [], 0, 0, kjS f I L) := by
  intro n
  induction n with
  | zero => intro v4 v6 v9 v10 I L r h; cases h
  | succ n ih =>
    have hk757 := ih
    intro v4 v6 v9 v10 I L r h
    unfold kf137_757 at h
    refine mv_G_run 4 (F' := (765, [some (.ref 59), none, none, none, some (.int v4), none, some (.int v6), none, none, some (.int v9), some (.int v10)], [.int v6, .ref 66, .int v10], 0, 0, kjS f I L)) rfl ?_
    obtain ⟨hi1, h⟩ := mv_bifs h
    refine mv_G_ald rfl rfl (mv_in_ok hi1) ?_
    by_cases hc2 : (I 66 (Int32.toNatClampNeg v6)) ≤ v10
    · rw [if_pos hc2] at h
      refine mv_G_br (tgt := 814) rfl rfl (by decide) (fun _ => ?_) (fun z => absurd hc2 z)
      refine mv_G_run 2 (F' := (818, [some (.ref 59), none, none, none, some (.int v4), none, some (.int v6), none, none, some (.int v9), some (.int v10)], [.int (16 : Int32), .int v9], 0, 0, kjS f I L)) rfl ?_
      by_cases hc3 : v9 < (16 : Int32)
      · rw [if_pos hc3] at h
        refine mv_G_br (tgt := 836) rfl rfl (by decide) (fun _ => ?_) (fun z => absurd hc3 z)
        refine mv_G_run 2 (F' := (841, [some (.ref 59), none, none, none, some (.int v4), none, some (.int v6), none, none, some (.int v9), some (.int v10)], [.int (1 : Int32)], 0, 0, kjS f I L)) rfl ?_
        obtain rfl := Option.some.inj h
        exact mv_G_ret rfl rfl rfl (Nat.le_refl _) (Or.inr rfl) ⟨rfl, rfl⟩
      · rw [if_neg hc3] at h
        refine mv_G_br (tgt := 836) rfl rfl (by decide) (fun z => absurd z hc3) (fun _ => ?_)
        refine mv_G_run 5 (F' := (829, [some (.ref 59), none, none, none, some (.int v4), none, some (.int v6), none, none, some (.int v9), some (.int v10)], [.int v6, .int (v9 - (16 : Int32)), .ref 59], 0, 0, kjS f I L)) rfl ?_
        obtain ⟨r4, hc5, h⟩ := mv_bd h
        refine mv_G_call (r := []) (kf125_ok _ _ _ _ _ _ _ _ hc5) rfl rfl rfl rfl rfl (Nat.le_of_ble_eq_true rfl) (Nat.le_of_ble_eq_true rfl) (Nat.le_of_ble_eq_true rfl) ?_
        rintro _ _ ⟨rfl, rfl⟩
        refine mv_G_run 1 (F' := (833, [some (.ref 59), none, none, none, some (.int v4), none, some (.int v6), none, none, some (.int v9), some (.int v10)], [.int (-1 : Int32), .int r4], 0, 0, kjS f I L)) rfl ?_
        by_cases hc6 : ¬ r4 = (-1 : Int32)
        · rw [if_pos hc6] at h
          refine mv_G_br (tgt := 840) rfl rfl (by decide) (fun _ => ?_) (fun z => absurd hc6 z)
          refine mv_G_run 1 (F' := (841, [some (.ref 59), none, none, none, some (.int v4), none, some (.int v6), none, none, some (.int v9), some (.int v10)], [.int (0 : Int32)], 0, 0, kjS f I L)) rfl ?_
          obtain rfl := Option.some.inj h
          exact mv_G_ret rfl rfl rfl (Nat.le_refl _) (Or.inl rfl) ⟨rfl, rfl⟩
        · rw [if_neg hc6] at h
          refine mv_G_br (tgt := 840) rfl rfl (by decide) (fun z => absurd z hc6) (fun _ => ?_)
          refine mv_G_run 2 (F' := (841, [some (.ref 59), none, none, none, some (.int v4), none, some (.int v6), none, none, some (.int v9), some (.int v10)], [.int (1 : Int32)], 0, 0, kjS f I L)) rfl ?_
          obtain rfl := Option.some.inj h
          exact mv_G_ret rfl rfl rfl (Nat.le_refl _) (Or.inr rfl) ⟨rfl, rfl⟩
    · rw [if_neg hc2] at h
      refine mv_G_br (tgt := 814) rfl rfl (by decide) (fun z => absurd z hc2) (fun _ => ?_)
      refine mv_G_run 7 (F' := (782, [some (.ref 59), none, none, none, some (.int v4), none, some (.int v6), none, none, some (.int v9), some (.int v10)], [.int v6, .ref 66, .int v4, .ref 79, .ref 59], 0, 0, kjS f I L)) rfl ?_
      obtain ⟨hi7, h⟩ := mv_bifs h
      refine mv_G_ald rfl rfl (mv_in_ok hi7) ?_
      refine mv_G_run 3 (F' := (787, [some (.ref 59), none, none, none, some (.int v4), none, some (.int v6), none, none, some (.int v9), some (.int v10)], [.int ((v4 - (I 66 (Int32.toNatClampNeg v6))) + v10), .ref 79, .ref 59], 0, 0, kjS f I L)) rfl ?_
      obtain ⟨hi8, h⟩ := mv_bifs h
      refine mv_G_ald rfl rfl (mv_in_ok hi8) ?_
      refine mv_G_run 7 (F' := (799, [some (.ref 59), none, none, none, some (.int v4), none, some (.int v6), none, none, some (.int v9), some (.int v10)], [.int (((3 : Int32) * v6) + v10), .ref 67, .int (I 79 (Int32.toNatClampNeg ((v4 - (I 66 (Int32.toNatClampNeg v6))) + v10))), .ref 59], 0, 0, kjS f I L)) rfl ?_
      obtain ⟨hi9, h⟩ := mv_bifs h
      refine mv_G_ald rfl rfl (mv_in_ok hi9) ?_
      obtain ⟨r10, hc11, h⟩ := mv_bd h
      refine mv_G_call (r := []) (kf135_ok _ _ _ _ _ _ _ _ hc11) rfl rfl rfl rfl rfl (Nat.le_of_ble_eq_true rfl) (Nat.le_of_ble_eq_true rfl) (Nat.le_of_ble_eq_true rfl) ?_
      rintro _ _ ⟨rfl, rfl⟩
      by_cases hc12 : ¬ r10 = 0
      · rw [if_pos hc12] at h
        refine mv_G_br (tgt := 808) rfl rfl (by decide) (fun _ => ?_) (fun z => absurd hc12 z)
        refine mv_G_run 2 (F' := (757, [some (.ref 59), none, none, none, some (.int v4), none, some (.int v6), none, none, some (.int v9), some (.int (v10 + (1 : Int32)))], [], 0, 0, kjS f I L)) rfl ?_
        exact hk757 v4 v6 v9 (v10 + (1 : Int32)) I L _ h
      · rw [if_neg hc12] at h
        refine mv_G_br (tgt := 808) rfl rfl (by decide) (fun z => absurd z hc12) (fun _ => ?_)
        refine mv_G_run 1 (F' := (807, [some (.ref 59), none, none, none, some (.int v4), none, some (.int v6), none, none, some (.int v9), some (.int v10)], [.int (1 : Int32)], 0, 0, kjS f I L)) rfl ?_
        obtain rfl := Option.some.inj h
        exact mv_G_ret rfl rfl rfl (Nat.le_refl _) (Or.inr rfl) ⟨rfl, rfl⟩
def kf137_928 (N : Nat) (v8 : Int32) (I : kjI) (L : kjL) : Option (Int32 × kjI × kjL) :=
  if v8 = (1 : Int32) then (some ((0 : Int32), I, L)) else (some ((1 : Int32), I, L))
set_option maxRecDepth 100000 in
set_option maxHeartbeats 4000000 in
theorem kf137_928_ok (f : Bool) (N : Nat) (d : Nat)  (v8 : Int32) (I : kjI) (L : kjL) (r : Int32 × kjI × kjL) (h : kf137_928 N v8 I L = some r) : mv_G kjP kjSta (mv_C kjP kjSta (d + 3)) kjM_137 (kjQwi f r) (928, [none, none, none, none, none, none, none, none, some (.int v8), none, none], [], 0, 0, kjS f I L) := by
  unfold kf137_928 at h
  refine mv_G_run 2 (F' := (931, [none, none, none, none, none, none, none, none, some (.int v8), none, none], [.int (1 : Int32), .int v8], 0, 0, kjS f I L)) rfl ?_
  by_cases hc1 : v8 = (1 : Int32)
  · rw [if_pos hc1] at h
    refine mv_G_br (tgt := 938) rfl rfl (by decide) (fun _ => ?_) (fun z => absurd hc1 z)
    refine mv_G_run 1 (F' := (939, [none, none, none, none, none, none, none, none, some (.int v8), none, none], [.int (0 : Int32)], 0, 0, kjS f I L)) rfl ?_
    obtain rfl := Option.some.inj h
    exact mv_G_ret rfl rfl rfl (Nat.le_refl _) (Or.inl rfl) ⟨rfl, rfl⟩
  · rw [if_neg hc1] at h
    refine mv_G_br (tgt := 938) rfl rfl (by decide) (fun z => absurd z hc1) (fun _ => ?_)
    refine mv_G_run 2 (F' := (939, [none, none, none, none, none, none, none, none, some (.int v8), none, none], [.int (1 : Int32)], 0, 0, kjS f I L)) rfl ?_
    obtain rfl := Option.some.inj h
    exact mv_G_ret rfl rfl rfl (Nat.le_refl _) (Or.inr rfl) ⟨rfl, rfl⟩
def kf137_145 (N : Nat) (v1 : Int32) (v2 : Int32) (v3 : Int32) (v4 : Int32) (v5 : Int32) (v6 : Int32) (v7 : Int32) (s0 : Int32) (I : kjI) (L : kjL) : Option (Int32 × kjI × kjL) :=
  if (v5).toInt = 3 then (bif mv_in (((16 : Int32) * v3) + v6) 30720 then (if ¬ (I 79 (Int32.toNatClampNeg (((16 : Int32) * v3) + v6))) = 0 then (some ((0 : Int32), I, L)) else (some ((1 : Int32), I, L))) else none) else (if (v5).toInt = 4 ∨ (v5).toInt = 5 ∨ (v5).toInt = 6 then (if ¬ v7 = 0 then (some ((0 : Int32), I, L)) else (some ((1 : Int32), I, L))) else (if (v5).toInt = 7 then (if v7 = 0 then (some ((1 : Int32), I, L)) else (if ¬ s0 = 0 then (some ((0 : Int32), I, L)) else (some ((1 : Int32), I, L)))) else (if (v5).toInt = 19 ∨ (v5).toInt = 41 ∨ (v5).toInt = 51 ∨ (v5).toInt = 53 then (if v7 = (1 : Int32) then (some ((0 : Int32), I, L)) else (some ((1 : Int32), I, L))) else (if (v5).toInt = 20 then (bif mv_in (((16 : Int32) * v3) + v6) 30720 then (if (I 79 (Int32.toNatClampNeg (((16 : Int32) * v3) + v6))) = (1 : Int32) then (some ((0 : Int32), I, L)) else (some ((1 : Int32), I, L))) else none) else (if (v5).toInt = 34 ∨ (v5).toInt = 35 then ((kf136 I L v7).bind fun r15 => if ¬ r15 = 0 then (some ((0 : Int32), I, L)) else (some ((1 : Int32), I, L))) else (if (v5).toInt = 36 ∨ (v5).toInt = 37 then ((kf136 I L v7).bind fun r19 => if r19 = 0 then (some ((1 : Int32), I, L)) else ((kf136 I L s0).bind fun r22 => if r22 = 0 then (some ((1 : Int32), I, L)) else (if ¬ v7 = (2 : Int32) then (kf137_493 N v7 s0 I L) else (if (15 : Int32) ≤ s0 then (some ((1 : Int32), I, L)) else (kf137_493 N v7 s0 I L))))) else (if (v5).toInt = 39 then ((kf135 N I L v7 ((16 : Int32) + v6)).bind fun r28 => if ¬ r28 = 0 then (some ((0 : Int32), I, L)) else (some ((1 : Int32), I, L))) else (if (v5).toInt = 40 then ((kf135 N I L s0 ((16 : Int32) + v6)).bind fun r32 => if r32 = 0 then (some ((1 : Int32), I, L)) else ((kf115 I L v1 (v2 + (2 : Int32))).bind fun r35 => bif mv_in (((8 : Int32) * v6) + r35) 64 then ((kf135 N I L v7 (I 65 (Int32.toNatClampNeg (((8 : Int32) * v6) + r35)))).bind fun r38 => if ¬ r38 = 0 then (some ((0 : Int32), I, L)) else (some ((1 : Int32), I, L))) else none)) else (if (v5).toInt = 42 then (if ¬ v7 = (1 : Int32) then (some ((1 : Int32), I, L)) else ((kf135 N I L s0 (2 : Int32)).bind fun r43 => if ¬ r43 = 0 then (some ((0 : Int32), I, L)) else (some ((1 : Int32), I, L)))) else (if (v5).toInt = 43 then (if ¬ v7 = (1 : Int32) then (some ((1 : Int32), I, L)) else (if ¬ s0 = (1 : Int32) then (some ((1 : Int32), I, L)) else (bif mv_in (v4 - (3 : Int32)) 30720 then ((kf135 N I L (I 79 (Int32.toNatClampNeg (v4 - (3 : Int32)))) (2 : Int32)).bind fun r50 => if ¬ r50 = 0 then (some ((0 : Int32), I, L)) else (some ((1 : Int32), I, L))) else none))) else (if (v5).toInt = 44 then ((kf135 N I L v7 (2 : Int32)).bind fun r54 => if ¬ r54 = 0 then (some ((0 : Int32), I, L)) else (some ((1 : Int32), I, L))) else (if (v5).toInt = 45 ∨ (v5).toInt = 46 then ((kf136 I L v7).bind fun r58 => if r58 = 0 then (some ((1 : Int32), I, L)) else (if ¬ v7 = (2 : Int32) then (some ((0 : Int32), I, L)) else (some ((1 : Int32), I, L)))) else (if (v5).toInt = 47 then (kf137_676 N N v4 v6 (0 : Int32) I L) else (if (v5).toInt = 48 then (bif mv_in v6 8 then (bif mv_in ((v4 - (1 : Int32)) - (I 66 (Int32.toNatClampNeg v6))) 30720 then (kf137_757 N N v4 v6 (I 79 (Int32.toNatClampNeg ((v4 - (1 : Int32)) - (I 66 (Int32.toNatClampNeg v6))))) (0 : Int32) I L) else none) else none) else (if (v5).toInt = 49 then (bif mv_in v1 16 then (if (I 71 (Int32.toNatClampNeg v1)) = 0 then (some ((0 : Int32), I, L)) else (some ((1 : Int32), I, L))) else none) else (if (v5).toInt = 50 then (bif mv_in v1 16 then (if (I 71 (Int32.toNatClampNeg v1)) = 0 then (some ((1 : Int32), I, L)) else (bif mv_in v1 16 then ((kf135 N I L v7 (I 71 (Int32.toNatClampNeg v1))).bind fun r73 => if ¬ r73 = 0 then (some ((0 : Int32), I, L)) else (some ((1 : Int32), I, L))) else none)) else none) else (if v5 < (8 : Int32) then (some ((0 : Int32), I, L)) else (if (33 : Int32) < v5 then (some ((0 : Int32), I, L)) else (if v5 = (21 : Int32) then (some ((0 : Int32), I, L)) else (if ¬ v7 = (1 : Int32) then (some ((1 : Int32), I, L)) else (if v5 < (19 : Int32) then (kf137_928 N s0 I L) else (if v5 ≤ (27 : Int32) then (some ((0 : Int32), I, L)) else (kf137_928 N s0 I L)))))))))))))))))))))))
set_option maxRecDepth 100000 in
set_option maxHeartbeats 4000000 in
theorem kf137_145_ok (f : Bool) (N : Nat) (d : Nat)  (v1 : Int32) (v2 : Int32) (v3 : Int32) (v4 : Int32) (v5 : Int32) (v6 : Int32) (v7 : Int32) (s0 : Int32) (I : kjI) (L : kjL) (r : Int32 × kjI × kjL) (h : kf137_145 N v1 v2 v3 v4 v5 v6 v7 s0 I L = some r) : mv_G kjP kjSta (mv_C kjP kjSta (d + 3)) kjM_137 (kjQwi f r) (145, [some (.ref 59), some (.int v1), some (.int v2), some (.int v3), some (.int v4), some (.int v5), some (.int v6), some (.int v7), none, none, none], [.int s0], 0, 0, kjS f I L) := by
  unfold kf137_145 at h
  refine mv_G_run 2 (F' := (149, [some (.ref 59), some (.int v1), some (.int v2), some (.int v3), some (.int v4), some (.int v5), some (.int v6), some (.int v7), some (.int s0), none, none], [.int v5], 0, 0, kjS f I L)) rfl ?_
  by_cases hw1 : (v5).toInt = 3
  · rw [if_pos hw1] at h
    refine mv_G_sw (tgt := 368) (off := 219) rfl (by simp only [mv_sw, hw1]; rfl) (by decide) ?_
    refine mv_G_run 7 (F' := (379, [some (.ref 59), some (.int v1), some (.int v2), some (.int v3), some (.int v4), some (.int v5), some (.int v6), some (.int v7), some (.int s0), none, none], [.int (((16 : Int32) * v3) + v6), .ref 79], 0, 0, kjS f I L)) rfl ?_
    obtain ⟨hi2, h⟩ := mv_bifs h
    refine mv_G_ald rfl rfl (mv_in_ok hi2) ?_
    by_cases hc3 : ¬ (I 79 (Int32.toNatClampNeg (((16 : Int32) * v3) + v6))) = 0
    · rw [if_pos hc3] at h
      refine mv_G_br (tgt := 387) rfl rfl (by decide) (fun _ => ?_) (fun z => absurd hc3 z)
      refine mv_G_run 1 (F' := (388, [some (.ref 59), some (.int v1), some (.int v2), some (.int v3), some (.int v4), some (.int v5), some (.int v6), some (.int v7), some (.int s0), none, none], [.int (0 : Int32)], 0, 0, kjS f I L)) rfl ?_
      obtain rfl := Option.some.inj h
      exact mv_G_ret rfl rfl rfl (Nat.le_refl _) (Or.inl rfl) ⟨rfl, rfl⟩
    · rw [if_neg hc3] at h
      refine mv_G_br (tgt := 387) rfl rfl (by decide) (fun z => absurd z hc3) (fun _ => ?_)
      refine mv_G_run 2 (F' := (388, [some (.ref 59), some (.int v1), some (.int v2), some (.int v3), some (.int v4), some (.int v5), some (.int v6), some (.int v7), some (.int s0), none, none], [.int (1 : Int32)], 0, 0, kjS f I L)) rfl ?_
      obtain rfl := Option.some.inj h
      exact mv_G_ret rfl rfl rfl (Nat.le_refl _) (Or.inr rfl) ⟨rfl, rfl⟩
  rw [if_neg hw1] at h
  by_cases hw4 : (v5).toInt = 4 ∨ (v5).toInt = 5 ∨ (v5).toInt = 6
  · rw [if_pos hw4] at h
    refine mv_G_sw (tgt := 389) (off := 240) rfl (by rcases hw4 with hw4 | hw4 | hw4 <;> (simp only [mv_sw, hw4]; rfl)) (by decide) ?_
    refine mv_G_run 1 (F' := (391, [some (.ref 59), some (.int v1), some (.int v2), some (.int v3), some (.int v4), some (.int v5), some (.int v6), some (.int v7), some (.int s0), none, none], [.int v7], 0, 0, kjS f I L)) rfl ?_
    by_cases hc5 : ¬ v7 = 0
    · rw [if_pos hc5] at h
      refine mv_G_br (tgt := 398) rfl rfl (by decide) (fun _ => ?_) (fun z => absurd hc5 z)
      refine mv_G_run 1 (F' := (399, [some (.ref 59), some (.int v1), some (.int v2), some (.int v3), some (.int v4), some (.int v5), some (.int v6), some (.int v7), some (.int s0), none, none], [.int (0 : Int32)], 0, 0, kjS f I L)) rfl ?_
      obtain rfl := Option.some.inj h
      exact mv_G_ret rfl rfl rfl (Nat.le_refl _) (Or.inl rfl) ⟨rfl, rfl⟩
    · rw [if_neg hc5] at h
      refine mv_G_br (tgt := 398) rfl rfl (by decide) (fun z => absurd z hc5) (fun _ => ?_)
      refine mv_G_run 2 (F' := (399, [some (.ref 59), some (.int v1), some (.int v2), some (.int v3), some (.int v4), some (.int v5), some (.int v6), some (.int v7), some (.int s0), none, none], [.int (1 : Int32)], 0, 0, kjS f I L)) rfl ?_
      obtain rfl := Option.some.inj h
      exact mv_G_ret rfl rfl rfl (Nat.le_refl _) (Or.inr rfl) ⟨rfl, rfl⟩
  rw [if_neg hw4] at h
  by_cases hw6 : (v5).toInt = 7
  · rw [if_pos hw6] at h
    refine mv_G_sw (tgt := 400) (off := 251) rfl (by simp only [mv_sw, hw6]; rfl) (by decide) ?_
    refine mv_G_run 1 (F' := (402, [some (.ref 59), some (.int v1), some (.int v2), some (.int v3), some (.int v4), some (.int v5), some (.int v6), some (.int v7), some (.int s0), none, none], [.int v7], 0, 0, kjS f I L)) rfl ?_
    by_cases hc7 : v7 = 0
    · rw [if_pos hc7] at h
      refine mv_G_br (tgt := 410) rfl rfl (by decide) (fun _ => ?_) (fun z => absurd hc7 z)
      refine mv_G_run 2 (F' := (415, [some (.ref 59), some (.int v1), some (.int v2), some (.int v3), some (.int v4), some (.int v5), some (.int v6), some (.int v7), some (.int s0), none, none], [.int (1 : Int32)], 0, 0, kjS f I L)) rfl ?_
      obtain rfl := Option.some.inj h
      exact mv_G_ret rfl rfl rfl (Nat.le_refl _) (Or.inr rfl) ⟨rfl, rfl⟩
    · rw [if_neg hc7] at h
      refine mv_G_br (tgt := 410) rfl rfl (by decide) (fun z => absurd z hc7) (fun _ => ?_)
      refine mv_G_run 1 (F' := (407, [some (.ref 59), some (.int v1), some (.int v2), some (.int v3), some (.int v4), some (.int v5), some (.int v6), some (.int v7), some (.int s0), none, none], [.int s0], 0, 0, kjS f I L)) rfl ?_
      by_cases hc8 : ¬ s0 = 0
      · rw [if_pos hc8] at h
        refine mv_G_br (tgt := 414) rfl rfl (by decide) (fun _ => ?_) (fun z => absurd hc8 z)
        refine mv_G_run 1 (F' := (415, [some (.ref 59), some (.int v1), some (.int v2), some (.int v3), some (.int v4), some (.int v5), some (.int v6), some (.int v7), some (.int s0), none, none], [.int (0 : Int32)], 0, 0, kjS f I L)) rfl ?_
        obtain rfl := Option.some.inj h
        exact mv_G_ret rfl rfl rfl (Nat.le_refl _) (Or.inl rfl) ⟨rfl, rfl⟩
      · rw [if_neg hc8] at h
        refine mv_G_br (tgt := 414) rfl rfl (by decide) (fun z => absurd z hc8) (fun _ => ?_)
        refine mv_G_run 2 (F' := (415, [some (.ref 59), some (.int v1), some (.int v2), some (.int v3), some (.int v4), some (.int v5), some (.int v6), some (.int v7), some (.int s0), none, none], [.int (1 : Int32)], 0, 0, kjS f I L)) rfl ?_
        obtain rfl := Option.some.inj h
        exact mv_G_ret rfl rfl rfl (Nat.le_refl _) (Or.inr rfl) ⟨rfl, rfl⟩
  rw [if_neg hw6] at h
  by_cases hw9 : (v5).toInt = 19 ∨ (v5).toInt = 41 ∨ (v5).toInt = 51 ∨ (v5).toInt = 53
  · rw [if_pos hw9] at h
    refine mv_G_sw (tgt := 416) (off := 267) rfl (by rcases hw9 with hw9 | hw9 | hw9 | hw9 <;> (simp only [mv_sw, hw9]; rfl)) (by decide) ?_
    refine mv_G_run 2 (F' := (419, [some (.ref 59), some (.int v1), some (.int v2), some (.int v3), some (.int v4), some (.int v5), some (.int v6), some (.int v7), some (.int s0), none, none], [.int (1 : Int32), .int v7], 0, 0, kjS f I L)) rfl ?_
    by_cases hc10 : v7 = (1 : Int32)
    · rw [if_pos hc10] at h
      refine mv_G_br (tgt := 426) rfl rfl (by decide) (fun _ => ?_) (fun z => absurd hc10 z)
      refine mv_G_run 1 (F' := (427, [some (.ref 59), some (.int v1), some (.int v2), some (.int v3), some (.int v4), some (.int v5), some (.int v6), some (.int v7), some (.int s0), none, none], [.int (0 : Int32)], 0, 0, kjS f I L)) rfl ?_
      obtain rfl := Option.some.inj h
      exact mv_G_ret rfl rfl rfl (Nat.le_refl _) (Or.inl rfl) ⟨rfl, rfl⟩
    · rw [if_neg hc10] at h
      refine mv_G_br (tgt := 426) rfl rfl (by decide) (fun z => absurd z hc10) (fun _ => ?_)
      refine mv_G_run 2 (F' := (427, [some (.ref 59), some (.int v1), some (.int v2), some (.int v3), some (.int v4), some (.int v5), some (.int v6), some (.int v7), some (.int s0), none, none], [.int (1 : Int32)], 0, 0, kjS f I L)) rfl ?_
      obtain rfl := Option.some.inj h
      exact mv_G_ret rfl rfl rfl (Nat.le_refl _) (Or.inr rfl) ⟨rfl, rfl⟩
  rw [if_neg hw9] at h
  by_cases hw11 : (v5).toInt = 20
  · rw [if_pos hw11] at h
    refine mv_G_sw (tgt := 428) (off := 279) rfl (by simp only [mv_sw, hw11]; rfl) (by decide) ?_
    refine mv_G_run 7 (F' := (439, [some (.ref 59), some (.int v1), some (.int v2), some (.int v3), some (.int v4), some (.int v5), some (.int v6), some (.int v7), some (.int s0), none, none], [.int (((16 : Int32) * v3) + v6), .ref 79], 0, 0, kjS f I L)) rfl ?_
    obtain ⟨hi12, h⟩ := mv_bifs h
    refine mv_G_ald rfl rfl (mv_in_ok hi12) ?_
    refine mv_G_run 1 (F' := (441, [some (.ref 59), some (.int v1), some (.int v2), some (.int v3), some (.int v4), some (.int v5), some (.int v6), some (.int v7), some (.int s0), none, none], [.int (1 : Int32), .int (I 79 (Int32.toNatClampNeg (((16 : Int32) * v3) + v6)))], 0, 0, kjS f I L)) rfl ?_
    by_cases hc13 : (I 79 (Int32.toNatClampNeg (((16 : Int32) * v3) + v6))) = (1 : Int32)
    · rw [if_pos hc13] at h
      refine mv_G_br (tgt := 448) rfl rfl (by decide) (fun _ => ?_) (fun z => absurd hc13 z)
      refine mv_G_run 1 (F' := (449, [some (.ref 59), some (.int v1), some (.int v2), some (.int v3), some (.int v4), some (.int v5), some (.int v6), some (.int v7), some (.int s0), none, none], [.int (0 : Int32)], 0, 0, kjS f I L)) rfl ?_
      obtain rfl := Option.some.inj h
      exact mv_G_ret rfl rfl rfl (Nat.le_refl _) (Or.inl rfl) ⟨rfl, rfl⟩
    · rw [if_neg hc13] at h
      refine mv_G_br (tgt := 448) rfl rfl (by decide) (fun z => absurd z hc13) (fun _ => ?_)
      refine mv_G_run 2 (F' := (449, [some (.ref 59), some (.int v1), some (.int v2), some (.int v3), some (.int v4), some (.int v5), some (.int v6), some (.int v7), some (.int s0), none, none], [.int (1 : Int32)], 0, 0, kjS f I L)) rfl ?_
      obtain rfl := Option.some.inj h
      exact mv_G_ret rfl rfl rfl (Nat.le_refl _) (Or.inr rfl) ⟨rfl, rfl⟩
  rw [if_neg hw11] at h
  by_cases hw14 : (v5).toInt = 34 ∨ (v5).toInt = 35
  · rw [if_pos hw14] at h
    refine mv_G_sw (tgt := 450) (off := 301) rfl (by rcases hw14 with hw14 | hw14 <;> (simp only [mv_sw, hw14]; rfl)) (by decide) ?_
    refine mv_G_run 1 (F' := (452, [some (.ref 59), some (.int v1), some (.int v2), some (.int v3), some (.int v4), some (.int v5), some (.int v6), some (.int v7), some (.int s0), none, none], [.int v7], 0, 0, kjS f I L)) rfl ?_
    obtain ⟨r15, hc16, h⟩ := mv_bd h
    refine mv_G_call (r := []) (kf136_ok _ _ _ _ _ _ hc16) rfl rfl rfl rfl rfl (Nat.le_of_ble_eq_true rfl) (Nat.le_of_ble_eq_true rfl) (Nat.le_of_ble_eq_true rfl) ?_
    rintro _ _ ⟨rfl, rfl⟩
    by_cases hc17 : ¬ r15 = 0
    · rw [if_pos hc17] at h
      refine mv_G_br (tgt := 462) rfl rfl (by decide) (fun _ => ?_) (fun z => absurd hc17 z)
      refine mv_G_run 1 (F' := (463, [some (.ref 59), some (.int v1), some (.int v2), some (.int v3), some (.int v4), some (.int v5), some (.int v6), some (.int v7), some (.int s0), none, none], [.int (0 : Int32)], 0, 0, kjS f I L)) rfl ?_
      obtain rfl := Option.some.inj h
      exact mv_G_ret rfl rfl rfl (Nat.le_refl _) (Or.inl rfl) ⟨rfl, rfl⟩
    · rw [if_neg hc17] at h
      refine mv_G_br (tgt := 462) rfl rfl (by decide) (fun z => absurd z hc17) (fun _ => ?_)
      refine mv_G_run 2 (F' := (463, [some (.ref 59), some (.int v1), some (.int v2), some (.int v3), some (.int v4), some (.int v5), some (.int v6), some (.int v7), some (.int s0), none, none], [.int (1 : Int32)], 0, 0, kjS f I L)) rfl ?_
      obtain rfl := Option.some.inj h
      exact mv_G_ret rfl rfl rfl (Nat.le_refl _) (Or.inr rfl) ⟨rfl, rfl⟩
  rw [if_neg hw14] at h
  by_cases hw18 : (v5).toInt = 36 ∨ (v5).toInt = 37
  · rw [if_pos hw18] at h
    refine mv_G_sw (tgt := 464) (off := 315) rfl (by rcases hw18 with hw18 | hw18 <;> (simp only [mv_sw, hw18]; rfl)) (by decide) ?_
    refine mv_G_run 1 (F' := (466, [some (.ref 59), some (.int v1), some (.int v2), some (.int v3), some (.int v4), some (.int v5), some (.int v6), some (.int v7), some (.int s0), none, none], [.int v7], 0, 0, kjS f I L)) rfl ?_
    obtain ⟨r19, hc20, h⟩ := mv_bd h
    refine mv_G_call (r := []) (kf136_ok _ _ _ _ _ _ hc20) rfl rfl rfl rfl rfl (Nat.le_of_ble_eq_true rfl) (Nat.le_of_ble_eq_true rfl) (Nat.le_of_ble_eq_true rfl) ?_
    rintro _ _ ⟨rfl, rfl⟩
    by_cases hc21 : r19 = 0
    · rw [if_pos hc21] at h
      refine mv_G_br (tgt := 506) rfl rfl (by decide) (fun _ => ?_) (fun z => absurd hc21 z)
      refine mv_G_run 2 (F' := (511, [some (.ref 59), some (.int v1), some (.int v2), some (.int v3), some (.int v4), some (.int v5), some (.int v6), some (.int v7), some (.int s0), none, none], [.int (1 : Int32)], 0, 0, kjS f I L)) rfl ?_
      obtain rfl := Option.some.inj h
      exact mv_G_ret rfl rfl rfl (Nat.le_refl _) (Or.inr rfl) ⟨rfl, rfl⟩
    · rw [if_neg hc21] at h
      refine mv_G_br (tgt := 506) rfl rfl (by decide) (fun z => absurd z hc21) (fun _ => ?_)
      refine mv_G_run 1 (F' := (474, [some (.ref 59), some (.int v1), some (.int v2), some (.int v3), some (.int v4), some (.int v5), some (.int v6), some (.int v7), some (.int s0), none, none], [.int s0], 0, 0, kjS f I L)) rfl ?_
      obtain ⟨r22, hc23, h⟩ := mv_bd h
      refine mv_G_call (r := []) (kf136_ok _ _ _ _ _ _ hc23) rfl rfl rfl rfl rfl (Nat.le_of_ble_eq_true rfl) (Nat.le_of_ble_eq_true rfl) (Nat.le_of_ble_eq_true rfl) ?_
      rintro _ _ ⟨rfl, rfl⟩
      by_cases hc24 : r22 = 0
      · rw [if_pos hc24] at h
        refine mv_G_br (tgt := 506) rfl rfl (by decide) (fun _ => ?_) (fun z => absurd hc24 z)
        refine mv_G_run 2 (F' := (511, [some (.ref 59), some (.int v1), some (.int v2), some (.int v3), some (.int v4), some (.int v5), some (.int v6), some (.int v7), some (.int s0), none, none], [.int (1 : Int32)], 0, 0, kjS f I L)) rfl ?_
        obtain rfl := Option.some.inj h
        exact mv_G_ret rfl rfl rfl (Nat.le_refl _) (Or.inr rfl) ⟨rfl, rfl⟩
      · rw [if_neg hc24] at h
        refine mv_G_br (tgt := 506) rfl rfl (by decide) (fun z => absurd z hc24) (fun _ => ?_)
        refine mv_G_run 2 (F' := (483, [some (.ref 59), some (.int v1), some (.int v2), some (.int v3), some (.int v4), some (.int v5), some (.int v6), some (.int v7), some (.int s0), none, none], [.int (2 : Int32), .int v7], 0, 0, kjS f I L)) rfl ?_
        by_cases hc25 : ¬ v7 = (2 : Int32)
        · rw [if_pos hc25] at h
          refine mv_G_br (tgt := 493) rfl rfl (by decide) (fun _ => ?_) (fun z => absurd hc25 z)
          refine mv_G_fg (lc' := [none, none, none, none, none, none, none, some (.int v7), some (.int s0), none, none]) (And.intro rfl (And.intro rfl trivial)) ?_
          exact kf137_493_ok _ _ d _ _ _ _ _ h
        · rw [if_neg hc25] at h
          refine mv_G_br (tgt := 493) rfl rfl (by decide) (fun z => absurd z hc25) (fun _ => ?_)
          refine mv_G_run 2 (F' := (490, [some (.ref 59), some (.int v1), some (.int v2), some (.int v3), some (.int v4), some (.int v5), some (.int v6), some (.int v7), some (.int s0), none, none], [.int (15 : Int32), .int s0], 0, 0, kjS f I L)) rfl ?_
          by_cases hc26 : (15 : Int32) ≤ s0
          · rw [if_pos hc26] at h
            refine mv_G_br (tgt := 506) rfl rfl (by decide) (fun _ => ?_) (fun z => absurd hc26 z)
            refine mv_G_run 2 (F' := (511, [some (.ref 59), some (.int v1), some (.int v2), some (.int v3), some (.int v4), some (.int v5), some (.int v6), some (.int v7), some (.int s0), none, none], [.int (1 : Int32)], 0, 0, kjS f I L)) rfl ?_
            obtain rfl := Option.some.inj h
            exact mv_G_ret rfl rfl rfl (Nat.le_refl _) (Or.inr rfl) ⟨rfl, rfl⟩
          · rw [if_neg hc26] at h
            refine mv_G_br (tgt := 506) rfl rfl (by decide) (fun z => absurd z hc26) (fun _ => ?_)
            refine mv_G_fg (lc' := [none, none, none, none, none, none, none, some (.int v7), some (.int s0), none, none]) (And.intro rfl (And.intro rfl trivial)) ?_
            exact kf137_493_ok _ _ d _ _ _ _ _ h
  rw [if_neg hw18] at h
  by_cases hw27 : (v5).toInt = 39
  · rw [if_pos hw27] at h
    refine mv_G_sw (tgt := 512) (off := 363) rfl (by simp only [mv_sw, hw27]; rfl) (by decide) ?_
    refine mv_G_run 5 (F' := (520, [some (.ref 59), some (.int v1), some (.int v2), some (.int v3), some (.int v4), some (.int v5), some (.int v6), some (.int v7), some (.int s0), none, none], [.int ((16 : Int32) + v6), .int v7, .ref 59], 0, 0, kjS f I L)) rfl ?_
    obtain ⟨r28, hc29, h⟩ := mv_bd h
    refine mv_G_call (r := []) (kf135_ok _ _ _ _ _ _ _ _ hc29) rfl rfl rfl rfl rfl (Nat.le_of_ble_eq_true rfl) (Nat.le_of_ble_eq_true rfl) (Nat.le_of_ble_eq_true rfl) ?_
    rintro _ _ ⟨rfl, rfl⟩
    by_cases hc30 : ¬ r28 = 0
    · rw [if_pos hc30] at h
      refine mv_G_br (tgt := 530) rfl rfl (by decide) (fun _ => ?_) (fun z => absurd hc30 z)
      refine mv_G_run 1 (F' := (531, [some (.ref 59), some (.int v1), some (.int v2), some (.int v3), some (.int v4), some (.int v5), some (.int v6), some (.int v7), some (.int s0), none, none], [.int (0 : Int32)], 0, 0, kjS f I L)) rfl ?_
      obtain rfl := Option.some.inj h
      exact mv_G_ret rfl rfl rfl (Nat.le_refl _) (Or.inl rfl) ⟨rfl, rfl⟩
    · rw [if_neg hc30] at h
      refine mv_G_br (tgt := 530) rfl rfl (by decide) (fun z => absurd z hc30) (fun _ => ?_)
      refine mv_G_run 2 (F' := (531, [some (.ref 59), some (.int v1), some (.int v2), some (.int v3), some (.int v4), some (.int v5), some (.int v6), some (.int v7), some (.int s0), none, none], [.int (1 : Int32)], 0, 0, kjS f I L)) rfl ?_
      obtain rfl := Option.some.inj h
      exact mv_G_ret rfl rfl rfl (Nat.le_refl _) (Or.inr rfl) ⟨rfl, rfl⟩
  rw [if_neg hw27] at h
  by_cases hw31 : (v5).toInt = 40
  · rw [if_pos hw31] at h
    refine mv_G_sw (tgt := 532) (off := 383) rfl (by simp only [mv_sw, hw31]; rfl) (by decide) ?_
    refine mv_G_run 5 (F' := (540, [some (.ref 59), some (.int v1), some (.int v2), some (.int v3), some (.int v4), some (.int v5), some (.int v6), some (.int v7), some (.int s0), none, none], [.int ((16 : Int32) + v6), .int s0, .ref 59], 0, 0, kjS f I L)) rfl ?_
    obtain ⟨r32, hc33, h⟩ := mv_bd h
    refine mv_G_call (r := []) (kf135_ok _ _ _ _ _ _ _ _ hc33) rfl rfl rfl rfl rfl (Nat.le_of_ble_eq_true rfl) (Nat.le_of_ble_eq_true rfl) (Nat.le_of_ble_eq_true rfl) ?_
    rintro _ _ ⟨rfl, rfl⟩
    by_cases hc34 : r32 = 0
    · rw [if_pos hc34] at h
      refine mv_G_br (tgt := 574) rfl rfl (by decide) (fun _ => ?_) (fun z => absurd hc34 z)
      refine mv_G_run 2 (F' := (579, [some (.ref 59), some (.int v1), some (.int v2), some (.int v3), some (.int v4), some (.int v5), some (.int v6), some (.int v7), some (.int s0), none, none], [.int (1 : Int32)], 0, 0, kjS f I L)) rfl ?_
      obtain rfl := Option.some.inj h
      exact mv_G_ret rfl rfl rfl (Nat.le_refl _) (Or.inr rfl) ⟨rfl, rfl⟩
    · rw [if_neg hc34] at h
      refine mv_G_br (tgt := 574) rfl rfl (by decide) (fun z => absurd z hc34) (fun _ => ?_)
      refine mv_G_run 12 (F' := (563, [some (.ref 59), some (.int v1), some (.int v2), some (.int v3), some (.int v4), some (.int v5), some (.int v6), some (.int v7), some (.int s0), none, none], [.int (v2 + (2 : Int32)), .int v1, .ref 59, .int ((8 : Int32) * v6), .ref 65, .int v7, .ref 59], 0, 0, kjS f I L)) rfl ?_
      obtain ⟨r35, hc36, h⟩ := mv_bd h
      refine mv_G_call (r := [.int ((8 : Int32) * v6), .ref 65, .int v7, .ref 59]) (kf115_ok _ _ _ _ _ _ _ hc36) rfl rfl rfl rfl rfl (Nat.le_of_ble_eq_true rfl) (Nat.le_of_ble_eq_true rfl) (Nat.le_of_ble_eq_true rfl) ?_
      rintro _ _ ⟨rfl, rfl⟩
      refine mv_G_run 1 (F' := (567, [some (.ref 59), some (.int v1), some (.int v2), some (.int v3), some (.int v4), some (.int v5), some (.int v6), some (.int v7), some (.int s0), none, none], [.int (((8 : Int32) * v6) + r35), .ref 65, .int v7, .ref 59], 0, 0, kjS f I L)) rfl ?_
      obtain ⟨hi37, h⟩ := mv_bifs h
      refine mv_G_ald rfl rfl (mv_in_ok hi37) ?_
      obtain ⟨r38, hc39, h⟩ := mv_bd h
      refine mv_G_call (r := []) (kf135_ok _ _ _ _ _ _ _ _ hc39) rfl rfl rfl rfl rfl (Nat.le_of_ble_eq_true rfl) (Nat.le_of_ble_eq_true rfl) (Nat.le_of_ble_eq_true rfl) ?_
      rintro _ _ ⟨rfl, rfl⟩
      by_cases hc40 : ¬ r38 = 0
      · rw [if_pos hc40] at h
        refine mv_G_br (tgt := 578) rfl rfl (by decide) (fun _ => ?_) (fun z => absurd hc40 z)
        refine mv_G_run 1 (F' := (579, [some (.ref 59), some (.int v1), some (.int v2), some (.int v3), some (.int v4), some (.int v5), some (.int v6), some (.int v7), some (.int s0), none, none], [.int (0 : Int32)], 0, 0, kjS f I L)) rfl ?_
        obtain rfl := Option.some.inj h
        exact mv_G_ret rfl rfl rfl (Nat.le_refl _) (Or.inl rfl) ⟨rfl, rfl⟩
      · rw [if_neg hc40] at h
        refine mv_G_br (tgt := 578) rfl rfl (by decide) (fun z => absurd z hc40) (fun _ => ?_)
        refine mv_G_run 2 (F' := (579, [some (.ref 59), some (.int v1), some (.int v2), some (.int v3), some (.int v4), some (.int v5), some (.int v6), some (.int v7), some (.int s0), none, none], [.int (1 : Int32)], 0, 0, kjS f I L)) rfl ?_
        obtain rfl := Option.some.inj h
        exact mv_G_ret rfl rfl rfl (Nat.le_refl _) (Or.inr rfl) ⟨rfl, rfl⟩
  rw [if_neg hw31] at h
  by_cases hw41 : (v5).toInt = 42
  · rw [if_pos hw41] at h
    refine mv_G_sw (tgt := 580) (off := 431) rfl (by simp only [mv_sw, hw41]; rfl) (by decide) ?_
    refine mv_G_run 2 (F' := (583, [some (.ref 59), some (.int v1), some (.int v2), some (.int v3), some (.int v4), some (.int v5), some (.int v6), some (.int v7), some (.int s0), none, none], [.int (1 : Int32), .int v7], 0, 0, kjS f I L)) rfl ?_
    by_cases hc42 : ¬ v7 = (1 : Int32)
    · rw [if_pos hc42] at h
      refine mv_G_br (tgt := 596) rfl rfl (by decide) (fun _ => ?_) (fun z => absurd hc42 z)
      refine mv_G_run 2 (F' := (601, [some (.ref 59), some (.int v1), some (.int v2), some (.int v3), some (.int v4), some (.int v5), some (.int v6), some (.int v7), some (.int s0), none, none], [.int (1 : Int32)], 0, 0, kjS f I L)) rfl ?_
      obtain rfl := Option.some.inj h
      exact mv_G_ret rfl rfl rfl (Nat.le_refl _) (Or.inr rfl) ⟨rfl, rfl⟩
    · rw [if_neg hc42] at h
      refine mv_G_br (tgt := 596) rfl rfl (by decide) (fun z => absurd z hc42) (fun _ => ?_)
      refine mv_G_run 3 (F' := (590, [some (.ref 59), some (.int v1), some (.int v2), some (.int v3), some (.int v4), some (.int v5), some (.int v6), some (.int v7), some (.int s0), none, none], [.int (2 : Int32), .int s0, .ref 59], 0, 0, kjS f I L)) rfl ?_
      obtain ⟨r43, hc44, h⟩ := mv_bd h
      refine mv_G_call (r := []) (kf135_ok _ _ _ _ _ _ _ _ hc44) rfl rfl rfl rfl rfl (Nat.le_of_ble_eq_true rfl) (Nat.le_of_ble_eq_true rfl) (Nat.le_of_ble_eq_true rfl) ?_
      rintro _ _ ⟨rfl, rfl⟩
      by_cases hc45 : ¬ r43 = 0
      · rw [if_pos hc45] at h
        refine mv_G_br (tgt := 600) rfl rfl (by decide) (fun _ => ?_) (fun z => absurd hc45 z)
        refine mv_G_run 1 (F' := (601, [some (.ref 59), some (.int v1), some (.int v2), some (.int v3), some (.int v4), some (.int v5), some (.int v6), some (.int v7), some (.int s0), none, none], [.int (0 : Int32)], 0, 0, kjS f I L)) rfl ?_
        obtain rfl := Option.some.inj h
        exact mv_G_ret rfl rfl rfl (Nat.le_refl _) (Or.inl rfl) ⟨rfl, rfl⟩
      · rw [if_neg hc45] at h
        refine mv_G_br (tgt := 600) rfl rfl (by decide) (fun z => absurd z hc45) (fun _ => ?_)
        refine mv_G_run 2 (F' := (601, [some (.ref 59), some (.int v1), some (.int v2), some (.int v3), some (.int v4), some (.int v5), some (.int v6), some (.int v7), some (.int s0), none, none], [.int (1 : Int32)], 0, 0, kjS f I L)) rfl ?_
        obtain rfl := Option.some.inj h
        exact mv_G_ret rfl rfl rfl (Nat.le_refl _) (Or.inr rfl) ⟨rfl, rfl⟩
  rw [if_neg hw41] at h
  by_cases hw46 : (v5).toInt = 43
  · rw [if_pos hw46] at h
    refine mv_G_sw (tgt := 602) (off := 453) rfl (by simp only [mv_sw, hw46]; rfl) (by decide) ?_
    refine mv_G_run 2 (F' := (605, [some (.ref 59), some (.int v1), some (.int v2), some (.int v3), some (.int v4), some (.int v5), some (.int v6), some (.int v7), some (.int s0), none, none], [.int (1 : Int32), .int v7], 0, 0, kjS f I L)) rfl ?_
    by_cases hc47 : ¬ v7 = (1 : Int32)
    · rw [if_pos hc47] at h
      refine mv_G_br (tgt := 631) rfl rfl (by decide) (fun _ => ?_) (fun z => absurd hc47 z)
      refine mv_G_run 2 (F' := (636, [some (.ref 59), some (.int v1), some (.int v2), some (.int v3), some (.int v4), some (.int v5), some (.int v6), some (.int v7), some (.int s0), none, none], [.int (1 : Int32)], 0, 0, kjS f I L)) rfl ?_
      obtain rfl := Option.some.inj h
      exact mv_G_ret rfl rfl rfl (Nat.le_refl _) (Or.inr rfl) ⟨rfl, rfl⟩
    · rw [if_neg hc47] at h
      refine mv_G_br (tgt := 631) rfl rfl (by decide) (fun z => absurd z hc47) (fun _ => ?_)
      refine mv_G_run 2 (F' := (611, [some (.ref 59), some (.int v1), some (.int v2), some (.int v3), some (.int v4), some (.int v5), some (.int v6), some (.int v7), some (.int s0), none, none], [.int (1 : Int32), .int s0], 0, 0, kjS f I L)) rfl ?_
      by_cases hc48 : ¬ s0 = (1 : Int32)
      · rw [if_pos hc48] at h
        refine mv_G_br (tgt := 631) rfl rfl (by decide) (fun _ => ?_) (fun z => absurd hc48 z)
        refine mv_G_run 2 (F' := (636, [some (.ref 59), some (.int v1), some (.int v2), some (.int v3), some (.int v4), some (.int v5), some (.int v6), some (.int v7), some (.int s0), none, none], [.int (1 : Int32)], 0, 0, kjS f I L)) rfl ?_
        obtain rfl := Option.some.inj h
        exact mv_G_ret rfl rfl rfl (Nat.le_refl _) (Or.inr rfl) ⟨rfl, rfl⟩
      · rw [if_neg hc48] at h
        refine mv_G_br (tgt := 631) rfl rfl (by decide) (fun z => absurd z hc48) (fun _ => ?_)
        refine mv_G_run 6 (F' := (623, [some (.ref 59), some (.int v1), some (.int v2), some (.int v3), some (.int v4), some (.int v5), some (.int v6), some (.int v7), some (.int s0), none, none], [.int (v4 - (3 : Int32)), .ref 79, .ref 59], 0, 0, kjS f I L)) rfl ?_
        obtain ⟨hi49, h⟩ := mv_bifs h
        refine mv_G_ald rfl rfl (mv_in_ok hi49) ?_
        refine mv_G_run 1 (F' := (625, [some (.ref 59), some (.int v1), some (.int v2), some (.int v3), some (.int v4), some (.int v5), some (.int v6), some (.int v7), some (.int s0), none, none], [.int (2 : Int32), .int (I 79 (Int32.toNatClampNeg (v4 - (3 : Int32)))), .ref 59], 0, 0, kjS f I L)) rfl ?_
        obtain ⟨r50, hc51, h⟩ := mv_bd h
        refine mv_G_call (r := []) (kf135_ok _ _ _ _ _ _ _ _ hc51) rfl rfl rfl rfl rfl (Nat.le_of_ble_eq_true rfl) (Nat.le_of_ble_eq_true rfl) (Nat.le_of_ble_eq_true rfl) ?_
        rintro _ _ ⟨rfl, rfl⟩
        by_cases hc52 : ¬ r50 = 0
        · rw [if_pos hc52] at h
          refine mv_G_br (tgt := 635) rfl rfl (by decide) (fun _ => ?_) (fun z => absurd hc52 z)
          refine mv_G_run 1 (F' := (636, [some (.ref 59), some (.int v1), some (.int v2), some (.int v3), some (.int v4), some (.int v5), some (.int v6), some (.int v7), some (.int s0), none, none], [.int (0 : Int32)], 0, 0, kjS f I L)) rfl ?_
          obtain rfl := Option.some.inj h
          exact mv_G_ret rfl rfl rfl (Nat.le_refl _) (Or.inl rfl) ⟨rfl, rfl⟩
        · rw [if_neg hc52] at h
          refine mv_G_br (tgt := 635) rfl rfl (by decide) (fun z => absurd z hc52) (fun _ => ?_)
          refine mv_G_run 2 (F' := (636, [some (.ref 59), some (.int v1), some (.int v2), some (.int v3), some (.int v4), some (.int v5), some (.int v6), some (.int v7), some (.int s0), none, none], [.int (1 : Int32)], 0, 0, kjS f I L)) rfl ?_
          obtain rfl := Option.some.inj h
          exact mv_G_ret rfl rfl rfl (Nat.le_refl _) (Or.inr rfl) ⟨rfl, rfl⟩
  rw [if_neg hw46] at h
  by_cases hw53 : (v5).toInt = 44
  · rw [if_pos hw53] at h
    refine mv_G_sw (tgt := 637) (off := 488) rfl (by simp only [mv_sw, hw53]; rfl) (by decide) ?_
    refine mv_G_run 3 (F' := (641, [some (.ref 59), some (.int v1), some (.int v2), some (.int v3), some (.int v4), some (.int v5), some (.int v6), some (.int v7), some (.int s0), none, none], [.int (2 : Int32), .int v7, .ref 59], 0, 0, kjS f I L)) rfl ?_
    obtain ⟨r54, hc55, h⟩ := mv_bd h
    refine mv_G_call (r := []) (kf135_ok _ _ _ _ _ _ _ _ hc55) rfl rfl rfl rfl rfl (Nat.le_of_ble_eq_true rfl) (Nat.le_of_ble_eq_true rfl) (Nat.le_of_ble_eq_true rfl) ?_
    rintro _ _ ⟨rfl, rfl⟩
    by_cases hc56 : ¬ r54 = 0
    · rw [if_pos hc56] at h
      refine mv_G_br (tgt := 651) rfl rfl (by decide) (fun _ => ?_) (fun z => absurd hc56 z)
      refine mv_G_run 1 (F' := (652, [some (.ref 59), some (.int v1), some (.int v2), some (.int v3), some (.int v4), some (.int v5), some (.int v6), some (.int v7), some (.int s0), none, none], [.int (0 : Int32)], 0, 0, kjS f I L)) rfl ?_
      obtain rfl := Option.some.inj h
      exact mv_G_ret rfl rfl rfl (Nat.le_refl _) (Or.inl rfl) ⟨rfl, rfl⟩
    · rw [if_neg hc56] at h
      refine mv_G_br (tgt := 651) rfl rfl (by decide) (fun z => absurd z hc56) (fun _ => ?_)
      refine mv_G_run 2 (F' := (652, [some (.ref 59), some (.int v1), some (.int v2), some (.int v3), some (.int v4), some (.int v5), some (.int v6), some (.int v7), some (.int s0), none, none], [.int (1 : Int32)], 0, 0, kjS f I L)) rfl ?_
      obtain rfl := Option.some.inj h
      exact mv_G_ret rfl rfl rfl (Nat.le_refl _) (Or.inr rfl) ⟨rfl, rfl⟩
  rw [if_neg hw53] at h
  by_cases hw57 : (v5).toInt = 45 ∨ (v5).toInt = 46
  · rw [if_pos hw57] at h
    refine mv_G_sw (tgt := 653) (off := 504) rfl (by rcases hw57 with hw57 | hw57 <;> (simp only [mv_sw, hw57]; rfl)) (by decide) ?_
    refine mv_G_run 1 (F' := (655, [some (.ref 59), some (.int v1), some (.int v2), some (.int v3), some (.int v4), some (.int v5), some (.int v6), some (.int v7), some (.int s0), none, none], [.int v7], 0, 0, kjS f I L)) rfl ?_
    obtain ⟨r58, hc59, h⟩ := mv_bd h
    refine mv_G_call (r := []) (kf136_ok _ _ _ _ _ _ hc59) rfl rfl rfl rfl rfl (Nat.le_of_ble_eq_true rfl) (Nat.le_of_ble_eq_true rfl) (Nat.le_of_ble_eq_true rfl) ?_
    rintro _ _ ⟨rfl, rfl⟩
    by_cases hc60 : r58 = 0
    · rw [if_pos hc60] at h
      refine mv_G_br (tgt := 667) rfl rfl (by decide) (fun _ => ?_) (fun z => absurd hc60 z)
      refine mv_G_run 2 (F' := (672, [some (.ref 59), some (.int v1), some (.int v2), some (.int v3), some (.int v4), some (.int v5), some (.int v6), some (.int v7), some (.int s0), none, none], [.int (1 : Int32)], 0, 0, kjS f I L)) rfl ?_
      obtain rfl := Option.some.inj h
      exact mv_G_ret rfl rfl rfl (Nat.le_refl _) (Or.inr rfl) ⟨rfl, rfl⟩
    · rw [if_neg hc60] at h
      refine mv_G_br (tgt := 667) rfl rfl (by decide) (fun z => absurd z hc60) (fun _ => ?_)
      refine mv_G_run 2 (F' := (664, [some (.ref 59), some (.int v1), some (.int v2), some (.int v3), some (.int v4), some (.int v5), some (.int v6), some (.int v7), some (.int s0), none, none], [.int (2 : Int32), .int v7], 0, 0, kjS f I L)) rfl ?_
      by_cases hc61 : ¬ v7 = (2 : Int32)
      · rw [if_pos hc61] at h
        refine mv_G_br (tgt := 671) rfl rfl (by decide) (fun _ => ?_) (fun z => absurd hc61 z)
        refine mv_G_run 1 (F' := (672, [some (.ref 59), some (.int v1), some (.int v2), some (.int v3), some (.int v4), some (.int v5), some (.int v6), some (.int v7), some (.int s0), none, none], [.int (0 : Int32)], 0, 0, kjS f I L)) rfl ?_
        obtain rfl := Option.some.inj h
        exact mv_G_ret rfl rfl rfl (Nat.le_refl _) (Or.inl rfl) ⟨rfl, rfl⟩
      · rw [if_neg hc61] at h
        refine mv_G_br (tgt := 671) rfl rfl (by decide) (fun z => absurd z hc61) (fun _ => ?_)
        refine mv_G_run 2 (F' := (672, [some (.ref 59), some (.int v1), some (.int v2), some (.int v3), some (.int v4), some (.int v5), some (.int v6), some (.int v7), some (.int s0), none, none], [.int (1 : Int32)], 0, 0, kjS f I L)) rfl ?_
        obtain rfl := Option.some.inj h
        exact mv_G_ret rfl rfl rfl (Nat.le_refl _) (Or.inr rfl) ⟨rfl, rfl⟩
  rw [if_neg hw57] at h
  by_cases hw62 : (v5).toInt = 47
  · rw [if_pos hw62] at h
    refine mv_G_sw (tgt := 673) (off := 524) rfl (by simp only [mv_sw, hw62]; rfl) (by decide) ?_
    refine mv_G_run 2 (F' := (676, [some (.ref 59), some (.int v1), some (.int v2), some (.int v3), some (.int v4), some (.int v5), some (.int v6), some (.int v7), some (.int s0), some (.int (0 : Int32)), none], [], 0, 0, kjS f I L)) rfl ?_
    refine mv_G_fg (lc' := [some (.ref 59), none, none, none, some (.int v4), none, some (.int v6), none, none, some (.int (0 : Int32)), none]) (And.intro rfl (And.intro rfl (And.intro rfl (And.intro rfl trivial)))) ?_
    exact kf137_676_ok _ _ d _ _ _ _ _ _ _ h
  rw [if_neg hw62] at h
  by_cases hw63 : (v5).toInt = 48
  · rw [if_pos hw63] at h
    refine mv_G_sw (tgt := 735) (off := 586) rfl (by simp only [mv_sw, hw63]; rfl) (by decide) ?_
    refine mv_G_run 8 (F' := (749, [some (.ref 59), some (.int v1), some (.int v2), some (.int v3), some (.int v4), some (.int v5), some (.int v6), some (.int v7), some (.int s0), none, none], [.int v6, .ref 66, .int (v4 - (1 : Int32)), .ref 79], 0, 0, kjS f I L)) rfl ?_
    obtain ⟨hi64, h⟩ := mv_bifs h
    refine mv_G_ald rfl rfl (mv_in_ok hi64) ?_
    refine mv_G_run 1 (F' := (751, [some (.ref 59), some (.int v1), some (.int v2), some (.int v3), some (.int v4), some (.int v5), some (.int v6), some (.int v7), some (.int s0), none, none], [.int ((v4 - (1 : Int32)) - (I 66 (Int32.toNatClampNeg v6))), .ref 79], 0, 0, kjS f I L)) rfl ?_
    obtain ⟨hi65, h⟩ := mv_bifs h
    refine mv_G_ald rfl rfl (mv_in_ok hi65) ?_
    refine mv_G_run 3 (F' := (757, [some (.ref 59), some (.int v1), some (.int v2), some (.int v3), some (.int v4), some (.int v5), some (.int v6), some (.int v7), some (.int s0), some (.int (I 79 (Int32.toNatClampNeg ((v4 - (1 : Int32)) - (I 66 (Int32.toNatClampNeg v6)))))), some (.int (0 : Int32))], [], 0, 0, kjS f I L)) rfl ?_
    refine mv_G_fg (lc' := [some (.ref 59), none, none, none, some (.int v4), none, some (.int v6), none, none, some (.int (I 79 (Int32.toNatClampNeg ((v4 - (1 : Int32)) - (I 66 (Int32.toNatClampNeg v6)))))), some (.int (0 : Int32))]) (And.intro rfl (And.intro rfl (And.intro rfl (And.intro rfl (And.intro rfl trivial))))) ?_
    exact kf137_757_ok _ _ d _ _ _ _ _ _ _ _ h
  rw [if_neg hw63] at h
  by_cases hw66 : (v5).toInt = 49
  · rw [if_pos hw66] at h
    refine mv_G_sw (tgt := 842) (off := 693) rfl (by simp only [mv_sw, hw66]; rfl) (by decide) ?_
    refine mv_G_run 3 (F' := (847, [some (.ref 59), some (.int v1), some (.int v2), some (.int v3), some (.int v4), some (.int v5), some (.int v6), some (.int v7), some (.int s0), none, none], [.int v1, .ref 71], 0, 0, kjS f I L)) rfl ?_
    obtain ⟨hi67, h⟩ := mv_bifs h
    refine mv_G_ald rfl rfl (mv_in_ok hi67) ?_
    by_cases hc68 : (I 71 (Int32.toNatClampNeg v1)) = 0
    · rw [if_pos hc68] at h
      refine mv_G_br (tgt := 855) rfl rfl (by decide) (fun _ => ?_) (fun z => absurd hc68 z)
      refine mv_G_run 1 (F' := (856, [some (.ref 59), some (.int v1), some (.int v2), some (.int v3), some (.int v4), some (.int v5), some (.int v6), some (.int v7), some (.int s0), none, none], [.int (0 : Int32)], 0, 0, kjS f I L)) rfl ?_
      obtain rfl := Option.some.inj h
      exact mv_G_ret rfl rfl rfl (Nat.le_refl _) (Or.inl rfl) ⟨rfl, rfl⟩
    · rw [if_neg hc68] at h
      refine mv_G_br (tgt := 855) rfl rfl (by decide) (fun z => absurd z hc68) (fun _ => ?_)
      refine mv_G_run 2 (F' := (856, [some (.ref 59), some (.int v1), some (.int v2), some (.int v3), some (.int v4), some (.int v5), some (.int v6), some (.int v7), some (.int s0), none, none], [.int (1 : Int32)], 0, 0, kjS f I L)) rfl ?_
      obtain rfl := Option.some.inj h
      exact mv_G_ret rfl rfl rfl (Nat.le_refl _) (Or.inr rfl) ⟨rfl, rfl⟩
  rw [if_neg hw66] at h
  by_cases hw69 : (v5).toInt = 50
  · rw [if_pos hw69] at h
    refine mv_G_sw (tgt := 857) (off := 708) rfl (by simp only [mv_sw, hw69]; rfl) (by decide) ?_
    refine mv_G_run 3 (F' := (862, [some (.ref 59), some (.int v1), some (.int v2), some (.int v3), some (.int v4), some (.int v5), some (.int v6), some (.int v7), some (.int s0), none, none], [.int v1, .ref 71], 0, 0, kjS f I L)) rfl ?_
    obtain ⟨hi70, h⟩ := mv_bifs h
    refine mv_G_ald rfl rfl (mv_in_ok hi70) ?_
    by_cases hc71 : (I 71 (Int32.toNatClampNeg v1)) = 0
    · rw [if_pos hc71] at h
      refine mv_G_br (tgt := 881) rfl rfl (by decide) (fun _ => ?_) (fun z => absurd hc71 z)
      refine mv_G_run 2 (F' := (886, [some (.ref 59), some (.int v1), some (.int v2), some (.int v3), some (.int v4), some (.int v5), some (.int v6), some (.int v7), some (.int s0), none, none], [.int (1 : Int32)], 0, 0, kjS f I L)) rfl ?_
      obtain rfl := Option.some.inj h
      exact mv_G_ret rfl rfl rfl (Nat.le_refl _) (Or.inr rfl) ⟨rfl, rfl⟩
    · rw [if_neg hc71] at h
      refine mv_G_br (tgt := 881) rfl rfl (by decide) (fun z => absurd z hc71) (fun _ => ?_)
      refine mv_G_run 5 (F' := (874, [some (.ref 59), some (.int v1), some (.int v2), some (.int v3), some (.int v4), some (.int v5), some (.int v6), some (.int v7), some (.int s0), none, none], [.int v1, .ref 71, .int v7, .ref 59], 0, 0, kjS f I L)) rfl ?_
      obtain ⟨hi72, h⟩ := mv_bifs h
      refine mv_G_ald rfl rfl (mv_in_ok hi72) ?_
      obtain ⟨r73, hc74, h⟩ := mv_bd h
      refine mv_G_call (r := []) (kf135_ok _ _ _ _ _ _ _ _ hc74) rfl rfl rfl rfl rfl (Nat.le_of_ble_eq_true rfl) (Nat.le_of_ble_eq_true rfl) (Nat.le_of_ble_eq_true rfl) ?_
      rintro _ _ ⟨rfl, rfl⟩
      by_cases hc75 : ¬ r73 = 0
      · rw [if_pos hc75] at h
        refine mv_G_br (tgt := 885) rfl rfl (by decide) (fun _ => ?_) (fun z => absurd hc75 z)
        refine mv_G_run 1 (F' := (886, [some (.ref 59), some (.int v1), some (.int v2), some (.int v3), some (.int v4), some (.int v5), some (.int v6), some (.int v7), some (.int s0), none, none], [.int (0 : Int32)], 0, 0, kjS f I L)) rfl ?_
        obtain rfl := Option.some.inj h
        exact mv_G_ret rfl rfl rfl (Nat.le_refl _) (Or.inl rfl) ⟨rfl, rfl⟩
      · rw [if_neg hc75] at h
        refine mv_G_br (tgt := 885) rfl rfl (by decide) (fun z => absurd z hc75) (fun _ => ?_)
        refine mv_G_run 2 (F' := (886, [some (.ref 59), some (.int v1), some (.int v2), some (.int v3), some (.int v4), some (.int v5), some (.int v6), some (.int v7), some (.int s0), none, none], [.int (1 : Int32)], 0, 0, kjS f I L)) rfl ?_
        obtain rfl := Option.some.inj h
        exact mv_G_ret rfl rfl rfl (Nat.le_refl _) (Or.inr rfl) ⟨rfl, rfl⟩
  rw [if_neg hw69] at h
  refine mv_G_sw (tgt := 887) (off := 738) rfl (by
    have hz82 : ((v5).toInt < 3 ∨ 53 < (v5).toInt) ∨ (v5).toInt = 8 ∨ (v5).toInt = 9 ∨ (v5).toInt = 10 ∨ (v5).toInt = 11 ∨ (v5).toInt = 12 ∨ (v5).toInt = 13 ∨ (v5).toInt = 14 ∨ (v5).toInt = 15 ∨ (v5).toInt = 16 ∨ (v5).toInt = 17 ∨ (v5).toInt = 18 ∨ (v5).toInt = 21 ∨ (v5).toInt = 22 ∨ (v5).toInt = 23 ∨ (v5).toInt = 24 ∨ (v5).toInt = 25 ∨ (v5).toInt = 26 ∨ (v5).toInt = 27 ∨ (v5).toInt = 28 ∨ (v5).toInt = 29 ∨ (v5).toInt = 30 ∨ (v5).toInt = 31 ∨ (v5).toInt = 32 ∨ (v5).toInt = 33 ∨ (v5).toInt = 38 ∨ (v5).toInt = 52 := by omega
    rcases hz82 with hz82 | hz82 | hz82 | hz82 | hz82 | hz82 | hz82 | hz82 | hz82 | hz82 | hz82 | hz82 | hz82 | hz82 | hz82 | hz82 | hz82 | hz82 | hz82 | hz82 | hz82 | hz82 | hz82 | hz82 | hz82 | hz82 | hz82
    · exact if_pos hz82
    · simp only [mv_sw, hz82]; rfl
    · simp only [mv_sw, hz82]; rfl
    · simp only [mv_sw, hz82]; rfl
    · simp only [mv_sw, hz82]; rfl
    · simp only [mv_sw, hz82]; rfl
    · simp only [mv_sw, hz82]; rfl
    · simp only [mv_sw, hz82]; rfl
    · simp only [mv_sw, hz82]; rfl
    · simp only [mv_sw, hz82]; rfl
    · simp only [mv_sw, hz82]; rfl
    · simp only [mv_sw, hz82]; rfl
    · simp only [mv_sw, hz82]; rfl
    · simp only [mv_sw, hz82]; rfl
    · simp only [mv_sw, hz82]; rfl
    · simp only [mv_sw, hz82]; rfl
    · simp only [mv_sw, hz82]; rfl
    · simp only [mv_sw, hz82]; rfl
    · simp only [mv_sw, hz82]; rfl
    · simp only [mv_sw, hz82]; rfl
    · simp only [mv_sw, hz82]; rfl
    · simp only [mv_sw, hz82]; rfl
    · simp only [mv_sw, hz82]; rfl
    · simp only [mv_sw, hz82]; rfl
    · simp only [mv_sw, hz82]; rfl
    · simp only [mv_sw, hz82]; rfl
    · simp only [mv_sw, hz82]; rfl) (by decide) ?_
  refine mv_G_run 2 (F' := (891, [some (.ref 59), some (.int v1), some (.int v2), some (.int v3), some (.int v4), some (.int v5), some (.int v6), some (.int v7), some (.int s0), none, none], [.int (8 : Int32), .int v5], 0, 0, kjS f I L)) rfl ?_
  by_cases hc76 : v5 < (8 : Int32)
  · rw [if_pos hc76] at h
    refine mv_G_br (tgt := 938) rfl rfl (by decide) (fun _ => ?_) (fun z => absurd hc76 z)
    refine mv_G_run 1 (F' := (939, [some (.ref 59), some (.int v1), some (.int v2), some (.int v3), some (.int v4), some (.int v5), some (.int v6), some (.int v7), some (.int s0), none, none], [.int (0 : Int32)], 0, 0, kjS f I L)) rfl ?_
    obtain rfl := Option.some.inj h
    exact mv_G_ret rfl rfl rfl (Nat.le_refl _) (Or.inl rfl) ⟨rfl, rfl⟩
  · rw [if_neg hc76] at h
    refine mv_G_br (tgt := 938) rfl rfl (by decide) (fun z => absurd z hc76) (fun _ => ?_)
    refine mv_G_run 2 (F' := (898, [some (.ref 59), some (.int v1), some (.int v2), some (.int v3), some (.int v4), some (.int v5), some (.int v6), some (.int v7), some (.int s0), none, none], [.int (33 : Int32), .int v5], 0, 0, kjS f I L)) rfl ?_
    by_cases hc77 : (33 : Int32) < v5
    · rw [if_pos hc77] at h
      refine mv_G_br (tgt := 938) rfl rfl (by decide) (fun _ => ?_) (fun z => absurd hc77 z)
      refine mv_G_run 1 (F' := (939, [some (.ref 59), some (.int v1), some (.int v2), some (.int v3), some (.int v4), some (.int v5), some (.int v6), some (.int v7), some (.int s0), none, none], [.int (0 : Int32)], 0, 0, kjS f I L)) rfl ?_
      obtain rfl := Option.some.inj h
      exact mv_G_ret rfl rfl rfl (Nat.le_refl _) (Or.inl rfl) ⟨rfl, rfl⟩
    · rw [if_neg hc77] at h
      refine mv_G_br (tgt := 938) rfl rfl (by decide) (fun z => absurd z hc77) (fun _ => ?_)
      refine mv_G_run 2 (F' := (905, [some (.ref 59), some (.int v1), some (.int v2), some (.int v3), some (.int v4), some (.int v5), some (.int v6), some (.int v7), some (.int s0), none, none], [.int (21 : Int32), .int v5], 0, 0, kjS f I L)) rfl ?_
      by_cases hc78 : v5 = (21 : Int32)
      · rw [if_pos hc78] at h
        refine mv_G_br (tgt := 938) rfl rfl (by decide) (fun _ => ?_) (fun z => absurd hc78 z)
        refine mv_G_run 1 (F' := (939, [some (.ref 59), some (.int v1), some (.int v2), some (.int v3), some (.int v4), some (.int v5), some (.int v6), some (.int v7), some (.int s0), none, none], [.int (0 : Int32)], 0, 0, kjS f I L)) rfl ?_
        obtain rfl := Option.some.inj h
        exact mv_G_ret rfl rfl rfl (Nat.le_refl _) (Or.inl rfl) ⟨rfl, rfl⟩
      · rw [if_neg hc78] at h
        refine mv_G_br (tgt := 938) rfl rfl (by decide) (fun z => absurd z hc78) (fun _ => ?_)
        refine mv_G_run 2 (F' := (911, [some (.ref 59), some (.int v1), some (.int v2), some (.int v3), some (.int v4), some (.int v5), some (.int v6), some (.int v7), some (.int s0), none, none], [.int (1 : Int32), .int v7], 0, 0, kjS f I L)) rfl ?_
        by_cases hc79 : ¬ v7 = (1 : Int32)
        · rw [if_pos hc79] at h
          refine mv_G_br (tgt := 934) rfl rfl (by decide) (fun _ => ?_) (fun z => absurd hc79 z)
          refine mv_G_run 2 (F' := (939, [some (.ref 59), some (.int v1), some (.int v2), some (.int v3), some (.int v4), some (.int v5), some (.int v6), some (.int v7), some (.int s0), none, none], [.int (1 : Int32)], 0, 0, kjS f I L)) rfl ?_
          obtain rfl := Option.some.inj h
          exact mv_G_ret rfl rfl rfl (Nat.le_refl _) (Or.inr rfl) ⟨rfl, rfl⟩
        · rw [if_neg hc79] at h
          refine mv_G_br (tgt := 934) rfl rfl (by decide) (fun z => absurd z hc79) (fun _ => ?_)
          refine mv_G_run 2 (F' := (918, [some (.ref 59), some (.int v1), some (.int v2), some (.int v3), some (.int v4), some (.int v5), some (.int v6), some (.int v7), some (.int s0), none, none], [.int (19 : Int32), .int v5], 0, 0, kjS f I L)) rfl ?_
          by_cases hc80 : v5 < (19 : Int32)
          · rw [if_pos hc80] at h
            refine mv_G_br (tgt := 928) rfl rfl (by decide) (fun _ => ?_) (fun z => absurd hc80 z)
            refine mv_G_fg (lc' := [none, none, none, none, none, none, none, none, some (.int s0), none, none]) (And.intro rfl trivial) ?_
            exact kf137_928_ok _ _ d _ _ _ _ h
          · rw [if_neg hc80] at h
            refine mv_G_br (tgt := 928) rfl rfl (by decide) (fun z => absurd z hc80) (fun _ => ?_)
            refine mv_G_run 2 (F' := (925, [some (.ref 59), some (.int v1), some (.int v2), some (.int v3), some (.int v4), some (.int v5), some (.int v6), some (.int v7), some (.int s0), none, none], [.int (27 : Int32), .int v5], 0, 0, kjS f I L)) rfl ?_
            by_cases hc81 : v5 ≤ (27 : Int32)
            · rw [if_pos hc81] at h
              refine mv_G_br (tgt := 938) rfl rfl (by decide) (fun _ => ?_) (fun z => absurd hc81 z)
              refine mv_G_run 1 (F' := (939, [some (.ref 59), some (.int v1), some (.int v2), some (.int v3), some (.int v4), some (.int v5), some (.int v6), some (.int v7), some (.int s0), none, none], [.int (0 : Int32)], 0, 0, kjS f I L)) rfl ?_
              obtain rfl := Option.some.inj h
              exact mv_G_ret rfl rfl rfl (Nat.le_refl _) (Or.inl rfl) ⟨rfl, rfl⟩
            · rw [if_neg hc81] at h
              refine mv_G_br (tgt := 938) rfl rfl (by decide) (fun z => absurd z hc81) (fun _ => ?_)
              refine mv_G_fg (lc' := [none, none, none, none, none, none, none, none, some (.int s0), none, none]) (And.intro rfl trivial) ?_
              exact kf137_928_ok _ _ d _ _ _ _ h
def kf137_120 (N : Nat) (v1 : Int32) (v2 : Int32) (v3 : Int32) (v4 : Int32) (v5 : Int32) (v6 : Int32) (s0 : Int32) (I : kjI) (L : kjL) : Option (Int32 × kjI × kjL) :=
  bif mv_in v3 1920 then (if (I 78 (Int32.toNatClampNeg v3)) ≤ (1 : Int32) then (kf137_145 N v1 v2 v3 v4 v5 v6 s0 (0 : Int32) I L) else (bif mv_in (v4 - (2 : Int32)) 30720 then (kf137_145 N v1 v2 v3 v4 v5 v6 s0 (I 79 (Int32.toNatClampNeg (v4 - (2 : Int32)))) I L) else none)) else none
set_option maxRecDepth 100000 in
set_option maxHeartbeats 4000000 in
theorem kf137_120_ok (f : Bool) (N : Nat) (d : Nat)  (v1 : Int32) (v2 : Int32) (v3 : Int32) (v4 : Int32) (v5 : Int32) (v6 : Int32) (s0 : Int32) (I : kjI) (L : kjL) (r : Int32 × kjI × kjL) (h : kf137_120 N v1 v2 v3 v4 v5 v6 s0 I L = some r) : mv_G kjP kjSta (mv_C kjP kjSta (d + 3)) kjM_137 (kjQwi f r) (120, [some (.ref 59), some (.int v1), some (.int v2), some (.int v3), some (.int v4), some (.int v5), some (.int v6), none, none, none, none], [.int s0], 0, 0, kjS f I L) := by
  unfold kf137_120 at h
  refine mv_G_run 4 (F' := (127, [some (.ref 59), some (.int v1), some (.int v2), some (.int v3), some (.int v4), some (.int v5), some (.int v6), some (.int s0), none, none, none], [.int v3, .ref 78], 0, 0, kjS f I L)) rfl ?_
  obtain ⟨hi1, h⟩ := mv_bifs h
  refine mv_G_ald rfl rfl (mv_in_ok hi1) ?_
  refine mv_G_run 1 (F' := (129, [some (.ref 59), some (.int v1), some (.int v2), some (.int v3), some (.int v4), some (.int v5), some (.int v6), some (.int s0), none, none, none], [.int (1 : Int32), .int (I 78 (Int32.toNatClampNeg v3))], 0, 0, kjS f I L)) rfl ?_
  by_cases hc2 : (I 78 (Int32.toNatClampNeg v3)) ≤ (1 : Int32)
  · rw [if_pos hc2] at h
    refine mv_G_br (tgt := 144) rfl rfl (by decide) (fun _ => ?_) (fun z => absurd hc2 z)
    refine mv_G_run 1 (F' := (145, [some (.ref 59), some (.int v1), some (.int v2), some (.int v3), some (.int v4), some (.int v5), some (.int v6), some (.int s0), none, none, none], [.int (0 : Int32)], 0, 0, kjS f I L)) rfl ?_
    exact kf137_145_ok _ _ d _ _ _ _ _ _ _ _ _ _ _ h
  · rw [if_neg hc2] at h
    refine mv_G_br (tgt := 144) rfl rfl (by decide) (fun z => absurd z hc2) (fun _ => ?_)
    refine mv_G_run 5 (F' := (140, [some (.ref 59), some (.int v1), some (.int v2), some (.int v3), some (.int v4), some (.int v5), some (.int v6), some (.int s0), none, none, none], [.int (v4 - (2 : Int32)), .ref 79], 0, 0, kjS f I L)) rfl ?_
    obtain ⟨hi3, h⟩ := mv_bifs h
    refine mv_G_ald rfl rfl (mv_in_ok hi3) ?_
    refine mv_G_run 1 (F' := (145, [some (.ref 59), some (.int v1), some (.int v2), some (.int v3), some (.int v4), some (.int v5), some (.int v6), some (.int s0), none, none, none], [.int (I 79 (Int32.toNatClampNeg (v4 - (2 : Int32))))], 0, 0, kjS f I L)) rfl ?_
    exact kf137_145_ok _ _ d _ _ _ _ _ _ _ _ _ _ _ h
def kf137_96 (N : Nat) (v1 : Int32) (v2 : Int32) (v3 : Int32) (v4 : Int32) (v5 : Int32) (s0 : Int32) (I : kjI) (L : kjL) : Option (Int32 × kjI × kjL) :=
  bif mv_in v3 1920 then (if (I 78 (Int32.toNatClampNeg v3)) ≤ 0 then (kf137_120 N v1 v2 v3 v4 v5 s0 (0 : Int32) I L) else (bif mv_in (v4 - (1 : Int32)) 30720 then (kf137_120 N v1 v2 v3 v4 v5 s0 (I 79 (Int32.toNatClampNeg (v4 - (1 : Int32)))) I L) else none)) else none
set_option maxRecDepth 100000 in
set_option maxHeartbeats 4000000 in
theorem kf137_96_ok (f : Bool) (N : Nat) (d : Nat)  (v1 : Int32) (v2 : Int32) (v3 : Int32) (v4 : Int32) (v5 : Int32) (s0 : Int32) (I : kjI) (L : kjL) (r : Int32 × kjI × kjL) (h : kf137_96 N v1 v2 v3 v4 v5 s0 I L = some r) : mv_G kjP kjSta (mv_C kjP kjSta (d + 3)) kjM_137 (kjQwi f r) (96, [some (.ref 59), some (.int v1), some (.int v2), some (.int v3), some (.int v4), some (.int v5), none, none, none, none, none], [.int s0], 0, 0, kjS f I L) := by
  unfold kf137_96 at h
  refine mv_G_run 4 (F' := (103, [some (.ref 59), some (.int v1), some (.int v2), some (.int v3), some (.int v4), some (.int v5), some (.int s0), none, none, none, none], [.int v3, .ref 78], 0, 0, kjS f I L)) rfl ?_
  obtain ⟨hi1, h⟩ := mv_bifs h
  refine mv_G_ald rfl rfl (mv_in_ok hi1) ?_
  by_cases hc2 : (I 78 (Int32.toNatClampNeg v3)) ≤ 0
  · rw [if_pos hc2] at h
    refine mv_G_br (tgt := 119) rfl rfl (by decide) (fun _ => ?_) (fun z => absurd hc2 z)
    refine mv_G_run 1 (F' := (120, [some (.ref 59), some (.int v1), some (.int v2), some (.int v3), some (.int v4), some (.int v5), some (.int s0), none, none, none, none], [.int (0 : Int32)], 0, 0, kjS f I L)) rfl ?_
    exact kf137_120_ok _ _ d _ _ _ _ _ _ _ _ _ _ h
  · rw [if_neg hc2] at h
    refine mv_G_br (tgt := 119) rfl rfl (by decide) (fun z => absurd z hc2) (fun _ => ?_)
    refine mv_G_run 5 (F' := (115, [some (.ref 59), some (.int v1), some (.int v2), some (.int v3), some (.int v4), some (.int v5), some (.int s0), none, none, none, none], [.int (v4 - (1 : Int32)), .ref 79], 0, 0, kjS f I L)) rfl ?_
    obtain ⟨hi3, h⟩ := mv_bifs h
    refine mv_G_ald rfl rfl (mv_in_ok hi3) ?_
    refine mv_G_run 1 (F' := (120, [some (.ref 59), some (.int v1), some (.int v2), some (.int v3), some (.int v4), some (.int v5), some (.int s0), none, none, none, none], [.int (I 79 (Int32.toNatClampNeg (v4 - (1 : Int32))))], 0, 0, kjS f I L)) rfl ?_
    exact kf137_120_ok _ _ d _ _ _ _ _ _ _ _ _ _ h
def kf137 (N : Nat) (v1 : Int32) (v2 : Int32) (I : kjI) (L : kjL) : Option (Int32 × kjI × kjL) :=
  bif mv_in (((120 : Int32) * v1) + v2) 1920 then (if ¬ (I 78 (Int32.toNatClampNeg (((120 : Int32) * v1) + v2))) = (-2 : Int32) then ((kf134 N v1 v2 I L).bind fun r3 => if ¬ (r3.1 59 34) = 0 then (some ((1 : Int32), r3.1, r3.2)) else (bif mv_in v1 16 then (if (r3.1 59 33) ≤ (r3.1 73 (Int32.toNatClampNeg v1)) then (bif mv_in (((120 : Int32) * v1) + v2) 1920 then ((kf115 r3.1 r3.2 v1 v2).bind fun r9 => bif mv_in v1 16 then (if (r3.1 74 (Int32.toNatClampNeg v1)) ≤ (v2 + (1 : Int32)) then (kf137_96 N v1 v2 (((120 : Int32) * v1) + v2) ((((16 : Int32) * (((120 : Int32) * v1) + v2)) + (8 : Int32)) + (r3.1 78 (Int32.toNatClampNeg (((120 : Int32) * v1) + v2)))) r9 (0 : Int32) r3.1 r3.2) else ((kf115 r3.1 r3.2 v1 (v2 + (1 : Int32))).bind fun r13 => kf137_96 N v1 v2 (((120 : Int32) * v1) + v2) ((((16 : Int32) * (((120 : Int32) * v1) + v2)) + (8 : Int32)) + (r3.1 78 (Int32.toNatClampNeg (((120 : Int32) * v1) + v2)))) r9 r13 r3.1 r3.2)) else none) else none) else (some ((1 : Int32), r3.1, r3.2))) else none)) else (some ((1 : Int32), I, L))) else none
set_option maxRecDepth 100000 in
set_option maxHeartbeats 4000000 in
theorem kf137_ok (f : Bool) (N : Nat) (v1 : Int32) (v2 : Int32) (I : kjI) (L : kjL) (d : Nat) (r : Int32 × kjI × kjL) (h : kf137 N v1 v2 I L = some r) : mv_C kjP kjSta (d + 4) 137 [.ref 59, .int v1, .int v2] (kjS f I L) (kjQwi f r) := by
  unfold kf137 at h
  refine mv_C_in kjM_137 (lc := [some (.ref 59), some (.int v1), some (.int v2), none, none, none, none, none, none, none, none]) rfl rfl rfl ?_
  refine mv_G_run 9 (F' := (12, [some (.ref 59), some (.int v1), some (.int v2), some (.int (((120 : Int32) * v1) + v2)), none, none, none, none, none, none, none], [.int (((120 : Int32) * v1) + v2), .ref 78], 0, 0, kjS f I L)) rfl ?_
  obtain ⟨hi1, h⟩ := mv_bifs h
  refine mv_G_ald rfl rfl (mv_in_ok hi1) ?_
  refine mv_G_run 1 (F' := (15, [some (.ref 59), some (.int v1), some (.int v2), some (.int (((120 : Int32) * v1) + v2)), none, none, none, none, none, none, none], [.int (-2 : Int32), .int (I 78 (Int32.toNatClampNeg (((120 : Int32) * v1) + v2)))], 0, 0, kjS f I L)) rfl ?_
  by_cases hc2 : ¬ (I 78 (Int32.toNatClampNeg (((120 : Int32) * v1) + v2))) = (-2 : Int32)
  · rw [if_pos hc2] at h
    refine mv_G_br (tgt := 20) rfl rfl (by decide) (fun _ => ?_) (fun z => absurd hc2 z)
    refine mv_G_run 3 (F' := (23, [some (.ref 59), some (.int v1), some (.int v2), some (.int (((120 : Int32) * v1) + v2)), none, none, none, none, none, none, none], [.int v2, .int v1, .ref 59], 0, 0, kjS f I L)) rfl ?_
    obtain ⟨r3, hc4, h⟩ := mv_bd h
    refine mv_G_call (r := []) (kf134_ok _ _ _ _ _ _ _ _ hc4) rfl rfl rfl rfl rfl (Nat.le_of_ble_eq_true rfl) (Nat.le_of_ble_eq_true rfl) (Nat.le_of_ble_eq_true rfl) ?_
    rintro _ _ ⟨rfl, rfl⟩
    refine mv_G_run 2 (F' := (30, [some (.ref 59), some (.int v1), some (.int v2), some (.int (((120 : Int32) * v1) + v2)), none, none, none, none, none, none, none], [.int (r3.1 59 34)], 0, 0, kjS f r3.1 r3.2)) rfl ?_
    by_cases hc5 : ¬ (r3.1 59 34) = 0
    · rw [if_pos hc5] at h
      refine mv_G_br (tgt := 46) rfl rfl (by decide) (fun _ => ?_) (fun z => absurd hc5 z)
      refine mv_G_run 1 (F' := (47, [some (.ref 59), some (.int v1), some (.int v2), some (.int (((120 : Int32) * v1) + v2)), none, none, none, none, none, none, none], [.int (1 : Int32)], 0, 0, kjS f r3.1 r3.2)) rfl ?_
      obtain rfl := Option.some.inj h
      exact mv_G_ret rfl rfl rfl (Nat.le_refl _) (Or.inr rfl) ⟨rfl, rfl⟩
    · rw [if_neg hc5] at h
      refine mv_G_br (tgt := 46) rfl rfl (by decide) (fun z => absurd z hc5) (fun _ => ?_)
      refine mv_G_run 5 (F' := (42, [some (.ref 59), some (.int v1), some (.int v2), some (.int (((120 : Int32) * v1) + v2)), none, none, none, none, none, none, none], [.int v1, .ref 73, .int (r3.1 59 33)], 0, 0, kjS f r3.1 r3.2)) rfl ?_
      obtain ⟨hi6, h⟩ := mv_bifs h
      refine mv_G_ald rfl rfl (mv_in_ok hi6) ?_
      by_cases hc7 : (r3.1 59 33) ≤ (r3.1 73 (Int32.toNatClampNeg v1))
      · rw [if_pos hc7] at h
        refine mv_G_br (tgt := 48) rfl rfl (by decide) (fun _ => ?_) (fun z => absurd hc7 z)
        refine mv_G_run 8 (F' := (60, [some (.ref 59), some (.int v1), some (.int v2), some (.int (((120 : Int32) * v1) + v2)), none, none, none, none, none, none, none], [.int (((120 : Int32) * v1) + v2), .ref 78, .int (((16 : Int32) * (((120 : Int32) * v1) + v2)) + (8 : Int32))], 0, 0, kjS f r3.1 r3.2)) rfl ?_
        obtain ⟨hi8, h⟩ := mv_bifs h
        refine mv_G_ald rfl rfl (mv_in_ok hi8) ?_
        refine mv_G_run 5 (F' := (67, [some (.ref 59), some (.int v1), some (.int v2), some (.int (((120 : Int32) * v1) + v2)), some (.int ((((16 : Int32) * (((120 : Int32) * v1) + v2)) + (8 : Int32)) + (r3.1 78 (Int32.toNatClampNeg (((120 : Int32) * v1) + v2))))), none, none, none, none, none, none], [.int v2, .int v1, .ref 59], 0, 0, kjS f r3.1 r3.2)) rfl ?_
        obtain ⟨r9, hc10, h⟩ := mv_bd h
        refine mv_G_call (r := []) (kf115_ok _ _ _ _ _ _ _ hc10) rfl rfl rfl rfl rfl (Nat.le_of_ble_eq_true rfl) (Nat.le_of_ble_eq_true rfl) (Nat.le_of_ble_eq_true rfl) ?_
        rintro _ _ ⟨rfl, rfl⟩
        refine mv_G_run 4 (F' := (77, [some (.ref 59), some (.int v1), some (.int v2), some (.int (((120 : Int32) * v1) + v2)), some (.int ((((16 : Int32) * (((120 : Int32) * v1) + v2)) + (8 : Int32)) + (r3.1 78 (Int32.toNatClampNeg (((120 : Int32) * v1) + v2))))), some (.int r9), none, none, none, none, none], [.int v1, .ref 74], 0, 0, kjS f r3.1 r3.2)) rfl ?_
        obtain ⟨hi11, h⟩ := mv_bifs h
        refine mv_G_ald rfl rfl (mv_in_ok hi11) ?_
        refine mv_G_run 3 (F' := (81, [some (.ref 59), some (.int v1), some (.int v2), some (.int (((120 : Int32) * v1) + v2)), some (.int ((((16 : Int32) * (((120 : Int32) * v1) + v2)) + (8 : Int32)) + (r3.1 78 (Int32.toNatClampNeg (((120 : Int32) * v1) + v2))))), some (.int r9), none, none, none, none, none], [.int (v2 + (1 : Int32)), .int (r3.1 74 (Int32.toNatClampNeg v1))], 0, 0, kjS f r3.1 r3.2)) rfl ?_
        by_cases hc12 : (r3.1 74 (Int32.toNatClampNeg v1)) ≤ (v2 + (1 : Int32))
        · rw [if_pos hc12] at h
          refine mv_G_br (tgt := 95) rfl rfl (by decide) (fun _ => ?_) (fun z => absurd hc12 z)
          refine mv_G_run 1 (F' := (96, [some (.ref 59), some (.int v1), some (.int v2), some (.int (((120 : Int32) * v1) + v2)), some (.int ((((16 : Int32) * (((120 : Int32) * v1) + v2)) + (8 : Int32)) + (r3.1 78 (Int32.toNatClampNeg (((120 : Int32) * v1) + v2))))), some (.int r9), none, none, none, none, none], [.int (0 : Int32)], 0, 0, kjS f r3.1 r3.2)) rfl ?_
          exact kf137_96_ok _ _ d _ _ _ _ _ _ _ _ _ h
        · rw [if_neg hc12] at h
          refine mv_G_br (tgt := 95) rfl rfl (by decide) (fun z => absurd z hc12) (fun _ => ?_)
          refine mv_G_run 5 (F' := (89, [some (.ref 59), some (.int v1), some (.int v2), some (.int (((120 : Int32) * v1) + v2)), some (.int ((((16 : Int32) * (((120 : Int32) * v1) + v2)) + (8 : Int32)) + (r3.1 78 (Int32.toNatClampNeg (((120 : Int32) * v1) + v2))))), some (.int r9), none, none, none, none, none], [.int (v2 + (1 : Int32)), .int v1, .ref 59], 0, 0, kjS f r3.1 r3.2)) rfl ?_
          obtain ⟨r13, hc14, h⟩ := mv_bd h
          refine mv_G_call (r := []) (kf115_ok _ _ _ _ _ _ _ hc14) rfl rfl rfl rfl rfl (Nat.le_of_ble_eq_true rfl) (Nat.le_of_ble_eq_true rfl) (Nat.le_of_ble_eq_true rfl) ?_
          rintro _ _ ⟨rfl, rfl⟩
          refine mv_G_run 1 (F' := (96, [some (.ref 59), some (.int v1), some (.int v2), some (.int (((120 : Int32) * v1) + v2)), some (.int ((((16 : Int32) * (((120 : Int32) * v1) + v2)) + (8 : Int32)) + (r3.1 78 (Int32.toNatClampNeg (((120 : Int32) * v1) + v2))))), some (.int r9), none, none, none, none, none], [.int r13], 0, 0, kjS f r3.1 r3.2)) rfl ?_
          exact kf137_96_ok _ _ d _ _ _ _ _ _ _ _ _ h
      · rw [if_neg hc7] at h
        refine mv_G_br (tgt := 48) rfl rfl (by decide) (fun z => absurd z hc7) (fun _ => ?_)
        refine mv_G_run 1 (F' := (47, [some (.ref 59), some (.int v1), some (.int v2), some (.int (((120 : Int32) * v1) + v2)), none, none, none, none, none, none, none], [.int (1 : Int32)], 0, 0, kjS f r3.1 r3.2)) rfl ?_
        obtain rfl := Option.some.inj h
        exact mv_G_ret rfl rfl rfl (Nat.le_refl _) (Or.inr rfl) ⟨rfl, rfl⟩
  · rw [if_neg hc2] at h
    refine mv_G_br (tgt := 20) rfl rfl (by decide) (fun z => absurd z hc2) (fun _ => ?_)
    refine mv_G_run 1 (F' := (19, [some (.ref 59), some (.int v1), some (.int v2), some (.int (((120 : Int32) * v1) + v2)), none, none, none, none, none, none, none], [.int (1 : Int32)], 0, 0, kjS f I L)) rfl ?_
    obtain rfl := Option.some.inj h
    exact mv_G_ret rfl rfl rfl (Nat.le_refl _) (Or.inr rfl) ⟨rfl, rfl⟩
