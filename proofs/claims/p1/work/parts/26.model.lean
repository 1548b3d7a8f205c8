/-! KindJudgeModel.thrown()I on ('c', 59) -/
def kf101 (I : kjI) (L : kjL) : Option (Int32) :=
  some (I 59 0)
set_option maxRecDepth 100000 in
set_option maxHeartbeats 4000000 in
theorem kf101_ok (f : Bool) (I : kjI) (L : kjL) (d : Nat) (r : Int32) (h : kf101 I L = some r) : mv_C kjP kjSta (d + 1) 101 [.ref 59] (kjS f I L) (kjQi f I L r) := by
  unfold kf101 at h
  refine mv_C_in kjM_101 (lc := [some (.ref 59)]) rfl rfl rfl ?_
  refine mv_G_run 2 (F' := (4, [some (.ref 59)], [.int (I 59 0)], 0, 0, kjS f I L)) rfl ?_
  obtain rfl := Option.some.inj h
  exact mv_G_ret rfl rfl rfl (Nat.le_refl _) trivial ⟨rfl, rfl⟩
/-! KindJudgeModel.raise(I)I on ('c', 59) -/
def kf102 (v1 : Int32) (I : kjI) (L : kjL) : Option (Int32 × kjI × kjL) :=
  some ((0 : Int32), (mv_up I 59 0 v1), L)
set_option maxRecDepth 100000 in
set_option maxHeartbeats 4000000 in
theorem kf102_ok (f : Bool) (v1 : Int32) (I : kjI) (L : kjL) (d : Nat) (r : Int32 × kjI × kjL) (h : kf102 v1 I L = some r) : mv_C kjP kjSta (d + 1) 102 [.ref 59, .int v1] (kjS f I L) (kjQwi f r) := by
  unfold kf102 at h
  refine mv_C_in kjM_102 (lc := [some (.ref 59), some (.int v1)]) rfl rfl rfl ?_
  refine mv_G_run 4 (F' := (6, [some (.ref 59), some (.int v1)], [.int (0 : Int32)], 0, 0, kjS f (mv_up I 59 0 v1) L)) rfl ?_
  obtain rfl := Option.some.inj h
  exact mv_G_ret rfl rfl rfl (Nat.le_refl _) trivial ⟨rfl, rfl⟩
/-! KindJudgeModel.put(JI)Z on ('c', 59) -/
def kf104_35 (N : Nat) : Nat → Int64 → Int32 → kjI → kjL → Option (Int32 × kjI × kjL)
  | 0, _, _, _, _ => none
  | n + 1, v1, v4, I, L => if v4 < 0 then (some ((1 : Int32), I, L)) else (bif mv_in (I 59 2) 1500 then ((fun v1 v4 I L => kf104_35 N n v1 v4 I L) v1 (v4 + (-1 : Int32)) (mv_up (mv_up I 60 (Int32.toNatClampNeg (I 59 2)) (Int64.toInt32 ((v1 >>> (Int32.toInt64 ((8 : Int32) * v4) &&& 63)) &&& (255 : Int64)))) 59 2 (((mv_up I 60 (Int32.toNatClampNeg (I 59 2)) (Int64.toInt32 ((v1 >>> (Int32.toInt64 ((8 : Int32) * v4) &&& 63)) &&& (255 : Int64)))) 59 2) + (1 : Int32))) L) else none)
set_option maxRecDepth 100000 in
set_option maxHeartbeats 4000000 in
theorem kf104_35_ok (f : Bool) (N : Nat) (d : Nat)  : ∀ (n : Nat) (v1 : Int64) (v4 : Int32) (I : kjI) (L : kjL) (r : Int32 × kjI × kjL), kf104_35 N n v1 v4 I L = some r → mv_G kjP kjSta (mv_C kjP kjSta (d + 0)) kjM_104 (kjQwi f r) (35, [some (.ref 59), some (.long v1), none, none, some (.int v4)], [], 0, 0, kjS f I L) := by
  intro n
  induction n with
  | zero => intro v1 v4 I L r h; cases h
  | succ n ih =>
    have hk35 := ih
    intro v1 v4 I L r h
    unfold kf104_35 at h
    refine mv_G_run 1 (F' := (37, [some (.ref 59), some (.long v1), none, none, some (.int v4)], [.int v4], 0, 0, kjS f I L)) rfl ?_
    by_cases hc1 : v4 < 0
    · rw [if_pos hc1] at h
      refine mv_G_br (tgt := 77) rfl rfl (by decide) (fun _ => ?_) (fun z => absurd hc1 z)
      refine mv_G_run 1 (F' := (78, [some (.ref 59), some (.long v1), none, none, some (.int v4)], [.int (1 : Int32)], 0, 0, kjS f I L)) rfl ?_
      obtain rfl := Option.some.inj h
      exact mv_G_ret rfl rfl rfl (Nat.le_refl _) (Or.inr rfl) ⟨rfl, rfl⟩
    · rw [if_neg hc1] at h
      refine mv_G_br (tgt := 77) rfl rfl (by decide) (fun z => absurd z hc1) (fun _ => ?_)
      refine mv_G_run 12 (F' := (60, [some (.ref 59), some (.long v1), none, none, some (.int v4)], [.int (Int64.toInt32 ((v1 >>> (Int32.toInt64 ((8 : Int32) * v4) &&& 63)) &&& (255 : Int64))), .int (I 59 2), .ref 60], 0, 0, kjS f I L)) rfl ?_
      obtain ⟨hi2, h⟩ := mv_bifs h
      refine mv_G_ast rfl rfl (mv_in_ok hi2) ?_
      refine mv_G_run 8 (F' := (35, [some (.ref 59), some (.long v1), none, none, some (.int (v4 + (-1 : Int32)))], [], 0, 0, kjS f (mv_up (mv_up I 60 (Int32.toNatClampNeg (I 59 2)) (Int64.toInt32 ((v1 >>> (Int32.toInt64 ((8 : Int32) * v4) &&& 63)) &&& (255 : Int64)))) 59 2 (((mv_up I 60 (Int32.toNatClampNeg (I 59 2)) (Int64.toInt32 ((v1 >>> (Int32.toInt64 ((8 : Int32) * v4) &&& 63)) &&& (255 : Int64)))) 59 2) + (1 : Int32))) L)) rfl ?_
      exact hk35 v1 (v4 + (-1 : Int32)) (mv_up (mv_up I 60 (Int32.toNatClampNeg (I 59 2)) (Int64.toInt32 ((v1 >>> (Int32.toInt64 ((8 : Int32) * v4) &&& 63)) &&& (255 : Int64)))) 59 2 (((mv_up I 60 (Int32.toNatClampNeg (I 59 2)) (Int64.toInt32 ((v1 >>> (Int32.toInt64 ((8 : Int32) * v4) &&& 63)) &&& (255 : Int64)))) 59 2) + (1 : Int32))) L _ h
def kf104 (N : Nat) (v1 : Int64) (v3 : Int32) (I : kjI) (L : kjL) : Option (Int32 × kjI × kjL) :=
  if v3 < (1 : Int32) then (some ((0 : Int32), (mv_up I 59 0 (0 : Int32)), L)) else (if (8 : Int32) < v3 then (some ((0 : Int32), (mv_up I 59 0 (0 : Int32)), L)) else (if (((mv_up I 59 0 (0 : Int32)) 59 2) + v3) ≤ (1500 : Int32) then (kf104_35 N N v1 (v3 - (1 : Int32)) (mv_up I 59 0 (0 : Int32)) L) else (some ((0 : Int32), (mv_up I 59 0 (0 : Int32)), L))))
set_option maxRecDepth 100000 in
set_option maxHeartbeats 4000000 in
theorem kf104_ok (f : Bool) (N : Nat) (v1 : Int64) (v3 : Int32) (I : kjI) (L : kjL) (d : Nat) (r : Int32 × kjI × kjL) (h : kf104 N v1 v3 I L = some r) : mv_C kjP kjSta (d + 1) 104 [.ref 59, .long v1, .int v3] (kjS f I L) (kjQwi f r) := by
  unfold kf104 at h
  refine mv_C_in kjM_104 (lc := [some (.ref 59), some (.long v1), none, some (.int v3), none]) rfl rfl rfl ?_
  refine mv_G_run 5 (F' := (7, [some (.ref 59), some (.long v1), none, some (.int v3), none], [.int (1 : Int32), .int v3], 0, 0, kjS f (mv_up I 59 0 (0 : Int32)) L)) rfl ?_
  by_cases hc1 : v3 < (1 : Int32)
  · rw [if_pos hc1] at h
    refine mv_G_br (tgt := 28) rfl rfl (by decide) (fun _ => ?_) (fun z => absurd hc1 z)
    refine mv_G_run 1 (F' := (29, [some (.ref 59), some (.long v1), none, some (.int v3), none], [.int (0 : Int32)], 0, 0, kjS f (mv_up I 59 0 (0 : Int32)) L)) rfl ?_
    obtain rfl := Option.some.inj h
    exact mv_G_ret rfl rfl rfl (Nat.le_refl _) (Or.inl rfl) ⟨rfl, rfl⟩
  · rw [if_neg hc1] at h
    refine mv_G_br (tgt := 28) rfl rfl (by decide) (fun z => absurd z hc1) (fun _ => ?_)
    refine mv_G_run 2 (F' := (13, [some (.ref 59), some (.long v1), none, some (.int v3), none], [.int (8 : Int32), .int v3], 0, 0, kjS f (mv_up I 59 0 (0 : Int32)) L)) rfl ?_
    by_cases hc2 : (8 : Int32) < v3
    · rw [if_pos hc2] at h
      refine mv_G_br (tgt := 28) rfl rfl (by decide) (fun _ => ?_) (fun z => absurd hc2 z)
      refine mv_G_run 1 (F' := (29, [some (.ref 59), some (.long v1), none, some (.int v3), none], [.int (0 : Int32)], 0, 0, kjS f (mv_up I 59 0 (0 : Int32)) L)) rfl ?_
      obtain rfl := Option.some.inj h
      exact mv_G_ret rfl rfl rfl (Nat.le_refl _) (Or.inl rfl) ⟨rfl, rfl⟩
    · rw [if_neg hc2] at h
      refine mv_G_br (tgt := 28) rfl rfl (by decide) (fun z => absurd z hc2) (fun _ => ?_)
      refine mv_G_run 5 (F' := (25, [some (.ref 59), some (.long v1), none, some (.int v3), none], [.int (1500 : Int32), .int (((mv_up I 59 0 (0 : Int32)) 59 2) + v3)], 0, 0, kjS f (mv_up I 59 0 (0 : Int32)) L)) rfl ?_
      by_cases hc3 : (((mv_up I 59 0 (0 : Int32)) 59 2) + v3) ≤ (1500 : Int32)
      · rw [if_pos hc3] at h
        refine mv_G_br (tgt := 30) rfl rfl (by decide) (fun _ => ?_) (fun z => absurd hc3 z)
        refine mv_G_run 4 (F' := (35, [some (.ref 59), some (.long v1), none, some (.int v3), some (.int (v3 - (1 : Int32)))], [], 0, 0, kjS f (mv_up I 59 0 (0 : Int32)) L)) rfl ?_
        refine mv_G_fg (lc' := [some (.ref 59), some (.long v1), none, none, some (.int (v3 - (1 : Int32)))]) (And.intro rfl (And.intro rfl (And.intro rfl trivial))) ?_
        exact kf104_35_ok _ _ d _ _ _ _ _ _ h
      · rw [if_neg hc3] at h
        refine mv_G_br (tgt := 30) rfl rfl (by decide) (fun z => absurd z hc3) (fun _ => ?_)
        refine mv_G_run 1 (F' := (29, [some (.ref 59), some (.long v1), none, some (.int v3), none], [.int (0 : Int32)], 0, 0, kjS f (mv_up I 59 0 (0 : Int32)) L)) rfl ?_
        obtain rfl := Option.some.inj h
        exact mv_G_ret rfl rfl rfl (Nat.le_refl _) (Or.inl rfl) ⟨rfl, rfl⟩
/-! KindJudgeModel.next(II)I on ('c', 59) -/
def kf105 (v1 : Int32) (v2 : Int32) (I : kjI) (L : kjL) : Option (Int32 × kjI × kjL) :=
  if (I 59 36) = 0 then (if (I 59 5) ≤ (I 59 35) then (some ((0 : Int32), (mv_up I 59 36 (1 : Int32)), L)) else (none)) else (some ((0 : Int32), I, L))
set_option maxRecDepth 100000 in
set_option maxHeartbeats 4000000 in
theorem kf105_ok (f : Bool) (v1 : Int32) (v2 : Int32) (I : kjI) (L : kjL) (d : Nat) (r : Int32 × kjI × kjL) (h : kf105 v1 v2 I L = some r) : mv_C kjP kjSta (d + 2) 105 [.ref 59, .int v1, .int v2] (kjS f I L) (kjQwi f r) := by
  unfold kf105 at h
  refine mv_C_in kjM_105 (lc := [some (.ref 59), some (.int v1), some (.int v2)]) rfl rfl rfl ?_
  refine mv_G_run 2 (F' := (4, [some (.ref 59), some (.int v1), some (.int v2)], [.int (I 59 36)], 0, 0, kjS f I L)) rfl ?_
  by_cases hc1 : (I 59 36) = 0
  · rw [if_pos hc1] at h
    refine mv_G_br (tgt := 9) rfl rfl (by decide) (fun _ => ?_) (fun z => absurd hc1 z)
    refine mv_G_run 4 (F' := (17, [some (.ref 59), some (.int v1), some (.int v2)], [.int (I 59 5), .int (I 59 35)], 0, 0, kjS f I L)) rfl ?_
    by_cases hc2 : (I 59 5) ≤ (I 59 35)
    · rw [if_pos hc2] at h
      refine mv_G_br (tgt := 37) rfl rfl (by decide) (fun _ => ?_) (fun z => absurd hc2 z)
      refine mv_G_run 4 (F' := (43, [some (.ref 59), some (.int v1), some (.int v2)], [.int (0 : Int32)], 0, 0, kjS f (mv_up I 59 36 (1 : Int32)) L)) rfl ?_
      obtain rfl := Option.some.inj h
      exact mv_G_ret rfl rfl rfl (Nat.le_refl _) trivial ⟨rfl, rfl⟩
    · rw [if_neg hc2] at h
      refine mv_G_br (tgt := 37) rfl rfl (by decide) (fun z => absurd z hc2) (fun _ => ?_)
      cases h
  · rw [if_neg hc1] at h
    refine mv_G_br (tgt := 9) rfl rfl (by decide) (fun z => absurd z hc1) (fun _ => ?_)
    refine mv_G_run 1 (F' := (8, [some (.ref 59), some (.int v1), some (.int v2)], [.int (0 : Int32)], 0, 0, kjS f I L)) rfl ?_
    obtain rfl := Option.some.inj h
    exact mv_G_ret rfl rfl rfl (Nat.le_refl _) trivial ⟨rfl, rfl⟩
/-! KindJudgeModel.takeApart()Z on ('c', 59) -/
def kf114 (I : kjI) (L : kjL) : Option (Int32 × kjI × kjL) :=
  (kf105 (0 : Int32) (8 : Int32) (mv_up (mv_up (mv_up I 59 35 (0 : Int32)) 59 36 (0 : Int32)) 59 12 (0 : Int32)) L).bind fun r1 => if ((mv_up r1.2.1 59 12 r1.1) 59 12) ≤ (0 : Int32) then ((kf105 (0 : Int32) (8 : Int32) (mv_up r1.2.1 59 12 r1.1) r1.2.2).bind fun r4 => if ((mv_up r4.2.1 59 16 r4.1) 59 16) ≤ (0 : Int32) then ((kf105 (1 : Int32) (16 : Int32) (mv_up r4.2.1 59 16 r4.1) r4.2.2).bind fun r7 => if ((mv_up r7.2.1 59 20 r7.1) 59 20) ≤ (0 : Int32) then (if (((mv_up r7.2.1 59 20 r7.1) 59 12) * ((mv_up r7.2.1 59 20 r7.1) 59 16)) ≤ (0 : Int32) then (if ¬ ((mv_up r7.2.1 59 20 r7.1) 59 36) = 0 then (if ¬ ((mv_up r7.2.1 59 20 r7.1) 59 36) = 0 then (some ((0 : Int32), (mv_up r7.2.1 59 20 r7.1), r7.2.2)) else (none)) else (none)) else (none)) else (none)) else (none)) else (none)
set_option maxRecDepth 100000 in
set_option maxHeartbeats 4000000 in
theorem kf114_ok (f : Bool) (I : kjI) (L : kjL) (d : Nat) (r : Int32 × kjI × kjL) (h : kf114 I L = some r) : mv_C kjP kjSta (d + 5) 114 [.ref 59] (kjS f I L) (kjQwi f r) := by
  unfold kf114 at h
  refine mv_C_in kjM_114 (lc := [some (.ref 59), none]) rfl rfl rfl ?_
  refine mv_G_run 13 (F' := (20, [some (.ref 59), none], [.int (8 : Int32), .int (0 : Int32), .ref 59, .ref 59], 0, 0, kjS f (mv_up (mv_up (mv_up I 59 35 (0 : Int32)) 59 36 (0 : Int32)) 59 12 (0 : Int32)) L)) rfl ?_
  obtain ⟨r1, hc2, h⟩ := mv_bd h
  refine mv_G_call (r := [.ref 59]) (kf105_ok _ _ _ _ _ _ _ hc2) rfl rfl rfl rfl rfl (Nat.le_of_ble_eq_true rfl) (Nat.le_of_ble_eq_true rfl) (Nat.le_of_ble_eq_true rfl) ?_
  rintro _ _ ⟨rfl, rfl⟩
  refine mv_G_run 6 (F' := (33, [some (.ref 59), some (.int (0 : Int32))], [.int ((mv_up r1.2.1 59 12 r1.1) 59 12), .int (0 : Int32)], 0, 0, kjS f (mv_up r1.2.1 59 12 r1.1) r1.2.2)) rfl ?_
  by_cases hc3 : ((mv_up r1.2.1 59 12 r1.1) 59 12) ≤ (0 : Int32)
  · rw [if_pos hc3] at h
    refine mv_G_br (tgt := 54) rfl rfl (by decide) (fun _ => ?_) (fun z => absurd hc3 z)
    refine mv_G_run 4 (F' := (59, [some (.ref 59), some (.int (0 : Int32))], [.int (8 : Int32), .int (0 : Int32), .ref 59, .ref 59], 0, 0, kjS f (mv_up r1.2.1 59 12 r1.1) r1.2.2)) rfl ?_
    obtain ⟨r4, hc5, h⟩ := mv_bd h
    refine mv_G_call (r := [.ref 59]) (kf105_ok _ _ _ _ _ _ _ hc5) rfl rfl rfl rfl rfl (Nat.le_of_ble_eq_true rfl) (Nat.le_of_ble_eq_true rfl) (Nat.le_of_ble_eq_true rfl) ?_
    rintro _ _ ⟨rfl, rfl⟩
    refine mv_G_run 6 (F' := (72, [some (.ref 59), some (.int (0 : Int32))], [.int ((mv_up r4.2.1 59 16 r4.1) 59 16), .int (0 : Int32)], 0, 0, kjS f (mv_up r4.2.1 59 16 r4.1) r4.2.2)) rfl ?_
    by_cases hc6 : ((mv_up r4.2.1 59 16 r4.1) 59 16) ≤ (0 : Int32)
    · rw [if_pos hc6] at h
      refine mv_G_br (tgt := 93) rfl rfl (by decide) (fun _ => ?_) (fun z => absurd hc6 z)
      refine mv_G_run 4 (F' := (98, [some (.ref 59), some (.int (0 : Int32))], [.int (16 : Int32), .int (1 : Int32), .ref 59, .ref 59], 0, 0, kjS f (mv_up r4.2.1 59 16 r4.1) r4.2.2)) rfl ?_
      obtain ⟨r7, hc8, h⟩ := mv_bd h
      refine mv_G_call (r := [.ref 59]) (kf105_ok _ _ _ _ _ _ _ hc8) rfl rfl rfl rfl rfl (Nat.le_of_ble_eq_true rfl) (Nat.le_of_ble_eq_true rfl) (Nat.le_of_ble_eq_true rfl) ?_
      rintro _ _ ⟨rfl, rfl⟩
      refine mv_G_run 6 (F' := (111, [some (.ref 59), some (.int (0 : Int32))], [.int ((mv_up r7.2.1 59 20 r7.1) 59 20), .int (0 : Int32)], 0, 0, kjS f (mv_up r7.2.1 59 20 r7.1) r7.2.2)) rfl ?_
      by_cases hc9 : ((mv_up r7.2.1 59 20 r7.1) 59 20) ≤ (0 : Int32)
      · rw [if_pos hc9] at h
        refine mv_G_br (tgt := 132) rfl rfl (by decide) (fun _ => ?_) (fun z => absurd hc9 z)
        refine mv_G_run 8 (F' := (144, [some (.ref 59), some (.int (0 : Int32))], [.int (((mv_up r7.2.1 59 20 r7.1) 59 12) * ((mv_up r7.2.1 59 20 r7.1) 59 16)), .int (0 : Int32)], 0, 0, kjS f (mv_up r7.2.1 59 20 r7.1) r7.2.2)) rfl ?_
        by_cases hc10 : (((mv_up r7.2.1 59 20 r7.1) 59 12) * ((mv_up r7.2.1 59 20 r7.1) 59 16)) ≤ (0 : Int32)
        · rw [if_pos hc10] at h
          refine mv_G_br (tgt := 176) rfl rfl (by decide) (fun _ => ?_) (fun z => absurd hc10 z)
          refine mv_G_run 2 (F' := (180, [some (.ref 59), some (.int (0 : Int32))], [.int ((mv_up r7.2.1 59 20 r7.1) 59 36)], 0, 0, kjS f (mv_up r7.2.1 59 20 r7.1) r7.2.2)) rfl ?_
          by_cases hc11 : ¬ ((mv_up r7.2.1 59 20 r7.1) 59 36) = 0
          · rw [if_pos hc11] at h
            refine mv_G_br (tgt := 199) rfl rfl (by decide) (fun _ => ?_) (fun z => absurd hc11 z)
            refine mv_G_run 2 (F' := (203, [some (.ref 59), some (.int (0 : Int32))], [.int ((mv_up r7.2.1 59 20 r7.1) 59 36)], 0, 0, kjS f (mv_up r7.2.1 59 20 r7.1) r7.2.2)) rfl ?_
            by_cases hc12 : ¬ ((mv_up r7.2.1 59 20 r7.1) 59 36) = 0
            · rw [if_pos hc12] at h
              refine mv_G_br (tgt := 210) rfl rfl (by decide) (fun _ => ?_) (fun z => absurd hc12 z)
              refine mv_G_run 1 (F' := (211, [some (.ref 59), some (.int (0 : Int32))], [.int (0 : Int32)], 0, 0, kjS f (mv_up r7.2.1 59 20 r7.1) r7.2.2)) rfl ?_
              obtain rfl := Option.some.inj h
              exact mv_G_ret rfl rfl rfl (Nat.le_refl _) (Or.inl rfl) ⟨rfl, rfl⟩
            · rw [if_neg hc12] at h
              refine mv_G_br (tgt := 210) rfl rfl (by decide) (fun z => absurd z hc12) (fun _ => ?_)
              cases h
          · rw [if_neg hc11] at h
            refine mv_G_br (tgt := 199) rfl rfl (by decide) (fun z => absurd z hc11) (fun _ => ?_)
            cases h
        · rw [if_neg hc10] at h
          refine mv_G_br (tgt := 176) rfl rfl (by decide) (fun z => absurd z hc10) (fun _ => ?_)
          cases h
      · rw [if_neg hc9] at h
        refine mv_G_br (tgt := 132) rfl rfl (by decide) (fun z => absurd z hc9) (fun _ => ?_)
        cases h
    · rw [if_neg hc6] at h
      refine mv_G_br (tgt := 93) rfl rfl (by decide) (fun z => absurd z hc6) (fun _ => ?_)
      cases h
  · rw [if_neg hc3] at h
    refine mv_G_br (tgt := 54) rfl rfl (by decide) (fun z => absurd z hc3) (fun _ => ?_)
    cases h
/-! KindJudgeModel.findFault(III)Z on ('c', 59) -/
def kf121 (v1 : Int32) (v2 : Int32) (v3 : Int32) (I : kjI) (L : kjL) : Option (Int32 × kjI × kjL) :=
  some ((0 : Int32), (mv_up (mv_up (mv_up I 59 9 v1) 59 11 v2) 59 10 v3), L)
set_option maxRecDepth 100000 in
set_option maxHeartbeats 4000000 in
theorem kf121_ok (f : Bool) (v1 : Int32) (v2 : Int32) (v3 : Int32) (I : kjI) (L : kjL) (d : Nat) (r : Int32 × kjI × kjL) (h : kf121 v1 v2 v3 I L = some r) : mv_C kjP kjSta (d + 1) 121 [.ref 59, .int v1, .int v2, .int v3] (kjS f I L) (kjQwi f r) := by
  unfold kf121 at h
  refine mv_C_in kjM_121 (lc := [some (.ref 59), some (.int v1), some (.int v2), some (.int v3)]) rfl rfl rfl ?_
  refine mv_G_run 10 (F' := (16, [some (.ref 59), some (.int v1), some (.int v2), some (.int v3)], [.int (0 : Int32)], 0, 0, kjS f (mv_up (mv_up (mv_up I 59 9 v1) 59 11 v2) 59 10 v3) L)) rfl ?_
  obtain rfl := Option.some.inj h
  exact mv_G_ret rfl rfl rfl (Nat.le_refl _) (Or.inl rfl) ⟨rfl, rfl⟩
/-! KindJudgeModel.isFine()Z on ('c', 59) -/
def kf122 (I : kjI) (L : kjL) : Option (Int32 × kjI × kjL) :=
  (kf114 I L).bind fun r1 => if ¬ r1.1 = 0 then (none) else ((kf121 (1 : Int32) (0 : Int32) (r1.2.1 59 35) r1.2.1 r1.2.2).bind fun r4 => if r4.1 = 0 ∨ r4.1 = 1 then some (r4.1, r4.2.1, r4.2.2) else none)
set_option maxRecDepth 100000 in
set_option maxHeartbeats 4000000 in
theorem kf122_ok (f : Bool) (I : kjI) (L : kjL) (d : Nat) (r : Int32 × kjI × kjL) (h : kf122 I L = some r) : mv_C kjP kjSta (d + 7) 122 [.ref 59] (kjS f I L) (kjQwi f r) := by
  unfold kf122 at h
  refine mv_C_in kjM_122 (lc := [some (.ref 59), none, none]) rfl rfl rfl ?_
  refine mv_G_run 1 (F' := (1, [some (.ref 59), none, none], [.ref 59], 0, 0, kjS f I L)) rfl ?_
  obtain ⟨r1, hc2, h⟩ := mv_bd h
  refine mv_G_call (r := []) (kf114_ok _ _ _ _ _ hc2) rfl rfl rfl rfl rfl (Nat.le_of_ble_eq_true rfl) (Nat.le_of_ble_eq_true rfl) (Nat.le_of_ble_eq_true rfl) ?_
  rintro _ _ ⟨rfl, rfl⟩
  by_cases hc3 : ¬ r1.1 = 0
  · rw [if_pos hc3] at h
    refine mv_G_br (tgt := 18) rfl rfl (by decide) (fun _ => ?_) (fun z => absurd hc3 z)
    cases h
  · rw [if_neg hc3] at h
    refine mv_G_br (tgt := 18) rfl rfl (by decide) (fun z => absurd z hc3) (fun _ => ?_)
    refine mv_G_run 5 (F' := (14, [some (.ref 59), none, none], [.int (r1.2.1 59 35), .int (0 : Int32), .int (1 : Int32), .ref 59], 0, 0, kjS f r1.2.1 r1.2.2)) rfl ?_
    obtain ⟨r4, hc5, h⟩ := mv_bd h
    refine mv_G_call (r := []) (kf121_ok _ _ _ _ _ _ _ _ hc5) rfl rfl rfl rfl rfl (Nat.le_of_ble_eq_true rfl) (Nat.le_of_ble_eq_true rfl) (Nat.le_of_ble_eq_true rfl) ?_
    rintro _ _ ⟨rfl, rfl⟩
    obtain ⟨hb6, h⟩ := mv_ifs h
    obtain rfl := Option.some.inj h
    exact mv_G_ret rfl rfl rfl (Nat.le_refl _) hb6 ⟨rfl, rfl⟩
/-! KindJudgeModel.load()I on ('c', 59) -/
def kf123 (I : kjI) (L : kjL) : Option (Int32 × kjI × kjL) :=
  if ((mv_up I 59 5 (I 59 2)) 59 2) ≤ (0 : Int32) then ((kf122 (mv_up (mv_up I 59 5 (I 59 2)) 59 2 (0 : Int32)) L).bind fun r2 => if r2.1 = 0 then (if (r2.2.1 59 8) = 0 then ((kf102 (1 : Int32) r2.2.1 r2.2.2).bind fun r6 => some (r6.1, r6.2.1, r6.2.2)) else (none)) else (none)) else (none)
set_option maxRecDepth 100000 in
set_option maxHeartbeats 4000000 in
theorem kf123_ok (f : Bool) (I : kjI) (L : kjL) (d : Nat) (r : Int32 × kjI × kjL) (h : kf123 I L = some r) : mv_C kjP kjSta (d + 9) 123 [.ref 59] (kjS f I L) (kjQwi f r) := by
  unfold kf123 at h
  refine mv_C_in kjM_123 (lc := [some (.ref 59), none, none]) rfl rfl rfl ?_
  refine mv_G_run 9 (F' := (15, [some (.ref 59), some (.int (0 : Int32)), none], [.int ((mv_up I 59 5 (I 59 2)) 59 2), .int (0 : Int32)], 0, 0, kjS f (mv_up I 59 5 (I 59 2)) L)) rfl ?_
  by_cases hc1 : ((mv_up I 59 5 (I 59 2)) 59 2) ≤ (0 : Int32)
  · rw [if_pos hc1] at h
    refine mv_G_br (tgt := 36) rfl rfl (by decide) (fun _ => ?_) (fun z => absurd hc1 z)
    refine mv_G_run 4 (F' := (42, [some (.ref 59), some (.int (0 : Int32)), none], [.ref 59], 0, 0, kjS f (mv_up (mv_up I 59 5 (I 59 2)) 59 2 (0 : Int32)) L)) rfl ?_
    obtain ⟨r2, hc3, h⟩ := mv_bd h
    refine mv_G_call (r := []) (kf122_ok _ _ _ _ _ hc3) rfl rfl rfl rfl rfl (Nat.le_of_ble_eq_true rfl) (Nat.le_of_ble_eq_true rfl) (Nat.le_of_ble_eq_true rfl) ?_
    rintro _ _ ⟨rfl, rfl⟩
    refine mv_G_run 2 (F' := (47, [some (.ref 59), some (.int r2.1), none], [.int r2.1], 0, 0, kjS f r2.2.1 r2.2.2)) rfl ?_
    by_cases hc4 : r2.1 = 0
    · rw [if_pos hc4] at h
      refine mv_G_br (tgt := 126) rfl rfl (by decide) (fun _ => ?_) (fun z => absurd hc4 z)
      refine mv_G_run 2 (F' := (130, [some (.ref 59), some (.int r2.1), none], [.int (r2.2.1 59 8)], 0, 0, kjS f r2.2.1 r2.2.2)) rfl ?_
      by_cases hc5 : (r2.2.1 59 8) = 0
      · rw [if_pos hc5] at h
        refine mv_G_br (tgt := 137) rfl rfl (by decide) (fun _ => ?_) (fun z => absurd hc5 z)
        refine mv_G_run 2 (F' := (139, [some (.ref 59), some (.int r2.1), none], [.int (1 : Int32), .ref 59], 0, 0, kjS f r2.2.1 r2.2.2)) rfl ?_
        obtain ⟨r6, hc7, h⟩ := mv_bd h
        refine mv_G_call (r := []) (kf102_ok _ _ _ _ _ _ hc7) rfl rfl rfl rfl rfl (Nat.le_of_ble_eq_true rfl) (Nat.le_of_ble_eq_true rfl) (Nat.le_of_ble_eq_true rfl) ?_
        rintro _ _ ⟨rfl, rfl⟩
        obtain rfl := Option.some.inj h
        exact mv_G_ret rfl rfl rfl (Nat.le_refl _) trivial ⟨rfl, rfl⟩
      · rw [if_neg hc5] at h
        refine mv_G_br (tgt := 137) rfl rfl (by decide) (fun z => absurd z hc5) (fun _ => ?_)
        cases h
    · rw [if_neg hc4] at h
      refine mv_G_br (tgt := 126) rfl rfl (by decide) (fun z => absurd z hc4) (fun _ => ?_)
      cases h
  · rw [if_neg hc1] at h
    refine mv_G_br (tgt := 36) rfl rfl (by decide) (fun z => absurd z hc1) (fun _ => ?_)
    cases h
/-! KindJudgeModel.fault(I)I on ('c', 59) -/
def kf125 (v1 : Int32) (I : kjI) (L : kjL) : Option (Int32 × kjI × kjL) :=
  if ¬ v1 = 0 then (if ¬ v1 = (1 : Int32) then (if ¬ v1 = (2 : Int32) then (some ((-1 : Int32), (mv_up I 59 0 (0 : Int32)), L)) else (some (((mv_up I 59 0 (0 : Int32)) 59 11), (mv_up I 59 0 (0 : Int32)), L))) else (some (((mv_up I 59 0 (0 : Int32)) 59 10), (mv_up I 59 0 (0 : Int32)), L))) else (some (((mv_up I 59 0 (0 : Int32)) 59 9), (mv_up I 59 0 (0 : Int32)), L))
set_option maxRecDepth 100000 in
set_option maxHeartbeats 4000000 in
theorem kf125_ok (f : Bool) (v1 : Int32) (I : kjI) (L : kjL) (d : Nat) (r : Int32 × kjI × kjL) (h : kf125 v1 I L = some r) : mv_C kjP kjSta (d + 1) 125 [.ref 59, .int v1] (kjS f I L) (kjQwi f r) := by
  unfold kf125 at h
  refine mv_C_in kjM_125 (lc := [some (.ref 59), some (.int v1)]) rfl rfl rfl ?_
  refine mv_G_run 4 (F' := (6, [some (.ref 59), some (.int v1)], [.int v1], 0, 0, kjS f (mv_up I 59 0 (0 : Int32)) L)) rfl ?_
  by_cases hc1 : ¬ v1 = 0
  · rw [if_pos hc1] at h
    refine mv_G_br (tgt := 16) rfl rfl (by decide) (fun _ => ?_) (fun z => absurd hc1 z)
    refine mv_G_run 2 (F' := (18, [some (.ref 59), some (.int v1)], [.int (1 : Int32), .int v1], 0, 0, kjS f (mv_up I 59 0 (0 : Int32)) L)) rfl ?_
    by_cases hc2 : ¬ v1 = (1 : Int32)
    · rw [if_pos hc2] at h
      refine mv_G_br (tgt := 28) rfl rfl (by decide) (fun _ => ?_) (fun z => absurd hc2 z)
      refine mv_G_run 2 (F' := (30, [some (.ref 59), some (.int v1)], [.int (2 : Int32), .int v1], 0, 0, kjS f (mv_up I 59 0 (0 : Int32)) L)) rfl ?_
      by_cases hc3 : ¬ v1 = (2 : Int32)
      · rw [if_pos hc3] at h
        refine mv_G_br (tgt := 40) rfl rfl (by decide) (fun _ => ?_) (fun z => absurd hc3 z)
        refine mv_G_run 1 (F' := (41, [some (.ref 59), some (.int v1)], [.int (-1 : Int32)], 0, 0, kjS f (mv_up I 59 0 (0 : Int32)) L)) rfl ?_
        obtain rfl := Option.some.inj h
        exact mv_G_ret rfl rfl rfl (Nat.le_refl _) trivial ⟨rfl, rfl⟩
      · rw [if_neg hc3] at h
        refine mv_G_br (tgt := 40) rfl rfl (by decide) (fun z => absurd z hc3) (fun _ => ?_)
        refine mv_G_run 3 (F' := (41, [some (.ref 59), some (.int v1)], [.int ((mv_up I 59 0 (0 : Int32)) 59 11)], 0, 0, kjS f (mv_up I 59 0 (0 : Int32)) L)) rfl ?_
        obtain rfl := Option.some.inj h
        exact mv_G_ret rfl rfl rfl (Nat.le_refl _) trivial ⟨rfl, rfl⟩
    · rw [if_neg hc2] at h
      refine mv_G_br (tgt := 28) rfl rfl (by decide) (fun z => absurd z hc2) (fun _ => ?_)
      refine mv_G_run 3 (F' := (41, [some (.ref 59), some (.int v1)], [.int ((mv_up I 59 0 (0 : Int32)) 59 10)], 0, 0, kjS f (mv_up I 59 0 (0 : Int32)) L)) rfl ?_
      obtain rfl := Option.some.inj h
      exact mv_G_ret rfl rfl rfl (Nat.le_refl _) trivial ⟨rfl, rfl⟩
  · rw [if_neg hc1] at h
    refine mv_G_br (tgt := 16) rfl rfl (by decide) (fun z => absurd z hc1) (fun _ => ?_)
    refine mv_G_run 3 (F' := (41, [some (.ref 59), some (.int v1)], [.int ((mv_up I 59 0 (0 : Int32)) 59 9)], 0, 0, kjS f (mv_up I 59 0 (0 : Int32)) L)) rfl ?_
    obtain rfl := Option.some.inj h
    exact mv_G_ret rfl rfl rfl (Nat.le_refl _) trivial ⟨rfl, rfl⟩
/-! KindJudgeModel.kind(III)I on ('c', 59) -/
def kf139 (v1 : Int32) (v2 : Int32) (v3 : Int32) (I : kjI) (L : kjL) : Option (Int32 × kjI × kjL) :=
  if ((mv_up I 59 0 (0 : Int32)) 59 8) = 0 then (some ((-1 : Int32), (mv_up I 59 0 (0 : Int32)), L)) else (none)
set_option maxRecDepth 100000 in
set_option maxHeartbeats 4000000 in
theorem kf139_ok (f : Bool) (v1 : Int32) (v2 : Int32) (v3 : Int32) (I : kjI) (L : kjL) (d : Nat) (r : Int32 × kjI × kjL) (h : kf139 v1 v2 v3 I L = some r) : mv_C kjP kjSta (d + 2) 139 [.ref 59, .int v1, .int v2, .int v3] (kjS f I L) (kjQwi f r) := by
  unfold kf139 at h
  refine mv_C_in kjM_139 (lc := [some (.ref 59), some (.int v1), some (.int v2), some (.int v3), none]) rfl rfl rfl ?_
  refine mv_G_run 5 (F' := (9, [some (.ref 59), some (.int v1), some (.int v2), some (.int v3), none], [.int ((mv_up I 59 0 (0 : Int32)) 59 8)], 0, 0, kjS f (mv_up I 59 0 (0 : Int32)) L)) rfl ?_
  by_cases hc1 : ((mv_up I 59 0 (0 : Int32)) 59 8) = 0
  · rw [if_pos hc1] at h
    refine mv_G_br (tgt := 71) rfl rfl (by decide) (fun _ => ?_) (fun z => absurd hc1 z)
    refine mv_G_run 1 (F' := (72, [some (.ref 59), some (.int v1), some (.int v2), some (.int v3), none], [.int (-1 : Int32)], 0, 0, kjS f (mv_up I 59 0 (0 : Int32)) L)) rfl ?_
    obtain rfl := Option.some.inj h
    exact mv_G_ret rfl rfl rfl (Nat.le_refl _) trivial ⟨rfl, rfl⟩
  · rw [if_neg hc1] at h
    refine mv_G_br (tgt := 71) rfl rfl (by decide) (fun z => absurd z hc1) (fun _ => ?_)
    cases h
/-! KindJudgeModel.isMethod(I)Z on ('c', 59) -/
def kf140 (I : kjI) (L : kjL) (v1 : Int32) : Option (Int32) :=
  if (I 59 8) = 0 then (some (0 : Int32)) else (none)
set_option maxRecDepth 100000 in
set_option maxHeartbeats 4000000 in
theorem kf140_ok (f : Bool) (I : kjI) (L : kjL) (v1 : Int32) (d : Nat) (r : Int32) (h : kf140 I L v1 = some r) : mv_C kjP kjSta (d + 2) 140 [.ref 59, .int v1] (kjS f I L) (kjQi f I L r) := by
  unfold kf140 at h
  refine mv_C_in kjM_140 (lc := [some (.ref 59), some (.int v1)]) rfl rfl rfl ?_
  refine mv_G_run 2 (F' := (4, [some (.ref 59), some (.int v1)], [.int (I 59 8)], 0, 0, kjS f I L)) rfl ?_
  by_cases hc1 : (I 59 8) = 0
  · rw [if_pos hc1] at h
    refine mv_G_br (tgt := 25) rfl rfl (by decide) (fun _ => ?_) (fun z => absurd hc1 z)
    refine mv_G_run 1 (F' := (26, [some (.ref 59), some (.int v1)], [.int (0 : Int32)], 0, 0, kjS f I L)) rfl ?_
    obtain rfl := Option.some.inj h
    exact mv_G_ret rfl rfl rfl (Nat.le_refl _) (Or.inl rfl) ⟨rfl, rfl⟩
  · rw [if_neg hc1] at h
    refine mv_G_br (tgt := 25) rfl rfl (by decide) (fun z => absurd z hc1) (fun _ => ?_)
    cases h
/-! KindJudgeModel.isBegun(II)Z on ('c', 59) -/
def kf141 (I : kjI) (L : kjL) (v1 : Int32) (v2 : Int32) : Option (Int32) :=
  (kf140 I L v1).bind fun r1 => if r1 = 0 then (some (0 : Int32)) else (none)
set_option maxRecDepth 100000 in
set_option maxHeartbeats 4000000 in
theorem kf141_ok (f : Bool) (I : kjI) (L : kjL) (v1 : Int32) (v2 : Int32) (d : Nat) (r : Int32) (h : kf141 I L v1 v2 = some r) : mv_C kjP kjSta (d + 3) 141 [.ref 59, .int v1, .int v2] (kjS f I L) (kjQi f I L r) := by
  unfold kf141 at h
  refine mv_C_in kjM_141 (lc := [some (.ref 59), some (.int v1), some (.int v2)]) rfl rfl rfl ?_
  refine mv_G_run 2 (F' := (2, [some (.ref 59), some (.int v1), some (.int v2)], [.int v1, .ref 59], 0, 0, kjS f I L)) rfl ?_
  obtain ⟨r1, hc2, h⟩ := mv_bd h
  refine mv_G_call (r := []) (kf140_ok _ _ _ _ _ _ hc2) rfl rfl rfl rfl rfl (Nat.le_of_ble_eq_true rfl) (Nat.le_of_ble_eq_true rfl) (Nat.le_of_ble_eq_true rfl) ?_
  rintro _ _ ⟨rfl, rfl⟩
  by_cases hc3 : r1 = 0
  · rw [if_pos hc3] at h
    refine mv_G_br (tgt := 42) rfl rfl (by decide) (fun _ => ?_) (fun z => absurd hc3 z)
    refine mv_G_run 1 (F' := (43, [some (.ref 59), some (.int v1), some (.int v2)], [.int (0 : Int32)], 0, 0, kjS f I L)) rfl ?_
    obtain rfl := Option.some.inj h
    exact mv_G_ret rfl rfl rfl (Nat.le_refl _) (Or.inl rfl) ⟨rfl, rfl⟩
  · rw [if_neg hc3] at h
    refine mv_G_br (tgt := 42) rfl rfl (by decide) (fun z => absurd z hc3) (fun _ => ?_)
    cases h
/-! KindJudgeModel.look(III)I on ('c', 59) -/
def kf144 (v1 : Int32) (v2 : Int32) (v3 : Int32) (I : kjI) (L : kjL) : Option (Int32 × kjI × kjL) :=
  (kf141 I L v1 v2).bind fun r1 => if r1 = 0 then (if ((mv_up I 59 0 (1 : Int32)) 59 0) = 0 then (none) else (some ((0 : Int32), (mv_up I 59 0 (1 : Int32)), L))) else (none)
set_option maxRecDepth 100000 in
set_option maxHeartbeats 4000000 in
theorem kf144_ok (f : Bool) (v1 : Int32) (v2 : Int32) (v3 : Int32) (I : kjI) (L : kjL) (d : Nat) (r : Int32 × kjI × kjL) (h : kf144 v1 v2 v3 I L = some r) : mv_C kjP kjSta (d + 4) 144 [.ref 59, .int v1, .int v2, .int v3] (kjS f I L) (kjQwi f r) := by
  unfold kf144 at h
  refine mv_C_in kjM_144 (lc := [some (.ref 59), some (.int v1), some (.int v2), some (.int v3)]) rfl rfl rfl ?_
  refine mv_G_run 4 (F' := (4, [some (.ref 59), some (.int v1), some (.int v2), some (.int v3)], [.int v2, .int v1, .ref 59, .ref 59], 0, 0, kjS f I L)) rfl ?_
  obtain ⟨r1, hc2, h⟩ := mv_bd h
  refine mv_G_call (r := [.ref 59]) (kf141_ok _ _ _ _ _ _ _ hc2) rfl rfl rfl rfl rfl (Nat.le_of_ble_eq_true rfl) (Nat.le_of_ble_eq_true rfl) (Nat.le_of_ble_eq_true rfl) ?_
  rintro _ _ ⟨rfl, rfl⟩
  by_cases hc3 : r1 = 0
  · rw [if_pos hc3] at h
    refine mv_G_br (tgt := 23) rfl rfl (by decide) (fun _ => ?_) (fun z => absurd hc3 z)
    refine mv_G_run 4 (F' := (31, [some (.ref 59), some (.int v1), some (.int v2), some (.int v3)], [.int ((mv_up I 59 0 (1 : Int32)) 59 0)], 0, 0, kjS f (mv_up I 59 0 (1 : Int32)) L)) rfl ?_
    by_cases hc4 : ((mv_up I 59 0 (1 : Int32)) 59 0) = 0
    · rw [if_pos hc4] at h
      refine mv_G_br (tgt := 36) rfl rfl (by decide) (fun _ => ?_) (fun z => absurd hc4 z)
      cases h
    · rw [if_neg hc4] at h
      refine mv_G_br (tgt := 36) rfl rfl (by decide) (fun z => absurd z hc4) (fun _ => ?_)
      refine mv_G_run 1 (F' := (35, [some (.ref 59), some (.int v1), some (.int v2), some (.int v3)], [.int (0 : Int32)], 0, 0, kjS f (mv_up I 59 0 (1 : Int32)) L)) rfl ?_
      obtain rfl := Option.some.inj h
      exact mv_G_ret rfl rfl rfl (Nat.le_refl _) trivial ⟨rfl, rfl⟩
  · rw [if_neg hc3] at h
    refine mv_G_br (tgt := 23) rfl rfl (by decide) (fun z => absurd z hc3) (fun _ => ?_)
    cases h
/-! KindJudgeModel.ways(II)I on ('c', 59) -/
def kf146 (v1 : Int32) (v2 : Int32) (I : kjI) (L : kjL) : Option (Int32 × kjI × kjL) :=
  (kf141 (mv_up I 59 0 (0 : Int32)) L v1 v2).bind fun r1 => if ¬ r1 = 0 then (none) else (some ((-1 : Int32), (mv_up I 59 0 (0 : Int32)), L))
set_option maxRecDepth 100000 in
set_option maxHeartbeats 4000000 in
theorem kf146_ok (f : Bool) (v1 : Int32) (v2 : Int32) (I : kjI) (L : kjL) (d : Nat) (r : Int32 × kjI × kjL) (h : kf146 v1 v2 I L = some r) : mv_C kjP kjSta (d + 4) 146 [.ref 59, .int v1, .int v2] (kjS f I L) (kjQwi f r) := by
  unfold kf146 at h
  refine mv_C_in kjM_146 (lc := [some (.ref 59), some (.int v1), some (.int v2), none, none]) rfl rfl rfl ?_
  refine mv_G_run 6 (F' := (8, [some (.ref 59), some (.int v1), some (.int v2), none, none], [.int v2, .int v1, .ref 59], 0, 0, kjS f (mv_up I 59 0 (0 : Int32)) L)) rfl ?_
  obtain ⟨r1, hc2, h⟩ := mv_bd h
  refine mv_G_call (r := []) (kf141_ok _ _ _ _ _ _ _ hc2) rfl rfl rfl rfl rfl (Nat.le_of_ble_eq_true rfl) (Nat.le_of_ble_eq_true rfl) (Nat.le_of_ble_eq_true rfl) ?_
  rintro _ _ ⟨rfl, rfl⟩
  by_cases hc3 : ¬ r1 = 0
  · rw [if_pos hc3] at h
    refine mv_G_br (tgt := 16) rfl rfl (by decide) (fun _ => ?_) (fun z => absurd hc3 z)
    cases h
  · rw [if_neg hc3] at h
    refine mv_G_br (tgt := 16) rfl rfl (by decide) (fun z => absurd z hc3) (fun _ => ?_)
    refine mv_G_run 1 (F' := (15, [some (.ref 59), some (.int v1), some (.int v2), none, none], [.int (-1 : Int32)], 0, 0, kjS f (mv_up I 59 0 (0 : Int32)) L)) rfl ?_
    obtain rfl := Option.some.inj h
    exact mv_G_ret rfl rfl rfl (Nat.le_refl _) trivial ⟨rfl, rfl⟩
/-! KindJudgeModel.count(II)I on ('c', 59) -/
def kf147 (v1 : Int32) (v2 : Int32) (I : kjI) (L : kjL) : Option (Int32 × kjI × kjL) :=
  (kf140 (mv_up I 59 0 (0 : Int32)) L v1).bind fun r1 => if r1 = 0 then (some ((-1 : Int32), (mv_up I 59 0 (0 : Int32)), L)) else (none)
set_option maxRecDepth 100000 in
set_option maxHeartbeats 4000000 in
theorem kf147_ok (f : Bool) (v1 : Int32) (v2 : Int32) (I : kjI) (L : kjL) (d : Nat) (r : Int32 × kjI × kjL) (h : kf147 v1 v2 I L = some r) : mv_C kjP kjSta (d + 3) 147 [.ref 59, .int v1, .int v2] (kjS f I L) (kjQwi f r) := by
  unfold kf147 at h
  refine mv_C_in kjM_147 (lc := [some (.ref 59), some (.int v1), some (.int v2), none, none, none, none, none]) rfl rfl rfl ?_
  refine mv_G_run 5 (F' := (7, [some (.ref 59), some (.int v1), some (.int v2), none, none, none, none, none], [.int v1, .ref 59], 0, 0, kjS f (mv_up I 59 0 (0 : Int32)) L)) rfl ?_
  obtain ⟨r1, hc2, h⟩ := mv_bd h
  refine mv_G_call (r := []) (kf140_ok _ _ _ _ _ _ hc2) rfl rfl rfl rfl rfl (Nat.le_of_ble_eq_true rfl) (Nat.le_of_ble_eq_true rfl) (Nat.le_of_ble_eq_true rfl) ?_
  rintro _ _ ⟨rfl, rfl⟩
  by_cases hc3 : r1 = 0
  · rw [if_pos hc3] at h
    refine mv_G_br (tgt := 22) rfl rfl (by decide) (fun _ => ?_) (fun z => absurd hc3 z)
    refine mv_G_run 1 (F' := (23, [some (.ref 59), some (.int v1), some (.int v2), none, none, none, none, none], [.int (-1 : Int32)], 0, 0, kjS f (mv_up I 59 0 (0 : Int32)) L)) rfl ?_
    obtain rfl := Option.some.inj h
    exact mv_G_ret rfl rfl rfl (Nat.le_refl _) trivial ⟨rfl, rfl⟩
  · rw [if_neg hc3] at h
    refine mv_G_br (tgt := 22) rfl rfl (by decide) (fun z => absurd z hc3) (fun _ => ?_)
    cases h
/-! KindJudgeModel.fits(II)I on ('c', 59) -/
def kf149 (v1 : Int32) (v2 : Int32) (I : kjI) (L : kjL) : Option (Int32 × kjI × kjL) :=
  if ((mv_up I 59 0 (0 : Int32)) 59 8) = 0 then (some ((-1 : Int32), (mv_up I 59 0 (0 : Int32)), L)) else (none)
set_option maxRecDepth 100000 in
set_option maxHeartbeats 4000000 in
theorem kf149_ok (f : Bool) (v1 : Int32) (v2 : Int32) (I : kjI) (L : kjL) (d : Nat) (r : Int32 × kjI × kjL) (h : kf149 v1 v2 I L = some r) : mv_C kjP kjSta (d + 3) 149 [.ref 59, .int v1, .int v2] (kjS f I L) (kjQwi f r) := by
  unfold kf149 at h
  refine mv_C_in kjM_149 (lc := [some (.ref 59), some (.int v1), some (.int v2)]) rfl rfl rfl ?_
  refine mv_G_run 5 (F' := (9, [some (.ref 59), some (.int v1), some (.int v2)], [.int ((mv_up I 59 0 (0 : Int32)) 59 8)], 0, 0, kjS f (mv_up I 59 0 (0 : Int32)) L)) rfl ?_
  by_cases hc1 : ((mv_up I 59 0 (0 : Int32)) 59 8) = 0
  · rw [if_pos hc1] at h
    refine mv_G_br (tgt := 33) rfl rfl (by decide) (fun _ => ?_) (fun z => absurd hc1 z)
    refine mv_G_run 1 (F' := (34, [some (.ref 59), some (.int v1), some (.int v2)], [.int (-1 : Int32)], 0, 0, kjS f (mv_up I 59 0 (0 : Int32)) L)) rfl ?_
    obtain rfl := Option.some.inj h
    exact mv_G_ret rfl rfl rfl (Nat.le_refl _) trivial ⟨rfl, rfl⟩
  · rw [if_neg hc1] at h
    refine mv_G_br (tgt := 33) rfl rfl (by decide) (fun z => absurd z hc1) (fun _ => ?_)
    cases h
/-! KindJudgeModel.meet(II)I on ('c', 59) -/
def kf150 (v1 : Int32) (v2 : Int32) (I : kjI) (L : kjL) : Option (Int32 × kjI × kjL) :=
  if ((mv_up I 59 0 (0 : Int32)) 59 8) = 0 then (some ((-1 : Int32), (mv_up I 59 0 (0 : Int32)), L)) else (none)
set_option maxRecDepth 100000 in
set_option maxHeartbeats 4000000 in
theorem kf150_ok (f : Bool) (v1 : Int32) (v2 : Int32) (I : kjI) (L : kjL) (d : Nat) (r : Int32 × kjI × kjL) (h : kf150 v1 v2 I L = some r) : mv_C kjP kjSta (d + 4) 150 [.ref 59, .int v1, .int v2] (kjS f I L) (kjQwi f r) := by
  unfold kf150 at h
  refine mv_C_in kjM_150 (lc := [some (.ref 59), some (.int v1), some (.int v2)]) rfl rfl rfl ?_
  refine mv_G_run 5 (F' := (9, [some (.ref 59), some (.int v1), some (.int v2)], [.int ((mv_up I 59 0 (0 : Int32)) 59 8)], 0, 0, kjS f (mv_up I 59 0 (0 : Int32)) L)) rfl ?_
  by_cases hc1 : ((mv_up I 59 0 (0 : Int32)) 59 8) = 0
  · rw [if_pos hc1] at h
    refine mv_G_br (tgt := 45) rfl rfl (by decide) (fun _ => ?_) (fun z => absurd hc1 z)
    refine mv_G_run 1 (F' := (46, [some (.ref 59), some (.int v1), some (.int v2)], [.int (-1 : Int32)], 0, 0, kjS f (mv_up I 59 0 (0 : Int32)) L)) rfl ?_
    obtain rfl := Option.some.inj h
    exact mv_G_ret rfl rfl rfl (Nat.le_refl _) trivial ⟨rfl, rfl⟩
  · rw [if_neg hc1] at h
    refine mv_G_br (tgt := 45) rfl rfl (by decide) (fun z => absurd z hc1) (fun _ => ?_)
    cases h
/-! KindJudgeModel.method(II)I on ('c', 59) -/
def kf151 (v1 : Int32) (v2 : Int32) (I : kjI) (L : kjL) : Option (Int32 × kjI × kjL) :=
  if ((mv_up I 59 0 (0 : Int32)) 59 8) = 0 then (some ((-1 : Int32), (mv_up I 59 0 (0 : Int32)), L)) else (none)
set_option maxRecDepth 100000 in
set_option maxHeartbeats 4000000 in
theorem kf151_ok (f : Bool) (v1 : Int32) (v2 : Int32) (I : kjI) (L : kjL) (d : Nat) (r : Int32 × kjI × kjL) (h : kf151 v1 v2 I L = some r) : mv_C kjP kjSta (d + 2) 151 [.ref 59, .int v1, .int v2] (kjS f I L) (kjQwi f r) := by
  unfold kf151 at h
  refine mv_C_in kjM_151 (lc := [some (.ref 59), some (.int v1), some (.int v2)]) rfl rfl rfl ?_
  refine mv_G_run 5 (F' := (9, [some (.ref 59), some (.int v1), some (.int v2)], [.int ((mv_up I 59 0 (0 : Int32)) 59 8)], 0, 0, kjS f (mv_up I 59 0 (0 : Int32)) L)) rfl ?_
  by_cases hc1 : ((mv_up I 59 0 (0 : Int32)) 59 8) = 0
  · rw [if_pos hc1] at h
    refine mv_G_br (tgt := 49) rfl rfl (by decide) (fun _ => ?_) (fun z => absurd hc1 z)
    refine mv_G_run 1 (F' := (50, [some (.ref 59), some (.int v1), some (.int v2)], [.int (-1 : Int32)], 0, 0, kjS f (mv_up I 59 0 (0 : Int32)) L)) rfl ?_
    obtain rfl := Option.some.inj h
    exact mv_G_ret rfl rfl rfl (Nat.le_refl _) trivial ⟨rfl, rfl⟩
  · rw [if_neg hc1] at h
    refine mv_G_br (tgt := 49) rfl rfl (by decide) (fun z => absurd z hc1) (fun _ => ?_)
    cases h
/-! KindJudgeModel.type(II)I on ('c', 59) -/
def kf152 (v1 : Int32) (v2 : Int32) (I : kjI) (L : kjL) : Option (Int32 × kjI × kjL) :=
  if ((mv_up I 59 0 (0 : Int32)) 59 8) = 0 then (some ((-1 : Int32), (mv_up I 59 0 (0 : Int32)), L)) else (none)
set_option maxRecDepth 100000 in
set_option maxHeartbeats 4000000 in
theorem kf152_ok (f : Bool) (v1 : Int32) (v2 : Int32) (I : kjI) (L : kjL) (d : Nat) (r : Int32 × kjI × kjL) (h : kf152 v1 v2 I L = some r) : mv_C kjP kjSta (d + 2) 152 [.ref 59, .int v1, .int v2] (kjS f I L) (kjQwi f r) := by
  unfold kf152 at h
  refine mv_C_in kjM_152 (lc := [some (.ref 59), some (.int v1), some (.int v2)]) rfl rfl rfl ?_
  refine mv_G_run 5 (F' := (9, [some (.ref 59), some (.int v1), some (.int v2)], [.int ((mv_up I 59 0 (0 : Int32)) 59 8)], 0, 0, kjS f (mv_up I 59 0 (0 : Int32)) L)) rfl ?_
  by_cases hc1 : ((mv_up I 59 0 (0 : Int32)) 59 8) = 0
  · rw [if_pos hc1] at h
    refine mv_G_br (tgt := 26) rfl rfl (by decide) (fun _ => ?_) (fun z => absurd hc1 z)
    refine mv_G_run 1 (F' := (27, [some (.ref 59), some (.int v1), some (.int v2)], [.int (-1 : Int32)], 0, 0, kjS f (mv_up I 59 0 (0 : Int32)) L)) rfl ?_
    obtain rfl := Option.some.inj h
    exact mv_G_ret rfl rfl rfl (Nat.le_refl _) trivial ⟨rfl, rfl⟩
  · rw [if_neg hc1] at h
    refine mv_G_br (tgt := 26) rfl rfl (by decide) (fun z => absurd z hc1) (fun _ => ?_)
    cases h
/-! KindJudgeModel.total(I)I on ('c', 59) -/
def kf153 (v1 : Int32) (I : kjI) (L : kjL) : Option (Int32 × kjI × kjL) :=
  if (v1).toInt = 0 then (if ((mv_up I 59 0 (0 : Int32)) 59 8) = 0 then (some ((0 : Int32), (mv_up I 59 0 (0 : Int32)), L)) else (none)) else (if (v1).toInt = 1 then (if ((mv_up I 59 0 (0 : Int32)) 59 8) = 0 then (some ((0 : Int32), (mv_up I 59 0 (0 : Int32)), L)) else (none)) else (if (v1).toInt = 2 then (if ((mv_up I 59 0 (0 : Int32)) 59 8) = 0 then (some ((0 : Int32), (mv_up I 59 0 (0 : Int32)), L)) else (none)) else (if (v1).toInt = 3 then (some (((mv_up I 59 0 (0 : Int32)) 59 2), (mv_up I 59 0 (0 : Int32)), L)) else (if (v1).toInt = 4 then (some (((mv_up I 59 0 (0 : Int32)) 59 1), (mv_up I 59 0 (0 : Int32)), L)) else (some ((-1 : Int32), (mv_up I 59 0 (0 : Int32)), L))))))
set_option maxRecDepth 100000 in
set_option maxHeartbeats 4000000 in
theorem kf153_ok (f : Bool) (v1 : Int32) (I : kjI) (L : kjL) (d : Nat) (r : Int32 × kjI × kjL) (h : kf153 v1 I L = some r) : mv_C kjP kjSta (d + 1) 153 [.ref 59, .int v1] (kjS f I L) (kjQwi f r) := by
  unfold kf153 at h
  refine mv_C_in kjM_153 (lc := [some (.ref 59), some (.int v1)]) rfl rfl rfl ?_
  refine mv_G_run 4 (F' := (6, [some (.ref 59), some (.int v1)], [.int v1], 0, 0, kjS f (mv_up I 59 0 (0 : Int32)) L)) rfl ?_
  by_cases hw1 : (v1).toInt = 0
  · rw [if_pos hw1] at h
    refine mv_G_sw (tgt := 40) (off := 34) rfl (by simp only [mv_sw, hw1]; rfl) (by decide) ?_
    refine mv_G_run 2 (F' := (44, [some (.ref 59), some (.int v1)], [.int ((mv_up I 59 0 (0 : Int32)) 59 8)], 0, 0, kjS f (mv_up I 59 0 (0 : Int32)) L)) rfl ?_
    by_cases hc2 : ((mv_up I 59 0 (0 : Int32)) 59 8) = 0
    · rw [if_pos hc2] at h
      refine mv_G_br (tgt := 54) rfl rfl (by decide) (fun _ => ?_) (fun z => absurd hc2 z)
      refine mv_G_run 1 (F' := (55, [some (.ref 59), some (.int v1)], [.int (0 : Int32)], 0, 0, kjS f (mv_up I 59 0 (0 : Int32)) L)) rfl ?_
      obtain rfl := Option.some.inj h
      exact mv_G_ret rfl rfl rfl (Nat.le_refl _) trivial ⟨rfl, rfl⟩
    · rw [if_neg hc2] at h
      refine mv_G_br (tgt := 54) rfl rfl (by decide) (fun z => absurd z hc2) (fun _ => ?_)
      cases h
  rw [if_neg hw1] at h
  by_cases hw3 : (v1).toInt = 1
  · rw [if_pos hw3] at h
    refine mv_G_sw (tgt := 56) (off := 50) rfl (by simp only [mv_sw, hw3]; rfl) (by decide) ?_
    refine mv_G_run 2 (F' := (60, [some (.ref 59), some (.int v1)], [.int ((mv_up I 59 0 (0 : Int32)) 59 8)], 0, 0, kjS f (mv_up I 59 0 (0 : Int32)) L)) rfl ?_
    by_cases hc4 : ((mv_up I 59 0 (0 : Int32)) 59 8) = 0
    · rw [if_pos hc4] at h
      refine mv_G_br (tgt := 70) rfl rfl (by decide) (fun _ => ?_) (fun z => absurd hc4 z)
      refine mv_G_run 1 (F' := (71, [some (.ref 59), some (.int v1)], [.int (0 : Int32)], 0, 0, kjS f (mv_up I 59 0 (0 : Int32)) L)) rfl ?_
      obtain rfl := Option.some.inj h
      exact mv_G_ret rfl rfl rfl (Nat.le_refl _) trivial ⟨rfl, rfl⟩
    · rw [if_neg hc4] at h
      refine mv_G_br (tgt := 70) rfl rfl (by decide) (fun z => absurd z hc4) (fun _ => ?_)
      cases h
  rw [if_neg hw3] at h
  by_cases hw5 : (v1).toInt = 2
  · rw [if_pos hw5] at h
    refine mv_G_sw (tgt := 72) (off := 66) rfl (by simp only [mv_sw, hw5]; rfl) (by decide) ?_
    refine mv_G_run 2 (F' := (76, [some (.ref 59), some (.int v1)], [.int ((mv_up I 59 0 (0 : Int32)) 59 8)], 0, 0, kjS f (mv_up I 59 0 (0 : Int32)) L)) rfl ?_
    by_cases hc6 : ((mv_up I 59 0 (0 : Int32)) 59 8) = 0
    · rw [if_pos hc6] at h
      refine mv_G_br (tgt := 86) rfl rfl (by decide) (fun _ => ?_) (fun z => absurd hc6 z)
      refine mv_G_run 1 (F' := (87, [some (.ref 59), some (.int v1)], [.int (0 : Int32)], 0, 0, kjS f (mv_up I 59 0 (0 : Int32)) L)) rfl ?_
      obtain rfl := Option.some.inj h
      exact mv_G_ret rfl rfl rfl (Nat.le_refl _) trivial ⟨rfl, rfl⟩
    · rw [if_neg hc6] at h
      refine mv_G_br (tgt := 86) rfl rfl (by decide) (fun z => absurd z hc6) (fun _ => ?_)
      cases h
  rw [if_neg hw5] at h
  by_cases hw7 : (v1).toInt = 3
  · rw [if_pos hw7] at h
    refine mv_G_sw (tgt := 88) (off := 82) rfl (by simp only [mv_sw, hw7]; rfl) (by decide) ?_
    refine mv_G_run 2 (F' := (92, [some (.ref 59), some (.int v1)], [.int ((mv_up I 59 0 (0 : Int32)) 59 2)], 0, 0, kjS f (mv_up I 59 0 (0 : Int32)) L)) rfl ?_
    obtain rfl := Option.some.inj h
    exact mv_G_ret rfl rfl rfl (Nat.le_refl _) trivial ⟨rfl, rfl⟩
  rw [if_neg hw7] at h
  by_cases hw8 : (v1).toInt = 4
  · rw [if_pos hw8] at h
    refine mv_G_sw (tgt := 93) (off := 87) rfl (by simp only [mv_sw, hw8]; rfl) (by decide) ?_
    refine mv_G_run 2 (F' := (97, [some (.ref 59), some (.int v1)], [.int ((mv_up I 59 0 (0 : Int32)) 59 1)], 0, 0, kjS f (mv_up I 59 0 (0 : Int32)) L)) rfl ?_
    obtain rfl := Option.some.inj h
    exact mv_G_ret rfl rfl rfl (Nat.le_refl _) trivial ⟨rfl, rfl⟩
  rw [if_neg hw8] at h
  refine mv_G_sw (tgt := 98) (off := 92) rfl (by
    have hz9 : ((v1).toInt < 0 ∨ 4 < (v1).toInt) := by omega
    rcases hz9 with hz9
    · exact if_pos hz9) (by decide) ?_
  refine mv_G_run 1 (F' := (99, [some (.ref 59), some (.int v1)], [.int (-1 : Int32)], 0, 0, kjS f (mv_up I 59 0 (0 : Int32)) L)) rfl ?_
  obtain rfl := Option.some.inj h
  exact mv_G_ret rfl rfl rfl (Nat.le_refl _) trivial ⟨rfl, rfl⟩
