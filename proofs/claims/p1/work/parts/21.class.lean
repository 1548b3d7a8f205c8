/-! KindJudge$Bytes.append(JI)Z on ('b', 2) -/
def kf20_33 (b : Bool) (N : Nat) : Nat → Int64 → Int32 → kjI → kjL → Option (Int32 × kjI × kjL)
  | 0, _, _, _, _ => none
  | n + 1, v1, v4, I, L => if v4 < 0 then (some ((1 : Int32), I, L)) else (bif mv_in (I (kb b 2) 1) 1500 then ((fun v1 v4 I L => kf20_33 b N n v1 v4 I L) v1 (v4 + (-8 : Int32)) (mv_up (mv_up I (kb b 3) (Int32.toNatClampNeg (I (kb b 2) 1)) (Int8.toInt32 (Int32.toInt8 (Int8.toInt32 (Int32.toInt8 (Int64.toInt32 (v1 >>> (Int32.toInt64 v4 &&& 63)))))))) (kb b 2) 1 (((mv_up I (kb b 3) (Int32.toNatClampNeg (I (kb b 2) 1)) (Int8.toInt32 (Int32.toInt8 (Int8.toInt32 (Int32.toInt8 (Int64.toInt32 (v1 >>> (Int32.toInt64 v4 &&& 63)))))))) (kb b 2) 1) + (1 : Int32))) L) else none)
set_option maxRecDepth 100000 in
set_option maxHeartbeats 4000000 in
theorem kf20_33_ok (f : Bool) (b : Bool) (N : Nat) (d : Nat)  : ∀ (n : Nat) (v1 : Int64) (v4 : Int32) (I : kjI) (L : kjL) (r : Int32 × kjI × kjL), kf20_33 b N n v1 v4 I L = some r → mv_G kjP kjSta (mv_C kjP kjSta (d + 0)) kjM_20 (kjQwi f r) (33, [some (.ref (kb b 2)), some (.long v1), none, none, some (.int v4)], [], 0, 0, kjS f I L) := by
  cases b
  · intro n
    induction n with
    | zero => intro v1 v4 I L r h; cases h
    | succ n ih =>
      have hk33 := ih
      intro v1 v4 I L r h
      unfold kf20_33 at h
      refine mv_G_run 1 (F' := (35, [some (.ref (kb false 2)), some (.long v1), none, none, some (.int v4)], [.int v4], 0, 0, kjS f I L)) rfl ?_
      by_cases hc1 : v4 < 0
      · rw [if_pos hc1] at h
        refine mv_G_br (tgt := 69) rfl rfl (by decide) (fun _ => ?_) (fun z => absurd hc1 z)
        refine mv_G_run 1 (F' := (70, [some (.ref (kb false 2)), some (.long v1), none, none, some (.int v4)], [.int (1 : Int32)], 0, 0, kjS f I L)) rfl ?_
        obtain rfl := Option.some.inj h
        exact mv_G_ret rfl rfl rfl (Nat.le_refl _) (Or.inr rfl) ⟨rfl, rfl⟩
      · rw [if_neg hc1] at h
        refine mv_G_br (tgt := 69) rfl rfl (by decide) (fun z => absurd z hc1) (fun _ => ?_)
        refine mv_G_run 9 (F' := (52, [some (.ref (kb false 2)), some (.long v1), none, none, some (.int v4)], [.int (Int8.toInt32 (Int32.toInt8 (Int64.toInt32 (v1 >>> (Int32.toInt64 v4 &&& 63))))), .int (I (kb false 2) 1), .ref (kb false 3)], 0, 0, kjS f I L)) rfl ?_
        obtain ⟨hi2, h⟩ := mv_bifs h
        refine mv_G_ast rfl rfl (mv_in_ok hi2) ?_
        refine mv_G_run 8 (F' := (33, [some (.ref (kb false 2)), some (.long v1), none, none, some (.int (v4 + (-8 : Int32)))], [], 0, 0, kjS f (mv_up (mv_up I (kb false 3) (Int32.toNatClampNeg (I (kb false 2) 1)) (Int8.toInt32 (Int32.toInt8 (Int8.toInt32 (Int32.toInt8 (Int64.toInt32 (v1 >>> (Int32.toInt64 v4 &&& 63)))))))) (kb false 2) 1 (((mv_up I (kb false 3) (Int32.toNatClampNeg (I (kb false 2) 1)) (Int8.toInt32 (Int32.toInt8 (Int8.toInt32 (Int32.toInt8 (Int64.toInt32 (v1 >>> (Int32.toInt64 v4 &&& 63)))))))) (kb false 2) 1) + (1 : Int32))) L)) rfl ?_
        exact hk33 v1 (v4 + (-8 : Int32)) (mv_up (mv_up I (kb false 3) (Int32.toNatClampNeg (I (kb false 2) 1)) (Int8.toInt32 (Int32.toInt8 (Int8.toInt32 (Int32.toInt8 (Int64.toInt32 (v1 >>> (Int32.toInt64 v4 &&& 63)))))))) (kb false 2) 1 (((mv_up I (kb false 3) (Int32.toNatClampNeg (I (kb false 2) 1)) (Int8.toInt32 (Int32.toInt8 (Int8.toInt32 (Int32.toInt8 (Int64.toInt32 (v1 >>> (Int32.toInt64 v4 &&& 63)))))))) (kb false 2) 1) + (1 : Int32))) L _ h
  · intro n
    induction n with
    | zero => intro v1 v4 I L r h; cases h
    | succ n ih =>
      have hk33 := ih
      intro v1 v4 I L r h
      unfold kf20_33 at h
      refine mv_G_run 1 (F' := (35, [some (.ref (kb true 2)), some (.long v1), none, none, some (.int v4)], [.int v4], 0, 0, kjS f I L)) rfl ?_
      by_cases hc1 : v4 < 0
      · rw [if_pos hc1] at h
        refine mv_G_br (tgt := 69) rfl rfl (by decide) (fun _ => ?_) (fun z => absurd hc1 z)
        refine mv_G_run 1 (F' := (70, [some (.ref (kb true 2)), some (.long v1), none, none, some (.int v4)], [.int (1 : Int32)], 0, 0, kjS f I L)) rfl ?_
        obtain rfl := Option.some.inj h
        exact mv_G_ret rfl rfl rfl (Nat.le_refl _) (Or.inr rfl) ⟨rfl, rfl⟩
      · rw [if_neg hc1] at h
        refine mv_G_br (tgt := 69) rfl rfl (by decide) (fun z => absurd z hc1) (fun _ => ?_)
        refine mv_G_run 9 (F' := (52, [some (.ref (kb true 2)), some (.long v1), none, none, some (.int v4)], [.int (Int8.toInt32 (Int32.toInt8 (Int64.toInt32 (v1 >>> (Int32.toInt64 v4 &&& 63))))), .int (I (kb true 2) 1), .ref (kb true 3)], 0, 0, kjS f I L)) rfl ?_
        obtain ⟨hi2, h⟩ := mv_bifs h
        refine mv_G_ast rfl rfl (mv_in_ok hi2) ?_
        refine mv_G_run 8 (F' := (33, [some (.ref (kb true 2)), some (.long v1), none, none, some (.int (v4 + (-8 : Int32)))], [], 0, 0, kjS f (mv_up (mv_up I (kb true 3) (Int32.toNatClampNeg (I (kb true 2) 1)) (Int8.toInt32 (Int32.toInt8 (Int8.toInt32 (Int32.toInt8 (Int64.toInt32 (v1 >>> (Int32.toInt64 v4 &&& 63)))))))) (kb true 2) 1 (((mv_up I (kb true 3) (Int32.toNatClampNeg (I (kb true 2) 1)) (Int8.toInt32 (Int32.toInt8 (Int8.toInt32 (Int32.toInt8 (Int64.toInt32 (v1 >>> (Int32.toInt64 v4 &&& 63)))))))) (kb true 2) 1) + (1 : Int32))) L)) rfl ?_
        exact hk33 v1 (v4 + (-8 : Int32)) (mv_up (mv_up I (kb true 3) (Int32.toNatClampNeg (I (kb true 2) 1)) (Int8.toInt32 (Int32.toInt8 (Int8.toInt32 (Int32.toInt8 (Int64.toInt32 (v1 >>> (Int32.toInt64 v4 &&& 63)))))))) (kb true 2) 1 (((mv_up I (kb true 3) (Int32.toNatClampNeg (I (kb true 2) 1)) (Int8.toInt32 (Int32.toInt8 (Int8.toInt32 (Int32.toInt8 (Int64.toInt32 (v1 >>> (Int32.toInt64 v4 &&& 63)))))))) (kb true 2) 1) + (1 : Int32))) L _ h
def kf20 (b : Bool) (N : Nat) (v1 : Int64) (v3 : Int32) (I : kjI) (L : kjL) : Option (Int32 × kjI × kjL) :=
  if v3 < (1 : Int32) then (some ((0 : Int32), I, L)) else (if (8 : Int32) < v3 then (some ((0 : Int32), I, L)) else (if v3 ≤ ((1500 : Int32) - (I (kb b 2) 1)) then (kf20_33 b N N v1 ((8 : Int32) * (v3 - (1 : Int32))) I L) else (some ((0 : Int32), I, L))))
set_option maxRecDepth 100000 in
set_option maxHeartbeats 4000000 in
theorem kf20_ok (f : Bool) (b : Bool) (N : Nat) (v1 : Int64) (v3 : Int32) (I : kjI) (L : kjL) (d : Nat) (r : Int32 × kjI × kjL) (h : kf20 b N v1 v3 I L = some r) : mv_C kjP kjSta (d + 1) 20 [.ref (kb b 2), .long v1, .int v3] (kjS f I L) (kjQwi f r) := by
  cases b
  · unfold kf20 at h
    refine mv_C_in kjM_20 (lc := [some (.ref (kb false 2)), some (.long v1), none, some (.int v3), none]) rfl rfl rfl ?_
    refine mv_G_run 2 (F' := (2, [some (.ref (kb false 2)), some (.long v1), none, some (.int v3), none], [.int (1 : Int32), .int v3], 0, 0, kjS f I L)) rfl ?_
    by_cases hc1 : v3 < (1 : Int32)
    · rw [if_pos hc1] at h
      refine mv_G_br (tgt := 23) rfl rfl (by decide) (fun _ => ?_) (fun z => absurd hc1 z)
      refine mv_G_run 1 (F' := (24, [some (.ref (kb false 2)), some (.long v1), none, some (.int v3), none], [.int (0 : Int32)], 0, 0, kjS f I L)) rfl ?_
      obtain rfl := Option.some.inj h
      exact mv_G_ret rfl rfl rfl (Nat.le_refl _) (Or.inl rfl) ⟨rfl, rfl⟩
    · rw [if_neg hc1] at h
      refine mv_G_br (tgt := 23) rfl rfl (by decide) (fun z => absurd z hc1) (fun _ => ?_)
      refine mv_G_run 2 (F' := (8, [some (.ref (kb false 2)), some (.long v1), none, some (.int v3), none], [.int (8 : Int32), .int v3], 0, 0, kjS f I L)) rfl ?_
      by_cases hc2 : (8 : Int32) < v3
      · rw [if_pos hc2] at h
        refine mv_G_br (tgt := 23) rfl rfl (by decide) (fun _ => ?_) (fun z => absurd hc2 z)
        refine mv_G_run 1 (F' := (24, [some (.ref (kb false 2)), some (.long v1), none, some (.int v3), none], [.int (0 : Int32)], 0, 0, kjS f I L)) rfl ?_
        obtain rfl := Option.some.inj h
        exact mv_G_ret rfl rfl rfl (Nat.le_refl _) (Or.inl rfl) ⟨rfl, rfl⟩
      · rw [if_neg hc2] at h
        refine mv_G_br (tgt := 23) rfl rfl (by decide) (fun z => absurd z hc2) (fun _ => ?_)
        refine mv_G_run 5 (F' := (20, [some (.ref (kb false 2)), some (.long v1), none, some (.int v3), none], [.int ((1500 : Int32) - (I (kb false 2) 1)), .int v3], 0, 0, kjS f I L)) rfl ?_
        by_cases hc3 : v3 ≤ ((1500 : Int32) - (I (kb false 2) 1))
        · rw [if_pos hc3] at h
          refine mv_G_br (tgt := 25) rfl rfl (by decide) (fun _ => ?_) (fun z => absurd hc3 z)
          refine mv_G_run 6 (F' := (33, [some (.ref (kb false 2)), some (.long v1), none, some (.int v3), some (.int ((8 : Int32) * (v3 - (1 : Int32))))], [], 0, 0, kjS f I L)) rfl ?_
          refine mv_G_fg (lc' := [some (.ref (kb false 2)), some (.long v1), none, none, some (.int ((8 : Int32) * (v3 - (1 : Int32))))]) (And.intro rfl (And.intro rfl (And.intro rfl trivial))) ?_
          exact kf20_33_ok _ _ _ d _ _ _ _ _ _ h
        · rw [if_neg hc3] at h
          refine mv_G_br (tgt := 25) rfl rfl (by decide) (fun z => absurd z hc3) (fun _ => ?_)
          refine mv_G_run 1 (F' := (24, [some (.ref (kb false 2)), some (.long v1), none, some (.int v3), none], [.int (0 : Int32)], 0, 0, kjS f I L)) rfl ?_
          obtain rfl := Option.some.inj h
          exact mv_G_ret rfl rfl rfl (Nat.le_refl _) (Or.inl rfl) ⟨rfl, rfl⟩
  · unfold kf20 at h
    refine mv_C_in kjM_20 (lc := [some (.ref (kb true 2)), some (.long v1), none, some (.int v3), none]) rfl rfl rfl ?_
    refine mv_G_run 2 (F' := (2, [some (.ref (kb true 2)), some (.long v1), none, some (.int v3), none], [.int (1 : Int32), .int v3], 0, 0, kjS f I L)) rfl ?_
    by_cases hc1 : v3 < (1 : Int32)
    · rw [if_pos hc1] at h
      refine mv_G_br (tgt := 23) rfl rfl (by decide) (fun _ => ?_) (fun z => absurd hc1 z)
      refine mv_G_run 1 (F' := (24, [some (.ref (kb true 2)), some (.long v1), none, some (.int v3), none], [.int (0 : Int32)], 0, 0, kjS f I L)) rfl ?_
      obtain rfl := Option.some.inj h
      exact mv_G_ret rfl rfl rfl (Nat.le_refl _) (Or.inl rfl) ⟨rfl, rfl⟩
    · rw [if_neg hc1] at h
      refine mv_G_br (tgt := 23) rfl rfl (by decide) (fun z => absurd z hc1) (fun _ => ?_)
      refine mv_G_run 2 (F' := (8, [some (.ref (kb true 2)), some (.long v1), none, some (.int v3), none], [.int (8 : Int32), .int v3], 0, 0, kjS f I L)) rfl ?_
      by_cases hc2 : (8 : Int32) < v3
      · rw [if_pos hc2] at h
        refine mv_G_br (tgt := 23) rfl rfl (by decide) (fun _ => ?_) (fun z => absurd hc2 z)
        refine mv_G_run 1 (F' := (24, [some (.ref (kb true 2)), some (.long v1), none, some (.int v3), none], [.int (0 : Int32)], 0, 0, kjS f I L)) rfl ?_
        obtain rfl := Option.some.inj h
        exact mv_G_ret rfl rfl rfl (Nat.le_refl _) (Or.inl rfl) ⟨rfl, rfl⟩
      · rw [if_neg hc2] at h
        refine mv_G_br (tgt := 23) rfl rfl (by decide) (fun z => absurd z hc2) (fun _ => ?_)
        refine mv_G_run 5 (F' := (20, [some (.ref (kb true 2)), some (.long v1), none, some (.int v3), none], [.int ((1500 : Int32) - (I (kb true 2) 1)), .int v3], 0, 0, kjS f I L)) rfl ?_
        by_cases hc3 : v3 ≤ ((1500 : Int32) - (I (kb true 2) 1))
        · rw [if_pos hc3] at h
          refine mv_G_br (tgt := 25) rfl rfl (by decide) (fun _ => ?_) (fun z => absurd hc3 z)
          refine mv_G_run 6 (F' := (33, [some (.ref (kb true 2)), some (.long v1), none, some (.int v3), some (.int ((8 : Int32) * (v3 - (1 : Int32))))], [], 0, 0, kjS f I L)) rfl ?_
          refine mv_G_fg (lc' := [some (.ref (kb true 2)), some (.long v1), none, none, some (.int ((8 : Int32) * (v3 - (1 : Int32))))]) (And.intro rfl (And.intro rfl (And.intro rfl trivial))) ?_
          exact kf20_33_ok _ _ _ d _ _ _ _ _ _ h
        · rw [if_neg hc3] at h
          refine mv_G_br (tgt := 25) rfl rfl (by decide) (fun z => absurd z hc3) (fun _ => ?_)
          refine mv_G_run 1 (F' := (24, [some (.ref (kb true 2)), some (.long v1), none, some (.int v3), none], [.int (0 : Int32)], 0, 0, kjS f I L)) rfl ?_
          obtain rfl := Option.some.inj h
          exact mv_G_ret rfl rfl rfl (Nat.le_refl _) (Or.inl rfl) ⟨rfl, rfl⟩
/-! KindJudge.put(JI)Z on ('c', 0) -/
def kf1 (f : Bool) (N : Nat) (v1 : Int64) (v3 : Int32) (I : kjI) (L : kjL) : Option (Int32 × kjI × kjL) :=
  (kf20 (!f) N v1 v3 I L).bind fun r1 => if r1.1 = 0 ∨ r1.1 = 1 then some (r1.1, r1.2.1, r1.2.2) else none
set_option maxRecDepth 100000 in
set_option maxHeartbeats 4000000 in
theorem kf1_ok (f : Bool) (N : Nat) (v1 : Int64) (v3 : Int32) (I : kjI) (L : kjL) (d : Nat) (r : Int32 × kjI × kjL) (h : kf1 f N v1 v3 I L = some r) : mv_C kjP kjSta (d + 2) 1 [.ref 0, .long v1, .int v3] (kjS f I L) (kjQwi f r) := by
  cases f
  · unfold kf1 at h
    refine mv_C_in kjM_1 (lc := [some (.ref 0), some (.long v1), none, some (.int v3)]) rfl rfl rfl ?_
    refine mv_G_run 5 (F' := (9, [some (.ref 0), some (.long v1), none, some (.int v3)], [.int v3, .long v1, .ref (kb (!false) 2)], 0, 0, kjS false I L)) rfl ?_
    obtain ⟨r1, hc2, h⟩ := mv_bd h
    refine mv_G_call (r := []) (kf20_ok _ _ _ _ _ _ _ _ _ hc2) rfl rfl rfl rfl rfl (Nat.le_of_ble_eq_true rfl) (Nat.le_of_ble_eq_true rfl) (Nat.le_of_ble_eq_true rfl) ?_
    rintro _ _ ⟨rfl, rfl⟩
    obtain ⟨hb3, h⟩ := mv_ifs h
    obtain rfl := Option.some.inj h
    exact mv_G_ret rfl rfl rfl (Nat.le_refl _) hb3 ⟨rfl, rfl⟩
  · unfold kf1 at h
    refine mv_C_in kjM_1 (lc := [some (.ref 0), some (.long v1), none, some (.int v3)]) rfl rfl rfl ?_
    refine mv_G_run 5 (F' := (9, [some (.ref 0), some (.long v1), none, some (.int v3)], [.int v3, .long v1, .ref (kb (!true) 2)], 0, 0, kjS true I L)) rfl ?_
    obtain ⟨r1, hc2, h⟩ := mv_bd h
    refine mv_G_call (r := []) (kf20_ok _ _ _ _ _ _ _ _ _ hc2) rfl rfl rfl rfl rfl (Nat.le_of_ble_eq_true rfl) (Nat.le_of_ble_eq_true rfl) (Nat.le_of_ble_eq_true rfl) ?_
    rintro _ _ ⟨rfl, rfl⟩
    obtain ⟨hb3, h⟩ := mv_ifs h
    obtain rfl := Option.some.inj h
    exact mv_G_ret rfl rfl rfl (Nat.le_refl _) hb3 ⟨rfl, rfl⟩
/-! KindJudge.fault(I)I on ('c', 0) -/
def kf3 (f : Bool) (I : kjI) (L : kjL) (v1 : Int32) : Option (Int32) :=
  if ¬ v1 = 0 then (if ¬ v1 = (1 : Int32) then (if ¬ v1 = (2 : Int32) then (some (-1 : Int32)) else (some (I 0 5))) else (some (I 0 4))) else (some (I 0 3))
set_option maxRecDepth 100000 in
set_option maxHeartbeats 4000000 in
theorem kf3_ok (f : Bool) (I : kjI) (L : kjL) (v1 : Int32) (d : Nat) (r : Int32) (h : kf3 f I L v1 = some r) : mv_C kjP kjSta (d + 1) 3 [.ref 0, .int v1] (kjS f I L) (kjQi f I L r) := by
  cases f
  · unfold kf3 at h
    refine mv_C_in kjM_3 (lc := [some (.ref 0), some (.int v1)]) rfl rfl rfl ?_
    refine mv_G_run 1 (F' := (1, [some (.ref 0), some (.int v1)], [.int v1], 0, 0, kjS false I L)) rfl ?_
    by_cases hc1 : ¬ v1 = 0
    · rw [if_pos hc1] at h
      refine mv_G_br (tgt := 9) rfl rfl (by decide) (fun _ => ?_) (fun z => absurd hc1 z)
      refine mv_G_run 2 (F' := (11, [some (.ref 0), some (.int v1)], [.int (1 : Int32), .int v1], 0, 0, kjS false I L)) rfl ?_
      by_cases hc2 : ¬ v1 = (1 : Int32)
      · rw [if_pos hc2] at h
        refine mv_G_br (tgt := 19) rfl rfl (by decide) (fun _ => ?_) (fun z => absurd hc2 z)
        refine mv_G_run 2 (F' := (21, [some (.ref 0), some (.int v1)], [.int (2 : Int32), .int v1], 0, 0, kjS false I L)) rfl ?_
        by_cases hc3 : ¬ v1 = (2 : Int32)
        · rw [if_pos hc3] at h
          refine mv_G_br (tgt := 31) rfl rfl (by decide) (fun _ => ?_) (fun z => absurd hc3 z)
          refine mv_G_run 1 (F' := (32, [some (.ref 0), some (.int v1)], [.int (-1 : Int32)], 0, 0, kjS false I L)) rfl ?_
          obtain rfl := Option.some.inj h
          exact mv_G_ret rfl rfl rfl (Nat.le_refl _) trivial ⟨rfl, rfl⟩
        · rw [if_neg hc3] at h
          refine mv_G_br (tgt := 31) rfl rfl (by decide) (fun z => absurd z hc3) (fun _ => ?_)
          refine mv_G_run 3 (F' := (32, [some (.ref 0), some (.int v1)], [.int (I 0 5)], 0, 0, kjS false I L)) rfl ?_
          obtain rfl := Option.some.inj h
          exact mv_G_ret rfl rfl rfl (Nat.le_refl _) trivial ⟨rfl, rfl⟩
      · rw [if_neg hc2] at h
        refine mv_G_br (tgt := 19) rfl rfl (by decide) (fun z => absurd z hc2) (fun _ => ?_)
        refine mv_G_run 2 (F' := (18, [some (.ref 0), some (.int v1)], [.int (I 0 4)], 0, 0, kjS false I L)) rfl ?_
        obtain rfl := Option.some.inj h
        exact mv_G_ret rfl rfl rfl (Nat.le_refl _) trivial ⟨rfl, rfl⟩
    · rw [if_neg hc1] at h
      refine mv_G_br (tgt := 9) rfl rfl (by decide) (fun z => absurd z hc1) (fun _ => ?_)
      refine mv_G_run 2 (F' := (8, [some (.ref 0), some (.int v1)], [.int (I 0 3)], 0, 0, kjS false I L)) rfl ?_
      obtain rfl := Option.some.inj h
      exact mv_G_ret rfl rfl rfl (Nat.le_refl _) trivial ⟨rfl, rfl⟩
  · unfold kf3 at h
    refine mv_C_in kjM_3 (lc := [some (.ref 0), some (.int v1)]) rfl rfl rfl ?_
    refine mv_G_run 1 (F' := (1, [some (.ref 0), some (.int v1)], [.int v1], 0, 0, kjS true I L)) rfl ?_
    by_cases hc1 : ¬ v1 = 0
    · rw [if_pos hc1] at h
      refine mv_G_br (tgt := 9) rfl rfl (by decide) (fun _ => ?_) (fun z => absurd hc1 z)
      refine mv_G_run 2 (F' := (11, [some (.ref 0), some (.int v1)], [.int (1 : Int32), .int v1], 0, 0, kjS true I L)) rfl ?_
      by_cases hc2 : ¬ v1 = (1 : Int32)
      · rw [if_pos hc2] at h
        refine mv_G_br (tgt := 19) rfl rfl (by decide) (fun _ => ?_) (fun z => absurd hc2 z)
        refine mv_G_run 2 (F' := (21, [some (.ref 0), some (.int v1)], [.int (2 : Int32), .int v1], 0, 0, kjS true I L)) rfl ?_
        by_cases hc3 : ¬ v1 = (2 : Int32)
        · rw [if_pos hc3] at h
          refine mv_G_br (tgt := 31) rfl rfl (by decide) (fun _ => ?_) (fun z => absurd hc3 z)
          refine mv_G_run 1 (F' := (32, [some (.ref 0), some (.int v1)], [.int (-1 : Int32)], 0, 0, kjS true I L)) rfl ?_
          obtain rfl := Option.some.inj h
          exact mv_G_ret rfl rfl rfl (Nat.le_refl _) trivial ⟨rfl, rfl⟩
        · rw [if_neg hc3] at h
          refine mv_G_br (tgt := 31) rfl rfl (by decide) (fun z => absurd z hc3) (fun _ => ?_)
          refine mv_G_run 3 (F' := (32, [some (.ref 0), some (.int v1)], [.int (I 0 5)], 0, 0, kjS true I L)) rfl ?_
          obtain rfl := Option.some.inj h
          exact mv_G_ret rfl rfl rfl (Nat.le_refl _) trivial ⟨rfl, rfl⟩
      · rw [if_neg hc2] at h
        refine mv_G_br (tgt := 19) rfl rfl (by decide) (fun z => absurd z hc2) (fun _ => ?_)
        refine mv_G_run 2 (F' := (18, [some (.ref 0), some (.int v1)], [.int (I 0 4)], 0, 0, kjS true I L)) rfl ?_
        obtain rfl := Option.some.inj h
        exact mv_G_ret rfl rfl rfl (Nat.le_refl _) trivial ⟨rfl, rfl⟩
    · rw [if_neg hc1] at h
      refine mv_G_br (tgt := 9) rfl rfl (by decide) (fun z => absurd z hc1) (fun _ => ?_)
      refine mv_G_run 2 (F' := (8, [some (.ref 0), some (.int v1)], [.int (I 0 3)], 0, 0, kjS true I L)) rfl ?_
      obtain rfl := Option.some.inj h
      exact mv_G_ret rfl rfl rfl (Nat.le_refl _) trivial ⟨rfl, rfl⟩
/-! KindJudge$Layout.lengthOf(I)I on ('b', 4) -/
def kf32 (b : Bool) (I : kjI) (L : kjL) (v1 : Int32) : Option (Int32) :=
  if v1 < 0 then (some (0 : Int32)) else (if (I (kb b 14) 3) ≤ v1 then (some (0 : Int32)) else (none))
set_option maxRecDepth 100000 in
set_option maxHeartbeats 4000000 in
theorem kf32_ok (f : Bool) (b : Bool) (I : kjI) (L : kjL) (v1 : Int32) (d : Nat) (r : Int32) (h : kf32 b I L v1 = some r) : mv_C kjP kjSta (d + 1) 32 [.ref (kb b 4), .int v1] (kjS f I L) (kjQi f I L r) := by
  cases b
  · unfold kf32 at h
    refine mv_C_in kjM_32 (lc := [some (.ref (kb false 4)), some (.int v1)]) rfl rfl rfl ?_
    refine mv_G_run 1 (F' := (1, [some (.ref (kb false 4)), some (.int v1)], [.int v1], 0, 0, kjS f I L)) rfl ?_
    by_cases hc1 : v1 < 0
    · rw [if_pos hc1] at h
      refine mv_G_br (tgt := 24) rfl rfl (by decide) (fun _ => ?_) (fun z => absurd hc1 z)
      refine mv_G_run 1 (F' := (25, [some (.ref (kb false 4)), some (.int v1)], [.int (0 : Int32)], 0, 0, kjS f I L)) rfl ?_
      obtain rfl := Option.some.inj h
      exact mv_G_ret rfl rfl rfl (Nat.le_refl _) trivial ⟨rfl, rfl⟩
    · rw [if_neg hc1] at h
      refine mv_G_br (tgt := 24) rfl rfl (by decide) (fun z => absurd z hc1) (fun _ => ?_)
      refine mv_G_run 4 (F' := (12, [some (.ref (kb false 4)), some (.int v1)], [.int (I (kb false 14) 3), .int v1], 0, 0, kjS f I L)) rfl ?_
      by_cases hc2 : (I (kb false 14) 3) ≤ v1
      · rw [if_pos hc2] at h
        refine mv_G_br (tgt := 24) rfl rfl (by decide) (fun _ => ?_) (fun z => absurd hc2 z)
        refine mv_G_run 1 (F' := (25, [some (.ref (kb false 4)), some (.int v1)], [.int (0 : Int32)], 0, 0, kjS f I L)) rfl ?_
        obtain rfl := Option.some.inj h
        exact mv_G_ret rfl rfl rfl (Nat.le_refl _) trivial ⟨rfl, rfl⟩
      · rw [if_neg hc2] at h
        refine mv_G_br (tgt := 24) rfl rfl (by decide) (fun z => absurd z hc2) (fun _ => ?_)
        cases h
  · unfold kf32 at h
    refine mv_C_in kjM_32 (lc := [some (.ref (kb true 4)), some (.int v1)]) rfl rfl rfl ?_
    refine mv_G_run 1 (F' := (1, [some (.ref (kb true 4)), some (.int v1)], [.int v1], 0, 0, kjS f I L)) rfl ?_
    by_cases hc1 : v1 < 0
    · rw [if_pos hc1] at h
      refine mv_G_br (tgt := 24) rfl rfl (by decide) (fun _ => ?_) (fun z => absurd hc1 z)
      refine mv_G_run 1 (F' := (25, [some (.ref (kb true 4)), some (.int v1)], [.int (0 : Int32)], 0, 0, kjS f I L)) rfl ?_
      obtain rfl := Option.some.inj h
      exact mv_G_ret rfl rfl rfl (Nat.le_refl _) trivial ⟨rfl, rfl⟩
    · rw [if_neg hc1] at h
      refine mv_G_br (tgt := 24) rfl rfl (by decide) (fun z => absurd z hc1) (fun _ => ?_)
      refine mv_G_run 4 (F' := (12, [some (.ref (kb true 4)), some (.int v1)], [.int (I (kb true 14) 3), .int v1], 0, 0, kjS f I L)) rfl ?_
      by_cases hc2 : (I (kb true 14) 3) ≤ v1
      · rw [if_pos hc2] at h
        refine mv_G_br (tgt := 24) rfl rfl (by decide) (fun _ => ?_) (fun z => absurd hc2 z)
        refine mv_G_run 1 (F' := (25, [some (.ref (kb true 4)), some (.int v1)], [.int (0 : Int32)], 0, 0, kjS f I L)) rfl ?_
        obtain rfl := Option.some.inj h
        exact mv_G_ret rfl rfl rfl (Nat.le_refl _) trivial ⟨rfl, rfl⟩
      · rw [if_neg hc2] at h
        refine mv_G_br (tgt := 24) rfl rfl (by decide) (fun z => absurd z hc2) (fun _ => ?_)
        cases h
/-! KindJudge$Layout.offset(II)I on ('b', 4) -/
def kf33 (b : Bool) (I : kjI) (L : kjL) (v1 : Int32) (v2 : Int32) : Option (Int32) :=
  if v2 < 0 then (some (-1 : Int32)) else ((kf32 b I L v1).bind fun r2 => if r2 ≤ v2 then (some (-1 : Int32)) else (none))
set_option maxRecDepth 100000 in
set_option maxHeartbeats 4000000 in
theorem kf33_ok (f : Bool) (b : Bool) (I : kjI) (L : kjL) (v1 : Int32) (v2 : Int32) (d : Nat) (r : Int32) (h : kf33 b I L v1 v2 = some r) : mv_C kjP kjSta (d + 2) 33 [.ref (kb b 4), .int v1, .int v2] (kjS f I L) (kjQi f I L r) := by
  cases b
  · unfold kf33 at h
    refine mv_C_in kjM_33 (lc := [some (.ref (kb false 4)), some (.int v1), some (.int v2)]) rfl rfl rfl ?_
    refine mv_G_run 1 (F' := (1, [some (.ref (kb false 4)), some (.int v1), some (.int v2)], [.int v2], 0, 0, kjS f I L)) rfl ?_
    by_cases hc1 : v2 < 0
    · rw [if_pos hc1] at h
      refine mv_G_br (tgt := 24) rfl rfl (by decide) (fun _ => ?_) (fun z => absurd hc1 z)
      refine mv_G_run 1 (F' := (25, [some (.ref (kb false 4)), some (.int v1), some (.int v2)], [.int (-1 : Int32)], 0, 0, kjS f I L)) rfl ?_
      obtain rfl := Option.some.inj h
      exact mv_G_ret rfl rfl rfl (Nat.le_refl _) trivial ⟨rfl, rfl⟩
    · rw [if_neg hc1] at h
      refine mv_G_br (tgt := 24) rfl rfl (by decide) (fun z => absurd z hc1) (fun _ => ?_)
      refine mv_G_run 3 (F' := (7, [some (.ref (kb false 4)), some (.int v1), some (.int v2)], [.int v1, .ref (kb false 4), .int v2], 0, 0, kjS f I L)) rfl ?_
      obtain ⟨r2, hc3, h⟩ := mv_bd h
      refine mv_G_call (r := [.int v2]) (kf32_ok _ _ _ _ _ _ _ hc3) rfl rfl rfl rfl rfl (Nat.le_of_ble_eq_true rfl) (Nat.le_of_ble_eq_true rfl) (Nat.le_of_ble_eq_true rfl) ?_
      rintro _ _ ⟨rfl, rfl⟩
      by_cases hc4 : r2 ≤ v2
      · rw [if_pos hc4] at h
        refine mv_G_br (tgt := 24) rfl rfl (by decide) (fun _ => ?_) (fun z => absurd hc4 z)
        refine mv_G_run 1 (F' := (25, [some (.ref (kb false 4)), some (.int v1), some (.int v2)], [.int (-1 : Int32)], 0, 0, kjS f I L)) rfl ?_
        obtain rfl := Option.some.inj h
        exact mv_G_ret rfl rfl rfl (Nat.le_refl _) trivial ⟨rfl, rfl⟩
      · rw [if_neg hc4] at h
        refine mv_G_br (tgt := 24) rfl rfl (by decide) (fun z => absurd z hc4) (fun _ => ?_)
        cases h
  · unfold kf33 at h
    refine mv_C_in kjM_33 (lc := [some (.ref (kb true 4)), some (.int v1), some (.int v2)]) rfl rfl rfl ?_
    refine mv_G_run 1 (F' := (1, [some (.ref (kb true 4)), some (.int v1), some (.int v2)], [.int v2], 0, 0, kjS f I L)) rfl ?_
    by_cases hc1 : v2 < 0
    · rw [if_pos hc1] at h
      refine mv_G_br (tgt := 24) rfl rfl (by decide) (fun _ => ?_) (fun z => absurd hc1 z)
      refine mv_G_run 1 (F' := (25, [some (.ref (kb true 4)), some (.int v1), some (.int v2)], [.int (-1 : Int32)], 0, 0, kjS f I L)) rfl ?_
      obtain rfl := Option.some.inj h
      exact mv_G_ret rfl rfl rfl (Nat.le_refl _) trivial ⟨rfl, rfl⟩
    · rw [if_neg hc1] at h
      refine mv_G_br (tgt := 24) rfl rfl (by decide) (fun z => absurd z hc1) (fun _ => ?_)
      refine mv_G_run 3 (F' := (7, [some (.ref (kb true 4)), some (.int v1), some (.int v2)], [.int v1, .ref (kb true 4), .int v2], 0, 0, kjS f I L)) rfl ?_
      obtain ⟨r2, hc3, h⟩ := mv_bd h
      refine mv_G_call (r := [.int v2]) (kf32_ok _ _ _ _ _ _ _ hc3) rfl rfl rfl rfl rfl (Nat.le_of_ble_eq_true rfl) (Nat.le_of_ble_eq_true rfl) (Nat.le_of_ble_eq_true rfl) ?_
      rintro _ _ ⟨rfl, rfl⟩
      by_cases hc4 : r2 ≤ v2
      · rw [if_pos hc4] at h
        refine mv_G_br (tgt := 24) rfl rfl (by decide) (fun _ => ?_) (fun z => absurd hc4 z)
        refine mv_G_run 1 (F' := (25, [some (.ref (kb true 4)), some (.int v1), some (.int v2)], [.int (-1 : Int32)], 0, 0, kjS f I L)) rfl ?_
        obtain rfl := Option.some.inj h
        exact mv_G_ret rfl rfl rfl (Nat.le_refl _) trivial ⟨rfl, rfl⟩
      · rw [if_neg hc4] at h
        refine mv_G_br (tgt := 24) rfl rfl (by decide) (fun z => absurd z hc4) (fun _ => ?_)
        cases h
/-! KindJudge$Code.begins(II)Z on ('b', 24) -/
def kf66 (b : Bool) (I : kjI) (L : kjL) (v1 : Int32) (v2 : Int32) : Option (Int32) :=
  (kf33 b I L v1 v2).bind fun r1 => if r1 < 0 then (some (0 : Int32)) else (none)
set_option maxRecDepth 100000 in
set_option maxHeartbeats 4000000 in
theorem kf66_ok (f : Bool) (b : Bool) (I : kjI) (L : kjL) (v1 : Int32) (v2 : Int32) (d : Nat) (r : Int32) (h : kf66 b I L v1 v2 = some r) : mv_C kjP kjSta (d + 3) 66 [.ref (kb b 24), .int v1, .int v2] (kjS f I L) (kjQi f I L r) := by
  cases b
  · unfold kf66 at h
    refine mv_C_in kjM_66 (lc := [some (.ref (kb false 24)), some (.int v1), some (.int v2), none]) rfl rfl rfl ?_
    refine mv_G_run 4 (F' := (6, [some (.ref (kb false 24)), some (.int v1), some (.int v2), none], [.int v2, .int v1, .ref (kb false 4)], 0, 0, kjS f I L)) rfl ?_
    obtain ⟨r1, hc2, h⟩ := mv_bd h
    refine mv_G_call (r := []) (kf33_ok _ _ _ _ _ _ _ _ hc2) rfl rfl rfl rfl rfl (Nat.le_of_ble_eq_true rfl) (Nat.le_of_ble_eq_true rfl) (Nat.le_of_ble_eq_true rfl) ?_
    rintro _ _ ⟨rfl, rfl⟩
    refine mv_G_run 2 (F' := (11, [some (.ref (kb false 24)), some (.int v1), some (.int v2), some (.int r1)], [.int r1], 0, 0, kjS f I L)) rfl ?_
    by_cases hc3 : r1 < 0
    · rw [if_pos hc3] at h
      refine mv_G_br (tgt := 36) rfl rfl (by decide) (fun _ => ?_) (fun z => absurd hc3 z)
      refine mv_G_run 1 (F' := (37, [some (.ref (kb false 24)), some (.int v1), some (.int v2), some (.int r1)], [.int (0 : Int32)], 0, 0, kjS f I L)) rfl ?_
      obtain rfl := Option.some.inj h
      exact mv_G_ret rfl rfl rfl (Nat.le_refl _) (Or.inl rfl) ⟨rfl, rfl⟩
    · rw [if_neg hc3] at h
      refine mv_G_br (tgt := 36) rfl rfl (by decide) (fun z => absurd z hc3) (fun _ => ?_)
      cases h
  · unfold kf66 at h
    refine mv_C_in kjM_66 (lc := [some (.ref (kb true 24)), some (.int v1), some (.int v2), none]) rfl rfl rfl ?_
    refine mv_G_run 4 (F' := (6, [some (.ref (kb true 24)), some (.int v1), some (.int v2), none], [.int v2, .int v1, .ref (kb true 4)], 0, 0, kjS f I L)) rfl ?_
    obtain ⟨r1, hc2, h⟩ := mv_bd h
    refine mv_G_call (r := []) (kf33_ok _ _ _ _ _ _ _ _ hc2) rfl rfl rfl rfl rfl (Nat.le_of_ble_eq_true rfl) (Nat.le_of_ble_eq_true rfl) (Nat.le_of_ble_eq_true rfl) ?_
    rintro _ _ ⟨rfl, rfl⟩
    refine mv_G_run 2 (F' := (11, [some (.ref (kb true 24)), some (.int v1), some (.int v2), some (.int r1)], [.int r1], 0, 0, kjS f I L)) rfl ?_
    by_cases hc3 : r1 < 0
    · rw [if_pos hc3] at h
      refine mv_G_br (tgt := 36) rfl rfl (by decide) (fun _ => ?_) (fun z => absurd hc3 z)
      refine mv_G_run 1 (F' := (37, [some (.ref (kb true 24)), some (.int v1), some (.int v2), some (.int r1)], [.int (0 : Int32)], 0, 0, kjS f I L)) rfl ?_
      obtain rfl := Option.some.inj h
      exact mv_G_ret rfl rfl rfl (Nat.le_refl _) (Or.inl rfl) ⟨rfl, rfl⟩
    · rw [if_neg hc3] at h
      refine mv_G_br (tgt := 36) rfl rfl (by decide) (fun z => absurd z hc3) (fun _ => ?_)
      cases h
/-! KindJudge.kind(III)I on ('c', 0) -/
def kf4 (f : Bool) (I : kjI) (L : kjL) (v1 : Int32) (v2 : Int32) (v3 : Int32) : Option (Int32) :=
  (kf66 f I L v1 v2).bind fun r1 => if ¬ r1 = 0 then (none) else (some (-1 : Int32))
set_option maxRecDepth 100000 in
set_option maxHeartbeats 4000000 in
theorem kf4_ok (f : Bool) (I : kjI) (L : kjL) (v1 : Int32) (v2 : Int32) (v3 : Int32) (d : Nat) (r : Int32) (h : kf4 f I L v1 v2 v3 = some r) : mv_C kjP kjSta (d + 5) 4 [.ref 0, .int v1, .int v2, .int v3] (kjS f I L) (kjQi f I L r) := by
  cases f
  · unfold kf4 at h
    refine mv_C_in kjM_4 (lc := [some (.ref 0), some (.int v1), some (.int v2), some (.int v3), none]) rfl rfl rfl ?_
    refine mv_G_run 5 (F' := (9, [some (.ref 0), some (.int v1), some (.int v2), some (.int v3), none], [.int v2, .int v1, .ref (kb false 24)], 0, 0, kjS false I L)) rfl ?_
    obtain ⟨r1, hc2, h⟩ := mv_bd h
    refine mv_G_call (r := []) (kf66_ok _ _ _ _ _ _ _ _ hc2) rfl rfl rfl rfl rfl (Nat.le_of_ble_eq_true rfl) (Nat.le_of_ble_eq_true rfl) (Nat.le_of_ble_eq_true rfl) ?_
    rintro _ _ ⟨rfl, rfl⟩
    by_cases hc3 : ¬ r1 = 0
    · rw [if_pos hc3] at h
      refine mv_G_br (tgt := 17) rfl rfl (by decide) (fun _ => ?_) (fun z => absurd hc3 z)
      cases h
    · rw [if_neg hc3] at h
      refine mv_G_br (tgt := 17) rfl rfl (by decide) (fun z => absurd z hc3) (fun _ => ?_)
      refine mv_G_run 1 (F' := (16, [some (.ref 0), some (.int v1), some (.int v2), some (.int v3), none], [.int (-1 : Int32)], 0, 0, kjS false I L)) rfl ?_
      obtain rfl := Option.some.inj h
      exact mv_G_ret rfl rfl rfl (Nat.le_refl _) trivial ⟨rfl, rfl⟩
  · unfold kf4 at h
    refine mv_C_in kjM_4 (lc := [some (.ref 0), some (.int v1), some (.int v2), some (.int v3), none]) rfl rfl rfl ?_
    refine mv_G_run 5 (F' := (9, [some (.ref 0), some (.int v1), some (.int v2), some (.int v3), none], [.int v2, .int v1, .ref (kb true 24)], 0, 0, kjS true I L)) rfl ?_
    obtain ⟨r1, hc2, h⟩ := mv_bd h
    refine mv_G_call (r := []) (kf66_ok _ _ _ _ _ _ _ _ hc2) rfl rfl rfl rfl rfl (Nat.le_of_ble_eq_true rfl) (Nat.le_of_ble_eq_true rfl) (Nat.le_of_ble_eq_true rfl) ?_
    rintro _ _ ⟨rfl, rfl⟩
    by_cases hc3 : ¬ r1 = 0
    · rw [if_pos hc3] at h
      refine mv_G_br (tgt := 17) rfl rfl (by decide) (fun _ => ?_) (fun z => absurd hc3 z)
      cases h
    · rw [if_neg hc3] at h
      refine mv_G_br (tgt := 17) rfl rfl (by decide) (fun z => absurd z hc3) (fun _ => ?_)
      refine mv_G_run 1 (F' := (16, [some (.ref 0), some (.int v1), some (.int v2), some (.int v3), none], [.int (-1 : Int32)], 0, 0, kjS true I L)) rfl ?_
      obtain rfl := Option.some.inj h
      exact mv_G_ret rfl rfl rfl (Nat.le_refl _) trivial ⟨rfl, rfl⟩
/-! KindJudge.ways(II)I on ('c', 0) -/
def kf6 (f : Bool) (I : kjI) (L : kjL) (v1 : Int32) (v2 : Int32) : Option (Int32) :=
  (kf66 f I L v1 v2).bind fun r1 => if ¬ r1 = 0 then (none) else (some (-1 : Int32))
set_option maxRecDepth 100000 in
set_option maxHeartbeats 4000000 in
theorem kf6_ok (f : Bool) (I : kjI) (L : kjL) (v1 : Int32) (v2 : Int32) (d : Nat) (r : Int32) (h : kf6 f I L v1 v2 = some r) : mv_C kjP kjSta (d + 6) 6 [.ref 0, .int v1, .int v2] (kjS f I L) (kjQi f I L r) := by
  cases f
  · unfold kf6 at h
    refine mv_C_in kjM_6 (lc := [some (.ref 0), some (.int v1), some (.int v2), none, none, none]) rfl rfl rfl ?_
    refine mv_G_run 5 (F' := (9, [some (.ref 0), some (.int v1), some (.int v2), none, none, none], [.int v2, .int v1, .ref (kb false 24)], 0, 0, kjS false I L)) rfl ?_
    obtain ⟨r1, hc2, h⟩ := mv_bd h
    refine mv_G_call (r := []) (kf66_ok _ _ _ _ _ _ _ _ hc2) rfl rfl rfl rfl rfl (Nat.le_of_ble_eq_true rfl) (Nat.le_of_ble_eq_true rfl) (Nat.le_of_ble_eq_true rfl) ?_
    rintro _ _ ⟨rfl, rfl⟩
    by_cases hc3 : ¬ r1 = 0
    · rw [if_pos hc3] at h
      refine mv_G_br (tgt := 17) rfl rfl (by decide) (fun _ => ?_) (fun z => absurd hc3 z)
      cases h
    · rw [if_neg hc3] at h
      refine mv_G_br (tgt := 17) rfl rfl (by decide) (fun z => absurd z hc3) (fun _ => ?_)
      refine mv_G_run 1 (F' := (16, [some (.ref 0), some (.int v1), some (.int v2), none, none, none], [.int (-1 : Int32)], 0, 0, kjS false I L)) rfl ?_
      obtain rfl := Option.some.inj h
      exact mv_G_ret rfl rfl rfl (Nat.le_refl _) trivial ⟨rfl, rfl⟩
  · unfold kf6 at h
    refine mv_C_in kjM_6 (lc := [some (.ref 0), some (.int v1), some (.int v2), none, none, none]) rfl rfl rfl ?_
    refine mv_G_run 5 (F' := (9, [some (.ref 0), some (.int v1), some (.int v2), none, none, none], [.int v2, .int v1, .ref (kb true 24)], 0, 0, kjS true I L)) rfl ?_
    obtain ⟨r1, hc2, h⟩ := mv_bd h
    refine mv_G_call (r := []) (kf66_ok _ _ _ _ _ _ _ _ hc2) rfl rfl rfl rfl rfl (Nat.le_of_ble_eq_true rfl) (Nat.le_of_ble_eq_true rfl) (Nat.le_of_ble_eq_true rfl) ?_
    rintro _ _ ⟨rfl, rfl⟩
    by_cases hc3 : ¬ r1 = 0
    · rw [if_pos hc3] at h
      refine mv_G_br (tgt := 17) rfl rfl (by decide) (fun _ => ?_) (fun z => absurd hc3 z)
      cases h
    · rw [if_neg hc3] at h
      refine mv_G_br (tgt := 17) rfl rfl (by decide) (fun z => absurd z hc3) (fun _ => ?_)
      refine mv_G_run 1 (F' := (16, [some (.ref 0), some (.int v1), some (.int v2), none, none, none], [.int (-1 : Int32)], 0, 0, kjS true I L)) rfl ?_
      obtain rfl := Option.some.inj h
      exact mv_G_ret rfl rfl rfl (Nat.le_refl _) trivial ⟨rfl, rfl⟩
/-! KindJudge$Signatures.has(I)Z on ('b', 14) -/
def kf49 (b : Bool) (I : kjI) (L : kjL) (v1 : Int32) : Option (Int32) :=
  if v1 < 0 then (some (0 : Int32)) else (if (I (kb b 14) 3) ≤ v1 then (some (0 : Int32)) else (none))
set_option maxRecDepth 100000 in
set_option maxHeartbeats 4000000 in
theorem kf49_ok (f : Bool) (b : Bool) (I : kjI) (L : kjL) (v1 : Int32) (d : Nat) (r : Int32) (h : kf49 b I L v1 = some r) : mv_C kjP kjSta (d + 1) 49 [.ref (kb b 14), .int v1] (kjS f I L) (kjQi f I L r) := by
  cases b
  · unfold kf49 at h
    refine mv_C_in kjM_49 (lc := [some (.ref (kb false 14)), some (.int v1)]) rfl rfl rfl ?_
    refine mv_G_run 1 (F' := (1, [some (.ref (kb false 14)), some (.int v1)], [.int v1], 0, 0, kjS f I L)) rfl ?_
    by_cases hc1 : v1 < 0
    · rw [if_pos hc1] at h
      refine mv_G_br (tgt := 16) rfl rfl (by decide) (fun _ => ?_) (fun z => absurd hc1 z)
      refine mv_G_run 1 (F' := (17, [some (.ref (kb false 14)), some (.int v1)], [.int (0 : Int32)], 0, 0, kjS f I L)) rfl ?_
      obtain rfl := Option.some.inj h
      exact mv_G_ret rfl rfl rfl (Nat.le_refl _) (Or.inl rfl) ⟨rfl, rfl⟩
    · rw [if_neg hc1] at h
      refine mv_G_br (tgt := 16) rfl rfl (by decide) (fun z => absurd z hc1) (fun _ => ?_)
      refine mv_G_run 3 (F' := (9, [some (.ref (kb false 14)), some (.int v1)], [.int (I (kb false 14) 3), .int v1], 0, 0, kjS f I L)) rfl ?_
      by_cases hc2 : (I (kb false 14) 3) ≤ v1
      · rw [if_pos hc2] at h
        refine mv_G_br (tgt := 16) rfl rfl (by decide) (fun _ => ?_) (fun z => absurd hc2 z)
        refine mv_G_run 1 (F' := (17, [some (.ref (kb false 14)), some (.int v1)], [.int (0 : Int32)], 0, 0, kjS f I L)) rfl ?_
        obtain rfl := Option.some.inj h
        exact mv_G_ret rfl rfl rfl (Nat.le_refl _) (Or.inl rfl) ⟨rfl, rfl⟩
      · rw [if_neg hc2] at h
        refine mv_G_br (tgt := 16) rfl rfl (by decide) (fun z => absurd z hc2) (fun _ => ?_)
        cases h
  · unfold kf49 at h
    refine mv_C_in kjM_49 (lc := [some (.ref (kb true 14)), some (.int v1)]) rfl rfl rfl ?_
    refine mv_G_run 1 (F' := (1, [some (.ref (kb true 14)), some (.int v1)], [.int v1], 0, 0, kjS f I L)) rfl ?_
    by_cases hc1 : v1 < 0
    · rw [if_pos hc1] at h
      refine mv_G_br (tgt := 16) rfl rfl (by decide) (fun _ => ?_) (fun z => absurd hc1 z)
      refine mv_G_run 1 (F' := (17, [some (.ref (kb true 14)), some (.int v1)], [.int (0 : Int32)], 0, 0, kjS f I L)) rfl ?_
      obtain rfl := Option.some.inj h
      exact mv_G_ret rfl rfl rfl (Nat.le_refl _) (Or.inl rfl) ⟨rfl, rfl⟩
    · rw [if_neg hc1] at h
      refine mv_G_br (tgt := 16) rfl rfl (by decide) (fun z => absurd z hc1) (fun _ => ?_)
      refine mv_G_run 3 (F' := (9, [some (.ref (kb true 14)), some (.int v1)], [.int (I (kb true 14) 3), .int v1], 0, 0, kjS f I L)) rfl ?_
      by_cases hc2 : (I (kb true 14) 3) ≤ v1
      · rw [if_pos hc2] at h
        refine mv_G_br (tgt := 16) rfl rfl (by decide) (fun _ => ?_) (fun z => absurd hc2 z)
        refine mv_G_run 1 (F' := (17, [some (.ref (kb true 14)), some (.int v1)], [.int (0 : Int32)], 0, 0, kjS f I L)) rfl ?_
        obtain rfl := Option.some.inj h
        exact mv_G_ret rfl rfl rfl (Nat.le_refl _) (Or.inl rfl) ⟨rfl, rfl⟩
      · rw [if_neg hc2] at h
        refine mv_G_br (tgt := 16) rfl rfl (by decide) (fun z => absurd z hc2) (fun _ => ?_)
        cases h
/-! KindJudge.count(II)I on ('c', 0) -/
def kf7 (f : Bool) (I : kjI) (L : kjL) (v1 : Int32) (v2 : Int32) : Option (Int32) :=
  (kf49 f I L v1).bind fun r1 => if r1 = 0 then (some (-1 : Int32)) else (none)
set_option maxRecDepth 100000 in
set_option maxHeartbeats 4000000 in
theorem kf7_ok (f : Bool) (I : kjI) (L : kjL) (v1 : Int32) (v2 : Int32) (d : Nat) (r : Int32) (h : kf7 f I L v1 v2 = some r) : mv_C kjP kjSta (d + 7) 7 [.ref 0, .int v1, .int v2] (kjS f I L) (kjQi f I L r) := by
  cases f
  · unfold kf7 at h
    refine mv_C_in kjM_7 (lc := [some (.ref 0), some (.int v1), some (.int v2)]) rfl rfl rfl ?_
    refine mv_G_run 5 (F' := (11, [some (.ref 0), some (.int v1), some (.int v2)], [.int v1, .ref (kb false 14)], 0, 0, kjS false I L)) rfl ?_
    obtain ⟨r1, hc2, h⟩ := mv_bd h
    refine mv_G_call (r := []) (kf49_ok _ _ _ _ _ _ _ hc2) rfl rfl rfl rfl rfl (Nat.le_of_ble_eq_true rfl) (Nat.le_of_ble_eq_true rfl) (Nat.le_of_ble_eq_true rfl) ?_
    rintro _ _ ⟨rfl, rfl⟩
    by_cases hc3 : r1 = 0
    · rw [if_pos hc3] at h
      refine mv_G_br (tgt := 26) rfl rfl (by decide) (fun _ => ?_) (fun z => absurd hc3 z)
      refine mv_G_run 1 (F' := (27, [some (.ref 0), some (.int v1), some (.int v2)], [.int (-1 : Int32)], 0, 0, kjS false I L)) rfl ?_
      obtain rfl := Option.some.inj h
      exact mv_G_ret rfl rfl rfl (Nat.le_refl _) trivial ⟨rfl, rfl⟩
    · rw [if_neg hc3] at h
      refine mv_G_br (tgt := 26) rfl rfl (by decide) (fun z => absurd z hc3) (fun _ => ?_)
      cases h
  · unfold kf7 at h
    refine mv_C_in kjM_7 (lc := [some (.ref 0), some (.int v1), some (.int v2)]) rfl rfl rfl ?_
    refine mv_G_run 5 (F' := (11, [some (.ref 0), some (.int v1), some (.int v2)], [.int v1, .ref (kb true 14)], 0, 0, kjS true I L)) rfl ?_
    obtain ⟨r1, hc2, h⟩ := mv_bd h
    refine mv_G_call (r := []) (kf49_ok _ _ _ _ _ _ _ hc2) rfl rfl rfl rfl rfl (Nat.le_of_ble_eq_true rfl) (Nat.le_of_ble_eq_true rfl) (Nat.le_of_ble_eq_true rfl) ?_
    rintro _ _ ⟨rfl, rfl⟩
    by_cases hc3 : r1 = 0
    · rw [if_pos hc3] at h
      refine mv_G_br (tgt := 26) rfl rfl (by decide) (fun _ => ?_) (fun z => absurd hc3 z)
      refine mv_G_run 1 (F' := (27, [some (.ref 0), some (.int v1), some (.int v2)], [.int (-1 : Int32)], 0, 0, kjS true I L)) rfl ?_
      obtain rfl := Option.some.inj h
      exact mv_G_ret rfl rfl rfl (Nat.le_refl _) trivial ⟨rfl, rfl⟩
    · rw [if_neg hc3] at h
      refine mv_G_br (tgt := 26) rfl rfl (by decide) (fun z => absurd z hc3) (fun _ => ?_)
      cases h
/-! KindJudge.fits(II)I on ('c', 0) -/
def kf8 (f : Bool) (I : kjI) (L : kjL) (v1 : Int32) (v2 : Int32) : Option (Int32) :=
  if (I 0 2) = 0 then (some (-1 : Int32)) else (none)
set_option maxRecDepth 100000 in
set_option maxHeartbeats 4000000 in
theorem kf8_ok (f : Bool) (I : kjI) (L : kjL) (v1 : Int32) (v2 : Int32) (d : Nat) (r : Int32) (h : kf8 f I L v1 v2 = some r) : mv_C kjP kjSta (d + 3) 8 [.ref 0, .int v1, .int v2] (kjS f I L) (kjQi f I L r) := by
  cases f
  · unfold kf8 at h
    refine mv_C_in kjM_8 (lc := [some (.ref 0), some (.int v1), some (.int v2), none]) rfl rfl rfl ?_
    refine mv_G_run 7 (F' := (15, [some (.ref 0), some (.int v1), some (.int v2), some (.ref (kb false 5))], [.int (I 0 2)], 0, 0, kjS false I L)) rfl ?_
    by_cases hc1 : (I 0 2) = 0
    · rw [if_pos hc1] at h
      refine mv_G_br (tgt := 38) rfl rfl (by decide) (fun _ => ?_) (fun z => absurd hc1 z)
      refine mv_G_run 1 (F' := (39, [some (.ref 0), some (.int v1), some (.int v2), some (.ref (kb false 5))], [.int (-1 : Int32)], 0, 0, kjS false I L)) rfl ?_
      obtain rfl := Option.some.inj h
      exact mv_G_ret rfl rfl rfl (Nat.le_refl _) trivial ⟨rfl, rfl⟩
    · rw [if_neg hc1] at h
      refine mv_G_br (tgt := 38) rfl rfl (by decide) (fun z => absurd z hc1) (fun _ => ?_)
      cases h
  · unfold kf8 at h
    refine mv_C_in kjM_8 (lc := [some (.ref 0), some (.int v1), some (.int v2), none]) rfl rfl rfl ?_
    refine mv_G_run 7 (F' := (15, [some (.ref 0), some (.int v1), some (.int v2), some (.ref (kb true 5))], [.int (I 0 2)], 0, 0, kjS true I L)) rfl ?_
    by_cases hc1 : (I 0 2) = 0
    · rw [if_pos hc1] at h
      refine mv_G_br (tgt := 38) rfl rfl (by decide) (fun _ => ?_) (fun z => absurd hc1 z)
      refine mv_G_run 1 (F' := (39, [some (.ref 0), some (.int v1), some (.int v2), some (.ref (kb true 5))], [.int (-1 : Int32)], 0, 0, kjS true I L)) rfl ?_
      obtain rfl := Option.some.inj h
      exact mv_G_ret rfl rfl rfl (Nat.le_refl _) trivial ⟨rfl, rfl⟩
    · rw [if_neg hc1] at h
      refine mv_G_br (tgt := 38) rfl rfl (by decide) (fun z => absurd z hc1) (fun _ => ?_)
      cases h
/-! KindJudge.meet(II)I on ('c', 0) -/
def kf9 (f : Bool) (I : kjI) (L : kjL) (v1 : Int32) (v2 : Int32) : Option (Int32) :=
  if (I 0 2) = 0 then (some (-1 : Int32)) else (none)
set_option maxRecDepth 100000 in
set_option maxHeartbeats 4000000 in
theorem kf9_ok (f : Bool) (I : kjI) (L : kjL) (v1 : Int32) (v2 : Int32) (d : Nat) (r : Int32) (h : kf9 f I L v1 v2 = some r) : mv_C kjP kjSta (d + 3) 9 [.ref 0, .int v1, .int v2] (kjS f I L) (kjQi f I L r) := by
  cases f
  · unfold kf9 at h
    refine mv_C_in kjM_9 (lc := [some (.ref 0), some (.int v1), some (.int v2), none]) rfl rfl rfl ?_
    refine mv_G_run 7 (F' := (15, [some (.ref 0), some (.int v1), some (.int v2), some (.ref (kb false 5))], [.int (I 0 2)], 0, 0, kjS false I L)) rfl ?_
    by_cases hc1 : (I 0 2) = 0
    · rw [if_pos hc1] at h
      refine mv_G_br (tgt := 34) rfl rfl (by decide) (fun _ => ?_) (fun z => absurd hc1 z)
      refine mv_G_run 1 (F' := (35, [some (.ref 0), some (.int v1), some (.int v2), some (.ref (kb false 5))], [.int (-1 : Int32)], 0, 0, kjS false I L)) rfl ?_
      obtain rfl := Option.some.inj h
      exact mv_G_ret rfl rfl rfl (Nat.le_refl _) trivial ⟨rfl, rfl⟩
    · rw [if_neg hc1] at h
      refine mv_G_br (tgt := 34) rfl rfl (by decide) (fun z => absurd z hc1) (fun _ => ?_)
      cases h
  · unfold kf9 at h
    refine mv_C_in kjM_9 (lc := [some (.ref 0), some (.int v1), some (.int v2), none]) rfl rfl rfl ?_
    refine mv_G_run 7 (F' := (15, [some (.ref 0), some (.int v1), some (.int v2), some (.ref (kb true 5))], [.int (I 0 2)], 0, 0, kjS true I L)) rfl ?_
    by_cases hc1 : (I 0 2) = 0
    · rw [if_pos hc1] at h
      refine mv_G_br (tgt := 34) rfl rfl (by decide) (fun _ => ?_) (fun z => absurd hc1 z)
      refine mv_G_run 1 (F' := (35, [some (.ref 0), some (.int v1), some (.int v2), some (.ref (kb true 5))], [.int (-1 : Int32)], 0, 0, kjS true I L)) rfl ?_
      obtain rfl := Option.some.inj h
      exact mv_G_ret rfl rfl rfl (Nat.le_refl _) trivial ⟨rfl, rfl⟩
    · rw [if_neg hc1] at h
      refine mv_G_br (tgt := 34) rfl rfl (by decide) (fun z => absurd z hc1) (fun _ => ?_)
      cases h
/-! KindJudge$Classes.has(I)Z on ('b', 5) -/
def kf37 (b : Bool) (I : kjI) (L : kjL) (v1 : Int32) : Option (Int32) :=
  if v1 < 0 then (some (0 : Int32)) else (if (I (kb b 5) 4) ≤ v1 then (some (0 : Int32)) else (none))
set_option maxRecDepth 100000 in
set_option maxHeartbeats 4000000 in
theorem kf37_ok (f : Bool) (b : Bool) (I : kjI) (L : kjL) (v1 : Int32) (d : Nat) (r : Int32) (h : kf37 b I L v1 = some r) : mv_C kjP kjSta (d + 1) 37 [.ref (kb b 5), .int v1] (kjS f I L) (kjQi f I L r) := by
  cases b
  · unfold kf37 at h
    refine mv_C_in kjM_37 (lc := [some (.ref (kb false 5)), some (.int v1)]) rfl rfl rfl ?_
    refine mv_G_run 1 (F' := (1, [some (.ref (kb false 5)), some (.int v1)], [.int v1], 0, 0, kjS f I L)) rfl ?_
    by_cases hc1 : v1 < 0
    · rw [if_pos hc1] at h
      refine mv_G_br (tgt := 16) rfl rfl (by decide) (fun _ => ?_) (fun z => absurd hc1 z)
      refine mv_G_run 1 (F' := (17, [some (.ref (kb false 5)), some (.int v1)], [.int (0 : Int32)], 0, 0, kjS f I L)) rfl ?_
      obtain rfl := Option.some.inj h
      exact mv_G_ret rfl rfl rfl (Nat.le_refl _) (Or.inl rfl) ⟨rfl, rfl⟩
    · rw [if_neg hc1] at h
      refine mv_G_br (tgt := 16) rfl rfl (by decide) (fun z => absurd z hc1) (fun _ => ?_)
      refine mv_G_run 3 (F' := (9, [some (.ref (kb false 5)), some (.int v1)], [.int (I (kb false 5) 4), .int v1], 0, 0, kjS f I L)) rfl ?_
      by_cases hc2 : (I (kb false 5) 4) ≤ v1
      · rw [if_pos hc2] at h
        refine mv_G_br (tgt := 16) rfl rfl (by decide) (fun _ => ?_) (fun z => absurd hc2 z)
        refine mv_G_run 1 (F' := (17, [some (.ref (kb false 5)), some (.int v1)], [.int (0 : Int32)], 0, 0, kjS f I L)) rfl ?_
        obtain rfl := Option.some.inj h
        exact mv_G_ret rfl rfl rfl (Nat.le_refl _) (Or.inl rfl) ⟨rfl, rfl⟩
      · rw [if_neg hc2] at h
        refine mv_G_br (tgt := 16) rfl rfl (by decide) (fun z => absurd z hc2) (fun _ => ?_)
        cases h
  · unfold kf37 at h
    refine mv_C_in kjM_37 (lc := [some (.ref (kb true 5)), some (.int v1)]) rfl rfl rfl ?_
    refine mv_G_run 1 (F' := (1, [some (.ref (kb true 5)), some (.int v1)], [.int v1], 0, 0, kjS f I L)) rfl ?_
    by_cases hc1 : v1 < 0
    · rw [if_pos hc1] at h
      refine mv_G_br (tgt := 16) rfl rfl (by decide) (fun _ => ?_) (fun z => absurd hc1 z)
      refine mv_G_run 1 (F' := (17, [some (.ref (kb true 5)), some (.int v1)], [.int (0 : Int32)], 0, 0, kjS f I L)) rfl ?_
      obtain rfl := Option.some.inj h
      exact mv_G_ret rfl rfl rfl (Nat.le_refl _) (Or.inl rfl) ⟨rfl, rfl⟩
    · rw [if_neg hc1] at h
      refine mv_G_br (tgt := 16) rfl rfl (by decide) (fun z => absurd z hc1) (fun _ => ?_)
      refine mv_G_run 3 (F' := (9, [some (.ref (kb true 5)), some (.int v1)], [.int (I (kb true 5) 4), .int v1], 0, 0, kjS f I L)) rfl ?_
      by_cases hc2 : (I (kb true 5) 4) ≤ v1
      · rw [if_pos hc2] at h
        refine mv_G_br (tgt := 16) rfl rfl (by decide) (fun _ => ?_) (fun z => absurd hc2 z)
        refine mv_G_run 1 (F' := (17, [some (.ref (kb true 5)), some (.int v1)], [.int (0 : Int32)], 0, 0, kjS f I L)) rfl ?_
        obtain rfl := Option.some.inj h
        exact mv_G_ret rfl rfl rfl (Nat.le_refl _) (Or.inl rfl) ⟨rfl, rfl⟩
      · rw [if_neg hc2] at h
        refine mv_G_br (tgt := 16) rfl rfl (by decide) (fun z => absurd z hc2) (fun _ => ?_)
        cases h
/-! KindJudge$Layout.methodFor(II)I on ('b', 4) -/
def kf29 (b : Bool) (I : kjI) (L : kjL) (v1 : Int32) (v2 : Int32) : Option (Int32) :=
  (kf37 b I L v1).bind fun r1 => if r1 = 0 then (some (-1 : Int32)) else (none)
set_option maxRecDepth 100000 in
set_option maxHeartbeats 4000000 in
theorem kf29_ok (f : Bool) (b : Bool) (I : kjI) (L : kjL) (v1 : Int32) (v2 : Int32) (d : Nat) (r : Int32) (h : kf29 b I L v1 v2 = some r) : mv_C kjP kjSta (d + 2) 29 [.ref (kb b 4), .int v1, .int v2] (kjS f I L) (kjQi f I L r) := by
  cases b
  · unfold kf29 at h
    refine mv_C_in kjM_29 (lc := [some (.ref (kb false 4)), some (.int v1), some (.int v2)]) rfl rfl rfl ?_
    refine mv_G_run 3 (F' := (5, [some (.ref (kb false 4)), some (.int v1), some (.int v2)], [.int v1, .ref (kb false 5)], 0, 0, kjS f I L)) rfl ?_
    obtain ⟨r1, hc2, h⟩ := mv_bd h
    refine mv_G_call (r := []) (kf37_ok _ _ _ _ _ _ _ hc2) rfl rfl rfl rfl rfl (Nat.le_of_ble_eq_true rfl) (Nat.le_of_ble_eq_true rfl) (Nat.le_of_ble_eq_true rfl) ?_
    rintro _ _ ⟨rfl, rfl⟩
    by_cases hc3 : r1 = 0
    · rw [if_pos hc3] at h
      refine mv_G_br (tgt := 36) rfl rfl (by decide) (fun _ => ?_) (fun z => absurd hc3 z)
      refine mv_G_run 1 (F' := (37, [some (.ref (kb false 4)), some (.int v1), some (.int v2)], [.int (-1 : Int32)], 0, 0, kjS f I L)) rfl ?_
      obtain rfl := Option.some.inj h
      exact mv_G_ret rfl rfl rfl (Nat.le_refl _) trivial ⟨rfl, rfl⟩
    · rw [if_neg hc3] at h
      refine mv_G_br (tgt := 36) rfl rfl (by decide) (fun z => absurd z hc3) (fun _ => ?_)
      cases h
  · unfold kf29 at h
    refine mv_C_in kjM_29 (lc := [some (.ref (kb true 4)), some (.int v1), some (.int v2)]) rfl rfl rfl ?_
    refine mv_G_run 3 (F' := (5, [some (.ref (kb true 4)), some (.int v1), some (.int v2)], [.int v1, .ref (kb true 5)], 0, 0, kjS f I L)) rfl ?_
    obtain ⟨r1, hc2, h⟩ := mv_bd h
    refine mv_G_call (r := []) (kf37_ok _ _ _ _ _ _ _ hc2) rfl rfl rfl rfl rfl (Nat.le_of_ble_eq_true rfl) (Nat.le_of_ble_eq_true rfl) (Nat.le_of_ble_eq_true rfl) ?_
    rintro _ _ ⟨rfl, rfl⟩
    by_cases hc3 : r1 = 0
    · rw [if_pos hc3] at h
      refine mv_G_br (tgt := 36) rfl rfl (by decide) (fun _ => ?_) (fun z => absurd hc3 z)
      refine mv_G_run 1 (F' := (37, [some (.ref (kb true 4)), some (.int v1), some (.int v2)], [.int (-1 : Int32)], 0, 0, kjS f I L)) rfl ?_
      obtain rfl := Option.some.inj h
      exact mv_G_ret rfl rfl rfl (Nat.le_refl _) trivial ⟨rfl, rfl⟩
    · rw [if_neg hc3] at h
      refine mv_G_br (tgt := 36) rfl rfl (by decide) (fun z => absurd z hc3) (fun _ => ?_)
      cases h
/-! KindJudge.method(II)I on ('c', 0) -/
def kf10 (f : Bool) (I : kjI) (L : kjL) (v1 : Int32) (v2 : Int32) : Option (Int32) :=
  (kf29 f I L v1 v2).bind fun r1 => some r1
set_option maxRecDepth 100000 in
set_option maxHeartbeats 4000000 in
theorem kf10_ok (f : Bool) (I : kjI) (L : kjL) (v1 : Int32) (v2 : Int32) (d : Nat) (r : Int32) (h : kf10 f I L v1 v2 = some r) : mv_C kjP kjSta (d + 3) 10 [.ref 0, .int v1, .int v2] (kjS f I L) (kjQi f I L r) := by
  cases f
  · unfold kf10 at h
    refine mv_C_in kjM_10 (lc := [some (.ref 0), some (.int v1), some (.int v2)]) rfl rfl rfl ?_
    refine mv_G_run 5 (F' := (9, [some (.ref 0), some (.int v1), some (.int v2)], [.int v2, .int v1, .ref (kb false 4)], 0, 0, kjS false I L)) rfl ?_
    obtain ⟨r1, hc2, h⟩ := mv_bd h
    refine mv_G_call (r := []) (kf29_ok _ _ _ _ _ _ _ _ hc2) rfl rfl rfl rfl rfl (Nat.le_of_ble_eq_true rfl) (Nat.le_of_ble_eq_true rfl) (Nat.le_of_ble_eq_true rfl) ?_
    rintro _ _ ⟨rfl, rfl⟩
    obtain rfl := Option.some.inj h
    exact mv_G_ret rfl rfl rfl (Nat.le_refl _) trivial ⟨rfl, rfl⟩
  · unfold kf10 at h
    refine mv_C_in kjM_10 (lc := [some (.ref 0), some (.int v1), some (.int v2)]) rfl rfl rfl ?_
    refine mv_G_run 5 (F' := (9, [some (.ref 0), some (.int v1), some (.int v2)], [.int v2, .int v1, .ref (kb true 4)], 0, 0, kjS true I L)) rfl ?_
    obtain ⟨r1, hc2, h⟩ := mv_bd h
    refine mv_G_call (r := []) (kf29_ok _ _ _ _ _ _ _ _ hc2) rfl rfl rfl rfl rfl (Nat.le_of_ble_eq_true rfl) (Nat.le_of_ble_eq_true rfl) (Nat.le_of_ble_eq_true rfl) ?_
    rintro _ _ ⟨rfl, rfl⟩
    obtain rfl := Option.some.inj h
    exact mv_G_ret rfl rfl rfl (Nat.le_refl _) trivial ⟨rfl, rfl⟩
/-! KindJudge.type(II)I on ('c', 0) -/
def kf11 (f : Bool) (I : kjI) (L : kjL) (v1 : Int32) (v2 : Int32) : Option (Int32) :=
  (kf37 f I L v1).bind fun r1 => if r1 = 0 then (some (-1 : Int32)) else (none)
set_option maxRecDepth 100000 in
set_option maxHeartbeats 4000000 in
theorem kf11_ok (f : Bool) (I : kjI) (L : kjL) (v1 : Int32) (v2 : Int32) (d : Nat) (r : Int32) (h : kf11 f I L v1 v2 = some r) : mv_C kjP kjSta (d + 3) 11 [.ref 0, .int v1, .int v2] (kjS f I L) (kjQi f I L r) := by
  cases f
  · unfold kf11 at h
    refine mv_C_in kjM_11 (lc := [some (.ref 0), some (.int v1), some (.int v2), none]) rfl rfl rfl ?_
    refine mv_G_run 7 (F' := (13, [some (.ref 0), some (.int v1), some (.int v2), some (.ref (kb false 5))], [.int v1, .ref (kb false 5)], 0, 0, kjS false I L)) rfl ?_
    obtain ⟨r1, hc2, h⟩ := mv_bd h
    refine mv_G_call (r := []) (kf37_ok _ _ _ _ _ _ _ hc2) rfl rfl rfl rfl rfl (Nat.le_of_ble_eq_true rfl) (Nat.le_of_ble_eq_true rfl) (Nat.le_of_ble_eq_true rfl) ?_
    rintro _ _ ⟨rfl, rfl⟩
    by_cases hc3 : r1 = 0
    · rw [if_pos hc3] at h
      refine mv_G_br (tgt := 23) rfl rfl (by decide) (fun _ => ?_) (fun z => absurd hc3 z)
      refine mv_G_run 1 (F' := (24, [some (.ref 0), some (.int v1), some (.int v2), some (.ref (kb false 5))], [.int (-1 : Int32)], 0, 0, kjS false I L)) rfl ?_
      obtain rfl := Option.some.inj h
      exact mv_G_ret rfl rfl rfl (Nat.le_refl _) trivial ⟨rfl, rfl⟩
    · rw [if_neg hc3] at h
      refine mv_G_br (tgt := 23) rfl rfl (by decide) (fun z => absurd z hc3) (fun _ => ?_)
      cases h
  · unfold kf11 at h
    refine mv_C_in kjM_11 (lc := [some (.ref 0), some (.int v1), some (.int v2), none]) rfl rfl rfl ?_
    refine mv_G_run 7 (F' := (13, [some (.ref 0), some (.int v1), some (.int v2), some (.ref (kb true 5))], [.int v1, .ref (kb true 5)], 0, 0, kjS true I L)) rfl ?_
    obtain ⟨r1, hc2, h⟩ := mv_bd h
    refine mv_G_call (r := []) (kf37_ok _ _ _ _ _ _ _ hc2) rfl rfl rfl rfl rfl (Nat.le_of_ble_eq_true rfl) (Nat.le_of_ble_eq_true rfl) (Nat.le_of_ble_eq_true rfl) ?_
    rintro _ _ ⟨rfl, rfl⟩
    by_cases hc3 : r1 = 0
    · rw [if_pos hc3] at h
      refine mv_G_br (tgt := 23) rfl rfl (by decide) (fun _ => ?_) (fun z => absurd hc3 z)
      refine mv_G_run 1 (F' := (24, [some (.ref 0), some (.int v1), some (.int v2), some (.ref (kb true 5))], [.int (-1 : Int32)], 0, 0, kjS true I L)) rfl ?_
      obtain rfl := Option.some.inj h
      exact mv_G_ret rfl rfl rfl (Nat.le_refl _) trivial ⟨rfl, rfl⟩
    · rw [if_neg hc3] at h
      refine mv_G_br (tgt := 23) rfl rfl (by decide) (fun z => absurd z hc3) (fun _ => ?_)
      cases h
/-! KindJudge.total(I)I on ('c', 0) -/
def kf12 (f : Bool) (I : kjI) (L : kjL) (v1 : Int32) : Option (Int32) :=
  if (v1).toInt = 0 then (some (I (kb f 14) 3)) else (if (v1).toInt = 1 then (some (I (kb f 5) 4)) else (if (v1).toInt = 2 then (some (I (kb f 10) 3)) else (if (v1).toInt = 3 then (some (I (kb (!f) 2) 1)) else (if (v1).toInt = 4 then (some (I 0 2)) else (some (-1 : Int32))))))
set_option maxRecDepth 100000 in
set_option maxHeartbeats 4000000 in
theorem kf12_ok (f : Bool) (I : kjI) (L : kjL) (v1 : Int32) (d : Nat) (r : Int32) (h : kf12 f I L v1 = some r) : mv_C kjP kjSta (d + 1) 12 [.ref 0, .int v1] (kjS f I L) (kjQi f I L r) := by
  cases f
  · unfold kf12 at h
    refine mv_C_in kjM_12 (lc := [some (.ref 0), some (.int v1)]) rfl rfl rfl ?_
    refine mv_G_run 1 (F' := (1, [some (.ref 0), some (.int v1)], [.int v1], 0, 0, kjS false I L)) rfl ?_
    by_cases hw1 : (v1).toInt = 0
    · rw [if_pos hw1] at h
      refine mv_G_sw (tgt := 36) (off := 35) rfl (by simp only [mv_sw, hw1]; rfl) (by decide) ?_
      refine mv_G_run 5 (F' := (49, [some (.ref 0), some (.int v1)], [.int (I (kb false 14) 3)], 0, 0, kjS false I L)) rfl ?_
      obtain rfl := Option.some.inj h
      exact mv_G_ret rfl rfl rfl (Nat.le_refl _) trivial ⟨rfl, rfl⟩
    rw [if_neg hw1] at h
    by_cases hw2 : (v1).toInt = 1
    · rw [if_pos hw2] at h
      refine mv_G_sw (tgt := 50) (off := 49) rfl (by simp only [mv_sw, hw2]; rfl) (by decide) ?_
      refine mv_G_run 5 (F' := (63, [some (.ref 0), some (.int v1)], [.int (I (kb false 5) 4)], 0, 0, kjS false I L)) rfl ?_
      obtain rfl := Option.some.inj h
      exact mv_G_ret rfl rfl rfl (Nat.le_refl _) trivial ⟨rfl, rfl⟩
    rw [if_neg hw2] at h
    by_cases hw3 : (v1).toInt = 2
    · rw [if_pos hw3] at h
      refine mv_G_sw (tgt := 64) (off := 63) rfl (by simp only [mv_sw, hw3]; rfl) (by decide) ?_
      refine mv_G_run 5 (F' := (77, [some (.ref 0), some (.int v1)], [.int (I (kb false 10) 3)], 0, 0, kjS false I L)) rfl ?_
      obtain rfl := Option.some.inj h
      exact mv_G_ret rfl rfl rfl (Nat.le_refl _) trivial ⟨rfl, rfl⟩
    rw [if_neg hw3] at h
    by_cases hw4 : (v1).toInt = 3
    · rw [if_pos hw4] at h
      refine mv_G_sw (tgt := 78) (off := 77) rfl (by simp only [mv_sw, hw4]; rfl) (by decide) ?_
      refine mv_G_run 4 (F' := (88, [some (.ref 0), some (.int v1)], [.int (I (kb (!false) 2) 1)], 0, 0, kjS false I L)) rfl ?_
      obtain rfl := Option.some.inj h
      exact mv_G_ret rfl rfl rfl (Nat.le_refl _) trivial ⟨rfl, rfl⟩
    rw [if_neg hw4] at h
    by_cases hw5 : (v1).toInt = 4
    · rw [if_pos hw5] at h
      refine mv_G_sw (tgt := 89) (off := 88) rfl (by simp only [mv_sw, hw5]; rfl) (by decide) ?_
      refine mv_G_run 2 (F' := (93, [some (.ref 0), some (.int v1)], [.int (I 0 2)], 0, 0, kjS false I L)) rfl ?_
      obtain rfl := Option.some.inj h
      exact mv_G_ret rfl rfl rfl (Nat.le_refl _) trivial ⟨rfl, rfl⟩
    rw [if_neg hw5] at h
    refine mv_G_sw (tgt := 94) (off := 93) rfl (by
    have hz6 : ((v1).toInt < 0 ∨ 4 < (v1).toInt) := by omega
    rcases hz6 with hz6
    · exact if_pos hz6) (by decide) ?_
    refine mv_G_run 1 (F' := (95, [some (.ref 0), some (.int v1)], [.int (-1 : Int32)], 0, 0, kjS false I L)) rfl ?_
    obtain rfl := Option.some.inj h
    exact mv_G_ret rfl rfl rfl (Nat.le_refl _) trivial ⟨rfl, rfl⟩
  · unfold kf12 at h
    refine mv_C_in kjM_12 (lc := [some (.ref 0), some (.int v1)]) rfl rfl rfl ?_
    refine mv_G_run 1 (F' := (1, [some (.ref 0), some (.int v1)], [.int v1], 0, 0, kjS true I L)) rfl ?_
    by_cases hw1 : (v1).toInt = 0
    · rw [if_pos hw1] at h
      refine mv_G_sw (tgt := 36) (off := 35) rfl (by simp only [mv_sw, hw1]; rfl) (by decide) ?_
      refine mv_G_run 5 (F' := (49, [some (.ref 0), some (.int v1)], [.int (I (kb true 14) 3)], 0, 0, kjS true I L)) rfl ?_
      obtain rfl := Option.some.inj h
      exact mv_G_ret rfl rfl rfl (Nat.le_refl _) trivial ⟨rfl, rfl⟩
    rw [if_neg hw1] at h
    by_cases hw2 : (v1).toInt = 1
    · rw [if_pos hw2] at h
      refine mv_G_sw (tgt := 50) (off := 49) rfl (by simp only [mv_sw, hw2]; rfl) (by decide) ?_
      refine mv_G_run 5 (F' := (63, [some (.ref 0), some (.int v1)], [.int (I (kb true 5) 4)], 0, 0, kjS true I L)) rfl ?_
      obtain rfl := Option.some.inj h
      exact mv_G_ret rfl rfl rfl (Nat.le_refl _) trivial ⟨rfl, rfl⟩
    rw [if_neg hw2] at h
    by_cases hw3 : (v1).toInt = 2
    · rw [if_pos hw3] at h
      refine mv_G_sw (tgt := 64) (off := 63) rfl (by simp only [mv_sw, hw3]; rfl) (by decide) ?_
      refine mv_G_run 5 (F' := (77, [some (.ref 0), some (.int v1)], [.int (I (kb true 10) 3)], 0, 0, kjS true I L)) rfl ?_
      obtain rfl := Option.some.inj h
      exact mv_G_ret rfl rfl rfl (Nat.le_refl _) trivial ⟨rfl, rfl⟩
    rw [if_neg hw3] at h
    by_cases hw4 : (v1).toInt = 3
    · rw [if_pos hw4] at h
      refine mv_G_sw (tgt := 78) (off := 77) rfl (by simp only [mv_sw, hw4]; rfl) (by decide) ?_
      refine mv_G_run 4 (F' := (88, [some (.ref 0), some (.int v1)], [.int (I (kb (!true) 2) 1)], 0, 0, kjS true I L)) rfl ?_
      obtain rfl := Option.some.inj h
      exact mv_G_ret rfl rfl rfl (Nat.le_refl _) trivial ⟨rfl, rfl⟩
    rw [if_neg hw4] at h
    by_cases hw5 : (v1).toInt = 4
    · rw [if_pos hw5] at h
      refine mv_G_sw (tgt := 89) (off := 88) rfl (by simp only [mv_sw, hw5]; rfl) (by decide) ?_
      refine mv_G_run 2 (F' := (93, [some (.ref 0), some (.int v1)], [.int (I 0 2)], 0, 0, kjS true I L)) rfl ?_
      obtain rfl := Option.some.inj h
      exact mv_G_ret rfl rfl rfl (Nat.le_refl _) trivial ⟨rfl, rfl⟩
    rw [if_neg hw5] at h
    refine mv_G_sw (tgt := 94) (off := 93) rfl (by
    have hz6 : ((v1).toInt < 0 ∨ 4 < (v1).toInt) := by omega
    rcases hz6 with hz6
    · exact if_pos hz6) (by decide) ?_
    refine mv_G_run 1 (F' := (95, [some (.ref 0), some (.int v1)], [.int (-1 : Int32)], 0, 0, kjS true I L)) rfl ?_
    obtain rfl := Option.some.inj h
    exact mv_G_ret rfl rfl rfl (Nat.le_refl _) trivial ⟨rfl, rfl⟩
/-! KindJudge.keepFault(III)V on ('c', 0) -/
def kf14 (f : Bool) (v1 : Int32) (v2 : Int32) (v3 : Int32) (I : kjI) (L : kjL) : Option (kjI × kjL) :=
  some ((mv_up (mv_up (mv_up I 0 3 v1) 0 4 v2) 0 5 v3), L)
set_option maxRecDepth 100000 in
set_option maxHeartbeats 4000000 in
theorem kf14_ok (f : Bool) (v1 : Int32) (v2 : Int32) (v3 : Int32) (I : kjI) (L : kjL) (d : Nat) (r : kjI × kjL) (h : kf14 f v1 v2 v3 I L = some r) : mv_C kjP kjSta (d + 1) 14 [.ref 0, .int v1, .int v2, .int v3] (kjS f I L) (kjQwv f r) := by
  cases f
  · unfold kf14 at h
    refine mv_C_in kjM_14 (lc := [some (.ref 0), some (.int v1), some (.int v2), some (.int v3)]) rfl rfl rfl ?_
    refine mv_G_run 9 (F' := (15, [some (.ref 0), some (.int v1), some (.int v2), some (.int v3)], [], 0, 0, kjS false (mv_up (mv_up (mv_up I 0 3 v1) 0 4 v2) 0 5 v3) L)) rfl ?_
    obtain rfl := Option.some.inj h
    exact mv_G_ret rfl rfl rfl (Nat.le_refl _) trivial ⟨rfl, rfl⟩
  · unfold kf14 at h
    refine mv_C_in kjM_14 (lc := [some (.ref 0), some (.int v1), some (.int v2), some (.int v3)]) rfl rfl rfl ?_
    refine mv_G_run 9 (F' := (15, [some (.ref 0), some (.int v1), some (.int v2), some (.int v3)], [], 0, 0, kjS true (mv_up (mv_up (mv_up I 0 3 v1) 0 4 v2) 0 5 v3) L)) rfl ?_
    obtain rfl := Option.some.inj h
    exact mv_G_ret rfl rfl rfl (Nat.le_refl _) trivial ⟨rfl, rfl⟩
/-! KindJudge$Reader.begin()V on ('b', 23) -/
def kf54 (b : Bool) (I : kjI) (L : kjL) : Option (kjI × kjL) :=
  some ((mv_up (mv_up I (kb b 23) 1 (0 : Int32)) (kb b 23) 2 (0 : Int32)), L)
set_option maxRecDepth 100000 in
set_option maxHeartbeats 4000000 in
theorem kf54_ok (f : Bool) (b : Bool) (I : kjI) (L : kjL) (d : Nat) (r : kjI × kjL) (h : kf54 b I L = some r) : mv_C kjP kjSta (d + 1) 54 [.ref (kb b 23)] (kjS f I L) (kjQwv f r) := by
  cases b
  · unfold kf54 at h
    refine mv_C_in kjM_54 (lc := [some (.ref (kb false 23))]) rfl rfl rfl ?_
    refine mv_G_run 6 (F' := (10, [some (.ref (kb false 23))], [], 0, 0, kjS f (mv_up (mv_up I (kb false 23) 1 (0 : Int32)) (kb false 23) 2 (0 : Int32)) L)) rfl ?_
    obtain rfl := Option.some.inj h
    exact mv_G_ret rfl rfl rfl (Nat.le_refl _) trivial ⟨rfl, rfl⟩
  · unfold kf54 at h
    refine mv_C_in kjM_54 (lc := [some (.ref (kb true 23))]) rfl rfl rfl ?_
    refine mv_G_run 6 (F' := (10, [some (.ref (kb true 23))], [], 0, 0, kjS f (mv_up (mv_up I (kb true 23) 1 (0 : Int32)) (kb true 23) 2 (0 : Int32)) L)) rfl ?_
    obtain rfl := Option.some.inj h
    exact mv_G_ret rfl rfl rfl (Nat.le_refl _) trivial ⟨rfl, rfl⟩
/-! KindJudge$Bytes.at(I)I on ('b', 2) -/
def kf22 (b : Bool) (I : kjI) (L : kjL) (v1 : Int32) : Option (Int32) :=
  if v1 < 0 then (some (-1 : Int32)) else (if (I (kb b 2) 1) ≤ v1 then (some (-1 : Int32)) else (none))
set_option maxRecDepth 100000 in
set_option maxHeartbeats 4000000 in
theorem kf22_ok (f : Bool) (b : Bool) (I : kjI) (L : kjL) (v1 : Int32) (d : Nat) (r : Int32) (h : kf22 b I L v1 = some r) : mv_C kjP kjSta (d + 1) 22 [.ref (kb b 2), .int v1] (kjS f I L) (kjQi f I L r) := by
  cases b
  · unfold kf22 at h
    refine mv_C_in kjM_22 (lc := [some (.ref (kb false 2)), some (.int v1)]) rfl rfl rfl ?_
    refine mv_G_run 1 (F' := (1, [some (.ref (kb false 2)), some (.int v1)], [.int v1], 0, 0, kjS f I L)) rfl ?_
    by_cases hc1 : v1 < 0
    · rw [if_pos hc1] at h
      refine mv_G_br (tgt := 25) rfl rfl (by decide) (fun _ => ?_) (fun z => absurd hc1 z)
      refine mv_G_run 1 (F' := (26, [some (.ref (kb false 2)), some (.int v1)], [.int (-1 : Int32)], 0, 0, kjS f I L)) rfl ?_
      obtain rfl := Option.some.inj h
      exact mv_G_ret rfl rfl rfl (Nat.le_refl _) trivial ⟨rfl, rfl⟩
    · rw [if_neg hc1] at h
      refine mv_G_br (tgt := 25) rfl rfl (by decide) (fun z => absurd z hc1) (fun _ => ?_)
      refine mv_G_run 3 (F' := (9, [some (.ref (kb false 2)), some (.int v1)], [.int (I (kb false 2) 1), .int v1], 0, 0, kjS f I L)) rfl ?_
      by_cases hc2 : (I (kb false 2) 1) ≤ v1
      · rw [if_pos hc2] at h
        refine mv_G_br (tgt := 25) rfl rfl (by decide) (fun _ => ?_) (fun z => absurd hc2 z)
        refine mv_G_run 1 (F' := (26, [some (.ref (kb false 2)), some (.int v1)], [.int (-1 : Int32)], 0, 0, kjS f I L)) rfl ?_
        obtain rfl := Option.some.inj h
        exact mv_G_ret rfl rfl rfl (Nat.le_refl _) trivial ⟨rfl, rfl⟩
      · rw [if_neg hc2] at h
        refine mv_G_br (tgt := 25) rfl rfl (by decide) (fun z => absurd z hc2) (fun _ => ?_)
        cases h
  · unfold kf22 at h
    refine mv_C_in kjM_22 (lc := [some (.ref (kb true 2)), some (.int v1)]) rfl rfl rfl ?_
    refine mv_G_run 1 (F' := (1, [some (.ref (kb true 2)), some (.int v1)], [.int v1], 0, 0, kjS f I L)) rfl ?_
    by_cases hc1 : v1 < 0
    · rw [if_pos hc1] at h
      refine mv_G_br (tgt := 25) rfl rfl (by decide) (fun _ => ?_) (fun z => absurd hc1 z)
      refine mv_G_run 1 (F' := (26, [some (.ref (kb true 2)), some (.int v1)], [.int (-1 : Int32)], 0, 0, kjS f I L)) rfl ?_
      obtain rfl := Option.some.inj h
      exact mv_G_ret rfl rfl rfl (Nat.le_refl _) trivial ⟨rfl, rfl⟩
    · rw [if_neg hc1] at h
      refine mv_G_br (tgt := 25) rfl rfl (by decide) (fun z => absurd z hc1) (fun _ => ?_)
      refine mv_G_run 3 (F' := (9, [some (.ref (kb true 2)), some (.int v1)], [.int (I (kb true 2) 1), .int v1], 0, 0, kjS f I L)) rfl ?_
      by_cases hc2 : (I (kb true 2) 1) ≤ v1
      · rw [if_pos hc2] at h
        refine mv_G_br (tgt := 25) rfl rfl (by decide) (fun _ => ?_) (fun z => absurd hc2 z)
        refine mv_G_run 1 (F' := (26, [some (.ref (kb true 2)), some (.int v1)], [.int (-1 : Int32)], 0, 0, kjS f I L)) rfl ?_
        obtain rfl := Option.some.inj h
        exact mv_G_ret rfl rfl rfl (Nat.le_refl _) trivial ⟨rfl, rfl⟩
      · rw [if_neg hc2] at h
        refine mv_G_br (tgt := 25) rfl rfl (by decide) (fun z => absurd z hc2) (fun _ => ?_)
        cases h
/-! KindJudge$Reader.ahead()I on ('b', 23) -/
def kf58 (b : Bool) (I : kjI) (L : kjL) : Option (Int32) :=
  if (I (kb b 23) 2) = 0 then ((kf22 b I L (I (kb b 23) 1)).bind fun r2 => some r2) else (some (-1 : Int32))
set_option maxRecDepth 100000 in
set_option maxHeartbeats 4000000 in
theorem kf58_ok (f : Bool) (b : Bool) (I : kjI) (L : kjL) (d : Nat) (r : Int32) (h : kf58 b I L = some r) : mv_C kjP kjSta (d + 2) 58 [.ref (kb b 23)] (kjS f I L) (kjQi f I L r) := by
  cases b
  · unfold kf58 at h
    refine mv_C_in kjM_58 (lc := [some (.ref (kb false 23))]) rfl rfl rfl ?_
    refine mv_G_run 2 (F' := (4, [some (.ref (kb false 23))], [.int (I (kb false 23) 2)], 0, 0, kjS f I L)) rfl ?_
    by_cases hc1 : (I (kb false 23) 2) = 0
    · rw [if_pos hc1] at h
      refine mv_G_br (tgt := 11) rfl rfl (by decide) (fun _ => ?_) (fun z => absurd hc1 z)
      refine mv_G_run 4 (F' := (19, [some (.ref (kb false 23))], [.int (I (kb false 23) 1), .ref (kb false 2)], 0, 0, kjS f I L)) rfl ?_
      obtain ⟨r2, hc3, h⟩ := mv_bd h
      refine mv_G_call (r := []) (kf22_ok _ _ _ _ _ _ _ hc3) rfl rfl rfl rfl rfl (Nat.le_of_ble_eq_true rfl) (Nat.le_of_ble_eq_true rfl) (Nat.le_of_ble_eq_true rfl) ?_
      rintro _ _ ⟨rfl, rfl⟩
      obtain rfl := Option.some.inj h
      exact mv_G_ret rfl rfl rfl (Nat.le_refl _) trivial ⟨rfl, rfl⟩
    · rw [if_neg hc1] at h
      refine mv_G_br (tgt := 11) rfl rfl (by decide) (fun z => absurd z hc1) (fun _ => ?_)
      refine mv_G_run 2 (F' := (22, [some (.ref (kb false 23))], [.int (-1 : Int32)], 0, 0, kjS f I L)) rfl ?_
      obtain rfl := Option.some.inj h
      exact mv_G_ret rfl rfl rfl (Nat.le_refl _) trivial ⟨rfl, rfl⟩
  · unfold kf58 at h
    refine mv_C_in kjM_58 (lc := [some (.ref (kb true 23))]) rfl rfl rfl ?_
    refine mv_G_run 2 (F' := (4, [some (.ref (kb true 23))], [.int (I (kb true 23) 2)], 0, 0, kjS f I L)) rfl ?_
    by_cases hc1 : (I (kb true 23) 2) = 0
    · rw [if_pos hc1] at h
      refine mv_G_br (tgt := 11) rfl rfl (by decide) (fun _ => ?_) (fun z => absurd hc1 z)
      refine mv_G_run 4 (F' := (19, [some (.ref (kb true 23))], [.int (I (kb true 23) 1), .ref (kb true 2)], 0, 0, kjS f I L)) rfl ?_
      obtain ⟨r2, hc3, h⟩ := mv_bd h
      refine mv_G_call (r := []) (kf22_ok _ _ _ _ _ _ _ hc3) rfl rfl rfl rfl rfl (Nat.le_of_ble_eq_true rfl) (Nat.le_of_ble_eq_true rfl) (Nat.le_of_ble_eq_true rfl) ?_
      rintro _ _ ⟨rfl, rfl⟩
      obtain rfl := Option.some.inj h
      exact mv_G_ret rfl rfl rfl (Nat.le_refl _) trivial ⟨rfl, rfl⟩
    · rw [if_neg hc1] at h
      refine mv_G_br (tgt := 11) rfl rfl (by decide) (fun z => absurd z hc1) (fun _ => ?_)
      refine mv_G_run 2 (F' := (22, [some (.ref (kb true 23))], [.int (-1 : Int32)], 0, 0, kjS f I L)) rfl ?_
      obtain rfl := Option.some.inj h
      exact mv_G_ret rfl rfl rfl (Nat.le_refl _) trivial ⟨rfl, rfl⟩
/-! KindJudge$Reader.pass(Z)Z on ('b', 23) -/
def kf59 (b : Bool) (v1 : Int32) (I : kjI) (L : kjL) : Option (Int32 × kjI × kjL) :=
  if v1 = 0 then (some ((0 : Int32), (mv_up I (kb b 23) 2 (1 : Int32)), L)) else (none)
set_option maxRecDepth 100000 in
set_option maxHeartbeats 4000000 in
theorem kf59_ok (f : Bool) (b : Bool) (v1 : Int32) (I : kjI) (L : kjL) (d : Nat) (r : Int32 × kjI × kjL) (h : kf59 b v1 I L = some r) : mv_C kjP kjSta (d + 1) 59 [.ref (kb b 23), .int v1] (kjS f I L) (kjQwi f r) := by
  cases b
  · unfold kf59 at h
    refine mv_C_in kjM_59 (lc := [some (.ref (kb false 23)), some (.int v1)]) rfl rfl rfl ?_
    refine mv_G_run 1 (F' := (1, [some (.ref (kb false 23)), some (.int v1)], [.int v1], 0, 0, kjS f I L)) rfl ?_
    by_cases hc1 : v1 = 0
    · rw [if_pos hc1] at h
      refine mv_G_br (tgt := 25) rfl rfl (by decide) (fun _ => ?_) (fun z => absurd hc1 z)
      refine mv_G_run 4 (F' := (31, [some (.ref (kb false 23)), some (.int v1)], [.int (0 : Int32)], 0, 0, kjS f (mv_up I (kb false 23) 2 (1 : Int32)) L)) rfl ?_
      obtain rfl := Option.some.inj h
      exact mv_G_ret rfl rfl rfl (Nat.le_refl _) (Or.inl rfl) ⟨rfl, rfl⟩
    · rw [if_neg hc1] at h
      refine mv_G_br (tgt := 25) rfl rfl (by decide) (fun z => absurd z hc1) (fun _ => ?_)
      cases h
  · unfold kf59 at h
    refine mv_C_in kjM_59 (lc := [some (.ref (kb true 23)), some (.int v1)]) rfl rfl rfl ?_
    refine mv_G_run 1 (F' := (1, [some (.ref (kb true 23)), some (.int v1)], [.int v1], 0, 0, kjS f I L)) rfl ?_
    by_cases hc1 : v1 = 0
    · rw [if_pos hc1] at h
      refine mv_G_br (tgt := 25) rfl rfl (by decide) (fun _ => ?_) (fun z => absurd hc1 z)
      refine mv_G_run 4 (F' := (31, [some (.ref (kb true 23)), some (.int v1)], [.int (0 : Int32)], 0, 0, kjS f (mv_up I (kb true 23) 2 (1 : Int32)) L)) rfl ?_
      obtain rfl := Option.some.inj h
      exact mv_G_ret rfl rfl rfl (Nat.le_refl _) (Or.inl rfl) ⟨rfl, rfl⟩
    · rw [if_neg hc1] at h
      refine mv_G_br (tgt := 25) rfl rfl (by decide) (fun z => absurd z hc1) (fun _ => ?_)
      cases h
/-! KindJudge$Reader.number(II)I on ('b', 23) -/
def kf60 (b : Bool) (v1 : Int32) (v2 : Int32) (I : kjI) (L : kjL) : Option (Int32 × kjI × kjL) :=
  (kf58 b I L).bind fun r1 => if r1 < v1 then ((kf59 b (0 : Int32) I L).bind fun r4 => if r4.1 = 0 then (some (v1, r4.2.1, r4.2.2)) else (none)) else (none)
set_option maxRecDepth 100000 in
set_option maxHeartbeats 4000000 in
theorem kf60_ok (f : Bool) (b : Bool) (v1 : Int32) (v2 : Int32) (I : kjI) (L : kjL) (d : Nat) (r : Int32 × kjI × kjL) (h : kf60 b v1 v2 I L = some r) : mv_C kjP kjSta (d + 3) 60 [.ref (kb b 23), .int v1, .int v2] (kjS f I L) (kjQwi f r) := by
  cases b
  · unfold kf60 at h
    refine mv_C_in kjM_60 (lc := [some (.ref (kb false 23)), some (.int v1), some (.int v2), none]) rfl rfl rfl ?_
    refine mv_G_run 1 (F' := (1, [some (.ref (kb false 23)), some (.int v1), some (.int v2), none], [.ref (kb false 23)], 0, 0, kjS f I L)) rfl ?_
    obtain ⟨r1, hc2, h⟩ := mv_bd h
    refine mv_G_call (r := []) (kf58_ok _ _ _ _ _ _ hc2) rfl rfl rfl rfl rfl (Nat.le_of_ble_eq_true rfl) (Nat.le_of_ble_eq_true rfl) (Nat.le_of_ble_eq_true rfl) ?_
    rintro _ _ ⟨rfl, rfl⟩
    refine mv_G_run 4 (F' := (8, [some (.ref (kb false 23)), some (.int v1), some (.int v2), some (.int r1)], [.int v1, .int r1, .ref (kb false 23)], 0, 0, kjS f I L)) rfl ?_
    by_cases hc3 : r1 < v1
    · rw [if_pos hc3] at h
      refine mv_G_br (tgt := 20) rfl rfl (by decide) (fun _ => ?_) (fun z => absurd hc3 z)
      refine mv_G_run 1 (F' := (21, [some (.ref (kb false 23)), some (.int v1), some (.int v2), some (.int r1)], [.int (0 : Int32), .ref (kb false 23)], 0, 0, kjS f I L)) rfl ?_
      obtain ⟨r4, hc5, h⟩ := mv_bd h
      refine mv_G_call (r := []) (kf59_ok _ _ _ _ _ _ _ hc5) rfl rfl rfl rfl rfl (Nat.le_of_ble_eq_true rfl) (Nat.le_of_ble_eq_true rfl) (Nat.le_of_ble_eq_true rfl) ?_
      rintro _ _ ⟨rfl, rfl⟩
      by_cases hc6 : r4.1 = 0
      · rw [if_pos hc6] at h
        refine mv_G_br (tgt := 31) rfl rfl (by decide) (fun _ => ?_) (fun z => absurd hc6 z)
        refine mv_G_run 1 (F' := (32, [some (.ref (kb false 23)), some (.int v1), some (.int v2), some (.int r1)], [.int v1], 0, 0, kjS f r4.2.1 r4.2.2)) rfl ?_
        obtain rfl := Option.some.inj h
        exact mv_G_ret rfl rfl rfl (Nat.le_refl _) trivial ⟨rfl, rfl⟩
      · rw [if_neg hc6] at h
        refine mv_G_br (tgt := 31) rfl rfl (by decide) (fun z => absurd z hc6) (fun _ => ?_)
        cases h
    · rw [if_neg hc3] at h
      refine mv_G_br (tgt := 20) rfl rfl (by decide) (fun z => absurd z hc3) (fun _ => ?_)
      cases h
  · unfold kf60 at h
    refine mv_C_in kjM_60 (lc := [some (.ref (kb true 23)), some (.int v1), some (.int v2), none]) rfl rfl rfl ?_
    refine mv_G_run 1 (F' := (1, [some (.ref (kb true 23)), some (.int v1), some (.int v2), none], [.ref (kb true 23)], 0, 0, kjS f I L)) rfl ?_
    obtain ⟨r1, hc2, h⟩ := mv_bd h
    refine mv_G_call (r := []) (kf58_ok _ _ _ _ _ _ hc2) rfl rfl rfl rfl rfl (Nat.le_of_ble_eq_true rfl) (Nat.le_of_ble_eq_true rfl) (Nat.le_of_ble_eq_true rfl) ?_
    rintro _ _ ⟨rfl, rfl⟩
    refine mv_G_run 4 (F' := (8, [some (.ref (kb true 23)), some (.int v1), some (.int v2), some (.int r1)], [.int v1, .int r1, .ref (kb true 23)], 0, 0, kjS f I L)) rfl ?_
    by_cases hc3 : r1 < v1
    · rw [if_pos hc3] at h
      refine mv_G_br (tgt := 20) rfl rfl (by decide) (fun _ => ?_) (fun z => absurd hc3 z)
      refine mv_G_run 1 (F' := (21, [some (.ref (kb true 23)), some (.int v1), some (.int v2), some (.int r1)], [.int (0 : Int32), .ref (kb true 23)], 0, 0, kjS f I L)) rfl ?_
      obtain ⟨r4, hc5, h⟩ := mv_bd h
      refine mv_G_call (r := []) (kf59_ok _ _ _ _ _ _ _ hc5) rfl rfl rfl rfl rfl (Nat.le_of_ble_eq_true rfl) (Nat.le_of_ble_eq_true rfl) (Nat.le_of_ble_eq_true rfl) ?_
      rintro _ _ ⟨rfl, rfl⟩
      by_cases hc6 : r4.1 = 0
      · rw [if_pos hc6] at h
        refine mv_G_br (tgt := 31) rfl rfl (by decide) (fun _ => ?_) (fun z => absurd hc6 z)
        refine mv_G_run 1 (F' := (32, [some (.ref (kb true 23)), some (.int v1), some (.int v2), some (.int r1)], [.int v1], 0, 0, kjS f r4.2.1 r4.2.2)) rfl ?_
        obtain rfl := Option.some.inj h
        exact mv_G_ret rfl rfl rfl (Nat.le_refl _) trivial ⟨rfl, rfl⟩
      · rw [if_neg hc6] at h
        refine mv_G_br (tgt := 31) rfl rfl (by decide) (fun z => absurd z hc6) (fun _ => ?_)
        cases h
    · rw [if_neg hc3] at h
      refine mv_G_br (tgt := 20) rfl rfl (by decide) (fun z => absurd z hc3) (fun _ => ?_)
      cases h
/-! KindJudge$Classes.read(LKindJudge$Reader;)V on ('b', 5) -/
def kf35 (b : Bool) (I : kjI) (L : kjL) : Option (kjI × kjL) :=
  (kf60 b (0 : Int32) (8 : Int32) I L).bind fun r1 => if ((mv_up r1.2.1 (kb b 5) 4 r1.1) (kb b 5) 4) ≤ (0 : Int32) then (some ((mv_up r1.2.1 (kb b 5) 4 r1.1), r1.2.2)) else (none)
set_option maxRecDepth 100000 in
set_option maxHeartbeats 4000000 in
theorem kf35_ok (f : Bool) (b : Bool) (I : kjI) (L : kjL) (d : Nat) (r : kjI × kjL) (h : kf35 b I L = some r) : mv_C kjP kjSta (d + 5) 35 [.ref (kb b 5), .ref (kb b 23)] (kjS f I L) (kjQwv f r) := by
  cases b
  · unfold kf35 at h
    refine mv_C_in kjM_35 (lc := [some (.ref (kb false 5)), some (.ref (kb false 23)), none]) rfl rfl rfl ?_
    refine mv_G_run 4 (F' := (5, [some (.ref (kb false 5)), some (.ref (kb false 23)), none], [.int (8 : Int32), .int (0 : Int32), .ref (kb false 23), .ref (kb false 5)], 0, 0, kjS f I L)) rfl ?_
    obtain ⟨r1, hc2, h⟩ := mv_bd h
    refine mv_G_call (r := [.ref (kb false 5)]) (kf60_ok _ _ _ _ _ _ _ _ hc2) rfl rfl rfl rfl rfl (Nat.le_of_ble_eq_true rfl) (Nat.le_of_ble_eq_true rfl) (Nat.le_of_ble_eq_true rfl) ?_
    rintro _ _ ⟨rfl, rfl⟩
    refine mv_G_run 6 (F' := (18, [some (.ref (kb false 5)), some (.ref (kb false 23)), some (.int (0 : Int32))], [.int ((mv_up r1.2.1 (kb false 5) 4 r1.1) (kb false 5) 4), .int (0 : Int32)], 0, 0, kjS f (mv_up r1.2.1 (kb false 5) 4 r1.1) r1.2.2)) rfl ?_
    by_cases hc3 : ((mv_up r1.2.1 (kb false 5) 4 r1.1) (kb false 5) 4) ≤ (0 : Int32)
    · rw [if_pos hc3] at h
      refine mv_G_br (tgt := 40) rfl rfl (by decide) (fun _ => ?_) (fun z => absurd hc3 z)
      obtain rfl := Option.some.inj h
      exact mv_G_ret rfl rfl rfl (Nat.le_refl _) trivial ⟨rfl, rfl⟩
    · rw [if_neg hc3] at h
      refine mv_G_br (tgt := 40) rfl rfl (by decide) (fun z => absurd z hc3) (fun _ => ?_)
      cases h
  · unfold kf35 at h
    refine mv_C_in kjM_35 (lc := [some (.ref (kb true 5)), some (.ref (kb true 23)), none]) rfl rfl rfl ?_
    refine mv_G_run 4 (F' := (5, [some (.ref (kb true 5)), some (.ref (kb true 23)), none], [.int (8 : Int32), .int (0 : Int32), .ref (kb true 23), .ref (kb true 5)], 0, 0, kjS f I L)) rfl ?_
    obtain ⟨r1, hc2, h⟩ := mv_bd h
    refine mv_G_call (r := [.ref (kb true 5)]) (kf60_ok _ _ _ _ _ _ _ _ hc2) rfl rfl rfl rfl rfl (Nat.le_of_ble_eq_true rfl) (Nat.le_of_ble_eq_true rfl) (Nat.le_of_ble_eq_true rfl) ?_
    rintro _ _ ⟨rfl, rfl⟩
    refine mv_G_run 6 (F' := (18, [some (.ref (kb true 5)), some (.ref (kb true 23)), some (.int (0 : Int32))], [.int ((mv_up r1.2.1 (kb true 5) 4 r1.1) (kb true 5) 4), .int (0 : Int32)], 0, 0, kjS f (mv_up r1.2.1 (kb true 5) 4 r1.1) r1.2.2)) rfl ?_
    by_cases hc3 : ((mv_up r1.2.1 (kb true 5) 4 r1.1) (kb true 5) 4) ≤ (0 : Int32)
    · rw [if_pos hc3] at h
      refine mv_G_br (tgt := 40) rfl rfl (by decide) (fun _ => ?_) (fun z => absurd hc3 z)
      obtain rfl := Option.some.inj h
      exact mv_G_ret rfl rfl rfl (Nat.le_refl _) trivial ⟨rfl, rfl⟩
    · rw [if_neg hc3] at h
      refine mv_G_br (tgt := 40) rfl rfl (by decide) (fun z => absurd z hc3) (fun _ => ?_)
      cases h
/-! KindJudge$Signatures.readNumber(LKindJudge$Reader;II)V on ('b', 10) -/
def kf47 (b : Bool) (v2 : Int32) (v3 : Int32) (I : kjI) (L : kjL) : Option (kjI × kjL) :=
  (kf60 b v2 (if (16 : Int32) < v3 then (16 : Int32) else v3) I L).bind fun r1 => some ((mv_up r1.2.1 (kb b 10) 3 r1.1), r1.2.2)
set_option maxRecDepth 100000 in
set_option maxHeartbeats 4000000 in
theorem kf47_ok (f : Bool) (b : Bool) (v2 : Int32) (v3 : Int32) (I : kjI) (L : kjL) (d : Nat) (r : kjI × kjL) (h : kf47 b v2 v3 I L = some r) : mv_C kjP kjSta (d + 4) 47 [.ref (kb b 10), .ref (kb b 23), .int v2, .int v3] (kjS f I L) (kjQwv f r) := by
  cases b
  · unfold kf47 at h
    refine mv_C_in kjM_47 (lc := [some (.ref (kb false 10)), some (.ref (kb false 23)), some (.int v2), some (.int v3)]) rfl rfl rfl ?_
    refine mv_G_run 6 (F' := (9, [some (.ref (kb false 10)), some (.ref (kb false 23)), some (.int v2), some (.int v3)], [.int (if (16 : Int32) < v3 then (16 : Int32) else v3), .int v2, .ref (kb false 23), .ref (kb false 10)], 0, 0, kjS f I L)) rfl ?_
    obtain ⟨r1, hc2, h⟩ := mv_bd h
    refine mv_G_call (r := [.ref (kb false 10)]) (kf60_ok _ _ _ _ _ _ _ _ hc2) rfl rfl rfl rfl rfl (Nat.le_of_ble_eq_true rfl) (Nat.le_of_ble_eq_true rfl) (Nat.le_of_ble_eq_true rfl) ?_
    rintro _ _ ⟨rfl, rfl⟩
    refine mv_G_run 1 (F' := (15, [some (.ref (kb false 10)), some (.ref (kb false 23)), some (.int v2), some (.int v3)], [], 0, 0, kjS f (mv_up r1.2.1 (kb false 10) 3 r1.1) r1.2.2)) rfl ?_
    obtain rfl := Option.some.inj h
    exact mv_G_ret rfl rfl rfl (Nat.le_refl _) trivial ⟨rfl, rfl⟩
  · unfold kf47 at h
    refine mv_C_in kjM_47 (lc := [some (.ref (kb true 10)), some (.ref (kb true 23)), some (.int v2), some (.int v3)]) rfl rfl rfl ?_
    refine mv_G_run 6 (F' := (9, [some (.ref (kb true 10)), some (.ref (kb true 23)), some (.int v2), some (.int v3)], [.int (if (16 : Int32) < v3 then (16 : Int32) else v3), .int v2, .ref (kb true 23), .ref (kb true 10)], 0, 0, kjS f I L)) rfl ?_
    obtain ⟨r1, hc2, h⟩ := mv_bd h
    refine mv_G_call (r := [.ref (kb true 10)]) (kf60_ok _ _ _ _ _ _ _ _ hc2) rfl rfl rfl rfl rfl (Nat.le_of_ble_eq_true rfl) (Nat.le_of_ble_eq_true rfl) (Nat.le_of_ble_eq_true rfl) ?_
    rintro _ _ ⟨rfl, rfl⟩
    refine mv_G_run 1 (F' := (15, [some (.ref (kb true 10)), some (.ref (kb true 23)), some (.int v2), some (.int v3)], [], 0, 0, kjS f (mv_up r1.2.1 (kb true 10) 3 r1.1) r1.2.2)) rfl ?_
    obtain rfl := Option.some.inj h
    exact mv_G_ret rfl rfl rfl (Nat.le_refl _) trivial ⟨rfl, rfl⟩
/-! KindJudge$Signatures.readNumber(LKindJudge$Reader;II)V on ('b', 14) -/
def kf47a (b : Bool) (v2 : Int32) (v3 : Int32) (I : kjI) (L : kjL) : Option (kjI × kjL) :=
  (kf60 b v2 (if (16 : Int32) < v3 then (16 : Int32) else v3) I L).bind fun r1 => some ((mv_up r1.2.1 (kb b 14) 3 r1.1), r1.2.2)
set_option maxRecDepth 100000 in
set_option maxHeartbeats 4000000 in
theorem kf47a_ok (f : Bool) (b : Bool) (v2 : Int32) (v3 : Int32) (I : kjI) (L : kjL) (d : Nat) (r : kjI × kjL) (h : kf47a b v2 v3 I L = some r) : mv_C kjP kjSta (d + 4) 47 [.ref (kb b 14), .ref (kb b 23), .int v2, .int v3] (kjS f I L) (kjQwv f r) := by
  cases b
  · unfold kf47a at h
    refine mv_C_in kjM_47 (lc := [some (.ref (kb false 14)), some (.ref (kb false 23)), some (.int v2), some (.int v3)]) rfl rfl rfl ?_
    refine mv_G_run 6 (F' := (9, [some (.ref (kb false 14)), some (.ref (kb false 23)), some (.int v2), some (.int v3)], [.int (if (16 : Int32) < v3 then (16 : Int32) else v3), .int v2, .ref (kb false 23), .ref (kb false 14)], 0, 0, kjS f I L)) rfl ?_
    obtain ⟨r1, hc2, h⟩ := mv_bd h
    refine mv_G_call (r := [.ref (kb false 14)]) (kf60_ok _ _ _ _ _ _ _ _ hc2) rfl rfl rfl rfl rfl (Nat.le_of_ble_eq_true rfl) (Nat.le_of_ble_eq_true rfl) (Nat.le_of_ble_eq_true rfl) ?_
    rintro _ _ ⟨rfl, rfl⟩
    refine mv_G_run 1 (F' := (15, [some (.ref (kb false 14)), some (.ref (kb false 23)), some (.int v2), some (.int v3)], [], 0, 0, kjS f (mv_up r1.2.1 (kb false 14) 3 r1.1) r1.2.2)) rfl ?_
    obtain rfl := Option.some.inj h
    exact mv_G_ret rfl rfl rfl (Nat.le_refl _) trivial ⟨rfl, rfl⟩
  · unfold kf47a at h
    refine mv_C_in kjM_47 (lc := [some (.ref (kb true 14)), some (.ref (kb true 23)), some (.int v2), some (.int v3)]) rfl rfl rfl ?_
    refine mv_G_run 6 (F' := (9, [some (.ref (kb true 14)), some (.ref (kb true 23)), some (.int v2), some (.int v3)], [.int (if (16 : Int32) < v3 then (16 : Int32) else v3), .int v2, .ref (kb true 23), .ref (kb true 14)], 0, 0, kjS f I L)) rfl ?_
    obtain ⟨r1, hc2, h⟩ := mv_bd h
    refine mv_G_call (r := [.ref (kb true 14)]) (kf60_ok _ _ _ _ _ _ _ _ hc2) rfl rfl rfl rfl rfl (Nat.le_of_ble_eq_true rfl) (Nat.le_of_ble_eq_true rfl) (Nat.le_of_ble_eq_true rfl) ?_
    rintro _ _ ⟨rfl, rfl⟩
    refine mv_G_run 1 (F' := (15, [some (.ref (kb true 14)), some (.ref (kb true 23)), some (.int v2), some (.int v3)], [], 0, 0, kjS f (mv_up r1.2.1 (kb true 14) 3 r1.1) r1.2.2)) rfl ?_
    obtain rfl := Option.some.inj h
    exact mv_G_ret rfl rfl rfl (Nat.le_refl _) trivial ⟨rfl, rfl⟩
/-! KindJudge$Reader.goesOn()Z on ('b', 23) -/
def kf55 (b : Bool) (I : kjI) (L : kjL) : Option (Int32) :=
  if ¬ (I (kb b 23) 2) = 0 then (some (0 : Int32)) else (none)
set_option maxRecDepth 100000 in
set_option maxHeartbeats 4000000 in
theorem kf55_ok (f : Bool) (b : Bool) (I : kjI) (L : kjL) (d : Nat) (r : Int32) (h : kf55 b I L = some r) : mv_C kjP kjSta (d + 1) 55 [.ref (kb b 23)] (kjS f I L) (kjQi f I L r) := by
  cases b
  · unfold kf55 at h
    refine mv_C_in kjM_55 (lc := [some (.ref (kb false 23))]) rfl rfl rfl ?_
    refine mv_G_run 2 (F' := (4, [some (.ref (kb false 23))], [.int (I (kb false 23) 2)], 0, 0, kjS f I L)) rfl ?_
    by_cases hc1 : ¬ (I (kb false 23) 2) = 0
    · rw [if_pos hc1] at h
      refine mv_G_br (tgt := 11) rfl rfl (by decide) (fun _ => ?_) (fun z => absurd hc1 z)
      refine mv_G_run 1 (F' := (12, [some (.ref (kb false 23))], [.int (0 : Int32)], 0, 0, kjS f I L)) rfl ?_
      obtain rfl := Option.some.inj h
      exact mv_G_ret rfl rfl rfl (Nat.le_refl _) (Or.inl rfl) ⟨rfl, rfl⟩
    · rw [if_neg hc1] at h
      refine mv_G_br (tgt := 11) rfl rfl (by decide) (fun z => absurd z hc1) (fun _ => ?_)
      cases h
  · unfold kf55 at h
    refine mv_C_in kjM_55 (lc := [some (.ref (kb true 23))]) rfl rfl rfl ?_
    refine mv_G_run 2 (F' := (4, [some (.ref (kb true 23))], [.int (I (kb true 23) 2)], 0, 0, kjS f I L)) rfl ?_
    by_cases hc1 : ¬ (I (kb true 23) 2) = 0
    · rw [if_pos hc1] at h
      refine mv_G_br (tgt := 11) rfl rfl (by decide) (fun _ => ?_) (fun z => absurd hc1 z)
      refine mv_G_run 1 (F' := (12, [some (.ref (kb true 23))], [.int (0 : Int32)], 0, 0, kjS f I L)) rfl ?_
      obtain rfl := Option.some.inj h
      exact mv_G_ret rfl rfl rfl (Nat.le_refl _) (Or.inl rfl) ⟨rfl, rfl⟩
    · rw [if_neg hc1] at h
      refine mv_G_br (tgt := 11) rfl rfl (by decide) (fun z => absurd z hc1) (fun _ => ?_)
      cases h
/-! KindJudge$Reader.isAtEnd()Z on ('b', 23) -/
def kf56 (b : Bool) (I : kjI) (L : kjL) : Option (Int32) :=
  if ¬ (I (kb b 23) 2) = 0 then (some (0 : Int32)) else (none)
set_option maxRecDepth 100000 in
set_option maxHeartbeats 4000000 in
theorem kf56_ok (f : Bool) (b : Bool) (I : kjI) (L : kjL) (d : Nat) (r : Int32) (h : kf56 b I L = some r) : mv_C kjP kjSta (d + 1) 56 [.ref (kb b 23)] (kjS f I L) (kjQi f I L r) := by
  cases b
  · unfold kf56 at h
    refine mv_C_in kjM_56 (lc := [some (.ref (kb false 23))]) rfl rfl rfl ?_
    refine mv_G_run 2 (F' := (4, [some (.ref (kb false 23))], [.int (I (kb false 23) 2)], 0, 0, kjS f I L)) rfl ?_
    by_cases hc1 : ¬ (I (kb false 23) 2) = 0
    · rw [if_pos hc1] at h
      refine mv_G_br (tgt := 25) rfl rfl (by decide) (fun _ => ?_) (fun z => absurd hc1 z)
      refine mv_G_run 1 (F' := (26, [some (.ref (kb false 23))], [.int (0 : Int32)], 0, 0, kjS f I L)) rfl ?_
      obtain rfl := Option.some.inj h
      exact mv_G_ret rfl rfl rfl (Nat.le_refl _) (Or.inl rfl) ⟨rfl, rfl⟩
    · rw [if_neg hc1] at h
      refine mv_G_br (tgt := 25) rfl rfl (by decide) (fun z => absurd z hc1) (fun _ => ?_)
      cases h
  · unfold kf56 at h
    refine mv_C_in kjM_56 (lc := [some (.ref (kb true 23))]) rfl rfl rfl ?_
    refine mv_G_run 2 (F' := (4, [some (.ref (kb true 23))], [.int (I (kb true 23) 2)], 0, 0, kjS f I L)) rfl ?_
    by_cases hc1 : ¬ (I (kb true 23) 2) = 0
    · rw [if_pos hc1] at h
      refine mv_G_br (tgt := 25) rfl rfl (by decide) (fun _ => ?_) (fun z => absurd hc1 z)
      refine mv_G_run 1 (F' := (26, [some (.ref (kb true 23))], [.int (0 : Int32)], 0, 0, kjS f I L)) rfl ?_
      obtain rfl := Option.some.inj h
      exact mv_G_ret rfl rfl rfl (Nat.le_refl _) (Or.inl rfl) ⟨rfl, rfl⟩
    · rw [if_neg hc1] at h
      refine mv_G_br (tgt := 25) rfl rfl (by decide) (fun z => absurd z hc1) (fun _ => ?_)
      cases h
/-! KindJudge$Layout.read()Z on ('b', 4) -/
def kf24_129 (b : Bool) (I : kjI) (L : kjL) : Option (Int32 × kjI × kjL) :=
  if (I (kb b 5) 4) ≤ (0 : Int32) then ((kf56 b I L).bind fun r2 => if r2 = 0 ∨ r2 = 1 then some (r2, I, L) else none) else (none)
set_option maxRecDepth 100000 in
set_option maxHeartbeats 4000000 in
theorem kf24_129_ok (f : Bool) (b : Bool) (d : Nat)  (I : kjI) (L : kjL) (r : Int32 × kjI × kjL) (h : kf24_129 b I L = some r) : mv_G kjP kjSta (mv_C kjP kjSta (d + 5)) kjM_24 (kjQwi f r) (129, [some (.ref (kb b 4)), none], [], 0, 0, kjS f I L) := by
  cases b
  · unfold kf24_129 at h
    refine mv_G_run 6 (F' := (139, [some (.ref (kb false 4)), some (.int (0 : Int32))], [.int (I (kb false 5) 4), .int (0 : Int32)], 0, 0, kjS f I L)) rfl ?_
    by_cases hc1 : (I (kb false 5) 4) ≤ (0 : Int32)
    · rw [if_pos hc1] at h
      refine mv_G_br (tgt := 163) rfl rfl (by decide) (fun _ => ?_) (fun z => absurd hc1 z)
      refine mv_G_run 2 (F' := (167, [some (.ref (kb false 4)), some (.int (0 : Int32))], [.ref (kb false 23)], 0, 0, kjS f I L)) rfl ?_
      obtain ⟨r2, hc3, h⟩ := mv_bd h
      refine mv_G_call (r := []) (kf56_ok _ _ _ _ _ _ hc3) rfl rfl rfl rfl rfl (Nat.le_of_ble_eq_true rfl) (Nat.le_of_ble_eq_true rfl) (Nat.le_of_ble_eq_true rfl) ?_
      rintro _ _ ⟨rfl, rfl⟩
      obtain ⟨hb4, h⟩ := mv_ifs h
      obtain rfl := Option.some.inj h
      exact mv_G_ret rfl rfl rfl (Nat.le_refl _) hb4 ⟨rfl, rfl⟩
    · rw [if_neg hc1] at h
      refine mv_G_br (tgt := 163) rfl rfl (by decide) (fun z => absurd z hc1) (fun _ => ?_)
      cases h
  · unfold kf24_129 at h
    refine mv_G_run 6 (F' := (139, [some (.ref (kb true 4)), some (.int (0 : Int32))], [.int (I (kb true 5) 4), .int (0 : Int32)], 0, 0, kjS f I L)) rfl ?_
    by_cases hc1 : (I (kb true 5) 4) ≤ (0 : Int32)
    · rw [if_pos hc1] at h
      refine mv_G_br (tgt := 163) rfl rfl (by decide) (fun _ => ?_) (fun z => absurd hc1 z)
      refine mv_G_run 2 (F' := (167, [some (.ref (kb true 4)), some (.int (0 : Int32))], [.ref (kb true 23)], 0, 0, kjS f I L)) rfl ?_
      obtain ⟨r2, hc3, h⟩ := mv_bd h
      refine mv_G_call (r := []) (kf56_ok _ _ _ _ _ _ hc3) rfl rfl rfl rfl rfl (Nat.le_of_ble_eq_true rfl) (Nat.le_of_ble_eq_true rfl) (Nat.le_of_ble_eq_true rfl) ?_
      rintro _ _ ⟨rfl, rfl⟩
      obtain ⟨hb4, h⟩ := mv_ifs h
      obtain rfl := Option.some.inj h
      exact mv_G_ret rfl rfl rfl (Nat.le_refl _) hb4 ⟨rfl, rfl⟩
    · rw [if_neg hc1] at h
      refine mv_G_br (tgt := 163) rfl rfl (by decide) (fun z => absurd z hc1) (fun _ => ?_)
      cases h
def kf24 (b : Bool) (I : kjI) (L : kjL) : Option (Int32 × kjI × kjL) :=
  (kf54 b I L).bind fun r1 => (kf35 b r1.1 r1.2).bind fun r3 => (kf47 b (0 : Int32) (8 : Int32) r3.1 r3.2).bind fun r5 => if (r5.1 (kb b 10) 3) ≤ (0 : Int32) then ((kf47a b (1 : Int32) (16 : Int32) r5.1 r5.2).bind fun r8 => if (r8.1 (kb b 14) 3) ≤ (0 : Int32) then (kf24_129 b r8.1 r8.2) else ((kf55 b r8.1 r8.2).bind fun r11 => if r11 = 0 then (kf24_129 b r8.1 r8.2) else (none))) else (none)
set_option maxRecDepth 100000 in
set_option maxHeartbeats 4000000 in
theorem kf24_ok (f : Bool) (b : Bool) (I : kjI) (L : kjL) (d : Nat) (r : Int32 × kjI × kjL) (h : kf24 b I L = some r) : mv_C kjP kjSta (d + 6) 24 [.ref (kb b 4)] (kjS f I L) (kjQwi f r) := by
  cases b
  · unfold kf24 at h
    refine mv_C_in kjM_24 (lc := [some (.ref (kb false 4)), none]) rfl rfl rfl ?_
    refine mv_G_run 2 (F' := (4, [some (.ref (kb false 4)), none], [.ref (kb false 23)], 0, 0, kjS f I L)) rfl ?_
    obtain ⟨r1, hc2, h⟩ := mv_bd h
    refine mv_G_call (r := []) (kf54_ok _ _ _ _ _ _ hc2) rfl rfl rfl rfl rfl (Nat.le_of_ble_eq_true rfl) (Nat.le_of_ble_eq_true rfl) (Nat.le_of_ble_eq_true rfl) ?_
    rintro _ _ ⟨rfl, rfl⟩
    refine mv_G_run 4 (F' := (15, [some (.ref (kb false 4)), none], [.ref (kb false 23), .ref (kb false 5)], 0, 0, kjS f r1.1 r1.2)) rfl ?_
    obtain ⟨r3, hc4, h⟩ := mv_bd h
    refine mv_G_call (r := []) (kf35_ok _ _ _ _ _ _ hc4) rfl rfl rfl rfl rfl (Nat.le_of_ble_eq_true rfl) (Nat.le_of_ble_eq_true rfl) (Nat.le_of_ble_eq_true rfl) ?_
    rintro _ _ ⟨rfl, rfl⟩
    refine mv_G_run 6 (F' := (29, [some (.ref (kb false 4)), none], [.int (8 : Int32), .int (0 : Int32), .ref (kb false 23), .ref (kb false 10)], 0, 0, kjS f r3.1 r3.2)) rfl ?_
    obtain ⟨r5, hc6, h⟩ := mv_bd h
    refine mv_G_call (r := []) (kf47_ok _ _ _ _ _ _ _ _ hc6) rfl rfl rfl rfl rfl (Nat.le_of_ble_eq_true rfl) (Nat.le_of_ble_eq_true rfl) (Nat.le_of_ble_eq_true rfl) ?_
    rintro _ _ ⟨rfl, rfl⟩
    refine mv_G_run 6 (F' := (42, [some (.ref (kb false 4)), some (.int (0 : Int32))], [.int (r5.1 (kb false 10) 3), .int (0 : Int32)], 0, 0, kjS f r5.1 r5.2)) rfl ?_
    by_cases hc7 : (r5.1 (kb false 10) 3) ≤ (0 : Int32)
    · rw [if_pos hc7] at h
      refine mv_G_br (tgt := 81) rfl rfl (by decide) (fun _ => ?_) (fun z => absurd hc7 z)
      refine mv_G_run 6 (F' := (92, [some (.ref (kb false 4)), some (.int (0 : Int32))], [.int (16 : Int32), .int (1 : Int32), .ref (kb false 23), .ref (kb false 14)], 0, 0, kjS f r5.1 r5.2)) rfl ?_
      obtain ⟨r8, hc9, h⟩ := mv_bd h
      refine mv_G_call (r := []) (kf47a_ok _ _ _ _ _ _ _ _ hc9) rfl rfl rfl rfl rfl (Nat.le_of_ble_eq_true rfl) (Nat.le_of_ble_eq_true rfl) (Nat.le_of_ble_eq_true rfl) ?_
      rintro _ _ ⟨rfl, rfl⟩
      refine mv_G_run 6 (F' := (105, [some (.ref (kb false 4)), some (.int (0 : Int32))], [.int (r8.1 (kb false 14) 3), .int (0 : Int32)], 0, 0, kjS f r8.1 r8.2)) rfl ?_
      by_cases hc10 : (r8.1 (kb false 14) 3) ≤ (0 : Int32)
      · rw [if_pos hc10] at h
        refine mv_G_br (tgt := 129) rfl rfl (by decide) (fun _ => ?_) (fun z => absurd hc10 z)
        refine mv_G_fg (lc' := [some (.ref (kb false 4)), none]) (And.intro rfl trivial) ?_
        exact kf24_129_ok _ _ d _ _ _ h
      · rw [if_neg hc10] at h
        refine mv_G_br (tgt := 129) rfl rfl (by decide) (fun z => absurd z hc10) (fun _ => ?_)
        refine mv_G_run 2 (F' := (112, [some (.ref (kb false 4)), some (.int (0 : Int32))], [.ref (kb false 23)], 0, 0, kjS f r8.1 r8.2)) rfl ?_
        obtain ⟨r11, hc12, h⟩ := mv_bd h
        refine mv_G_call (r := []) (kf55_ok _ _ _ _ _ _ hc12) rfl rfl rfl rfl rfl (Nat.le_of_ble_eq_true rfl) (Nat.le_of_ble_eq_true rfl) (Nat.le_of_ble_eq_true rfl) ?_
        rintro _ _ ⟨rfl, rfl⟩
        by_cases hc13 : r11 = 0
        · rw [if_pos hc13] at h
          refine mv_G_br (tgt := 129) rfl rfl (by decide) (fun _ => ?_) (fun z => absurd hc13 z)
          refine mv_G_fg (lc' := [some (.ref (kb false 4)), none]) (And.intro rfl trivial) ?_
          exact kf24_129_ok _ _ d _ _ _ h
        · rw [if_neg hc13] at h
          refine mv_G_br (tgt := 129) rfl rfl (by decide) (fun z => absurd z hc13) (fun _ => ?_)
          cases h
    · rw [if_neg hc7] at h
      refine mv_G_br (tgt := 81) rfl rfl (by decide) (fun z => absurd z hc7) (fun _ => ?_)
      cases h
  · unfold kf24 at h
    refine mv_C_in kjM_24 (lc := [some (.ref (kb true 4)), none]) rfl rfl rfl ?_
    refine mv_G_run 2 (F' := (4, [some (.ref (kb true 4)), none], [.ref (kb true 23)], 0, 0, kjS f I L)) rfl ?_
    obtain ⟨r1, hc2, h⟩ := mv_bd h
    refine mv_G_call (r := []) (kf54_ok _ _ _ _ _ _ hc2) rfl rfl rfl rfl rfl (Nat.le_of_ble_eq_true rfl) (Nat.le_of_ble_eq_true rfl) (Nat.le_of_ble_eq_true rfl) ?_
    rintro _ _ ⟨rfl, rfl⟩
    refine mv_G_run 4 (F' := (15, [some (.ref (kb true 4)), none], [.ref (kb true 23), .ref (kb true 5)], 0, 0, kjS f r1.1 r1.2)) rfl ?_
    obtain ⟨r3, hc4, h⟩ := mv_bd h
    refine mv_G_call (r := []) (kf35_ok _ _ _ _ _ _ hc4) rfl rfl rfl rfl rfl (Nat.le_of_ble_eq_true rfl) (Nat.le_of_ble_eq_true rfl) (Nat.le_of_ble_eq_true rfl) ?_
    rintro _ _ ⟨rfl, rfl⟩
    refine mv_G_run 6 (F' := (29, [some (.ref (kb true 4)), none], [.int (8 : Int32), .int (0 : Int32), .ref (kb true 23), .ref (kb true 10)], 0, 0, kjS f r3.1 r3.2)) rfl ?_
    obtain ⟨r5, hc6, h⟩ := mv_bd h
    refine mv_G_call (r := []) (kf47_ok _ _ _ _ _ _ _ _ hc6) rfl rfl rfl rfl rfl (Nat.le_of_ble_eq_true rfl) (Nat.le_of_ble_eq_true rfl) (Nat.le_of_ble_eq_true rfl) ?_
    rintro _ _ ⟨rfl, rfl⟩
    refine mv_G_run 6 (F' := (42, [some (.ref (kb true 4)), some (.int (0 : Int32))], [.int (r5.1 (kb true 10) 3), .int (0 : Int32)], 0, 0, kjS f r5.1 r5.2)) rfl ?_
    by_cases hc7 : (r5.1 (kb true 10) 3) ≤ (0 : Int32)
    · rw [if_pos hc7] at h
      refine mv_G_br (tgt := 81) rfl rfl (by decide) (fun _ => ?_) (fun z => absurd hc7 z)
      refine mv_G_run 6 (F' := (92, [some (.ref (kb true 4)), some (.int (0 : Int32))], [.int (16 : Int32), .int (1 : Int32), .ref (kb true 23), .ref (kb true 14)], 0, 0, kjS f r5.1 r5.2)) rfl ?_
      obtain ⟨r8, hc9, h⟩ := mv_bd h
      refine mv_G_call (r := []) (kf47a_ok _ _ _ _ _ _ _ _ hc9) rfl rfl rfl rfl rfl (Nat.le_of_ble_eq_true rfl) (Nat.le_of_ble_eq_true rfl) (Nat.le_of_ble_eq_true rfl) ?_
      rintro _ _ ⟨rfl, rfl⟩
      refine mv_G_run 6 (F' := (105, [some (.ref (kb true 4)), some (.int (0 : Int32))], [.int (r8.1 (kb true 14) 3), .int (0 : Int32)], 0, 0, kjS f r8.1 r8.2)) rfl ?_
      by_cases hc10 : (r8.1 (kb true 14) 3) ≤ (0 : Int32)
      · rw [if_pos hc10] at h
        refine mv_G_br (tgt := 129) rfl rfl (by decide) (fun _ => ?_) (fun z => absurd hc10 z)
        refine mv_G_fg (lc' := [some (.ref (kb true 4)), none]) (And.intro rfl trivial) ?_
        exact kf24_129_ok _ _ d _ _ _ h
      · rw [if_neg hc10] at h
        refine mv_G_br (tgt := 129) rfl rfl (by decide) (fun z => absurd z hc10) (fun _ => ?_)
        refine mv_G_run 2 (F' := (112, [some (.ref (kb true 4)), some (.int (0 : Int32))], [.ref (kb true 23)], 0, 0, kjS f r8.1 r8.2)) rfl ?_
        obtain ⟨r11, hc12, h⟩ := mv_bd h
        refine mv_G_call (r := []) (kf55_ok _ _ _ _ _ _ hc12) rfl rfl rfl rfl rfl (Nat.le_of_ble_eq_true rfl) (Nat.le_of_ble_eq_true rfl) (Nat.le_of_ble_eq_true rfl) ?_
        rintro _ _ ⟨rfl, rfl⟩
        by_cases hc13 : r11 = 0
        · rw [if_pos hc13] at h
          refine mv_G_br (tgt := 129) rfl rfl (by decide) (fun _ => ?_) (fun z => absurd hc13 z)
          refine mv_G_fg (lc' := [some (.ref (kb true 4)), none]) (And.intro rfl trivial) ?_
          exact kf24_129_ok _ _ d _ _ _ h
        · rw [if_neg hc13] at h
          refine mv_G_br (tgt := 129) rfl rfl (by decide) (fun z => absurd z hc13) (fun _ => ?_)
          cases h
    · rw [if_neg hc7] at h
      refine mv_G_br (tgt := 81) rfl rfl (by decide) (fun z => absurd z hc7) (fun _ => ?_)
      cases h
/-! KindJudge$Reader.place()I on ('b', 23) -/
def kf57 (b : Bool) (I : kjI) (L : kjL) : Option (Int32) :=
  some (I (kb b 23) 1)
set_option maxRecDepth 100000 in
set_option maxHeartbeats 4000000 in
theorem kf57_ok (f : Bool) (b : Bool) (I : kjI) (L : kjL) (d : Nat) (r : Int32) (h : kf57 b I L = some r) : mv_C kjP kjSta (d + 1) 57 [.ref (kb b 23)] (kjS f I L) (kjQi f I L r) := by
  cases b
  · unfold kf57 at h
    refine mv_C_in kjM_57 (lc := [some (.ref (kb false 23))]) rfl rfl rfl ?_
    refine mv_G_run 2 (F' := (4, [some (.ref (kb false 23))], [.int (I (kb false 23) 1)], 0, 0, kjS f I L)) rfl ?_
    obtain rfl := Option.some.inj h
    exact mv_G_ret rfl rfl rfl (Nat.le_refl _) trivial ⟨rfl, rfl⟩
  · unfold kf57 at h
    refine mv_C_in kjM_57 (lc := [some (.ref (kb true 23))]) rfl rfl rfl ?_
    refine mv_G_run 2 (F' := (4, [some (.ref (kb true 23))], [.int (I (kb true 23) 1)], 0, 0, kjS f I L)) rfl ?_
    obtain rfl := Option.some.inj h
    exact mv_G_ret rfl rfl rfl (Nat.le_refl _) trivial ⟨rfl, rfl⟩
/-! KindJudge$Layout.faultPlace()I on ('b', 4) -/
def kf25 (b : Bool) (I : kjI) (L : kjL) : Option (Int32) :=
  (kf57 b I L).bind fun r1 => some r1
set_option maxRecDepth 100000 in
set_option maxHeartbeats 4000000 in
theorem kf25_ok (f : Bool) (b : Bool) (I : kjI) (L : kjL) (d : Nat) (r : Int32) (h : kf25 b I L = some r) : mv_C kjP kjSta (d + 2) 25 [.ref (kb b 4)] (kjS f I L) (kjQi f I L r) := by
  cases b
  · unfold kf25 at h
    refine mv_C_in kjM_25 (lc := [some (.ref (kb false 4))]) rfl rfl rfl ?_
    refine mv_G_run 2 (F' := (4, [some (.ref (kb false 4))], [.ref (kb false 23)], 0, 0, kjS f I L)) rfl ?_
    obtain ⟨r1, hc2, h⟩ := mv_bd h
    refine mv_G_call (r := []) (kf57_ok _ _ _ _ _ _ hc2) rfl rfl rfl rfl rfl (Nat.le_of_ble_eq_true rfl) (Nat.le_of_ble_eq_true rfl) (Nat.le_of_ble_eq_true rfl) ?_
    rintro _ _ ⟨rfl, rfl⟩
    obtain rfl := Option.some.inj h
    exact mv_G_ret rfl rfl rfl (Nat.le_refl _) trivial ⟨rfl, rfl⟩
  · unfold kf25 at h
    refine mv_C_in kjM_25 (lc := [some (.ref (kb true 4))]) rfl rfl rfl ?_
    refine mv_G_run 2 (F' := (4, [some (.ref (kb true 4))], [.ref (kb true 23)], 0, 0, kjS f I L)) rfl ?_
    obtain ⟨r1, hc2, h⟩ := mv_bd h
    refine mv_G_call (r := []) (kf57_ok _ _ _ _ _ _ hc2) rfl rfl rfl rfl rfl (Nat.le_of_ble_eq_true rfl) (Nat.le_of_ble_eq_true rfl) (Nat.le_of_ble_eq_true rfl) ?_
    rintro _ _ ⟨rfl, rfl⟩
    obtain rfl := Option.some.inj h
    exact mv_G_ret rfl rfl rfl (Nat.le_refl _) trivial ⟨rfl, rfl⟩
/-! KindJudge.findFault()V on ('c', 0) -/
def kf13 (f : Bool) (I : kjI) (L : kjL) : Option (kjI × kjL) :=
  (kf14 f (0 : Int32) (0 : Int32) (0 : Int32) I L).bind fun r1 => (kf24 (!f) r1.1 r1.2).bind fun r3 => if ¬ r3.1 = 0 then (none) else ((kf25 (!f) r3.2.1 r3.2.2).bind fun r6 => (kf14 f (1 : Int32) r6 (0 : Int32) r3.2.1 r3.2.2).bind fun r8 => some (r8.1, r8.2))
set_option maxRecDepth 100000 in
set_option maxHeartbeats 4000000 in
theorem kf13_ok (f : Bool) (I : kjI) (L : kjL) (d : Nat) (r : kjI × kjL) (h : kf13 f I L = some r) : mv_C kjP kjSta (d + 7) 13 [.ref 0] (kjS f I L) (kjQwv f r) := by
  cases f
  · unfold kf13 at h
    refine mv_C_in kjM_13 (lc := [some (.ref 0), none, none, none]) rfl rfl rfl ?_
    refine mv_G_run 4 (F' := (4, [some (.ref 0), none, none, none], [.int (0 : Int32), .int (0 : Int32), .int (0 : Int32), .ref 0], 0, 0, kjS false I L)) rfl ?_
    obtain ⟨r1, hc2, h⟩ := mv_bd h
    refine mv_G_call (r := []) (kf14_ok _ _ _ _ _ _ _ _ hc2) rfl rfl rfl rfl rfl (Nat.le_of_ble_eq_true rfl) (Nat.le_of_ble_eq_true rfl) (Nat.le_of_ble_eq_true rfl) ?_
    rintro _ _ ⟨rfl, rfl⟩
    refine mv_G_run 3 (F' := (14, [some (.ref 0), none, none, none], [.ref (kb (!false) 4)], 0, 0, kjS false r1.1 r1.2)) rfl ?_
    obtain ⟨r3, hc4, h⟩ := mv_bd h
    refine mv_G_call (r := []) (kf24_ok _ _ _ _ _ _ hc4) rfl rfl rfl rfl rfl (Nat.le_of_ble_eq_true rfl) (Nat.le_of_ble_eq_true rfl) (Nat.le_of_ble_eq_true rfl) ?_
    rintro _ _ ⟨rfl, rfl⟩
    by_cases hc5 : ¬ r3.1 = 0
    · rw [if_pos hc5] at h
      refine mv_G_br (tgt := 37) rfl rfl (by decide) (fun _ => ?_) (fun z => absurd hc5 z)
      cases h
    · rw [if_neg hc5] at h
      refine mv_G_br (tgt := 37) rfl rfl (by decide) (fun z => absurd z hc5) (fun _ => ?_)
      refine mv_G_run 5 (F' := (29, [some (.ref 0), none, none, none], [.ref (kb (!false) 4), .int (1 : Int32), .ref 0], 0, 0, kjS false r3.2.1 r3.2.2)) rfl ?_
      obtain ⟨r6, hc7, h⟩ := mv_bd h
      refine mv_G_call (r := [.int (1 : Int32), .ref 0]) (kf25_ok _ _ _ _ _ _ hc7) rfl rfl rfl rfl rfl (Nat.le_of_ble_eq_true rfl) (Nat.le_of_ble_eq_true rfl) (Nat.le_of_ble_eq_true rfl) ?_
      rintro _ _ ⟨rfl, rfl⟩
      refine mv_G_run 1 (F' := (33, [some (.ref 0), none, none, none], [.int (0 : Int32), .int r6, .int (1 : Int32), .ref 0], 0, 0, kjS false r3.2.1 r3.2.2)) rfl ?_
      obtain ⟨r8, hc9, h⟩ := mv_bd h
      refine mv_G_call (r := []) (kf14_ok _ _ _ _ _ _ _ _ hc9) rfl rfl rfl rfl rfl (Nat.le_of_ble_eq_true rfl) (Nat.le_of_ble_eq_true rfl) (Nat.le_of_ble_eq_true rfl) ?_
      rintro _ _ ⟨rfl, rfl⟩
      obtain rfl := Option.some.inj h
      exact mv_G_ret rfl rfl rfl (Nat.le_refl _) trivial ⟨rfl, rfl⟩
  · unfold kf13 at h
    refine mv_C_in kjM_13 (lc := [some (.ref 0), none, none, none]) rfl rfl rfl ?_
    refine mv_G_run 4 (F' := (4, [some (.ref 0), none, none, none], [.int (0 : Int32), .int (0 : Int32), .int (0 : Int32), .ref 0], 0, 0, kjS true I L)) rfl ?_
    obtain ⟨r1, hc2, h⟩ := mv_bd h
    refine mv_G_call (r := []) (kf14_ok _ _ _ _ _ _ _ _ hc2) rfl rfl rfl rfl rfl (Nat.le_of_ble_eq_true rfl) (Nat.le_of_ble_eq_true rfl) (Nat.le_of_ble_eq_true rfl) ?_
    rintro _ _ ⟨rfl, rfl⟩
    refine mv_G_run 3 (F' := (14, [some (.ref 0), none, none, none], [.ref (kb (!true) 4)], 0, 0, kjS true r1.1 r1.2)) rfl ?_
    obtain ⟨r3, hc4, h⟩ := mv_bd h
    refine mv_G_call (r := []) (kf24_ok _ _ _ _ _ _ hc4) rfl rfl rfl rfl rfl (Nat.le_of_ble_eq_true rfl) (Nat.le_of_ble_eq_true rfl) (Nat.le_of_ble_eq_true rfl) ?_
    rintro _ _ ⟨rfl, rfl⟩
    by_cases hc5 : ¬ r3.1 = 0
    · rw [if_pos hc5] at h
      refine mv_G_br (tgt := 37) rfl rfl (by decide) (fun _ => ?_) (fun z => absurd hc5 z)
      cases h
    · rw [if_neg hc5] at h
      refine mv_G_br (tgt := 37) rfl rfl (by decide) (fun z => absurd z hc5) (fun _ => ?_)
      refine mv_G_run 5 (F' := (29, [some (.ref 0), none, none, none], [.ref (kb (!true) 4), .int (1 : Int32), .ref 0], 0, 0, kjS true r3.2.1 r3.2.2)) rfl ?_
      obtain ⟨r6, hc7, h⟩ := mv_bd h
      refine mv_G_call (r := [.int (1 : Int32), .ref 0]) (kf25_ok _ _ _ _ _ _ hc7) rfl rfl rfl rfl rfl (Nat.le_of_ble_eq_true rfl) (Nat.le_of_ble_eq_true rfl) (Nat.le_of_ble_eq_true rfl) ?_
      rintro _ _ ⟨rfl, rfl⟩
      refine mv_G_run 1 (F' := (33, [some (.ref 0), none, none, none], [.int (0 : Int32), .int r6, .int (1 : Int32), .ref 0], 0, 0, kjS true r3.2.1 r3.2.2)) rfl ?_
      obtain ⟨r8, hc9, h⟩ := mv_bd h
      refine mv_G_call (r := []) (kf14_ok _ _ _ _ _ _ _ _ hc9) rfl rfl rfl rfl rfl (Nat.le_of_ble_eq_true rfl) (Nat.le_of_ble_eq_true rfl) (Nat.le_of_ble_eq_true rfl) ?_
      rintro _ _ ⟨rfl, rfl⟩
      obtain rfl := Option.some.inj h
      exact mv_G_ret rfl rfl rfl (Nat.le_refl _) trivial ⟨rfl, rfl⟩
/-! KindJudge$Bytes.clear()V on ('b', 2) -/
def kf21 (b : Bool) (I : kjI) (L : kjL) : Option (kjI × kjL) :=
  some ((mv_up I (kb b 2) 1 (0 : Int32)), L)
set_option maxRecDepth 100000 in
set_option maxHeartbeats 4000000 in
theorem kf21_ok (f : Bool) (b : Bool) (I : kjI) (L : kjL) (d : Nat) (r : kjI × kjL) (h : kf21 b I L = some r) : mv_C kjP kjSta (d + 1) 21 [.ref (kb b 2)] (kjS f I L) (kjQwv f r) := by
  cases b
  · unfold kf21 at h
    refine mv_C_in kjM_21 (lc := [some (.ref (kb false 2))]) rfl rfl rfl ?_
    refine mv_G_run 3 (F' := (5, [some (.ref (kb false 2))], [], 0, 0, kjS f (mv_up I (kb false 2) 1 (0 : Int32)) L)) rfl ?_
    obtain rfl := Option.some.inj h
    exact mv_G_ret rfl rfl rfl (Nat.le_refl _) trivial ⟨rfl, rfl⟩
  · unfold kf21 at h
    refine mv_C_in kjM_21 (lc := [some (.ref (kb true 2))]) rfl rfl rfl ?_
    refine mv_G_run 3 (F' := (5, [some (.ref (kb true 2))], [], 0, 0, kjS f (mv_up I (kb true 2) 1 (0 : Int32)) L)) rfl ?_
    obtain rfl := Option.some.inj h
    exact mv_G_ret rfl rfl rfl (Nat.le_refl _) trivial ⟨rfl, rfl⟩
