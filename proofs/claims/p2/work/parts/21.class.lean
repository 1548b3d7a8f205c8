/-! KindJudge$Bytes.append(JI)Z on ('b', 2) -/
def kf20_33 (b : Bool) (N : Nat) : Nat → Int64 → Int32 → kjI → kjL → Option (Int32 × kjI × kjL)
  | 0, _, _, _, _ => none
  | n + 1, v1, v4, I, L => if v4 < 0 then (some ((1 : Int32), I, L)) else (bif mv_in (I (kb b 2) 1) 1500 then ((fun v1 v4 I L => kf20_33 b N n v1 v4 I L) v1 (v4 + (-8 : Int32)) (mv_up (mv_up I (kb b 3) (Int32.toNatClampNeg (I (kb b 2) 1)) (Int8.toInt32 (Int32.toInt8 (Int8.toInt32 (Int32.toInt8 (Int64.toInt32 (v1 >>> (Int32.toInt64 v4 &&& 63)))))))) (kb b 2) 1 (((mv_up I (kb b 3) (Int32.toNatClampNeg (I (kb b 2) 1)) (Int8.toInt32 (Int32.toInt8 (Int8.toInt32 (Int32.toInt8 (Int64.toInt32 (v1 >>> (Int32.toInt64 v4 &&& 63)))))))) (kb b 2) 1) + (1 : Int32))) L) else none)
set_option maxRecDepth 100000 in
set_option maxHeartbeats 4000000 in
theorem kf20_33_ok (f : Bool) (b : Bool) (N : Nat) (d : Nat)  : ∀ (n : Nat) (v1 : Int64) (v4 : Int32) (I : kjI) (L : kjL) (r : Int32 × kjI × kjL), kf20_33 b N n v1 v4 I L = some r → mv_G kjP kjSta (mv_C kjP kjSta (d + 0)) kjM_20 (kjQwi f r) (33, [some (.ref (kb b 2)), some (.long v1), none, none, some (.int v4)], [], 0, 0, kjS f I L) := by
  cases b
  · intro n
    induction n with
    | zero => intro v1 v4 I L r h; cases h
    | succ n ih =>
      have hk33 := ih
      intro v1 v4 I L r h
      unfold kf20_33 at h
      refine mv_G_run 1 (F' := (35, [some (.ref (kb false 2)), some (.long v1), none, none, some (.int v4)], [.int v4], 0, 0, kjS f I L)) rfl ?_
      by_cases hc1 : v4 < 0
      · rw [if_pos hc1] at h
        refine mv_G_br (tgt := 69) rfl rfl (by decide) (fun _ => ?_) (fun z => absurd hc1 z)
        refine mv_G_run 1 (F' := (70, [some (.ref (kb false 2)), some (.long v1), none, none, some (.int v4)], [.int (1 : Int32)], 0, 0, kjS f I L)) rfl ?_
        obtain rfl := Option.some.inj h
        exact mv_G_ret rfl rfl rfl (Nat.le_refl _) (Or.inr rfl) ⟨rfl, rfl⟩
      · rw [if_neg hc1] at h
        refine mv_G_br (tgt := 69) rfl rfl (by decide) (fun z => absurd z hc1) (fun _ => ?_)
        refine mv_G_run 9 (F' := (52, [some (.ref (kb false 2)), some (.long v1), none, none, some (.int v4)], [.int (Int8.toInt32 (Int32.toInt8 (Int64.toInt32 (v1 >>> (Int32.toInt64 v4 &&& 63))))), .int (I (kb false 2) 1), .ref (kb false 3)], 0, 0, kjS f I L)) rfl ?_
        obtain ⟨hi2, h⟩ := mv_bifs h
        refine mv_G_ast rfl rfl (mv_in_ok hi2) ?_
        refine mv_G_run 8 (F' := (33, [some (.ref (kb false 2)), some (.long v1), none, none, some (.int (v4 + (-8 : Int32)))], [], 0, 0, kjS f (mv_up (mv_up I (kb false 3) (Int32.toNatClampNeg (I (kb false 2) 1)) (Int8.toInt32 (Int32.toInt8 (Int8.toInt32 (Int32.toInt8 (Int64.toInt32 (v1 >>> (Int32.toInt64 v4 &&& 63)))))))) (kb false 2) 1 (((mv_up I (kb false 3) (Int32.toNatClampNeg (I (kb false 2) 1)) (Int8.toInt32 (Int32.toInt8 (Int8.toInt32 (Int32.toInt8 (Int64.toInt32 (v1 >>> (Int32.toInt64 v4 &&& 63)))))))) (kb false 2) 1) + (1 : Int32))) L)) rfl ?_
        exact hk33 v1 (v4 + (-8 : Int32)) (mv_up (mv_up I (kb false 3) (Int32.toNatClampNeg (I (kb false 2) 1)) (Int8.toInt32 (Int32.toInt8 (Int8.toInt32 (Int32.toInt8 (Int64.toInt32 (v1 >>> (Int32.toInt64 v4 &&& 63)))))))) (kb false 2) 1 (((mv_up I (kb false 3) (Int32.toNatClampNeg (I (kb false 2) 1)) (Int8.toInt32 (Int32.toInt8 (Int8.toInt32 (Int32.toInt8 (Int64.toInt32 (v1 >>> (Int32.toInt64 v4 &&& 63)))))))) (kb false 2) 1) + (1 : Int32))) L _ h
  · intro n
    induction n with
    | zero => intro v1 v4 I L r h; cases h
    | succ n ih =>
      have hk33 := ih
      intro v1 v4 I L r h
      unfold kf20_33 at h
      refine mv_G_run 1 (F' := (35, [some (.ref (kb true 2)), some (.long v1), none, none, some (.int v4)], [.int v4], 0, 0, kjS f I L)) rfl ?_
      by_cases hc1 : v4 < 0
      · rw [if_pos hc1] at h
        refine mv_G_br (tgt := 69) rfl rfl (by decide) (fun _ => ?_) (fun z => absurd hc1 z)
        refine mv_G_run 1 (F' := (70, [some (.ref (kb true 2)), some (.long v1), none, none, some (.int v4)], [.int (1 : Int32)], 0, 0, kjS f I L)) rfl ?_
        obtain rfl := Option.some.inj h
        exact mv_G_ret rfl rfl rfl (Nat.le_refl _) (Or.inr rfl) ⟨rfl, rfl⟩
      · rw [if_neg hc1] at h
        refine mv_G_br (tgt := 69) rfl rfl (by decide) (fun z => absurd z hc1) (fun _ => ?_)
        refine mv_G_run 9 (F' := (52, [some (.ref (kb true 2)), some (.long v1), none, none, some (.int v4)], [.int (Int8.toInt32 (Int32.toInt8 (Int64.toInt32 (v1 >>> (Int32.toInt64 v4 &&& 63))))), .int (I (kb true 2) 1), .ref (kb true 3)], 0, 0, kjS f I L)) rfl ?_
        obtain ⟨hi2, h⟩ := mv_bifs h
        refine mv_G_ast rfl rfl (mv_in_ok hi2) ?_
        refine mv_G_run 8 (F' := (33, [some (.ref (kb true 2)), some (.long v1), none, none, some (.int (v4 + (-8 : Int32)))], [], 0, 0, kjS f (mv_up (mv_up I (kb true 3) (Int32.toNatClampNeg (I (kb true 2) 1)) (Int8.toInt32 (Int32.toInt8 (Int8.toInt32 (Int32.toInt8 (Int64.toInt32 (v1 >>> (Int32.toInt64 v4 &&& 63)))))))) (kb true 2) 1 (((mv_up I (kb true 3) (Int32.toNatClampNeg (I (kb true 2) 1)) (Int8.toInt32 (Int32.toInt8 (Int8.toInt32 (Int32.toInt8 (Int64.toInt32 (v1 >>> (Int32.toInt64 v4 &&& 63)))))))) (kb true 2) 1) + (1 : Int32))) L)) rfl ?_
        exact hk33 v1 (v4 + (-8 : Int32)) (mv_up (mv_up I (kb true 3) (Int32.toNatClampNeg (I (kb true 2) 1)) (Int8.toInt32 (Int32.toInt8 (Int8.toInt32 (Int32.toInt8 (Int64.toInt32 (v1 >>> (Int32.toInt64 v4 &&& 63)))))))) (kb true 2) 1 (((mv_up I (kb true 3) (Int32.toNatClampNeg (I (kb true 2) 1)) (Int8.toInt32 (Int32.toInt8 (Int8.toInt32 (Int32.toInt8 (Int64.toInt32 (v1 >>> (Int32.toInt64 v4 &&& 63)))))))) (kb true 2) 1) + (1 : Int32))) L _ h
def kf20 (b : Bool) (N : Nat) (v1 : Int64) (v3 : Int32) (I : kjI) (L : kjL) : Option (Int32 × kjI × kjL) :=
  if v3 < (1 : Int32) then (some ((0 : Int32), I, L)) else (if (8 : Int32) < v3 then (some ((0 : Int32), I, L)) else (if v3 ≤ ((1500 : Int32) - (I (kb b 2) 1)) then (kf20_33 b N N v1 ((8 : Int32) * (v3 - (1 : Int32))) I L) else (some ((0 : Int32), I, L))))
set_option maxRecDepth 100000 in
set_option maxHeartbeats 4000000 in
theorem kf20_ok (f : Bool) (b : Bool) (N : Nat) (v1 : Int64) (v3 : Int32) (I : kjI) (L : kjL) (d : Nat) (r : Int32 × kjI × kjL) (h : kf20 b N v1 v3 I L = some r) : mv_C kjP kjSta (d + 1) 20 [.ref (kb b 2), .long v1, .int v3] (kjS f I L) (kjQwi f r) := by
  cases b
  · unfold kf20 at h
    refine mv_C_in kjM_20 (lc := [some (.ref (kb false 2)), some (.long v1), none, some (.int v3), none]) rfl rfl rfl ?_
    refine mv_G_run 2 (F' := (2, [some (.ref (kb false 2)), some (.long v1), none, some (.int v3), none], [.int (1 : Int32), .int v3], 0, 0, kjS f I L)) rfl ?_
    by_cases hc1 : v3 < (1 : Int32)
    · rw [if_pos hc1] at h
      refine mv_G_br (tgt := 23) rfl rfl (by decide) (fun _ => ?_) (fun z => absurd hc1 z)
      refine mv_G_run 1 (F' := (24, [some (.ref (kb false 2)), some (.long v1), none, some (.int v3), none], [.int (0 : Int32)], 0, 0, kjS f I L)) rfl ?_
      obtain rfl := Option.some.inj h
      exact mv_G_ret rfl rfl rfl (Nat.le_refl _) (Or.inl rfl) ⟨rfl, rfl⟩
    · rw [if_neg hc1] at h
      refine mv_G_br (tgt := 23) rfl rfl (by decide) (fun z => absurd z hc1) (fun _ => ?_)
      refine mv_G_run 2 (F' := (8, [some (.ref (kb false 2)), some (.long v1), none, some (.int v3), none], [.int (8 : Int32), .int v3], 0, 0, kjS f I L)) rfl ?_
      by_cases hc2 : (8 : Int32) < v3
      · rw [if_pos hc2] at h
        refine mv_G_br (tgt := 23) rfl rfl (by decide) (fun _ => ?_) (fun z => absurd hc2 z)
        refine mv_G_run 1 (F' := (24, [some (.ref (kb false 2)), some (.long v1), none, some (.int v3), none], [.int (0 : Int32)], 0, 0, kjS f I L)) rfl ?_
        obtain rfl := Option.some.inj h
        exact mv_G_ret rfl rfl rfl (Nat.le_refl _) (Or.inl rfl) ⟨rfl, rfl⟩
      · rw [if_neg hc2] at h
        refine mv_G_br (tgt := 23) rfl rfl (by decide) (fun z => absurd z hc2) (fun _ => ?_)
        refine mv_G_run 5 (F' := (20, [some (.ref (kb false 2)), some (.long v1), none, some (.int v3), none], [.int ((1500 : Int32) - (I (kb false 2) 1)), .int v3], 0, 0, kjS f I L)) rfl ?_
        by_cases hc3 : v3 ≤ ((1500 : Int32) - (I (kb false 2) 1))
        · rw [if_pos hc3] at h
          refine mv_G_br (tgt := 25) rfl rfl (by decide) (fun _ => ?_) (fun z => absurd hc3 z)
          refine mv_G_run 6 (F' := (33, [some (.ref (kb false 2)), some (.long v1), none, some (.int v3), some (.int ((8 : Int32) * (v3 - (1 : Int32))))], [], 0, 0, kjS f I L)) rfl ?_
          refine mv_G_fg (lc' := [some (.ref (kb false 2)), some (.long v1), none, none, some (.int ((8 : Int32) * (v3 - (1 : Int32))))]) (And.intro rfl (And.intro rfl (And.intro rfl trivial))) ?_
          exact kf20_33_ok _ _ _ d _ _ _ _ _ _ h
        · rw [if_neg hc3] at h
          refine mv_G_br (tgt := 25) rfl rfl (by decide) (fun z => absurd z hc3) (fun _ => ?_)
          refine mv_G_run 1 (F' := (24, [some (.ref (kb false 2)), some (.long v1), none, some (.int v3), none], [.int (0 : Int32)], 0, 0, kjS f I L)) rfl ?_
          obtain rfl := Option.some.inj h
          exact mv_G_ret rfl rfl rfl (Nat.le_refl _) (Or.inl rfl) ⟨rfl, rfl⟩
  · unfold kf20 at h
    refine mv_C_in kjM_20 (lc := [some (.ref (kb true 2)), some (.long v1), none, some (.int v3), none]) rfl rfl rfl ?_
    refine mv_G_run 2 (F' := (2, [some (.ref (kb true 2)), some (.long v1), none, some (.int v3), none], [.int (1 : Int32), .int v3], 0, 0, kjS f I L)) rfl ?_
    by_cases hc1 : v3 < (1 : Int32)
    · rw [if_pos hc1] at h
      refine mv_G_br (tgt := 23) rfl rfl (by decide) (fun _ => ?_) (fun z => absurd hc1 z)
      refine mv_G_run 1 (F' := (24, [some (.ref (kb true 2)), some (.long v1), none, some (.int v3), none], [.int (0 : Int32)], 0, 0, kjS f I L)) rfl ?_
      obtain rfl := Option.some.inj h
      exact mv_G_ret rfl rfl rfl (Nat.le_refl _) (Or.inl rfl) ⟨rfl, rfl⟩
    · rw [if_neg hc1] at h
      refine mv_G_br (tgt := 23) rfl rfl (by decide) (fun z => absurd z hc1) (fun _ => ?_)
      refine mv_G_run 2 (F' := (8, [some (.ref (kb true 2)), some (.long v1), none, some (.int v3), none], [.int (8 : Int32), .int v3], 0, 0, kjS f I L)) rfl ?_
      by_cases hc2 : (8 : Int32) < v3
      · rw [if_pos hc2] at h
        refine mv_G_br (tgt := 23) rfl rfl (by decide) (fun _ => ?_) (fun z => absurd hc2 z)
        refine mv_G_run 1 (F' := (24, [some (.ref (kb true 2)), some (.long v1), none, some (.int v3), none], [.int (0 : Int32)], 0, 0, kjS f I L)) rfl ?_
        obtain rfl := Option.some.inj h
        exact mv_G_ret rfl rfl rfl (Nat.le_refl _) (Or.inl rfl) ⟨rfl, rfl⟩
      · rw [if_neg hc2] at h
        refine mv_G_br (tgt := 23) rfl rfl (by decide) (fun z => absurd z hc2) (fun _ => ?_)
        refine mv_G_run 5 (F' := (20, [some (.ref (kb true 2)), some (.long v1), none, some (.int v3), none], [.int ((1500 : Int32) - (I (kb true 2) 1)), .int v3], 0, 0, kjS f I L)) rfl ?_
        by_cases hc3 : v3 ≤ ((1500 : Int32) - (I (kb true 2) 1))
        · rw [if_pos hc3] at h
          refine mv_G_br (tgt := 25) rfl rfl (by decide) (fun _ => ?_) (fun z => absurd hc3 z)
          refine mv_G_run 6 (F' := (33, [some (.ref (kb true 2)), some (.long v1), none, some (.int v3), some (.int ((8 : Int32) * (v3 - (1 : Int32))))], [], 0, 0, kjS f I L)) rfl ?_
          refine mv_G_fg (lc' := [some (.ref (kb true 2)), some (.long v1), none, none, some (.int ((8 : Int32) * (v3 - (1 : Int32))))]) (And.intro rfl (And.intro rfl (And.intro rfl trivial))) ?_
          exact kf20_33_ok _ _ _ d _ _ _ _ _ _ h
        · rw [if_neg hc3] at h
          refine mv_G_br (tgt := 25) rfl rfl (by decide) (fun z => absurd z hc3) (fun _ => ?_)
          refine mv_G_run 1 (F' := (24, [some (.ref (kb true 2)), some (.long v1), none, some (.int v3), none], [.int (0 : Int32)], 0, 0, kjS f I L)) rfl ?_
          obtain rfl := Option.some.inj h
          exact mv_G_ret rfl rfl rfl (Nat.le_refl _) (Or.inl rfl) ⟨rfl, rfl⟩
/-! KindJudge.put(JI)Z on ('c', 0) -/
def kf1 (f : Bool) (N : Nat) (v1 : Int64) (v3 : Int32) (I : kjI) (L : kjL) : Option (Int32 × kjI × kjL) :=
  (kf20 (!f) N v1 v3 I L).bind fun r1 => if r1.1 = 0 ∨ r1.1 = 1 then some (r1.1, r1.2.1, r1.2.2) else none
set_option maxRecDepth 100000 in
set_option maxHeartbeats 4000000 in
theorem kf1_ok (f : Bool) (N : Nat) (v1 : Int64) (v3 : Int32) (I : kjI) (L : kjL) (d : Nat) (r : Int32 × kjI × kjL) (h : kf1 f N v1 v3 I L = some r) : mv_C kjP kjSta (d + 2) 1 [.ref 0, .long v1, .int v3] (kjS f I L) (kjQwi f r) := by
  cases f
  · unfold kf1 at h
    refine mv_C_in kjM_1 (lc := [some (.ref 0), some (.long v1), none, some (.int v3)]) rfl rfl rfl ?_
    refine mv_G_run 5 (F' := (9, [some (.ref 0), some (.long v1), none, some (.int v3)], [.int v3, .long v1, .ref (kb (!false) 2)], 0, 0, kjS false I L)) rfl ?_
    obtain ⟨r1, hc2, h⟩ := mv_bd h
    refine mv_G_call (r := []) (kf20_ok _ _ _ _ _ _ _ _ _ hc2) rfl rfl rfl rfl rfl (Nat.le_of_ble_eq_true rfl) (Nat.le_of_ble_eq_true rfl) (Nat.le_of_ble_eq_true rfl) ?_
    rintro _ _ ⟨rfl, rfl⟩
    obtain ⟨hb3, h⟩ := mv_ifs h
    obtain rfl := Option.some.inj h
    exact mv_G_ret rfl rfl rfl (Nat.le_refl _) hb3 ⟨rfl, rfl⟩
  · unfold kf1 at h
    refine mv_C_in kjM_1 (lc := [some (.ref 0), some (.long v1), none, some (.int v3)]) rfl rfl rfl ?_
    refine mv_G_run 5 (F' := (9, [some (.ref 0), some (.long v1), none, some (.int v3)], [.int v3, .long v1, .ref (kb (!true) 2)], 0, 0, kjS true I L)) rfl ?_
    obtain ⟨r1, hc2, h⟩ := mv_bd h
    refine mv_G_call (r := []) (kf20_ok _ _ _ _ _ _ _ _ _ hc2) rfl rfl rfl rfl rfl (Nat.le_of_ble_eq_true rfl) (Nat.le_of_ble_eq_true rfl) (Nat.le_of_ble_eq_true rfl) ?_
    rintro _ _ ⟨rfl, rfl⟩
    obtain ⟨hb3, h⟩ := mv_ifs h
    obtain rfl := Option.some.inj h
    exact mv_G_ret rfl rfl rfl (Nat.le_refl _) hb3 ⟨rfl, rfl⟩
/-! KindJudge.fault(I)I on ('c', 0) -/
def kf3 (f : Bool) (I : kjI) (L : kjL) (v1 : Int32) : Option (Int32) :=
  if ¬ v1 = 0 then (if ¬ v1 = (1 : Int32) then (if ¬ v1 = (2 : Int32) then (some (-1 : Int32)) else (some (I 0 5))) else (some (I 0 4))) else (some (I 0 3))
set_option maxRecDepth 100000 in
set_option maxHeartbeats 4000000 in
theorem kf3_ok (f : Bool) (I : kjI) (L : kjL) (v1 : Int32) (d : Nat) (r : Int32) (h : kf3 f I L v1 = some r) : mv_C kjP kjSta (d + 1) 3 [.ref 0, .int v1] (kjS f I L) (kjQi f I L r) := by
  cases f
  · unfold kf3 at h
    refine mv_C_in kjM_3 (lc := [some (.ref 0), some (.int v1)]) rfl rfl rfl ?_
    refine mv_G_run 1 (F' := (1, [some (.ref 0), some (.int v1)], [.int v1], 0, 0, kjS false I L)) rfl ?_
    by_cases hc1 : ¬ v1 = 0
    · rw [if_pos hc1] at h
      refine mv_G_br (tgt := 9) rfl rfl (by decide) (fun _ => ?_) (fun z => absurd hc1 z)
      refine mv_G_run 2 (F' := (11, [some (.ref 0), some (.int v1)], [.int (1 : Int32), .int v1], 0, 0, kjS false I L)) rfl ?_
      by_cases hc2 : ¬ v1 = (1 : Int32)
      · rw [if_pos hc2] at h
        refine mv_G_br (tgt := 19) rfl rfl (by decide) (fun _ => ?_) (fun z => absurd hc2 z)
        refine mv_G_run 2 (F' := (21, [some (.ref 0), some (.int v1)], [.int (2 : Int32), .int v1], 0, 0, kjS false I L)) rfl ?_
        by_cases hc3 : ¬ v1 = (2 : Int32)
        · rw [if_pos hc3] at h
          refine mv_G_br (tgt := 31) rfl rfl (by decide) (fun _ => ?_) (fun z => absurd hc3 z)
          refine mv_G_run 1 (F' := (32, [some (.ref 0), some (.int v1)], [.int (-1 : Int32)], 0, 0, kjS false I L)) rfl ?_
          obtain rfl := Option.some.inj h
          exact mv_G_ret rfl rfl rfl (Nat.le_refl _) trivial ⟨rfl, rfl⟩
        · rw [if_neg hc3] at h
          refine mv_G_br (tgt := 31) rfl rfl (by decide) (fun z => absurd z hc3) (fun _ => ?_)
          refine mv_G_run 3 (F' := (32, [some (.ref 0), some (.int v1)], [.int (I 0 5)], 0, 0, kjS false I L)) rfl ?_
          obtain rfl := Option.some.inj h
          exact mv_G_ret rfl rfl rfl (Nat.le_refl _) trivial ⟨rfl, rfl⟩
      · rw [if_neg hc2] at h
        refine mv_G_br (tgt := 19) rfl rfl (by decide) (fun z => absurd z hc2) (fun _ => ?_)
        refine mv_G_run 2 (F' := (18, [some (.ref 0), some (.int v1)], [.int (I 0 4)], 0, 0, kjS false I L)) rfl ?_
        obtain rfl := Option.some.inj h
        exact mv_G_ret rfl rfl rfl (Nat.le_refl _) trivial ⟨rfl, rfl⟩
    · rw [if_neg hc1] at h
      refine mv_G_br (tgt := 9) rfl rfl (by decide) (fun z => absurd z hc1) (fun _ => ?_)
      refine mv_G_run 2 (F' := (8, [some (.ref 0), some (.int v1)], [.int (I 0 3)], 0, 0, kjS false I L)) rfl ?_
      obtain rfl := Option.some.inj h
      exact mv_G_ret rfl rfl rfl (Nat.le_refl _) trivial ⟨rfl, rfl⟩
  · unfold kf3 at h
    refine mv_C_in kjM_3 (lc := [some (.ref 0), some (.int v1)]) rfl rfl rfl ?_
    refine mv_G_run 1 (F' := (1, [some (.ref 0), some (.int v1)], [.int v1], 0, 0, kjS true I L)) rfl ?_
    by_cases hc1 : ¬ v1 = 0
    · rw [if_pos hc1] at h
      refine mv_G_br (tgt := 9) rfl rfl (by decide) (fun _ => ?_) (fun z => absurd hc1 z)
      refine mv_G_run 2 (F' := (11, [some (.ref 0), some (.int v1)], [.int (1 : Int32), .int v1], 0, 0, kjS true I L)) rfl ?_
      by_cases hc2 : ¬ v1 = (1 : Int32)
      · rw [if_pos hc2] at h
        refine mv_G_br (tgt := 19) rfl rfl (by decide) (fun _ => ?_) (fun z => absurd hc2 z)
        refine mv_G_run 2 (F' := (21, [some (.ref 0), some (.int v1)], [.int (2 : Int32), .int v1], 0, 0, kjS true I L)) rfl ?_
        by_cases hc3 : ¬ v1 = (2 : Int32)
        · rw [if_pos hc3] at h
          refine mv_G_br (tgt := 31) rfl rfl (by decide) (fun _ => ?_) (fun z => absurd hc3 z)
          refine mv_G_run 1 (F' := (32, [some (.ref 0), some (.int v1)], [.int (-1 : Int32)], 0, 0, kjS true I L)) rfl ?_
          obtain rfl := Option.some.inj h
          exact mv_G_ret rfl rfl rfl (Nat.le_refl _) trivial ⟨rfl, rfl⟩
        · rw [if_neg hc3] at h
          refine mv_G_br (tgt := 31) rfl rfl (by decide) (fun z => absurd z hc3) (fun _ => ?_)
          refine mv_G_run 3 (F' := (32, [some (.ref 0), some (.int v1)], [.int (I 0 5)], 0, 0, kjS true I L)) rfl ?_
          obtain rfl := Option.some.inj h
          exact mv_G_ret rfl rfl rfl (Nat.le_refl _) trivial ⟨rfl, rfl⟩
      · rw [if_neg hc2] at h
        refine mv_G_br (tgt := 19) rfl rfl (by decide) (fun z => absurd z hc2) (fun _ => ?_)
        refine mv_G_run 2 (F' := (18, [some (.ref 0), some (.int v1)], [.int (I 0 4)], 0, 0, kjS true I L)) rfl ?_
        obtain rfl := Option.some.inj h
        exact mv_G_ret rfl rfl rfl (Nat.le_refl _) trivial ⟨rfl, rfl⟩
    · rw [if_neg hc1] at h
      refine mv_G_br (tgt := 9) rfl rfl (by decide) (fun z => absurd z hc1) (fun _ => ?_)
      refine mv_G_run 2 (F' := (8, [some (.ref 0), some (.int v1)], [.int (I 0 3)], 0, 0, kjS true I L)) rfl ?_
      obtain rfl := Option.some.inj h
      exact mv_G_ret rfl rfl rfl (Nat.le_refl _) trivial ⟨rfl, rfl⟩
/-! KindJudge$Layout.lengthOf(I)I on ('b', 4) -/
def kf32 (b : Bool) (I : kjI) (L : kjL) (v1 : Int32) : Option (Int32) :=
  if v1 < 0 then (some (0 : Int32)) else (if (I (kb b 14) 3) ≤ v1 then (some (0 : Int32)) else (bif mv_in v1 16 then (some (I (kb b 21) (Int32.toNatClampNeg v1))) else none))
set_option maxRecDepth 100000 in
set_option maxHeartbeats 4000000 in
theorem kf32_ok (f : Bool) (b : Bool) (I : kjI) (L : kjL) (v1 : Int32) (d : Nat) (r : Int32) (h : kf32 b I L v1 = some r) : mv_C kjP kjSta (d + 1) 32 [.ref (kb b 4), .int v1] (kjS f I L) (kjQi f I L r) := by
  cases b
  · unfold kf32 at h
    refine mv_C_in kjM_32 (lc := [some (.ref (kb false 4)), some (.int v1)]) rfl rfl rfl ?_
    refine mv_G_run 1 (F' := (1, [some (.ref (kb false 4)), some (.int v1)], [.int v1], 0, 0, kjS f I L)) rfl ?_
    by_cases hc1 : v1 < 0
    · rw [if_pos hc1] at h
      refine mv_G_br (tgt := 24) rfl rfl (by decide) (fun _ => ?_) (fun z => absurd hc1 z)
      refine mv_G_run 1 (F' := (25, [some (.ref (kb false 4)), some (.int v1)], [.int (0 : Int32)], 0, 0, kjS f I L)) rfl ?_
      obtain rfl := Option.some.inj h
      exact mv_G_ret rfl rfl rfl (Nat.le_refl _) trivial ⟨rfl, rfl⟩
    · rw [if_neg hc1] at h
      refine mv_G_br (tgt := 24) rfl rfl (by decide) (fun z => absurd z hc1) (fun _ => ?_)
      refine mv_G_run 4 (F' := (12, [some (.ref (kb false 4)), some (.int v1)], [.int (I (kb false 14) 3), .int v1], 0, 0, kjS f I L)) rfl ?_
      by_cases hc2 : (I (kb false 14) 3) ≤ v1
      · rw [if_pos hc2] at h
        refine mv_G_br (tgt := 24) rfl rfl (by decide) (fun _ => ?_) (fun z => absurd hc2 z)
        refine mv_G_run 1 (F' := (25, [some (.ref (kb false 4)), some (.int v1)], [.int (0 : Int32)], 0, 0, kjS f I L)) rfl ?_
        obtain rfl := Option.some.inj h
        exact mv_G_ret rfl rfl rfl (Nat.le_refl _) trivial ⟨rfl, rfl⟩
      · rw [if_neg hc2] at h
        refine mv_G_br (tgt := 24) rfl rfl (by decide) (fun z => absurd z hc2) (fun _ => ?_)
        refine mv_G_run 3 (F' := (20, [some (.ref (kb false 4)), some (.int v1)], [.int v1, .ref (kb false 21)], 0, 0, kjS f I L)) rfl ?_
        obtain ⟨hi3, h⟩ := mv_bifs h
        refine mv_G_ald rfl rfl (mv_in_ok hi3) ?_
        refine mv_G_run 1 (F' := (25, [some (.ref (kb false 4)), some (.int v1)], [.int (I (kb false 21) (Int32.toNatClampNeg v1))], 0, 0, kjS f I L)) rfl ?_
        obtain rfl := Option.some.inj h
        exact mv_G_ret rfl rfl rfl (Nat.le_refl _) trivial ⟨rfl, rfl⟩
  · unfold kf32 at h
    refine mv_C_in kjM_32 (lc := [some (.ref (kb true 4)), some (.int v1)]) rfl rfl rfl ?_
    refine mv_G_run 1 (F' := (1, [some (.ref (kb true 4)), some (.int v1)], [.int v1], 0, 0, kjS f I L)) rfl ?_
    by_cases hc1 : v1 < 0
    · rw [if_pos hc1] at h
      refine mv_G_br (tgt := 24) rfl rfl (by decide) (fun _ => ?_) (fun z => absurd hc1 z)
      refine mv_G_run 1 (F' := (25, [some (.ref (kb true 4)), some (.int v1)], [.int (0 : Int32)], 0, 0, kjS f I L)) rfl ?_
      obtain rfl := Option.some.inj h
      exact mv_G_ret rfl rfl rfl (Nat.le_refl _) trivial ⟨rfl, rfl⟩
    · rw [if_neg hc1] at h
      refine mv_G_br (tgt := 24) rfl rfl (by decide) (fun z => absurd z hc1) (fun _ => ?_)
      refine mv_G_run 4 (F' := (12, [some (.ref (kb true 4)), some (.int v1)], [.int (I (kb true 14) 3), .int v1], 0, 0, kjS f I L)) rfl ?_
      by_cases hc2 : (I (kb true 14) 3) ≤ v1
      · rw [if_pos hc2] at h
        refine mv_G_br (tgt := 24) rfl rfl (by decide) (fun _ => ?_) (fun z => absurd hc2 z)
        refine mv_G_run 1 (F' := (25, [some (.ref (kb true 4)), some (.int v1)], [.int (0 : Int32)], 0, 0, kjS f I L)) rfl ?_
        obtain rfl := Option.some.inj h
        exact mv_G_ret rfl rfl rfl (Nat.le_refl _) trivial ⟨rfl, rfl⟩
      · rw [if_neg hc2] at h
        refine mv_G_br (tgt := 24) rfl rfl (by decide) (fun z => absurd z hc2) (fun _ => ?_)
        refine mv_G_run 3 (F' := (20, [some (.ref (kb true 4)), some (.int v1)], [.int v1, .ref (kb true 21)], 0, 0, kjS f I L)) rfl ?_
        obtain ⟨hi3, h⟩ := mv_bifs h
        refine mv_G_ald rfl rfl (mv_in_ok hi3) ?_
        refine mv_G_run 1 (F' := (25, [some (.ref (kb true 4)), some (.int v1)], [.int (I (kb true 21) (Int32.toNatClampNeg v1))], 0, 0, kjS f I L)) rfl ?_
        obtain rfl := Option.some.inj h
        exact mv_G_ret rfl rfl rfl (Nat.le_refl _) trivial ⟨rfl, rfl⟩
/-! KindJudge$Layout.offset(II)I on ('b', 4) -/
def kf33 (b : Bool) (I : kjI) (L : kjL) (v1 : Int32) (v2 : Int32) : Option (Int32) :=
  if v2 < 0 then (some (-1 : Int32)) else ((kf32 b I L v1).bind fun r2 => if r2 ≤ v2 then (some (-1 : Int32)) else (bif mv_in v1 16 then (some ((I (kb b 20) (Int32.toNatClampNeg v1)) + v2)) else none))
set_option maxRecDepth 100000 in
set_option maxHeartbeats 4000000 in
theorem kf33_ok (f : Bool) (b : Bool) (I : kjI) (L : kjL) (v1 : Int32) (v2 : Int32) (d : Nat) (r : Int32) (h : kf33 b I L v1 v2 = some r) : mv_C kjP kjSta (d + 2) 33 [.ref (kb b 4), .int v1, .int v2] (kjS f I L) (kjQi f I L r) := by
  cases b
  · unfold kf33 at h
    refine mv_C_in kjM_33 (lc := [some (.ref (kb false 4)), some (.int v1), some (.int v2)]) rfl rfl rfl ?_
    refine mv_G_run 1 (F' := (1, [some (.ref (kb false 4)), some (.int v1), some (.int v2)], [.int v2], 0, 0, kjS f I L)) rfl ?_
    by_cases hc1 : v2 < 0
    · rw [if_pos hc1] at h
      refine mv_G_br (tgt := 24) rfl rfl (by decide) (fun _ => ?_) (fun z => absurd hc1 z)
      refine mv_G_run 1 (F' := (25, [some (.ref (kb false 4)), some (.int v1), some (.int v2)], [.int (-1 : Int32)], 0, 0, kjS f I L)) rfl ?_
      obtain rfl := Option.some.inj h
      exact mv_G_ret rfl rfl rfl (Nat.le_refl _) trivial ⟨rfl, rfl⟩
    · rw [if_neg hc1] at h
      refine mv_G_br (tgt := 24) rfl rfl (by decide) (fun z => absurd z hc1) (fun _ => ?_)
      refine mv_G_run 3 (F' := (7, [some (.ref (kb false 4)), some (.int v1), some (.int v2)], [.int v1, .ref (kb false 4), .int v2], 0, 0, kjS f I L)) rfl ?_
      obtain ⟨r2, hc3, h⟩ := mv_bd h
      refine mv_G_call (r := [.int v2]) (kf32_ok _ _ _ _ _ _ _ hc3) rfl rfl rfl rfl rfl (Nat.le_of_ble_eq_true rfl) (Nat.le_of_ble_eq_true rfl) (Nat.le_of_ble_eq_true rfl) ?_
      rintro _ _ ⟨rfl, rfl⟩
      by_cases hc4 : r2 ≤ v2
      · rw [if_pos hc4] at h
        refine mv_G_br (tgt := 24) rfl rfl (by decide) (fun _ => ?_) (fun z => absurd hc4 z)
        refine mv_G_run 1 (F' := (25, [some (.ref (kb false 4)), some (.int v1), some (.int v2)], [.int (-1 : Int32)], 0, 0, kjS f I L)) rfl ?_
        obtain rfl := Option.some.inj h
        exact mv_G_ret rfl rfl rfl (Nat.le_refl _) trivial ⟨rfl, rfl⟩
      · rw [if_neg hc4] at h
        refine mv_G_br (tgt := 24) rfl rfl (by decide) (fun z => absurd z hc4) (fun _ => ?_)
        refine mv_G_run 3 (F' := (18, [some (.ref (kb false 4)), some (.int v1), some (.int v2)], [.int v1, .ref (kb false 20)], 0, 0, kjS f I L)) rfl ?_
        obtain ⟨hi5, h⟩ := mv_bifs h
        refine mv_G_ald rfl rfl (mv_in_ok hi5) ?_
        refine mv_G_run 3 (F' := (25, [some (.ref (kb false 4)), some (.int v1), some (.int v2)], [.int ((I (kb false 20) (Int32.toNatClampNeg v1)) + v2)], 0, 0, kjS f I L)) rfl ?_
        obtain rfl := Option.some.inj h
        exact mv_G_ret rfl rfl rfl (Nat.le_refl _) trivial ⟨rfl, rfl⟩
  · unfold kf33 at h
    refine mv_C_in kjM_33 (lc := [some (.ref (kb true 4)), some (.int v1), some (.int v2)]) rfl rfl rfl ?_
    refine mv_G_run 1 (F' := (1, [some (.ref (kb true 4)), some (.int v1), some (.int v2)], [.int v2], 0, 0, kjS f I L)) rfl ?_
    by_cases hc1 : v2 < 0
    · rw [if_pos hc1] at h
      refine mv_G_br (tgt := 24) rfl rfl (by decide) (fun _ => ?_) (fun z => absurd hc1 z)
      refine mv_G_run 1 (F' := (25, [some (.ref (kb true 4)), some (.int v1), some (.int v2)], [.int (-1 : Int32)], 0, 0, kjS f I L)) rfl ?_
      obtain rfl := Option.some.inj h
      exact mv_G_ret rfl rfl rfl (Nat.le_refl _) trivial ⟨rfl, rfl⟩
    · rw [if_neg hc1] at h
      refine mv_G_br (tgt := 24) rfl rfl (by decide) (fun z => absurd z hc1) (fun _ => ?_)
      refine mv_G_run 3 (F' := (7, [some (.ref (kb true 4)), some (.int v1), some (.int v2)], [.int v1, .ref (kb true 4), .int v2], 0, 0, kjS f I L)) rfl ?_
      obtain ⟨r2, hc3, h⟩ := mv_bd h
      refine mv_G_call (r := [.int v2]) (kf32_ok _ _ _ _ _ _ _ hc3) rfl rfl rfl rfl rfl (Nat.le_of_ble_eq_true rfl) (Nat.le_of_ble_eq_true rfl) (Nat.le_of_ble_eq_true rfl) ?_
      rintro _ _ ⟨rfl, rfl⟩
      by_cases hc4 : r2 ≤ v2
      · rw [if_pos hc4] at h
        refine mv_G_br (tgt := 24) rfl rfl (by decide) (fun _ => ?_) (fun z => absurd hc4 z)
        refine mv_G_run 1 (F' := (25, [some (.ref (kb true 4)), some (.int v1), some (.int v2)], [.int (-1 : Int32)], 0, 0, kjS f I L)) rfl ?_
        obtain rfl := Option.some.inj h
        exact mv_G_ret rfl rfl rfl (Nat.le_refl _) trivial ⟨rfl, rfl⟩
      · rw [if_neg hc4] at h
        refine mv_G_br (tgt := 24) rfl rfl (by decide) (fun z => absurd z hc4) (fun _ => ?_)
        refine mv_G_run 3 (F' := (18, [some (.ref (kb true 4)), some (.int v1), some (.int v2)], [.int v1, .ref (kb true 20)], 0, 0, kjS f I L)) rfl ?_
        obtain ⟨hi5, h⟩ := mv_bifs h
        refine mv_G_ald rfl rfl (mv_in_ok hi5) ?_
        refine mv_G_run 3 (F' := (25, [some (.ref (kb true 4)), some (.int v1), some (.int v2)], [.int ((I (kb true 20) (Int32.toNatClampNeg v1)) + v2)], 0, 0, kjS f I L)) rfl ?_
        obtain rfl := Option.some.inj h
        exact mv_G_ret rfl rfl rfl (Nat.le_refl _) trivial ⟨rfl, rfl⟩
/-! KindJudge$Code.begins(II)Z on ('b', 24) -/
def kf66 (b : Bool) (I : kjI) (L : kjL) (v1 : Int32) (v2 : Int32) : Option (Int32) :=
  (kf33 b I L v1 v2).bind fun r1 => if r1 < 0 then (some (0 : Int32)) else (if (1500 : Int32) ≤ r1 then (some (0 : Int32)) else (bif mv_in r1 1500 then (if (I (kb b 25) (Int32.toNatClampNeg r1)) = 0 then (some (0 : Int32)) else (some (1 : Int32))) else none))
set_option maxRecDepth 100000 in
set_option maxHeartbeats 4000000 in
theorem kf66_ok (f : Bool) (b : Bool) (I : kjI) (L : kjL) (v1 : Int32) (v2 : Int32) (d : Nat) (r : Int32) (h : kf66 b I L v1 v2 = some r) : mv_C kjP kjSta (d + 3) 66 [.ref (kb b 24), .int v1, .int v2] (kjS f I L) (kjQi f I L r) := by
  cases b
  · unfold kf66 at h
    refine mv_C_in kjM_66 (lc := [some (.ref (kb false 24)), some (.int v1), some (.int v2), none]) rfl rfl rfl ?_
    refine mv_G_run 4 (F' := (6, [some (.ref (kb false 24)), some (.int v1), some (.int v2), none], [.int v2, .int v1, .ref (kb false 4)], 0, 0, kjS f I L)) rfl ?_
    obtain ⟨r1, hc2, h⟩ := mv_bd h
    refine mv_G_call (r := []) (kf33_ok _ _ _ _ _ _ _ _ hc2) rfl rfl rfl rfl rfl (Nat.le_of_ble_eq_true rfl) (Nat.le_of_ble_eq_true rfl) (Nat.le_of_ble_eq_true rfl) ?_
    rintro _ _ ⟨rfl, rfl⟩
    refine mv_G_run 2 (F' := (11, [some (.ref (kb false 24)), some (.int v1), some (.int v2), some (.int r1)], [.int r1], 0, 0, kjS f I L)) rfl ?_
    by_cases hc3 : r1 < 0
    · rw [if_pos hc3] at h
      refine mv_G_br (tgt := 36) rfl rfl (by decide) (fun _ => ?_) (fun z => absurd hc3 z)
      refine mv_G_run 1 (F' := (37, [some (.ref (kb false 24)), some (.int v1), some (.int v2), some (.int r1)], [.int (0 : Int32)], 0, 0, kjS f I L)) rfl ?_
      obtain rfl := Option.some.inj h
      exact mv_G_ret rfl rfl rfl (Nat.le_refl _) (Or.inl rfl) ⟨rfl, rfl⟩
    · rw [if_neg hc3] at h
      refine mv_G_br (tgt := 36) rfl rfl (by decide) (fun z => absurd z hc3) (fun _ => ?_)
      refine mv_G_run 4 (F' := (20, [some (.ref (kb false 24)), some (.int v1), some (.int v2), some (.int r1)], [.int (1500 : Int32), .int r1], 0, 0, kjS f I L)) rfl ?_
      by_cases hc4 : (1500 : Int32) ≤ r1
      · rw [if_pos hc4] at h
        refine mv_G_br (tgt := 36) rfl rfl (by decide) (fun _ => ?_) (fun z => absurd hc4 z)
        refine mv_G_run 1 (F' := (37, [some (.ref (kb false 24)), some (.int v1), some (.int v2), some (.int r1)], [.int (0 : Int32)], 0, 0, kjS f I L)) rfl ?_
        obtain rfl := Option.some.inj h
        exact mv_G_ret rfl rfl rfl (Nat.le_refl _) (Or.inl rfl) ⟨rfl, rfl⟩
      · rw [if_neg hc4] at h
        refine mv_G_br (tgt := 36) rfl rfl (by decide) (fun z => absurd z hc4) (fun _ => ?_)
        refine mv_G_run 3 (F' := (28, [some (.ref (kb false 24)), some (.int v1), some (.int v2), some (.int r1)], [.int r1, .ref (kb false 25)], 0, 0, kjS f I L)) rfl ?_
        obtain ⟨hi5, h⟩ := mv_bifs h
        refine mv_G_ald rfl rfl (mv_in_ok hi5) ?_
        by_cases hc6 : (I (kb false 25) (Int32.toNatClampNeg r1)) = 0
        · rw [if_pos hc6] at h
          refine mv_G_br (tgt := 36) rfl rfl (by decide) (fun _ => ?_) (fun z => absurd hc6 z)
          refine mv_G_run 1 (F' := (37, [some (.ref (kb false 24)), some (.int v1), some (.int v2), some (.int r1)], [.int (0 : Int32)], 0, 0, kjS f I L)) rfl ?_
          obtain rfl := Option.some.inj h
          exact mv_G_ret rfl rfl rfl (Nat.le_refl _) (Or.inl rfl) ⟨rfl, rfl⟩
        · rw [if_neg hc6] at h
          refine mv_G_br (tgt := 36) rfl rfl (by decide) (fun z => absurd z hc6) (fun _ => ?_)
          refine mv_G_run 2 (F' := (37, [some (.ref (kb false 24)), some (.int v1), some (.int v2), some (.int r1)], [.int (1 : Int32)], 0, 0, kjS f I L)) rfl ?_
          obtain rfl := Option.some.inj h
          exact mv_G_ret rfl rfl rfl (Nat.le_refl _) (Or.inr rfl) ⟨rfl, rfl⟩
  · unfold kf66 at h
    refine mv_C_in kjM_66 (lc := [some (.ref (kb true 24)), some (.int v1), some (.int v2), none]) rfl rfl rfl ?_
    refine mv_G_run 4 (F' := (6, [some (.ref (kb true 24)), some (.int v1), some (.int v2), none], [.int v2, .int v1, .ref (kb true 4)], 0, 0, kjS f I L)) rfl ?_
    obtain ⟨r1, hc2, h⟩ := mv_bd h
    refine mv_G_call (r := []) (kf33_ok _ _ _ _ _ _ _ _ hc2) rfl rfl rfl rfl rfl (Nat.le_of_ble_eq_true rfl) (Nat.le_of_ble_eq_true rfl) (Nat.le_of_ble_eq_true rfl) ?_
    rintro _ _ ⟨rfl, rfl⟩
    refine mv_G_run 2 (F' := (11, [some (.ref (kb true 24)), some (.int v1), some (.int v2), some (.int r1)], [.int r1], 0, 0, kjS f I L)) rfl ?_
    by_cases hc3 : r1 < 0
    · rw [if_pos hc3] at h
      refine mv_G_br (tgt := 36) rfl rfl (by decide) (fun _ => ?_) (fun z => absurd hc3 z)
      refine mv_G_run 1 (F' := (37, [some (.ref (kb true 24)), some (.int v1), some (.int v2), some (.int r1)], [.int (0 : Int32)], 0, 0, kjS f I L)) rfl ?_
      obtain rfl := Option.some.inj h
      exact mv_G_ret rfl rfl rfl (Nat.le_refl _) (Or.inl rfl) ⟨rfl, rfl⟩
    · rw [if_neg hc3] at h
      refine mv_G_br (tgt := 36) rfl rfl (by decide) (fun z => absurd z hc3) (fun _ => ?_)
      refine mv_G_run 4 (F' := (20, [some (.ref (kb true 24)), some (.int v1), some (.int v2), some (.int r1)], [.int (1500 : Int32), .int r1], 0, 0, kjS f I L)) rfl ?_
      by_cases hc4 : (1500 : Int32) ≤ r1
      · rw [if_pos hc4] at h
        refine mv_G_br (tgt := 36) rfl rfl (by decide) (fun _ => ?_) (fun z => absurd hc4 z)
        refine mv_G_run 1 (F' := (37, [some (.ref (kb true 24)), some (.int v1), some (.int v2), some (.int r1)], [.int (0 : Int32)], 0, 0, kjS f I L)) rfl ?_
        obtain rfl := Option.some.inj h
        exact mv_G_ret rfl rfl rfl (Nat.le_refl _) (Or.inl rfl) ⟨rfl, rfl⟩
      · rw [if_neg hc4] at h
        refine mv_G_br (tgt := 36) rfl rfl (by decide) (fun z => absurd z hc4) (fun _ => ?_)
        refine mv_G_run 3 (F' := (28, [some (.ref (kb true 24)), some (.int v1), some (.int v2), some (.int r1)], [.int r1, .ref (kb true 25)], 0, 0, kjS f I L)) rfl ?_
        obtain ⟨hi5, h⟩ := mv_bifs h
        refine mv_G_ald rfl rfl (mv_in_ok hi5) ?_
        by_cases hc6 : (I (kb true 25) (Int32.toNatClampNeg r1)) = 0
        · rw [if_pos hc6] at h
          refine mv_G_br (tgt := 36) rfl rfl (by decide) (fun _ => ?_) (fun z => absurd hc6 z)
          refine mv_G_run 1 (F' := (37, [some (.ref (kb true 24)), some (.int v1), some (.int v2), some (.int r1)], [.int (0 : Int32)], 0, 0, kjS f I L)) rfl ?_
          obtain rfl := Option.some.inj h
          exact mv_G_ret rfl rfl rfl (Nat.le_refl _) (Or.inl rfl) ⟨rfl, rfl⟩
        · rw [if_neg hc6] at h
          refine mv_G_br (tgt := 36) rfl rfl (by decide) (fun z => absurd z hc6) (fun _ => ?_)
          refine mv_G_run 2 (F' := (37, [some (.ref (kb true 24)), some (.int v1), some (.int v2), some (.int r1)], [.int (1 : Int32)], 0, 0, kjS f I L)) rfl ?_
          obtain rfl := Option.some.inj h
          exact mv_G_ret rfl rfl rfl (Nat.le_refl _) (Or.inr rfl) ⟨rfl, rfl⟩
/-! KindJudge$Flow.heightAhead(II)I on ('b', 26) -/
def kf78 (b : Bool) (I : kjI) (L : kjL) (v1 : Int32) (v2 : Int32) : Option (Int32) :=
  (kf33 b I L v1 v2).bind fun r1 => if r1 < 0 then (some (-1 : Int32)) else (if (1500 : Int32) ≤ r1 then (some (-1 : Int32)) else (bif mv_in r1 1500 then (some (I (kb b 27) (Int32.toNatClampNeg r1))) else none))
set_option maxRecDepth 100000 in
set_option maxHeartbeats 4000000 in
theorem kf78_ok (f : Bool) (b : Bool) (I : kjI) (L : kjL) (v1 : Int32) (v2 : Int32) (d : Nat) (r : Int32) (h : kf78 b I L v1 v2 = some r) : mv_C kjP kjSta (d + 3) 78 [.ref (kb b 26), .int v1, .int v2] (kjS f I L) (kjQi f I L r) := by
  cases b
  · unfold kf78 at h
    refine mv_C_in kjM_78 (lc := [some (.ref (kb false 26)), some (.int v1), some (.int v2), none]) rfl rfl rfl ?_
    refine mv_G_run 4 (F' := (6, [some (.ref (kb false 26)), some (.int v1), some (.int v2), none], [.int v2, .int v1, .ref (kb false 4)], 0, 0, kjS f I L)) rfl ?_
    obtain ⟨r1, hc2, h⟩ := mv_bd h
    refine mv_G_call (r := []) (kf33_ok _ _ _ _ _ _ _ _ hc2) rfl rfl rfl rfl rfl (Nat.le_of_ble_eq_true rfl) (Nat.le_of_ble_eq_true rfl) (Nat.le_of_ble_eq_true rfl) ?_
    rintro _ _ ⟨rfl, rfl⟩
    refine mv_G_run 2 (F' := (11, [some (.ref (kb false 26)), some (.int v1), some (.int v2), some (.int r1)], [.int r1], 0, 0, kjS f I L)) rfl ?_
    by_cases hc3 : r1 < 0
    · rw [if_pos hc3] at h
      refine mv_G_br (tgt := 32) rfl rfl (by decide) (fun _ => ?_) (fun z => absurd hc3 z)
      refine mv_G_run 1 (F' := (33, [some (.ref (kb false 26)), some (.int v1), some (.int v2), some (.int r1)], [.int (-1 : Int32)], 0, 0, kjS f I L)) rfl ?_
      obtain rfl := Option.some.inj h
      exact mv_G_ret rfl rfl rfl (Nat.le_refl _) trivial ⟨rfl, rfl⟩
    · rw [if_neg hc3] at h
      refine mv_G_br (tgt := 32) rfl rfl (by decide) (fun z => absurd z hc3) (fun _ => ?_)
      refine mv_G_run 4 (F' := (20, [some (.ref (kb false 26)), some (.int v1), some (.int v2), some (.int r1)], [.int (1500 : Int32), .int r1], 0, 0, kjS f I L)) rfl ?_
      by_cases hc4 : (1500 : Int32) ≤ r1
      · rw [if_pos hc4] at h
        refine mv_G_br (tgt := 32) rfl rfl (by decide) (fun _ => ?_) (fun z => absurd hc4 z)
        refine mv_G_run 1 (F' := (33, [some (.ref (kb false 26)), some (.int v1), some (.int v2), some (.int r1)], [.int (-1 : Int32)], 0, 0, kjS f I L)) rfl ?_
        obtain rfl := Option.some.inj h
        exact mv_G_ret rfl rfl rfl (Nat.le_refl _) trivial ⟨rfl, rfl⟩
      · rw [if_neg hc4] at h
        refine mv_G_br (tgt := 32) rfl rfl (by decide) (fun z => absurd z hc4) (fun _ => ?_)
        refine mv_G_run 3 (F' := (28, [some (.ref (kb false 26)), some (.int v1), some (.int v2), some (.int r1)], [.int r1, .ref (kb false 27)], 0, 0, kjS f I L)) rfl ?_
        obtain ⟨hi5, h⟩ := mv_bifs h
        refine mv_G_ald rfl rfl (mv_in_ok hi5) ?_
        refine mv_G_run 1 (F' := (33, [some (.ref (kb false 26)), some (.int v1), some (.int v2), some (.int r1)], [.int (I (kb false 27) (Int32.toNatClampNeg r1))], 0, 0, kjS f I L)) rfl ?_
        obtain rfl := Option.some.inj h
        exact mv_G_ret rfl rfl rfl (Nat.le_refl _) trivial ⟨rfl, rfl⟩
  · unfold kf78 at h
    refine mv_C_in kjM_78 (lc := [some (.ref (kb true 26)), some (.int v1), some (.int v2), none]) rfl rfl rfl ?_
    refine mv_G_run 4 (F' := (6, [some (.ref (kb true 26)), some (.int v1), some (.int v2), none], [.int v2, .int v1, .ref (kb true 4)], 0, 0, kjS f I L)) rfl ?_
    obtain ⟨r1, hc2, h⟩ := mv_bd h
    refine mv_G_call (r := []) (kf33_ok _ _ _ _ _ _ _ _ hc2) rfl rfl rfl rfl rfl (Nat.le_of_ble_eq_true rfl) (Nat.le_of_ble_eq_true rfl) (Nat.le_of_ble_eq_true rfl) ?_
    rintro _ _ ⟨rfl, rfl⟩
    refine mv_G_run 2 (F' := (11, [some (.ref (kb true 26)), some (.int v1), some (.int v2), some (.int r1)], [.int r1], 0, 0, kjS f I L)) rfl ?_
    by_cases hc3 : r1 < 0
    · rw [if_pos hc3] at h
      refine mv_G_br (tgt := 32) rfl rfl (by decide) (fun _ => ?_) (fun z => absurd hc3 z)
      refine mv_G_run 1 (F' := (33, [some (.ref (kb true 26)), some (.int v1), some (.int v2), some (.int r1)], [.int (-1 : Int32)], 0, 0, kjS f I L)) rfl ?_
      obtain rfl := Option.some.inj h
      exact mv_G_ret rfl rfl rfl (Nat.le_refl _) trivial ⟨rfl, rfl⟩
    · rw [if_neg hc3] at h
      refine mv_G_br (tgt := 32) rfl rfl (by decide) (fun z => absurd z hc3) (fun _ => ?_)
      refine mv_G_run 4 (F' := (20, [some (.ref (kb true 26)), some (.int v1), some (.int v2), some (.int r1)], [.int (1500 : Int32), .int r1], 0, 0, kjS f I L)) rfl ?_
      by_cases hc4 : (1500 : Int32) ≤ r1
      · rw [if_pos hc4] at h
        refine mv_G_br (tgt := 32) rfl rfl (by decide) (fun _ => ?_) (fun z => absurd hc4 z)
        refine mv_G_run 1 (F' := (33, [some (.ref (kb true 26)), some (.int v1), some (.int v2), some (.int r1)], [.int (-1 : Int32)], 0, 0, kjS f I L)) rfl ?_
        obtain rfl := Option.some.inj h
        exact mv_G_ret rfl rfl rfl (Nat.le_refl _) trivial ⟨rfl, rfl⟩
      · rw [if_neg hc4] at h
        refine mv_G_br (tgt := 32) rfl rfl (by decide) (fun z => absurd z hc4) (fun _ => ?_)
        refine mv_G_run 3 (F' := (28, [some (.ref (kb true 26)), some (.int v1), some (.int v2), some (.int r1)], [.int r1, .ref (kb true 27)], 0, 0, kjS f I L)) rfl ?_
        obtain ⟨hi5, h⟩ := mv_bifs h
        refine mv_G_ald rfl rfl (mv_in_ok hi5) ?_
        refine mv_G_run 1 (F' := (33, [some (.ref (kb true 26)), some (.int v1), some (.int v2), some (.int r1)], [.int (I (kb true 27) (Int32.toNatClampNeg r1))], 0, 0, kjS f I L)) rfl ?_
        obtain rfl := Option.some.inj h
        exact mv_G_ret rfl rfl rfl (Nat.le_refl _) trivial ⟨rfl, rfl⟩
/-! KindJudge$Layout.localsOf(I)I on ('b', 4) -/
def kf30 (b : Bool) (I : kjI) (L : kjL) (v1 : Int32) : Option (Int32) :=
  if v1 < 0 then (some (0 : Int32)) else (if (I (kb b 14) 3) ≤ v1 then (some (0 : Int32)) else (bif mv_in v1 16 then (some (I (kb b 18) (Int32.toNatClampNeg v1))) else none))
set_option maxRecDepth 100000 in
set_option maxHeartbeats 4000000 in
theorem kf30_ok (f : Bool) (b : Bool) (I : kjI) (L : kjL) (v1 : Int32) (d : Nat) (r : Int32) (h : kf30 b I L v1 = some r) : mv_C kjP kjSta (d + 1) 30 [.ref (kb b 4), .int v1] (kjS f I L) (kjQi f I L r) := by
  cases b
  · unfold kf30 at h
    refine mv_C_in kjM_30 (lc := [some (.ref (kb false 4)), some (.int v1)]) rfl rfl rfl ?_
    refine mv_G_run 1 (F' := (1, [some (.ref (kb false 4)), some (.int v1)], [.int v1], 0, 0, kjS f I L)) rfl ?_
    by_cases hc1 : v1 < 0
    · rw [if_pos hc1] at h
      refine mv_G_br (tgt := 24) rfl rfl (by decide) (fun _ => ?_) (fun z => absurd hc1 z)
      refine mv_G_run 1 (F' := (25, [some (.ref (kb false 4)), some (.int v1)], [.int (0 : Int32)], 0, 0, kjS f I L)) rfl ?_
      obtain rfl := Option.some.inj h
      exact mv_G_ret rfl rfl rfl (Nat.le_refl _) trivial ⟨rfl, rfl⟩
    · rw [if_neg hc1] at h
      refine mv_G_br (tgt := 24) rfl rfl (by decide) (fun z => absurd z hc1) (fun _ => ?_)
      refine mv_G_run 4 (F' := (12, [some (.ref (kb false 4)), some (.int v1)], [.int (I (kb false 14) 3), .int v1], 0, 0, kjS f I L)) rfl ?_
      by_cases hc2 : (I (kb false 14) 3) ≤ v1
      · rw [if_pos hc2] at h
        refine mv_G_br (tgt := 24) rfl rfl (by decide) (fun _ => ?_) (fun z => absurd hc2 z)
        refine mv_G_run 1 (F' := (25, [some (.ref (kb false 4)), some (.int v1)], [.int (0 : Int32)], 0, 0, kjS f I L)) rfl ?_
        obtain rfl := Option.some.inj h
        exact mv_G_ret rfl rfl rfl (Nat.le_refl _) trivial ⟨rfl, rfl⟩
      · rw [if_neg hc2] at h
        refine mv_G_br (tgt := 24) rfl rfl (by decide) (fun z => absurd z hc2) (fun _ => ?_)
        refine mv_G_run 3 (F' := (20, [some (.ref (kb false 4)), some (.int v1)], [.int v1, .ref (kb false 18)], 0, 0, kjS f I L)) rfl ?_
        obtain ⟨hi3, h⟩ := mv_bifs h
        refine mv_G_ald rfl rfl (mv_in_ok hi3) ?_
        refine mv_G_run 1 (F' := (25, [some (.ref (kb false 4)), some (.int v1)], [.int (I (kb false 18) (Int32.toNatClampNeg v1))], 0, 0, kjS f I L)) rfl ?_
        obtain rfl := Option.some.inj h
        exact mv_G_ret rfl rfl rfl (Nat.le_refl _) trivial ⟨rfl, rfl⟩
  · unfold kf30 at h
    refine mv_C_in kjM_30 (lc := [some (.ref (kb true 4)), some (.int v1)]) rfl rfl rfl ?_
    refine mv_G_run 1 (F' := (1, [some (.ref (kb true 4)), some (.int v1)], [.int v1], 0, 0, kjS f I L)) rfl ?_
    by_cases hc1 : v1 < 0
    · rw [if_pos hc1] at h
      refine mv_G_br (tgt := 24) rfl rfl (by decide) (fun _ => ?_) (fun z => absurd hc1 z)
      refine mv_G_run 1 (F' := (25, [some (.ref (kb true 4)), some (.int v1)], [.int (0 : Int32)], 0, 0, kjS f I L)) rfl ?_
      obtain rfl := Option.some.inj h
      exact mv_G_ret rfl rfl rfl (Nat.le_refl _) trivial ⟨rfl, rfl⟩
    · rw [if_neg hc1] at h
      refine mv_G_br (tgt := 24) rfl rfl (by decide) (fun z => absurd z hc1) (fun _ => ?_)
      refine mv_G_run 4 (F' := (12, [some (.ref (kb true 4)), some (.int v1)], [.int (I (kb true 14) 3), .int v1], 0, 0, kjS f I L)) rfl ?_
      by_cases hc2 : (I (kb true 14) 3) ≤ v1
      · rw [if_pos hc2] at h
        refine mv_G_br (tgt := 24) rfl rfl (by decide) (fun _ => ?_) (fun z => absurd hc2 z)
        refine mv_G_run 1 (F' := (25, [some (.ref (kb true 4)), some (.int v1)], [.int (0 : Int32)], 0, 0, kjS f I L)) rfl ?_
        obtain rfl := Option.some.inj h
        exact mv_G_ret rfl rfl rfl (Nat.le_refl _) trivial ⟨rfl, rfl⟩
      · rw [if_neg hc2] at h
        refine mv_G_br (tgt := 24) rfl rfl (by decide) (fun z => absurd z hc2) (fun _ => ?_)
        refine mv_G_run 3 (F' := (20, [some (.ref (kb true 4)), some (.int v1)], [.int v1, .ref (kb true 18)], 0, 0, kjS f I L)) rfl ?_
        obtain ⟨hi3, h⟩ := mv_bifs h
        refine mv_G_ald rfl rfl (mv_in_ok hi3) ?_
        refine mv_G_run 1 (F' := (25, [some (.ref (kb true 4)), some (.int v1)], [.int (I (kb true 18) (Int32.toNatClampNeg v1))], 0, 0, kjS f I L)) rfl ?_
        obtain rfl := Option.some.inj h
        exact mv_G_ret rfl rfl rfl (Nat.le_refl _) trivial ⟨rfl, rfl⟩
/-! KindJudge$Flow.frameAhead(II)J on ('b', 26) -/
def kf81_32 (b : Bool) (I : kjI) (L : kjL) : Option (Int64) :=
  some (0 : Int64)
set_option maxRecDepth 100000 in
set_option maxHeartbeats 4000000 in
theorem kf81_32_ok (f : Bool) (b : Bool) (I : kjI) (L : kjL) (d : Nat)  (r : Int64) (h : kf81_32 b I L = some r) : mv_G kjP kjSta (mv_C kjP kjSta (d + 2)) kjM_81 (kjQl f I L r) (32, [none, none, none, none], [], 0, 0, kjS f I L) := by
  cases b
  · unfold kf81_32 at h
    refine mv_G_run 1 (F' := (33, [none, none, none, none], [.long (0 : Int64)], 0, 0, kjS f I L)) rfl ?_
    obtain rfl := Option.some.inj h
    exact mv_G_ret rfl rfl rfl (Nat.le_refl _) trivial ⟨rfl, rfl⟩
  · unfold kf81_32 at h
    refine mv_G_run 1 (F' := (33, [none, none, none, none], [.long (0 : Int64)], 0, 0, kjS f I L)) rfl ?_
    obtain rfl := Option.some.inj h
    exact mv_G_ret rfl rfl rfl (Nat.le_refl _) trivial ⟨rfl, rfl⟩
def kf81 (b : Bool) (I : kjI) (L : kjL) (v1 : Int32) (v2 : Int32) : Option (Int64) :=
  (kf33 b I L v1 v2).bind fun r1 => if r1 < 0 then (kf81_32 b I L) else (if (1500 : Int32) ≤ r1 then (kf81_32 b I L) else (bif mv_in r1 1500 then (some (L (kb b 28) (Int32.toNatClampNeg r1))) else none))
set_option maxRecDepth 100000 in
set_option maxHeartbeats 4000000 in
theorem kf81_ok (f : Bool) (b : Bool) (I : kjI) (L : kjL) (v1 : Int32) (v2 : Int32) (d : Nat) (r : Int64) (h : kf81 b I L v1 v2 = some r) : mv_C kjP kjSta (d + 3) 81 [.ref (kb b 26), .int v1, .int v2] (kjS f I L) (kjQl f I L r) := by
  cases b
  · unfold kf81 at h
    refine mv_C_in kjM_81 (lc := [some (.ref (kb false 26)), some (.int v1), some (.int v2), none]) rfl rfl rfl ?_
    refine mv_G_run 4 (F' := (6, [some (.ref (kb false 26)), some (.int v1), some (.int v2), none], [.int v2, .int v1, .ref (kb false 4)], 0, 0, kjS f I L)) rfl ?_
    obtain ⟨r1, hc2, h⟩ := mv_bd h
    refine mv_G_call (r := []) (kf33_ok _ _ _ _ _ _ _ _ hc2) rfl rfl rfl rfl rfl (Nat.le_of_ble_eq_true rfl) (Nat.le_of_ble_eq_true rfl) (Nat.le_of_ble_eq_true rfl) ?_
    rintro _ _ ⟨rfl, rfl⟩
    refine mv_G_run 2 (F' := (11, [some (.ref (kb false 26)), some (.int v1), some (.int v2), some (.int r1)], [.int r1], 0, 0, kjS f I L)) rfl ?_
    by_cases hc3 : r1 < 0
    · rw [if_pos hc3] at h
      refine mv_G_br (tgt := 32) rfl rfl (by decide) (fun _ => ?_) (fun z => absurd hc3 z)
      refine mv_G_fg (lc' := [none, none, none, none]) (trivial) ?_
      exact kf81_32_ok _ _ _ _ d _ h
    · rw [if_neg hc3] at h
      refine mv_G_br (tgt := 32) rfl rfl (by decide) (fun z => absurd z hc3) (fun _ => ?_)
      refine mv_G_run 4 (F' := (20, [some (.ref (kb false 26)), some (.int v1), some (.int v2), some (.int r1)], [.int (1500 : Int32), .int r1], 0, 0, kjS f I L)) rfl ?_
      by_cases hc4 : (1500 : Int32) ≤ r1
      · rw [if_pos hc4] at h
        refine mv_G_br (tgt := 32) rfl rfl (by decide) (fun _ => ?_) (fun z => absurd hc4 z)
        refine mv_G_fg (lc' := [none, none, none, none]) (trivial) ?_
        exact kf81_32_ok _ _ _ _ d _ h
      · rw [if_neg hc4] at h
        refine mv_G_br (tgt := 32) rfl rfl (by decide) (fun z => absurd z hc4) (fun _ => ?_)
        refine mv_G_run 3 (F' := (28, [some (.ref (kb false 26)), some (.int v1), some (.int v2), some (.int r1)], [.int r1, .ref (kb false 28)], 0, 0, kjS f I L)) rfl ?_
        obtain ⟨hi5, h⟩ := mv_bifs h
        refine mv_G_ald rfl rfl (mv_in_ok hi5) ?_
        refine mv_G_run 1 (F' := (33, [some (.ref (kb false 26)), some (.int v1), some (.int v2), some (.int r1)], [.long (L (kb false 28) (Int32.toNatClampNeg r1))], 0, 0, kjS f I L)) rfl ?_
        obtain rfl := Option.some.inj h
        exact mv_G_ret rfl rfl rfl (Nat.le_refl _) trivial ⟨rfl, rfl⟩
  · unfold kf81 at h
    refine mv_C_in kjM_81 (lc := [some (.ref (kb true 26)), some (.int v1), some (.int v2), none]) rfl rfl rfl ?_
    refine mv_G_run 4 (F' := (6, [some (.ref (kb true 26)), some (.int v1), some (.int v2), none], [.int v2, .int v1, .ref (kb true 4)], 0, 0, kjS f I L)) rfl ?_
    obtain ⟨r1, hc2, h⟩ := mv_bd h
    refine mv_G_call (r := []) (kf33_ok _ _ _ _ _ _ _ _ hc2) rfl rfl rfl rfl rfl (Nat.le_of_ble_eq_true rfl) (Nat.le_of_ble_eq_true rfl) (Nat.le_of_ble_eq_true rfl) ?_
    rintro _ _ ⟨rfl, rfl⟩
    refine mv_G_run 2 (F' := (11, [some (.ref (kb true 26)), some (.int v1), some (.int v2), some (.int r1)], [.int r1], 0, 0, kjS f I L)) rfl ?_
    by_cases hc3 : r1 < 0
    · rw [if_pos hc3] at h
      refine mv_G_br (tgt := 32) rfl rfl (by decide) (fun _ => ?_) (fun z => absurd hc3 z)
      refine mv_G_fg (lc' := [none, none, none, none]) (trivial) ?_
      exact kf81_32_ok _ _ _ _ d _ h
    · rw [if_neg hc3] at h
      refine mv_G_br (tgt := 32) rfl rfl (by decide) (fun z => absurd z hc3) (fun _ => ?_)
      refine mv_G_run 4 (F' := (20, [some (.ref (kb true 26)), some (.int v1), some (.int v2), some (.int r1)], [.int (1500 : Int32), .int r1], 0, 0, kjS f I L)) rfl ?_
      by_cases hc4 : (1500 : Int32) ≤ r1
      · rw [if_pos hc4] at h
        refine mv_G_br (tgt := 32) rfl rfl (by decide) (fun _ => ?_) (fun z => absurd hc4 z)
        refine mv_G_fg (lc' := [none, none, none, none]) (trivial) ?_
        exact kf81_32_ok _ _ _ _ d _ h
      · rw [if_neg hc4] at h
        refine mv_G_br (tgt := 32) rfl rfl (by decide) (fun z => absurd z hc4) (fun _ => ?_)
        refine mv_G_run 3 (F' := (28, [some (.ref (kb true 26)), some (.int v1), some (.int v2), some (.int r1)], [.int r1, .ref (kb true 28)], 0, 0, kjS f I L)) rfl ?_
        obtain ⟨hi5, h⟩ := mv_bifs h
        refine mv_G_ald rfl rfl (mv_in_ok hi5) ?_
        refine mv_G_run 1 (F' := (33, [some (.ref (kb true 26)), some (.int v1), some (.int v2), some (.int r1)], [.long (L (kb true 28) (Int32.toNatClampNeg r1))], 0, 0, kjS f I L)) rfl ?_
        obtain rfl := Option.some.inj h
        exact mv_G_ret rfl rfl rfl (Nat.le_refl _) trivial ⟨rfl, rfl⟩
/-! KindJudge$Flow.kindIn(JI)I -/
def kf98 (I : kjI) (L : kjL) (v0 : Int64) (v2 : Int32) : Option (Int32) :=
  if (3 : Int32) < ((Int64.toInt32 (((Int64.toUInt64 v0) >>> (Int64.toUInt64 (Int32.toInt64 ((4 : Int32) * v2)) &&& Int64.toUInt64 63)).toInt64)) &&& (15 : Int32)) then (some (((((Int64.toInt32 (((Int64.toUInt64 v0) >>> (Int64.toUInt64 (Int32.toInt64 ((4 : Int32) * v2)) &&& Int64.toUInt64 63)).toInt64)) &&& (15 : Int32)) + (15 : Int32)) - (3 : Int32)) - (1 : Int32))) else (some ((Int64.toInt32 (((Int64.toUInt64 v0) >>> (Int64.toUInt64 (Int32.toInt64 ((4 : Int32) * v2)) &&& Int64.toUInt64 63)).toInt64)) &&& (15 : Int32)))
set_option maxRecDepth 100000 in
set_option maxHeartbeats 4000000 in
theorem kf98_ok (f : Bool) (I : kjI) (L : kjL) (v0 : Int64) (v2 : Int32) (d : Nat) (r : Int32) (h : kf98 I L v0 v2 = some r) : mv_C kjP kjSta (d + 1) 98 [.long v0, .int v2] (kjS f I L) (kjQi f I L r) := by
  unfold kf98 at h
  refine mv_C_in kjM_98 (lc := [some (.long v0), none, some (.int v2), none]) rfl rfl rfl ?_
  refine mv_G_run 11 (F' := (12, [some (.long v0), none, some (.int v2), some (.int ((Int64.toInt32 (((Int64.toUInt64 v0) >>> (Int64.toUInt64 (Int32.toInt64 ((4 : Int32) * v2)) &&& Int64.toUInt64 63)).toInt64)) &&& (15 : Int32)))], [.int (3 : Int32), .int ((Int64.toInt32 (((Int64.toUInt64 v0) >>> (Int64.toUInt64 (Int32.toInt64 ((4 : Int32) * v2)) &&& Int64.toUInt64 63)).toInt64)) &&& (15 : Int32))], 0, 0, kjS f I L)) rfl ?_
  by_cases hc1 : (3 : Int32) < ((Int64.toInt32 (((Int64.toUInt64 v0) >>> (Int64.toUInt64 (Int32.toInt64 ((4 : Int32) * v2)) &&& Int64.toUInt64 63)).toInt64)) &&& (15 : Int32))
  · rw [if_pos hc1] at h
    refine mv_G_br (tgt := 19) rfl rfl (by decide) (fun _ => ?_) (fun z => absurd hc1 z)
    refine mv_G_run 7 (F' := (27, [some (.long v0), none, some (.int v2), some (.int ((Int64.toInt32 (((Int64.toUInt64 v0) >>> (Int64.toUInt64 (Int32.toInt64 ((4 : Int32) * v2)) &&& Int64.toUInt64 63)).toInt64)) &&& (15 : Int32)))], [.int (((((Int64.toInt32 (((Int64.toUInt64 v0) >>> (Int64.toUInt64 (Int32.toInt64 ((4 : Int32) * v2)) &&& Int64.toUInt64 63)).toInt64)) &&& (15 : Int32)) + (15 : Int32)) - (3 : Int32)) - (1 : Int32))], 0, 0, kjS f I L)) rfl ?_
    obtain rfl := Option.some.inj h
    exact mv_G_ret rfl rfl rfl (Nat.le_refl _) trivial ⟨rfl, rfl⟩
  · rw [if_neg hc1] at h
    refine mv_G_br (tgt := 19) rfl rfl (by decide) (fun z => absurd z hc1) (fun _ => ?_)
    refine mv_G_run 2 (F' := (27, [some (.long v0), none, some (.int v2), some (.int ((Int64.toInt32 (((Int64.toUInt64 v0) >>> (Int64.toUInt64 (Int32.toInt64 ((4 : Int32) * v2)) &&& Int64.toUInt64 63)).toInt64)) &&& (15 : Int32)))], [.int ((Int64.toInt32 (((Int64.toUInt64 v0) >>> (Int64.toUInt64 (Int32.toInt64 ((4 : Int32) * v2)) &&& Int64.toUInt64 63)).toInt64)) &&& (15 : Int32))], 0, 0, kjS f I L)) rfl ?_
    obtain rfl := Option.some.inj h
    exact mv_G_ret rfl rfl rfl (Nat.le_refl _) trivial ⟨rfl, rfl⟩
/-! KindJudge$Flow.kindAhead(III)I on ('b', 26) -/
def kf80 (b : Bool) (I : kjI) (L : kjL) (v1 : Int32) (v2 : Int32) (v3 : Int32) : Option (Int32) :=
  (kf81 b I L v1 v2).bind fun r1 => (kf98 I L r1 v3).bind fun r3 => some r3
set_option maxRecDepth 100000 in
set_option maxHeartbeats 4000000 in
theorem kf80_ok (f : Bool) (b : Bool) (I : kjI) (L : kjL) (v1 : Int32) (v2 : Int32) (v3 : Int32) (d : Nat) (r : Int32) (h : kf80 b I L v1 v2 v3 = some r) : mv_C kjP kjSta (d + 4) 80 [.ref (kb b 26), .int v1, .int v2, .int v3] (kjS f I L) (kjQi f I L r) := by
  cases b
  · unfold kf80 at h
    refine mv_C_in kjM_80 (lc := [some (.ref (kb false 26)), some (.int v1), some (.int v2), some (.int v3)]) rfl rfl rfl ?_
    refine mv_G_run 3 (F' := (3, [some (.ref (kb false 26)), some (.int v1), some (.int v2), some (.int v3)], [.int v2, .int v1, .ref (kb false 26)], 0, 0, kjS f I L)) rfl ?_
    obtain ⟨r1, hc2, h⟩ := mv_bd h
    refine mv_G_call (r := []) (kf81_ok _ _ _ _ _ _ _ _ hc2) rfl rfl rfl rfl rfl (Nat.le_of_ble_eq_true rfl) (Nat.le_of_ble_eq_true rfl) (Nat.le_of_ble_eq_true rfl) ?_
    rintro _ _ ⟨rfl, rfl⟩
    refine mv_G_run 1 (F' := (7, [some (.ref (kb false 26)), some (.int v1), some (.int v2), some (.int v3)], [.int v3, .long r1], 0, 0, kjS f I L)) rfl ?_
    obtain ⟨r3, hc4, h⟩ := mv_bd h
    refine mv_G_call (r := []) (kf98_ok _ _ _ _ _ _ _ hc4) rfl rfl rfl rfl rfl (Nat.le_of_ble_eq_true rfl) (Nat.le_of_ble_eq_true rfl) (Nat.le_of_ble_eq_true rfl) ?_
    rintro _ _ ⟨rfl, rfl⟩
    obtain rfl := Option.some.inj h
    exact mv_G_ret rfl rfl rfl (Nat.le_refl _) trivial ⟨rfl, rfl⟩
  · unfold kf80 at h
    refine mv_C_in kjM_80 (lc := [some (.ref (kb true 26)), some (.int v1), some (.int v2), some (.int v3)]) rfl rfl rfl ?_
    refine mv_G_run 3 (F' := (3, [some (.ref (kb true 26)), some (.int v1), some (.int v2), some (.int v3)], [.int v2, .int v1, .ref (kb true 26)], 0, 0, kjS f I L)) rfl ?_
    obtain ⟨r1, hc2, h⟩ := mv_bd h
    refine mv_G_call (r := []) (kf81_ok _ _ _ _ _ _ _ _ hc2) rfl rfl rfl rfl rfl (Nat.le_of_ble_eq_true rfl) (Nat.le_of_ble_eq_true rfl) (Nat.le_of_ble_eq_true rfl) ?_
    rintro _ _ ⟨rfl, rfl⟩
    refine mv_G_run 1 (F' := (7, [some (.ref (kb true 26)), some (.int v1), some (.int v2), some (.int v3)], [.int v3, .long r1], 0, 0, kjS f I L)) rfl ?_
    obtain ⟨r3, hc4, h⟩ := mv_bd h
    refine mv_G_call (r := []) (kf98_ok _ _ _ _ _ _ _ hc4) rfl rfl rfl rfl rfl (Nat.le_of_ble_eq_true rfl) (Nat.le_of_ble_eq_true rfl) (Nat.le_of_ble_eq_true rfl) ?_
    rintro _ _ ⟨rfl, rfl⟩
    obtain rfl := Option.some.inj h
    exact mv_G_ret rfl rfl rfl (Nat.le_refl _) trivial ⟨rfl, rfl⟩
/-! KindJudge.kind(III)I on ('c', 0) -/
def kf4_72 (f : Bool) (I : kjI) (L : kjL) (v1 : Int32) (v2 : Int32) (v3 : Int32) (v4 : Int32) : Option (Int32) :=
  if v3 < (100 : Int32) then (some (-1 : Int32)) else (if v4 ≤ (v3 - (100 : Int32)) then (some (-1 : Int32)) else ((kf80 f I L v1 v2 (((8 : Int32) + v3) - (100 : Int32))).bind fun r3 => some r3))
set_option maxRecDepth 100000 in
set_option maxHeartbeats 4000000 in
theorem kf4_72_ok (f : Bool) (I : kjI) (L : kjL) (d : Nat)  (v1 : Int32) (v2 : Int32) (v3 : Int32) (v4 : Int32) (r : Int32) (h : kf4_72 f I L v1 v2 v3 v4 = some r) : mv_G kjP kjSta (mv_C kjP kjSta (d + 4)) kjM_4 (kjQi f I L r) (72, [some (.ref 0), some (.int v1), some (.int v2), some (.int v3), some (.int v4)], [], 0, 0, kjS f I L) := by
  cases f
  · unfold kf4_72 at h
    refine mv_G_run 2 (F' := (75, [some (.ref 0), some (.int v1), some (.int v2), some (.int v3), some (.int v4)], [.int (100 : Int32), .int v3], 0, 0, kjS false I L)) rfl ?_
    by_cases hc1 : v3 < (100 : Int32)
    · rw [if_pos hc1] at h
      refine mv_G_br (tgt := 107) rfl rfl (by decide) (fun _ => ?_) (fun z => absurd hc1 z)
      refine mv_G_run 1 (F' := (108, [some (.ref 0), some (.int v1), some (.int v2), some (.int v3), some (.int v4)], [.int (-1 : Int32)], 0, 0, kjS false I L)) rfl ?_
      obtain rfl := Option.some.inj h
      exact mv_G_ret rfl rfl rfl (Nat.le_refl _) trivial ⟨rfl, rfl⟩
    · rw [if_neg hc1] at h
      refine mv_G_br (tgt := 107) rfl rfl (by decide) (fun z => absurd z hc1) (fun _ => ?_)
      refine mv_G_run 4 (F' := (84, [some (.ref 0), some (.int v1), some (.int v2), some (.int v3), some (.int v4)], [.int v4, .int (v3 - (100 : Int32))], 0, 0, kjS false I L)) rfl ?_
      by_cases hc2 : v4 ≤ (v3 - (100 : Int32))
      · rw [if_pos hc2] at h
        refine mv_G_br (tgt := 107) rfl rfl (by decide) (fun _ => ?_) (fun z => absurd hc2 z)
        refine mv_G_run 1 (F' := (108, [some (.ref 0), some (.int v1), some (.int v2), some (.int v3), some (.int v4)], [.int (-1 : Int32)], 0, 0, kjS false I L)) rfl ?_
        obtain rfl := Option.some.inj h
        exact mv_G_ret rfl rfl rfl (Nat.le_refl _) trivial ⟨rfl, rfl⟩
      · rw [if_neg hc2] at h
        refine mv_G_br (tgt := 107) rfl rfl (by decide) (fun z => absurd z hc2) (fun _ => ?_)
        refine mv_G_run 10 (F' := (103, [some (.ref 0), some (.int v1), some (.int v2), some (.int v3), some (.int v4)], [.int (((8 : Int32) + v3) - (100 : Int32)), .int v2, .int v1, .ref (kb false 26)], 0, 0, kjS false I L)) rfl ?_
        obtain ⟨r3, hc4, h⟩ := mv_bd h
        refine mv_G_call (r := []) (kf80_ok _ _ _ _ _ _ _ _ _ hc4) rfl rfl rfl rfl rfl (Nat.le_of_ble_eq_true rfl) (Nat.le_of_ble_eq_true rfl) (Nat.le_of_ble_eq_true rfl) ?_
        rintro _ _ ⟨rfl, rfl⟩
        obtain rfl := Option.some.inj h
        exact mv_G_ret rfl rfl rfl (Nat.le_refl _) trivial ⟨rfl, rfl⟩
  · unfold kf4_72 at h
    refine mv_G_run 2 (F' := (75, [some (.ref 0), some (.int v1), some (.int v2), some (.int v3), some (.int v4)], [.int (100 : Int32), .int v3], 0, 0, kjS true I L)) rfl ?_
    by_cases hc1 : v3 < (100 : Int32)
    · rw [if_pos hc1] at h
      refine mv_G_br (tgt := 107) rfl rfl (by decide) (fun _ => ?_) (fun z => absurd hc1 z)
      refine mv_G_run 1 (F' := (108, [some (.ref 0), some (.int v1), some (.int v2), some (.int v3), some (.int v4)], [.int (-1 : Int32)], 0, 0, kjS true I L)) rfl ?_
      obtain rfl := Option.some.inj h
      exact mv_G_ret rfl rfl rfl (Nat.le_refl _) trivial ⟨rfl, rfl⟩
    · rw [if_neg hc1] at h
      refine mv_G_br (tgt := 107) rfl rfl (by decide) (fun z => absurd z hc1) (fun _ => ?_)
      refine mv_G_run 4 (F' := (84, [some (.ref 0), some (.int v1), some (.int v2), some (.int v3), some (.int v4)], [.int v4, .int (v3 - (100 : Int32))], 0, 0, kjS true I L)) rfl ?_
      by_cases hc2 : v4 ≤ (v3 - (100 : Int32))
      · rw [if_pos hc2] at h
        refine mv_G_br (tgt := 107) rfl rfl (by decide) (fun _ => ?_) (fun z => absurd hc2 z)
        refine mv_G_run 1 (F' := (108, [some (.ref 0), some (.int v1), some (.int v2), some (.int v3), some (.int v4)], [.int (-1 : Int32)], 0, 0, kjS true I L)) rfl ?_
        obtain rfl := Option.some.inj h
        exact mv_G_ret rfl rfl rfl (Nat.le_refl _) trivial ⟨rfl, rfl⟩
      · rw [if_neg hc2] at h
        refine mv_G_br (tgt := 107) rfl rfl (by decide) (fun z => absurd z hc2) (fun _ => ?_)
        refine mv_G_run 10 (F' := (103, [some (.ref 0), some (.int v1), some (.int v2), some (.int v3), some (.int v4)], [.int (((8 : Int32) + v3) - (100 : Int32)), .int v2, .int v1, .ref (kb true 26)], 0, 0, kjS true I L)) rfl ?_
        obtain ⟨r3, hc4, h⟩ := mv_bd h
        refine mv_G_call (r := []) (kf80_ok _ _ _ _ _ _ _ _ _ hc4) rfl rfl rfl rfl rfl (Nat.le_of_ble_eq_true rfl) (Nat.le_of_ble_eq_true rfl) (Nat.le_of_ble_eq_true rfl) ?_
        rintro _ _ ⟨rfl, rfl⟩
        obtain rfl := Option.some.inj h
        exact mv_G_ret rfl rfl rfl (Nat.le_refl _) trivial ⟨rfl, rfl⟩
def kf4 (f : Bool) (I : kjI) (L : kjL) (v1 : Int32) (v2 : Int32) (v3 : Int32) : Option (Int32) :=
  (kf66 f I L v1 v2).bind fun r1 => if ¬ r1 = 0 then ((kf78 f I L v1 v2).bind fun r4 => if ¬ r4 = (-1 : Int32) then (if v3 < 0 then (kf4_72 f I L v1 v2 v3 r4) else ((kf30 f I L v1).bind fun r8 => if r8 ≤ v3 then (kf4_72 f I L v1 v2 v3 r4) else ((kf80 f I L v1 v2 v3).bind fun r11 => some r11))) else (some (-1 : Int32))) else (some (-1 : Int32))
set_option maxRecDepth 100000 in
set_option maxHeartbeats 4000000 in
theorem kf4_ok (f : Bool) (I : kjI) (L : kjL) (v1 : Int32) (v2 : Int32) (v3 : Int32) (d : Nat) (r : Int32) (h : kf4 f I L v1 v2 v3 = some r) : mv_C kjP kjSta (d + 5) 4 [.ref 0, .int v1, .int v2, .int v3] (kjS f I L) (kjQi f I L r) := by
  cases f
  · unfold kf4 at h
    refine mv_C_in kjM_4 (lc := [some (.ref 0), some (.int v1), some (.int v2), some (.int v3), none]) rfl rfl rfl ?_
    refine mv_G_run 5 (F' := (9, [some (.ref 0), some (.int v1), some (.int v2), some (.int v3), none], [.int v2, .int v1, .ref (kb false 24)], 0, 0, kjS false I L)) rfl ?_
    obtain ⟨r1, hc2, h⟩ := mv_bd h
    refine mv_G_call (r := []) (kf66_ok _ _ _ _ _ _ _ _ hc2) rfl rfl rfl rfl rfl (Nat.le_of_ble_eq_true rfl) (Nat.le_of_ble_eq_true rfl) (Nat.le_of_ble_eq_true rfl) ?_
    rintro _ _ ⟨rfl, rfl⟩
    by_cases hc3 : ¬ r1 = 0
    · rw [if_pos hc3] at h
      refine mv_G_br (tgt := 17) rfl rfl (by decide) (fun _ => ?_) (fun z => absurd hc3 z)
      refine mv_G_run 5 (F' := (26, [some (.ref 0), some (.int v1), some (.int v2), some (.int v3), none], [.int v2, .int v1, .ref (kb false 26)], 0, 0, kjS false I L)) rfl ?_
      obtain ⟨r4, hc5, h⟩ := mv_bd h
      refine mv_G_call (r := []) (kf78_ok _ _ _ _ _ _ _ _ hc5) rfl rfl rfl rfl rfl (Nat.le_of_ble_eq_true rfl) (Nat.le_of_ble_eq_true rfl) (Nat.le_of_ble_eq_true rfl) ?_
      rintro _ _ ⟨rfl, rfl⟩
      refine mv_G_run 3 (F' := (34, [some (.ref 0), some (.int v1), some (.int v2), some (.int v3), some (.int r4)], [.int (-1 : Int32), .int r4], 0, 0, kjS false I L)) rfl ?_
      by_cases hc6 : ¬ r4 = (-1 : Int32)
      · rw [if_pos hc6] at h
        refine mv_G_br (tgt := 39) rfl rfl (by decide) (fun _ => ?_) (fun z => absurd hc6 z)
        refine mv_G_run 1 (F' := (40, [some (.ref 0), some (.int v1), some (.int v2), some (.int v3), some (.int r4)], [.int v3], 0, 0, kjS false I L)) rfl ?_
        by_cases hc7 : v3 < 0
        · rw [if_pos hc7] at h
          refine mv_G_br (tgt := 72) rfl rfl (by decide) (fun _ => ?_) (fun z => absurd hc7 z)
          exact kf4_72_ok _ _ _ d _ _ _ _ _ h
        · rw [if_neg hc7] at h
          refine mv_G_br (tgt := 72) rfl rfl (by decide) (fun z => absurd z hc7) (fun _ => ?_)
          refine mv_G_run 5 (F' := (52, [some (.ref 0), some (.int v1), some (.int v2), some (.int v3), some (.int r4)], [.int v1, .ref (kb false 4), .int v3], 0, 0, kjS false I L)) rfl ?_
          obtain ⟨r8, hc9, h⟩ := mv_bd h
          refine mv_G_call (r := [.int v3]) (kf30_ok _ _ _ _ _ _ _ hc9) rfl rfl rfl rfl rfl (Nat.le_of_ble_eq_true rfl) (Nat.le_of_ble_eq_true rfl) (Nat.le_of_ble_eq_true rfl) ?_
          rintro _ _ ⟨rfl, rfl⟩
          by_cases hc10 : r8 ≤ v3
          · rw [if_pos hc10] at h
            refine mv_G_br (tgt := 72) rfl rfl (by decide) (fun _ => ?_) (fun z => absurd hc10 z)
            exact kf4_72_ok _ _ _ d _ _ _ _ _ h
          · rw [if_neg hc10] at h
            refine mv_G_br (tgt := 72) rfl rfl (by decide) (fun z => absurd z hc10) (fun _ => ?_)
            refine mv_G_run 6 (F' := (68, [some (.ref 0), some (.int v1), some (.int v2), some (.int v3), some (.int r4)], [.int v3, .int v2, .int v1, .ref (kb false 26)], 0, 0, kjS false I L)) rfl ?_
            obtain ⟨r11, hc12, h⟩ := mv_bd h
            refine mv_G_call (r := []) (kf80_ok _ _ _ _ _ _ _ _ _ hc12) rfl rfl rfl rfl rfl (Nat.le_of_ble_eq_true rfl) (Nat.le_of_ble_eq_true rfl) (Nat.le_of_ble_eq_true rfl) ?_
            rintro _ _ ⟨rfl, rfl⟩
            obtain rfl := Option.some.inj h
            exact mv_G_ret rfl rfl rfl (Nat.le_refl _) trivial ⟨rfl, rfl⟩
      · rw [if_neg hc6] at h
        refine mv_G_br (tgt := 39) rfl rfl (by decide) (fun z => absurd z hc6) (fun _ => ?_)
        refine mv_G_run 1 (F' := (38, [some (.ref 0), some (.int v1), some (.int v2), some (.int v3), some (.int r4)], [.int (-1 : Int32)], 0, 0, kjS false I L)) rfl ?_
        obtain rfl := Option.some.inj h
        exact mv_G_ret rfl rfl rfl (Nat.le_refl _) trivial ⟨rfl, rfl⟩
    · rw [if_neg hc3] at h
      refine mv_G_br (tgt := 17) rfl rfl (by decide) (fun z => absurd z hc3) (fun _ => ?_)
      refine mv_G_run 1 (F' := (16, [some (.ref 0), some (.int v1), some (.int v2), some (.int v3), none], [.int (-1 : Int32)], 0, 0, kjS false I L)) rfl ?_
      obtain rfl := Option.some.inj h
      exact mv_G_ret rfl rfl rfl (Nat.le_refl _) trivial ⟨rfl, rfl⟩
  · unfold kf4 at h
    refine mv_C_in kjM_4 (lc := [some (.ref 0), some (.int v1), some (.int v2), some (.int v3), none]) rfl rfl rfl ?_
    refine mv_G_run 5 (F' := (9, [some (.ref 0), some (.int v1), some (.int v2), some (.int v3), none], [.int v2, .int v1, .ref (kb true 24)], 0, 0, kjS true I L)) rfl ?_
    obtain ⟨r1, hc2, h⟩ := mv_bd h
    refine mv_G_call (r := []) (kf66_ok _ _ _ _ _ _ _ _ hc2) rfl rfl rfl rfl rfl (Nat.le_of_ble_eq_true rfl) (Nat.le_of_ble_eq_true rfl) (Nat.le_of_ble_eq_true rfl) ?_
    rintro _ _ ⟨rfl, rfl⟩
    by_cases hc3 : ¬ r1 = 0
    · rw [if_pos hc3] at h
      refine mv_G_br (tgt := 17) rfl rfl (by decide) (fun _ => ?_) (fun z => absurd hc3 z)
      refine mv_G_run 5 (F' := (26, [some (.ref 0), some (.int v1), some (.int v2), some (.int v3), none], [.int v2, .int v1, .ref (kb true 26)], 0, 0, kjS true I L)) rfl ?_
      obtain ⟨r4, hc5, h⟩ := mv_bd h
      refine mv_G_call (r := []) (kf78_ok _ _ _ _ _ _ _ _ hc5) rfl rfl rfl rfl rfl (Nat.le_of_ble_eq_true rfl) (Nat.le_of_ble_eq_true rfl) (Nat.le_of_ble_eq_true rfl) ?_
      rintro _ _ ⟨rfl, rfl⟩
      refine mv_G_run 3 (F' := (34, [some (.ref 0), some (.int v1), some (.int v2), some (.int v3), some (.int r4)], [.int (-1 : Int32), .int r4], 0, 0, kjS true I L)) rfl ?_
      by_cases hc6 : ¬ r4 = (-1 : Int32)
      · rw [if_pos hc6] at h
        refine mv_G_br (tgt := 39) rfl rfl (by decide) (fun _ => ?_) (fun z => absurd hc6 z)
        refine mv_G_run 1 (F' := (40, [some (.ref 0), some (.int v1), some (.int v2), some (.int v3), some (.int r4)], [.int v3], 0, 0, kjS true I L)) rfl ?_
        by_cases hc7 : v3 < 0
        · rw [if_pos hc7] at h
          refine mv_G_br (tgt := 72) rfl rfl (by decide) (fun _ => ?_) (fun z => absurd hc7 z)
          exact kf4_72_ok _ _ _ d _ _ _ _ _ h
        · rw [if_neg hc7] at h
          refine mv_G_br (tgt := 72) rfl rfl (by decide) (fun z => absurd z hc7) (fun _ => ?_)
          refine mv_G_run 5 (F' := (52, [some (.ref 0), some (.int v1), some (.int v2), some (.int v3), some (.int r4)], [.int v1, .ref (kb true 4), .int v3], 0, 0, kjS true I L)) rfl ?_
          obtain ⟨r8, hc9, h⟩ := mv_bd h
          refine mv_G_call (r := [.int v3]) (kf30_ok _ _ _ _ _ _ _ hc9) rfl rfl rfl rfl rfl (Nat.le_of_ble_eq_true rfl) (Nat.le_of_ble_eq_true rfl) (Nat.le_of_ble_eq_true rfl) ?_
          rintro _ _ ⟨rfl, rfl⟩
          by_cases hc10 : r8 ≤ v3
          · rw [if_pos hc10] at h
            refine mv_G_br (tgt := 72) rfl rfl (by decide) (fun _ => ?_) (fun z => absurd hc10 z)
            exact kf4_72_ok _ _ _ d _ _ _ _ _ h
          · rw [if_neg hc10] at h
            refine mv_G_br (tgt := 72) rfl rfl (by decide) (fun z => absurd z hc10) (fun _ => ?_)
            refine mv_G_run 6 (F' := (68, [some (.ref 0), some (.int v1), some (.int v2), some (.int v3), some (.int r4)], [.int v3, .int v2, .int v1, .ref (kb true 26)], 0, 0, kjS true I L)) rfl ?_
            obtain ⟨r11, hc12, h⟩ := mv_bd h
            refine mv_G_call (r := []) (kf80_ok _ _ _ _ _ _ _ _ _ hc12) rfl rfl rfl rfl rfl (Nat.le_of_ble_eq_true rfl) (Nat.le_of_ble_eq_true rfl) (Nat.le_of_ble_eq_true rfl) ?_
            rintro _ _ ⟨rfl, rfl⟩
            obtain rfl := Option.some.inj h
            exact mv_G_ret rfl rfl rfl (Nat.le_refl _) trivial ⟨rfl, rfl⟩
      · rw [if_neg hc6] at h
        refine mv_G_br (tgt := 39) rfl rfl (by decide) (fun z => absurd z hc6) (fun _ => ?_)
        refine mv_G_run 1 (F' := (38, [some (.ref 0), some (.int v1), some (.int v2), some (.int v3), some (.int r4)], [.int (-1 : Int32)], 0, 0, kjS true I L)) rfl ?_
        obtain rfl := Option.some.inj h
        exact mv_G_ret rfl rfl rfl (Nat.le_refl _) trivial ⟨rfl, rfl⟩
    · rw [if_neg hc3] at h
      refine mv_G_br (tgt := 17) rfl rfl (by decide) (fun z => absurd z hc3) (fun _ => ?_)
      refine mv_G_run 1 (F' := (16, [some (.ref 0), some (.int v1), some (.int v2), some (.int v3), none], [.int (-1 : Int32)], 0, 0, kjS true I L)) rfl ?_
      obtain rfl := Option.some.inj h
      exact mv_G_ret rfl rfl rfl (Nat.le_refl _) trivial ⟨rfl, rfl⟩
/-! KindJudge$Bytes.at(I)I on ('b', 2) -/
def kf22 (b : Bool) (I : kjI) (L : kjL) (v1 : Int32) : Option (Int32) :=
  if v1 < 0 then (some (-1 : Int32)) else (if (I (kb b 2) 1) ≤ v1 then (some (-1 : Int32)) else (bif mv_in v1 1500 then (some ((I (kb b 3) (Int32.toNatClampNeg v1)) &&& (255 : Int32))) else none))
set_option maxRecDepth 100000 in
set_option maxHeartbeats 4000000 in
theorem kf22_ok (f : Bool) (b : Bool) (I : kjI) (L : kjL) (v1 : Int32) (d : Nat) (r : Int32) (h : kf22 b I L v1 = some r) : mv_C kjP kjSta (d + 1) 22 [.ref (kb b 2), .int v1] (kjS f I L) (kjQi f I L r) := by
  cases b
  · unfold kf22 at h
    refine mv_C_in kjM_22 (lc := [some (.ref (kb false 2)), some (.int v1)]) rfl rfl rfl ?_
    refine mv_G_run 1 (F' := (1, [some (.ref (kb false 2)), some (.int v1)], [.int v1], 0, 0, kjS f I L)) rfl ?_
    by_cases hc1 : v1 < 0
    · rw [if_pos hc1] at h
      refine mv_G_br (tgt := 25) rfl rfl (by decide) (fun _ => ?_) (fun z => absurd hc1 z)
      refine mv_G_run 1 (F' := (26, [some (.ref (kb false 2)), some (.int v1)], [.int (-1 : Int32)], 0, 0, kjS f I L)) rfl ?_
      obtain rfl := Option.some.inj h
      exact mv_G_ret rfl rfl rfl (Nat.le_refl _) trivial ⟨rfl, rfl⟩
    · rw [if_neg hc1] at h
      refine mv_G_br (tgt := 25) rfl rfl (by decide) (fun z => absurd z hc1) (fun _ => ?_)
      refine mv_G_run 3 (F' := (9, [some (.ref (kb false 2)), some (.int v1)], [.int (I (kb false 2) 1), .int v1], 0, 0, kjS f I L)) rfl ?_
      by_cases hc2 : (I (kb false 2) 1) ≤ v1
      · rw [if_pos hc2] at h
        refine mv_G_br (tgt := 25) rfl rfl (by decide) (fun _ => ?_) (fun z => absurd hc2 z)
        refine mv_G_run 1 (F' := (26, [some (.ref (kb false 2)), some (.int v1)], [.int (-1 : Int32)], 0, 0, kjS f I L)) rfl ?_
        obtain rfl := Option.some.inj h
        exact mv_G_ret rfl rfl rfl (Nat.le_refl _) trivial ⟨rfl, rfl⟩
      · rw [if_neg hc2] at h
        refine mv_G_br (tgt := 25) rfl rfl (by decide) (fun z => absurd z hc2) (fun _ => ?_)
        refine mv_G_run 3 (F' := (17, [some (.ref (kb false 2)), some (.int v1)], [.int v1, .ref (kb false 3)], 0, 0, kjS f I L)) rfl ?_
        obtain ⟨hi3, h⟩ := mv_bifs h
        refine mv_G_ald rfl rfl (mv_in_ok hi3) ?_
        refine mv_G_run 3 (F' := (26, [some (.ref (kb false 2)), some (.int v1)], [.int ((I (kb false 3) (Int32.toNatClampNeg v1)) &&& (255 : Int32))], 0, 0, kjS f I L)) rfl ?_
        obtain rfl := Option.some.inj h
        exact mv_G_ret rfl rfl rfl (Nat.le_refl _) trivial ⟨rfl, rfl⟩
  · unfold kf22 at h
    refine mv_C_in kjM_22 (lc := [some (.ref (kb true 2)), some (.int v1)]) rfl rfl rfl ?_
    refine mv_G_run 1 (F' := (1, [some (.ref (kb true 2)), some (.int v1)], [.int v1], 0, 0, kjS f I L)) rfl ?_
    by_cases hc1 : v1 < 0
    · rw [if_pos hc1] at h
      refine mv_G_br (tgt := 25) rfl rfl (by decide) (fun _ => ?_) (fun z => absurd hc1 z)
      refine mv_G_run 1 (F' := (26, [some (.ref (kb true 2)), some (.int v1)], [.int (-1 : Int32)], 0, 0, kjS f I L)) rfl ?_
      obtain rfl := Option.some.inj h
      exact mv_G_ret rfl rfl rfl (Nat.le_refl _) trivial ⟨rfl, rfl⟩
    · rw [if_neg hc1] at h
      refine mv_G_br (tgt := 25) rfl rfl (by decide) (fun z => absurd z hc1) (fun _ => ?_)
      refine mv_G_run 3 (F' := (9, [some (.ref (kb true 2)), some (.int v1)], [.int (I (kb true 2) 1), .int v1], 0, 0, kjS f I L)) rfl ?_
      by_cases hc2 : (I (kb true 2) 1) ≤ v1
      · rw [if_pos hc2] at h
        refine mv_G_br (tgt := 25) rfl rfl (by decide) (fun _ => ?_) (fun z => absurd hc2 z)
        refine mv_G_run 1 (F' := (26, [some (.ref (kb true 2)), some (.int v1)], [.int (-1 : Int32)], 0, 0, kjS f I L)) rfl ?_
        obtain rfl := Option.some.inj h
        exact mv_G_ret rfl rfl rfl (Nat.le_refl _) trivial ⟨rfl, rfl⟩
      · rw [if_neg hc2] at h
        refine mv_G_br (tgt := 25) rfl rfl (by decide) (fun z => absurd z hc2) (fun _ => ?_)
        refine mv_G_run 3 (F' := (17, [some (.ref (kb true 2)), some (.int v1)], [.int v1, .ref (kb true 3)], 0, 0, kjS f I L)) rfl ?_
        obtain ⟨hi3, h⟩ := mv_bifs h
        refine mv_G_ald rfl rfl (mv_in_ok hi3) ?_
        refine mv_G_run 3 (F' := (26, [some (.ref (kb true 2)), some (.int v1)], [.int ((I (kb true 3) (Int32.toNatClampNeg v1)) &&& (255 : Int32))], 0, 0, kjS f I L)) rfl ?_
        obtain rfl := Option.some.inj h
        exact mv_G_ret rfl rfl rfl (Nat.le_refl _) trivial ⟨rfl, rfl⟩
/-! KindJudge$Code.byteOf(III)I on ('b', 24) -/
def kf67 (b : Bool) (I : kjI) (L : kjL) (v1 : Int32) (v2 : Int32) (v3 : Int32) : Option (Int32) :=
  (kf33 b I L v1 (v2 + v3)).bind fun r1 => (kf22 b I L r1).bind fun r3 => some r3
set_option maxRecDepth 100000 in
set_option maxHeartbeats 4000000 in
theorem kf67_ok (f : Bool) (b : Bool) (I : kjI) (L : kjL) (v1 : Int32) (v2 : Int32) (v3 : Int32) (d : Nat) (r : Int32) (h : kf67 b I L v1 v2 v3 = some r) : mv_C kjP kjSta (d + 3) 67 [.ref (kb b 24), .int v1, .int v2, .int v3] (kjS f I L) (kjQi f I L r) := by
  cases b
  · unfold kf67 at h
    refine mv_C_in kjM_67 (lc := [some (.ref (kb false 24)), some (.int v1), some (.int v2), some (.int v3)]) rfl rfl rfl ?_
    refine mv_G_run 8 (F' := (12, [some (.ref (kb false 24)), some (.int v1), some (.int v2), some (.int v3)], [.int (v2 + v3), .int v1, .ref (kb false 4), .ref (kb false 2)], 0, 0, kjS f I L)) rfl ?_
    obtain ⟨r1, hc2, h⟩ := mv_bd h
    refine mv_G_call (r := [.ref (kb false 2)]) (kf33_ok _ _ _ _ _ _ _ _ hc2) rfl rfl rfl rfl rfl (Nat.le_of_ble_eq_true rfl) (Nat.le_of_ble_eq_true rfl) (Nat.le_of_ble_eq_true rfl) ?_
    rintro _ _ ⟨rfl, rfl⟩
    obtain ⟨r3, hc4, h⟩ := mv_bd h
    refine mv_G_call (r := []) (kf22_ok _ _ _ _ _ _ _ hc4) rfl rfl rfl rfl rfl (Nat.le_of_ble_eq_true rfl) (Nat.le_of_ble_eq_true rfl) (Nat.le_of_ble_eq_true rfl) ?_
    rintro _ _ ⟨rfl, rfl⟩
    obtain rfl := Option.some.inj h
    exact mv_G_ret rfl rfl rfl (Nat.le_refl _) trivial ⟨rfl, rfl⟩
  · unfold kf67 at h
    refine mv_C_in kjM_67 (lc := [some (.ref (kb true 24)), some (.int v1), some (.int v2), some (.int v3)]) rfl rfl rfl ?_
    refine mv_G_run 8 (F' := (12, [some (.ref (kb true 24)), some (.int v1), some (.int v2), some (.int v3)], [.int (v2 + v3), .int v1, .ref (kb true 4), .ref (kb true 2)], 0, 0, kjS f I L)) rfl ?_
    obtain ⟨r1, hc2, h⟩ := mv_bd h
    refine mv_G_call (r := [.ref (kb true 2)]) (kf33_ok _ _ _ _ _ _ _ _ hc2) rfl rfl rfl rfl rfl (Nat.le_of_ble_eq_true rfl) (Nat.le_of_ble_eq_true rfl) (Nat.le_of_ble_eq_true rfl) ?_
    rintro _ _ ⟨rfl, rfl⟩
    obtain ⟨r3, hc4, h⟩ := mv_bd h
    refine mv_G_call (r := []) (kf22_ok _ _ _ _ _ _ _ hc4) rfl rfl rfl rfl rfl (Nat.le_of_ble_eq_true rfl) (Nat.le_of_ble_eq_true rfl) (Nat.le_of_ble_eq_true rfl) ?_
    rintro _ _ ⟨rfl, rfl⟩
    obtain rfl := Option.some.inj h
    exact mv_G_ret rfl rfl rfl (Nat.le_refl _) trivial ⟨rfl, rfl⟩
/-! KindJudge$Signatures.returnedBy(I)I on ('b', 14) -/
def kf52 (b : Bool) (I : kjI) (L : kjL) (v1 : Int32) : Option (Int32) :=
  if v1 < 0 then (some (0 : Int32)) else (if (I (kb b 14) 3) ≤ v1 then (some (0 : Int32)) else (bif mv_in v1 16 then (some (I (kb b 17) (Int32.toNatClampNeg v1))) else none))
set_option maxRecDepth 100000 in
set_option maxHeartbeats 4000000 in
theorem kf52_ok (f : Bool) (b : Bool) (I : kjI) (L : kjL) (v1 : Int32) (d : Nat) (r : Int32) (h : kf52 b I L v1 = some r) : mv_C kjP kjSta (d + 1) 52 [.ref (kb b 14), .int v1] (kjS f I L) (kjQi f I L r) := by
  cases b
  · unfold kf52 at h
    refine mv_C_in kjM_52 (lc := [some (.ref (kb false 14)), some (.int v1)]) rfl rfl rfl ?_
    refine mv_G_run 1 (F' := (1, [some (.ref (kb false 14)), some (.int v1)], [.int v1], 0, 0, kjS f I L)) rfl ?_
    by_cases hc1 : v1 < 0
    · rw [if_pos hc1] at h
      refine mv_G_br (tgt := 21) rfl rfl (by decide) (fun _ => ?_) (fun z => absurd hc1 z)
      refine mv_G_run 1 (F' := (22, [some (.ref (kb false 14)), some (.int v1)], [.int (0 : Int32)], 0, 0, kjS f I L)) rfl ?_
      obtain rfl := Option.some.inj h
      exact mv_G_ret rfl rfl rfl (Nat.le_refl _) trivial ⟨rfl, rfl⟩
    · rw [if_neg hc1] at h
      refine mv_G_br (tgt := 21) rfl rfl (by decide) (fun z => absurd z hc1) (fun _ => ?_)
      refine mv_G_run 3 (F' := (9, [some (.ref (kb false 14)), some (.int v1)], [.int (I (kb false 14) 3), .int v1], 0, 0, kjS f I L)) rfl ?_
      by_cases hc2 : (I (kb false 14) 3) ≤ v1
      · rw [if_pos hc2] at h
        refine mv_G_br (tgt := 21) rfl rfl (by decide) (fun _ => ?_) (fun z => absurd hc2 z)
        refine mv_G_run 1 (F' := (22, [some (.ref (kb false 14)), some (.int v1)], [.int (0 : Int32)], 0, 0, kjS f I L)) rfl ?_
        obtain rfl := Option.some.inj h
        exact mv_G_ret rfl rfl rfl (Nat.le_refl _) trivial ⟨rfl, rfl⟩
      · rw [if_neg hc2] at h
        refine mv_G_br (tgt := 21) rfl rfl (by decide) (fun z => absurd z hc2) (fun _ => ?_)
        refine mv_G_run 3 (F' := (17, [some (.ref (kb false 14)), some (.int v1)], [.int v1, .ref (kb false 17)], 0, 0, kjS f I L)) rfl ?_
        obtain ⟨hi3, h⟩ := mv_bifs h
        refine mv_G_ald rfl rfl (mv_in_ok hi3) ?_
        refine mv_G_run 1 (F' := (22, [some (.ref (kb false 14)), some (.int v1)], [.int (I (kb false 17) (Int32.toNatClampNeg v1))], 0, 0, kjS f I L)) rfl ?_
        obtain rfl := Option.some.inj h
        exact mv_G_ret rfl rfl rfl (Nat.le_refl _) trivial ⟨rfl, rfl⟩
  · unfold kf52 at h
    refine mv_C_in kjM_52 (lc := [some (.ref (kb true 14)), some (.int v1)]) rfl rfl rfl ?_
    refine mv_G_run 1 (F' := (1, [some (.ref (kb true 14)), some (.int v1)], [.int v1], 0, 0, kjS f I L)) rfl ?_
    by_cases hc1 : v1 < 0
    · rw [if_pos hc1] at h
      refine mv_G_br (tgt := 21) rfl rfl (by decide) (fun _ => ?_) (fun z => absurd hc1 z)
      refine mv_G_run 1 (F' := (22, [some (.ref (kb true 14)), some (.int v1)], [.int (0 : Int32)], 0, 0, kjS f I L)) rfl ?_
      obtain rfl := Option.some.inj h
      exact mv_G_ret rfl rfl rfl (Nat.le_refl _) trivial ⟨rfl, rfl⟩
    · rw [if_neg hc1] at h
      refine mv_G_br (tgt := 21) rfl rfl (by decide) (fun z => absurd z hc1) (fun _ => ?_)
      refine mv_G_run 3 (F' := (9, [some (.ref (kb true 14)), some (.int v1)], [.int (I (kb true 14) 3), .int v1], 0, 0, kjS f I L)) rfl ?_
      by_cases hc2 : (I (kb true 14) 3) ≤ v1
      · rw [if_pos hc2] at h
        refine mv_G_br (tgt := 21) rfl rfl (by decide) (fun _ => ?_) (fun z => absurd hc2 z)
        refine mv_G_run 1 (F' := (22, [some (.ref (kb true 14)), some (.int v1)], [.int (0 : Int32)], 0, 0, kjS f I L)) rfl ?_
        obtain rfl := Option.some.inj h
        exact mv_G_ret rfl rfl rfl (Nat.le_refl _) trivial ⟨rfl, rfl⟩
      · rw [if_neg hc2] at h
        refine mv_G_br (tgt := 21) rfl rfl (by decide) (fun z => absurd z hc2) (fun _ => ?_)
        refine mv_G_run 3 (F' := (17, [some (.ref (kb true 14)), some (.int v1)], [.int v1, .ref (kb true 17)], 0, 0, kjS f I L)) rfl ?_
        obtain ⟨hi3, h⟩ := mv_bifs h
        refine mv_G_ald rfl rfl (mv_in_ok hi3) ?_
        refine mv_G_run 1 (F' := (22, [some (.ref (kb true 14)), some (.int v1)], [.int (I (kb true 17) (Int32.toNatClampNeg v1))], 0, 0, kjS f I L)) rfl ?_
        obtain rfl := Option.some.inj h
        exact mv_G_ret rfl rfl rfl (Nat.le_refl _) trivial ⟨rfl, rfl⟩
/-! KindJudge$Signatures.returnedBy(I)I on ('b', 10) -/
def kf52a (b : Bool) (I : kjI) (L : kjL) (v1 : Int32) : Option (Int32) :=
  if v1 < 0 then (some (0 : Int32)) else (if (I (kb b 10) 3) ≤ v1 then (some (0 : Int32)) else (bif mv_in v1 16 then (some (I (kb b 13) (Int32.toNatClampNeg v1))) else none))
set_option maxRecDepth 100000 in
set_option maxHeartbeats 4000000 in
theorem kf52a_ok (f : Bool) (b : Bool) (I : kjI) (L : kjL) (v1 : Int32) (d : Nat) (r : Int32) (h : kf52a b I L v1 = some r) : mv_C kjP kjSta (d + 1) 52 [.ref (kb b 10), .int v1] (kjS f I L) (kjQi f I L r) := by
  cases b
  · unfold kf52a at h
    refine mv_C_in kjM_52 (lc := [some (.ref (kb false 10)), some (.int v1)]) rfl rfl rfl ?_
    refine mv_G_run 1 (F' := (1, [some (.ref (kb false 10)), some (.int v1)], [.int v1], 0, 0, kjS f I L)) rfl ?_
    by_cases hc1 : v1 < 0
    · rw [if_pos hc1] at h
      refine mv_G_br (tgt := 21) rfl rfl (by decide) (fun _ => ?_) (fun z => absurd hc1 z)
      refine mv_G_run 1 (F' := (22, [some (.ref (kb false 10)), some (.int v1)], [.int (0 : Int32)], 0, 0, kjS f I L)) rfl ?_
      obtain rfl := Option.some.inj h
      exact mv_G_ret rfl rfl rfl (Nat.le_refl _) trivial ⟨rfl, rfl⟩
    · rw [if_neg hc1] at h
      refine mv_G_br (tgt := 21) rfl rfl (by decide) (fun z => absurd z hc1) (fun _ => ?_)
      refine mv_G_run 3 (F' := (9, [some (.ref (kb false 10)), some (.int v1)], [.int (I (kb false 10) 3), .int v1], 0, 0, kjS f I L)) rfl ?_
      by_cases hc2 : (I (kb false 10) 3) ≤ v1
      · rw [if_pos hc2] at h
        refine mv_G_br (tgt := 21) rfl rfl (by decide) (fun _ => ?_) (fun z => absurd hc2 z)
        refine mv_G_run 1 (F' := (22, [some (.ref (kb false 10)), some (.int v1)], [.int (0 : Int32)], 0, 0, kjS f I L)) rfl ?_
        obtain rfl := Option.some.inj h
        exact mv_G_ret rfl rfl rfl (Nat.le_refl _) trivial ⟨rfl, rfl⟩
      · rw [if_neg hc2] at h
        refine mv_G_br (tgt := 21) rfl rfl (by decide) (fun z => absurd z hc2) (fun _ => ?_)
        refine mv_G_run 3 (F' := (17, [some (.ref (kb false 10)), some (.int v1)], [.int v1, .ref (kb false 13)], 0, 0, kjS f I L)) rfl ?_
        obtain ⟨hi3, h⟩ := mv_bifs h
        refine mv_G_ald rfl rfl (mv_in_ok hi3) ?_
        refine mv_G_run 1 (F' := (22, [some (.ref (kb false 10)), some (.int v1)], [.int (I (kb false 13) (Int32.toNatClampNeg v1))], 0, 0, kjS f I L)) rfl ?_
        obtain rfl := Option.some.inj h
        exact mv_G_ret rfl rfl rfl (Nat.le_refl _) trivial ⟨rfl, rfl⟩
  · unfold kf52a at h
    refine mv_C_in kjM_52 (lc := [some (.ref (kb true 10)), some (.int v1)]) rfl rfl rfl ?_
    refine mv_G_run 1 (F' := (1, [some (.ref (kb true 10)), some (.int v1)], [.int v1], 0, 0, kjS f I L)) rfl ?_
    by_cases hc1 : v1 < 0
    · rw [if_pos hc1] at h
      refine mv_G_br (tgt := 21) rfl rfl (by decide) (fun _ => ?_) (fun z => absurd hc1 z)
      refine mv_G_run 1 (F' := (22, [some (.ref (kb true 10)), some (.int v1)], [.int (0 : Int32)], 0, 0, kjS f I L)) rfl ?_
      obtain rfl := Option.some.inj h
      exact mv_G_ret rfl rfl rfl (Nat.le_refl _) trivial ⟨rfl, rfl⟩
    · rw [if_neg hc1] at h
      refine mv_G_br (tgt := 21) rfl rfl (by decide) (fun z => absurd z hc1) (fun _ => ?_)
      refine mv_G_run 3 (F' := (9, [some (.ref (kb true 10)), some (.int v1)], [.int (I (kb true 10) 3), .int v1], 0, 0, kjS f I L)) rfl ?_
      by_cases hc2 : (I (kb true 10) 3) ≤ v1
      · rw [if_pos hc2] at h
        refine mv_G_br (tgt := 21) rfl rfl (by decide) (fun _ => ?_) (fun z => absurd hc2 z)
        refine mv_G_run 1 (F' := (22, [some (.ref (kb true 10)), some (.int v1)], [.int (0 : Int32)], 0, 0, kjS f I L)) rfl ?_
        obtain rfl := Option.some.inj h
        exact mv_G_ret rfl rfl rfl (Nat.le_refl _) trivial ⟨rfl, rfl⟩
      · rw [if_neg hc2] at h
        refine mv_G_br (tgt := 21) rfl rfl (by decide) (fun z => absurd z hc2) (fun _ => ?_)
        refine mv_G_run 3 (F' := (17, [some (.ref (kb true 10)), some (.int v1)], [.int v1, .ref (kb true 13)], 0, 0, kjS f I L)) rfl ?_
        obtain ⟨hi3, h⟩ := mv_bifs h
        refine mv_G_ald rfl rfl (mv_in_ok hi3) ?_
        refine mv_G_run 1 (F' := (22, [some (.ref (kb true 10)), some (.int v1)], [.int (I (kb true 13) (Int32.toNatClampNeg v1))], 0, 0, kjS f I L)) rfl ?_
        obtain rfl := Option.some.inj h
        exact mv_G_ret rfl rfl rfl (Nat.le_refl _) trivial ⟨rfl, rfl⟩
/-! KindJudge$Code.puts(II)I on ('b', 24) -/
def kf70 (b : Bool) (I : kjI) (L : kjL) (v1 : Int32) (v2 : Int32) : Option (Int32) :=
  if v1 < 0 then (some (0 : Int32)) else (if v1 < (54 : Int32) then (if ¬ v1 = (47 : Int32) then (if ¬ v1 = (48 : Int32) then (bif mv_in v1 54 then (some ((kjSta 2).getD (Int32.toNatClampNeg v1) 0)) else none) else ((kf52a b I L v2).bind fun r6 => if ¬ r6 = 0 then (some (1 : Int32)) else (some (0 : Int32)))) else ((kf52 b I L v2).bind fun r9 => if ¬ r9 = 0 then (some (1 : Int32)) else (some (0 : Int32)))) else (some (0 : Int32)))
set_option maxRecDepth 100000 in
set_option maxHeartbeats 4000000 in
theorem kf70_ok (f : Bool) (b : Bool) (I : kjI) (L : kjL) (v1 : Int32) (v2 : Int32) (d : Nat) (r : Int32) (h : kf70 b I L v1 v2 = some r) : mv_C kjP kjSta (d + 2) 70 [.ref (kb b 24), .int v1, .int v2] (kjS f I L) (kjQi f I L r) := by
  cases b
  · unfold kf70 at h
    refine mv_C_in kjM_70 (lc := [some (.ref (kb false 24)), some (.int v1), some (.int v2)]) rfl rfl rfl ?_
    refine mv_G_run 1 (F' := (1, [some (.ref (kb false 24)), some (.int v1), some (.int v2)], [.int v1], 0, 0, kjS f I L)) rfl ?_
    by_cases hc1 : v1 < 0
    · rw [if_pos hc1] at h
      refine mv_G_br (tgt := 12) rfl rfl (by decide) (fun _ => ?_) (fun z => absurd hc1 z)
      refine mv_G_run 1 (F' := (13, [some (.ref (kb false 24)), some (.int v1), some (.int v2)], [.int (0 : Int32)], 0, 0, kjS f I L)) rfl ?_
      obtain rfl := Option.some.inj h
      exact mv_G_ret rfl rfl rfl (Nat.le_refl _) trivial ⟨rfl, rfl⟩
    · rw [if_neg hc1] at h
      refine mv_G_br (tgt := 12) rfl rfl (by decide) (fun z => absurd z hc1) (fun _ => ?_)
      refine mv_G_run 3 (F' := (9, [some (.ref (kb false 24)), some (.int v1), some (.int v2)], [.int (54 : Int32), .int v1], 0, 0, kjS f I L)) rfl ?_
      by_cases hc2 : v1 < (54 : Int32)
      · rw [if_pos hc2] at h
        refine mv_G_br (tgt := 14) rfl rfl (by decide) (fun _ => ?_) (fun z => absurd hc2 z)
        refine mv_G_run 2 (F' := (17, [some (.ref (kb false 24)), some (.int v1), some (.int v2)], [.int (47 : Int32), .int v1], 0, 0, kjS f I L)) rfl ?_
        by_cases hc3 : ¬ v1 = (47 : Int32)
        · rw [if_pos hc3] at h
          refine mv_G_br (tgt := 40) rfl rfl (by decide) (fun _ => ?_) (fun z => absurd hc3 z)
          refine mv_G_run 2 (F' := (43, [some (.ref (kb false 24)), some (.int v1), some (.int v2)], [.int (48 : Int32), .int v1], 0, 0, kjS f I L)) rfl ?_
          by_cases hc4 : ¬ v1 = (48 : Int32)
          · rw [if_pos hc4] at h
            refine mv_G_br (tgt := 66) rfl rfl (by decide) (fun _ => ?_) (fun z => absurd hc4 z)
            refine mv_G_run 2 (F' := (70, [some (.ref (kb false 24)), some (.int v1), some (.int v2)], [.int v1, .ref 100002], 0, 0, kjS f I L)) rfl ?_
            obtain ⟨hi5, h⟩ := mv_bifs h
            refine mv_G_ald rfl rfl (mv_in_ok hi5) ?_
            obtain rfl := Option.some.inj h
            exact mv_G_ret rfl rfl rfl (Nat.le_refl _) trivial ⟨rfl, rfl⟩
          · rw [if_neg hc4] at h
            refine mv_G_br (tgt := 66) rfl rfl (by decide) (fun z => absurd z hc4) (fun _ => ?_)
            refine mv_G_run 4 (F' := (54, [some (.ref (kb false 24)), some (.int v1), some (.int v2)], [.int v2, .ref (kb false 10)], 0, 0, kjS f I L)) rfl ?_
            obtain ⟨r6, hc7, h⟩ := mv_bd h
            refine mv_G_call (r := []) (kf52a_ok _ _ _ _ _ _ _ hc7) rfl rfl rfl rfl rfl (Nat.le_of_ble_eq_true rfl) (Nat.le_of_ble_eq_true rfl) (Nat.le_of_ble_eq_true rfl) ?_
            rintro _ _ ⟨rfl, rfl⟩
            by_cases hc8 : ¬ r6 = 0
            · rw [if_pos hc8] at h
              refine mv_G_br (tgt := 64) rfl rfl (by decide) (fun _ => ?_) (fun z => absurd hc8 z)
              refine mv_G_run 1 (F' := (65, [some (.ref (kb false 24)), some (.int v1), some (.int v2)], [.int (1 : Int32)], 0, 0, kjS f I L)) rfl ?_
              obtain rfl := Option.some.inj h
              exact mv_G_ret rfl rfl rfl (Nat.le_refl _) trivial ⟨rfl, rfl⟩
            · rw [if_neg hc8] at h
              refine mv_G_br (tgt := 64) rfl rfl (by decide) (fun z => absurd z hc8) (fun _ => ?_)
              refine mv_G_run 2 (F' := (65, [some (.ref (kb false 24)), some (.int v1), some (.int v2)], [.int (0 : Int32)], 0, 0, kjS f I L)) rfl ?_
              obtain rfl := Option.some.inj h
              exact mv_G_ret rfl rfl rfl (Nat.le_refl _) trivial ⟨rfl, rfl⟩
        · rw [if_neg hc3] at h
          refine mv_G_br (tgt := 40) rfl rfl (by decide) (fun z => absurd z hc3) (fun _ => ?_)
          refine mv_G_run 4 (F' := (28, [some (.ref (kb false 24)), some (.int v1), some (.int v2)], [.int v2, .ref (kb false 14)], 0, 0, kjS f I L)) rfl ?_
          obtain ⟨r9, hc10, h⟩ := mv_bd h
          refine mv_G_call (r := []) (kf52_ok _ _ _ _ _ _ _ hc10) rfl rfl rfl rfl rfl (Nat.le_of_ble_eq_true rfl) (Nat.le_of_ble_eq_true rfl) (Nat.le_of_ble_eq_true rfl) ?_
          rintro _ _ ⟨rfl, rfl⟩
          by_cases hc11 : ¬ r9 = 0
          · rw [if_pos hc11] at h
            refine mv_G_br (tgt := 38) rfl rfl (by decide) (fun _ => ?_) (fun z => absurd hc11 z)
            refine mv_G_run 1 (F' := (39, [some (.ref (kb false 24)), some (.int v1), some (.int v2)], [.int (1 : Int32)], 0, 0, kjS f I L)) rfl ?_
            obtain rfl := Option.some.inj h
            exact mv_G_ret rfl rfl rfl (Nat.le_refl _) trivial ⟨rfl, rfl⟩
          · rw [if_neg hc11] at h
            refine mv_G_br (tgt := 38) rfl rfl (by decide) (fun z => absurd z hc11) (fun _ => ?_)
            refine mv_G_run 2 (F' := (39, [some (.ref (kb false 24)), some (.int v1), some (.int v2)], [.int (0 : Int32)], 0, 0, kjS f I L)) rfl ?_
            obtain rfl := Option.some.inj h
            exact mv_G_ret rfl rfl rfl (Nat.le_refl _) trivial ⟨rfl, rfl⟩
      · rw [if_neg hc2] at h
        refine mv_G_br (tgt := 14) rfl rfl (by decide) (fun z => absurd z hc2) (fun _ => ?_)
        refine mv_G_run 1 (F' := (13, [some (.ref (kb false 24)), some (.int v1), some (.int v2)], [.int (0 : Int32)], 0, 0, kjS f I L)) rfl ?_
        obtain rfl := Option.some.inj h
        exact mv_G_ret rfl rfl rfl (Nat.le_refl _) trivial ⟨rfl, rfl⟩
  · unfold kf70 at h
    refine mv_C_in kjM_70 (lc := [some (.ref (kb true 24)), some (.int v1), some (.int v2)]) rfl rfl rfl ?_
    refine mv_G_run 1 (F' := (1, [some (.ref (kb true 24)), some (.int v1), some (.int v2)], [.int v1], 0, 0, kjS f I L)) rfl ?_
    by_cases hc1 : v1 < 0
    · rw [if_pos hc1] at h
      refine mv_G_br (tgt := 12) rfl rfl (by decide) (fun _ => ?_) (fun z => absurd hc1 z)
      refine mv_G_run 1 (F' := (13, [some (.ref (kb true 24)), some (.int v1), some (.int v2)], [.int (0 : Int32)], 0, 0, kjS f I L)) rfl ?_
      obtain rfl := Option.some.inj h
      exact mv_G_ret rfl rfl rfl (Nat.le_refl _) trivial ⟨rfl, rfl⟩
    · rw [if_neg hc1] at h
      refine mv_G_br (tgt := 12) rfl rfl (by decide) (fun z => absurd z hc1) (fun _ => ?_)
      refine mv_G_run 3 (F' := (9, [some (.ref (kb true 24)), some (.int v1), some (.int v2)], [.int (54 : Int32), .int v1], 0, 0, kjS f I L)) rfl ?_
      by_cases hc2 : v1 < (54 : Int32)
      · rw [if_pos hc2] at h
        refine mv_G_br (tgt := 14) rfl rfl (by decide) (fun _ => ?_) (fun z => absurd hc2 z)
        refine mv_G_run 2 (F' := (17, [some (.ref (kb true 24)), some (.int v1), some (.int v2)], [.int (47 : Int32), .int v1], 0, 0, kjS f I L)) rfl ?_
        by_cases hc3 : ¬ v1 = (47 : Int32)
        · rw [if_pos hc3] at h
          refine mv_G_br (tgt := 40) rfl rfl (by decide) (fun _ => ?_) (fun z => absurd hc3 z)
          refine mv_G_run 2 (F' := (43, [some (.ref (kb true 24)), some (.int v1), some (.int v2)], [.int (48 : Int32), .int v1], 0, 0, kjS f I L)) rfl ?_
          by_cases hc4 : ¬ v1 = (48 : Int32)
          · rw [if_pos hc4] at h
            refine mv_G_br (tgt := 66) rfl rfl (by decide) (fun _ => ?_) (fun z => absurd hc4 z)
            refine mv_G_run 2 (F' := (70, [some (.ref (kb true 24)), some (.int v1), some (.int v2)], [.int v1, .ref 100002], 0, 0, kjS f I L)) rfl ?_
            obtain ⟨hi5, h⟩ := mv_bifs h
            refine mv_G_ald rfl rfl (mv_in_ok hi5) ?_
            obtain rfl := Option.some.inj h
            exact mv_G_ret rfl rfl rfl (Nat.le_refl _) trivial ⟨rfl, rfl⟩
          · rw [if_neg hc4] at h
            refine mv_G_br (tgt := 66) rfl rfl (by decide) (fun z => absurd z hc4) (fun _ => ?_)
            refine mv_G_run 4 (F' := (54, [some (.ref (kb true 24)), some (.int v1), some (.int v2)], [.int v2, .ref (kb true 10)], 0, 0, kjS f I L)) rfl ?_
            obtain ⟨r6, hc7, h⟩ := mv_bd h
            refine mv_G_call (r := []) (kf52a_ok _ _ _ _ _ _ _ hc7) rfl rfl rfl rfl rfl (Nat.le_of_ble_eq_true rfl) (Nat.le_of_ble_eq_true rfl) (Nat.le_of_ble_eq_true rfl) ?_
            rintro _ _ ⟨rfl, rfl⟩
            by_cases hc8 : ¬ r6 = 0
            · rw [if_pos hc8] at h
              refine mv_G_br (tgt := 64) rfl rfl (by decide) (fun _ => ?_) (fun z => absurd hc8 z)
              refine mv_G_run 1 (F' := (65, [some (.ref (kb true 24)), some (.int v1), some (.int v2)], [.int (1 : Int32)], 0, 0, kjS f I L)) rfl ?_
              obtain rfl := Option.some.inj h
              exact mv_G_ret rfl rfl rfl (Nat.le_refl _) trivial ⟨rfl, rfl⟩
            · rw [if_neg hc8] at h
              refine mv_G_br (tgt := 64) rfl rfl (by decide) (fun z => absurd z hc8) (fun _ => ?_)
              refine mv_G_run 2 (F' := (65, [some (.ref (kb true 24)), some (.int v1), some (.int v2)], [.int (0 : Int32)], 0, 0, kjS f I L)) rfl ?_
              obtain rfl := Option.some.inj h
              exact mv_G_ret rfl rfl rfl (Nat.le_refl _) trivial ⟨rfl, rfl⟩
        · rw [if_neg hc3] at h
          refine mv_G_br (tgt := 40) rfl rfl (by decide) (fun z => absurd z hc3) (fun _ => ?_)
          refine mv_G_run 4 (F' := (28, [some (.ref (kb true 24)), some (.int v1), some (.int v2)], [.int v2, .ref (kb true 14)], 0, 0, kjS f I L)) rfl ?_
          obtain ⟨r9, hc10, h⟩ := mv_bd h
          refine mv_G_call (r := []) (kf52_ok _ _ _ _ _ _ _ hc10) rfl rfl rfl rfl rfl (Nat.le_of_ble_eq_true rfl) (Nat.le_of_ble_eq_true rfl) (Nat.le_of_ble_eq_true rfl) ?_
          rintro _ _ ⟨rfl, rfl⟩
          by_cases hc11 : ¬ r9 = 0
          · rw [if_pos hc11] at h
            refine mv_G_br (tgt := 38) rfl rfl (by decide) (fun _ => ?_) (fun z => absurd hc11 z)
            refine mv_G_run 1 (F' := (39, [some (.ref (kb true 24)), some (.int v1), some (.int v2)], [.int (1 : Int32)], 0, 0, kjS f I L)) rfl ?_
            obtain rfl := Option.some.inj h
            exact mv_G_ret rfl rfl rfl (Nat.le_refl _) trivial ⟨rfl, rfl⟩
          · rw [if_neg hc11] at h
            refine mv_G_br (tgt := 38) rfl rfl (by decide) (fun z => absurd z hc11) (fun _ => ?_)
            refine mv_G_run 2 (F' := (39, [some (.ref (kb true 24)), some (.int v1), some (.int v2)], [.int (0 : Int32)], 0, 0, kjS f I L)) rfl ?_
            obtain rfl := Option.some.inj h
            exact mv_G_ret rfl rfl rfl (Nat.le_refl _) trivial ⟨rfl, rfl⟩
      · rw [if_neg hc2] at h
        refine mv_G_br (tgt := 14) rfl rfl (by decide) (fun z => absurd z hc2) (fun _ => ?_)
        refine mv_G_run 1 (F' := (13, [some (.ref (kb true 24)), some (.int v1), some (.int v2)], [.int (0 : Int32)], 0, 0, kjS f I L)) rfl ?_
        obtain rfl := Option.some.inj h
        exact mv_G_ret rfl rfl rfl (Nat.le_refl _) trivial ⟨rfl, rfl⟩
/-! KindJudge$Signatures.parametersOf(I)I on ('b', 14) -/
def kf50 (b : Bool) (I : kjI) (L : kjL) (v1 : Int32) : Option (Int32) :=
  if v1 < 0 then (some (0 : Int32)) else (if (I (kb b 14) 3) ≤ v1 then (some (0 : Int32)) else (bif mv_in v1 16 then (some (I (kb b 15) (Int32.toNatClampNeg v1))) else none))
set_option maxRecDepth 100000 in
set_option maxHeartbeats 4000000 in
theorem kf50_ok (f : Bool) (b : Bool) (I : kjI) (L : kjL) (v1 : Int32) (d : Nat) (r : Int32) (h : kf50 b I L v1 = some r) : mv_C kjP kjSta (d + 1) 50 [.ref (kb b 14), .int v1] (kjS f I L) (kjQi f I L r) := by
  cases b
  · unfold kf50 at h
    refine mv_C_in kjM_50 (lc := [some (.ref (kb false 14)), some (.int v1)]) rfl rfl rfl ?_
    refine mv_G_run 1 (F' := (1, [some (.ref (kb false 14)), some (.int v1)], [.int v1], 0, 0, kjS f I L)) rfl ?_
    by_cases hc1 : v1 < 0
    · rw [if_pos hc1] at h
      refine mv_G_br (tgt := 21) rfl rfl (by decide) (fun _ => ?_) (fun z => absurd hc1 z)
      refine mv_G_run 1 (F' := (22, [some (.ref (kb false 14)), some (.int v1)], [.int (0 : Int32)], 0, 0, kjS f I L)) rfl ?_
      obtain rfl := Option.some.inj h
      exact mv_G_ret rfl rfl rfl (Nat.le_refl _) trivial ⟨rfl, rfl⟩
    · rw [if_neg hc1] at h
      refine mv_G_br (tgt := 21) rfl rfl (by decide) (fun z => absurd z hc1) (fun _ => ?_)
      refine mv_G_run 3 (F' := (9, [some (.ref (kb false 14)), some (.int v1)], [.int (I (kb false 14) 3), .int v1], 0, 0, kjS f I L)) rfl ?_
      by_cases hc2 : (I (kb false 14) 3) ≤ v1
      · rw [if_pos hc2] at h
        refine mv_G_br (tgt := 21) rfl rfl (by decide) (fun _ => ?_) (fun z => absurd hc2 z)
        refine mv_G_run 1 (F' := (22, [some (.ref (kb false 14)), some (.int v1)], [.int (0 : Int32)], 0, 0, kjS f I L)) rfl ?_
        obtain rfl := Option.some.inj h
        exact mv_G_ret rfl rfl rfl (Nat.le_refl _) trivial ⟨rfl, rfl⟩
      · rw [if_neg hc2] at h
        refine mv_G_br (tgt := 21) rfl rfl (by decide) (fun z => absurd z hc2) (fun _ => ?_)
        refine mv_G_run 3 (F' := (17, [some (.ref (kb false 14)), some (.int v1)], [.int v1, .ref (kb false 15)], 0, 0, kjS f I L)) rfl ?_
        obtain ⟨hi3, h⟩ := mv_bifs h
        refine mv_G_ald rfl rfl (mv_in_ok hi3) ?_
        refine mv_G_run 1 (F' := (22, [some (.ref (kb false 14)), some (.int v1)], [.int (I (kb false 15) (Int32.toNatClampNeg v1))], 0, 0, kjS f I L)) rfl ?_
        obtain rfl := Option.some.inj h
        exact mv_G_ret rfl rfl rfl (Nat.le_refl _) trivial ⟨rfl, rfl⟩
  · unfold kf50 at h
    refine mv_C_in kjM_50 (lc := [some (.ref (kb true 14)), some (.int v1)]) rfl rfl rfl ?_
    refine mv_G_run 1 (F' := (1, [some (.ref (kb true 14)), some (.int v1)], [.int v1], 0, 0, kjS f I L)) rfl ?_
    by_cases hc1 : v1 < 0
    · rw [if_pos hc1] at h
      refine mv_G_br (tgt := 21) rfl rfl (by decide) (fun _ => ?_) (fun z => absurd hc1 z)
      refine mv_G_run 1 (F' := (22, [some (.ref (kb true 14)), some (.int v1)], [.int (0 : Int32)], 0, 0, kjS f I L)) rfl ?_
      obtain rfl := Option.some.inj h
      exact mv_G_ret rfl rfl rfl (Nat.le_refl _) trivial ⟨rfl, rfl⟩
    · rw [if_neg hc1] at h
      refine mv_G_br (tgt := 21) rfl rfl (by decide) (fun z => absurd z hc1) (fun _ => ?_)
      refine mv_G_run 3 (F' := (9, [some (.ref (kb true 14)), some (.int v1)], [.int (I (kb true 14) 3), .int v1], 0, 0, kjS f I L)) rfl ?_
      by_cases hc2 : (I (kb true 14) 3) ≤ v1
      · rw [if_pos hc2] at h
        refine mv_G_br (tgt := 21) rfl rfl (by decide) (fun _ => ?_) (fun z => absurd hc2 z)
        refine mv_G_run 1 (F' := (22, [some (.ref (kb true 14)), some (.int v1)], [.int (0 : Int32)], 0, 0, kjS f I L)) rfl ?_
        obtain rfl := Option.some.inj h
        exact mv_G_ret rfl rfl rfl (Nat.le_refl _) trivial ⟨rfl, rfl⟩
      · rw [if_neg hc2] at h
        refine mv_G_br (tgt := 21) rfl rfl (by decide) (fun z => absurd z hc2) (fun _ => ?_)
        refine mv_G_run 3 (F' := (17, [some (.ref (kb true 14)), some (.int v1)], [.int v1, .ref (kb true 15)], 0, 0, kjS f I L)) rfl ?_
        obtain ⟨hi3, h⟩ := mv_bifs h
        refine mv_G_ald rfl rfl (mv_in_ok hi3) ?_
        refine mv_G_run 1 (F' := (22, [some (.ref (kb true 14)), some (.int v1)], [.int (I (kb true 15) (Int32.toNatClampNeg v1))], 0, 0, kjS f I L)) rfl ?_
        obtain rfl := Option.some.inj h
        exact mv_G_ret rfl rfl rfl (Nat.le_refl _) trivial ⟨rfl, rfl⟩
/-! KindJudge$Signatures.parametersOf(I)I on ('b', 10) -/
def kf50a (b : Bool) (I : kjI) (L : kjL) (v1 : Int32) : Option (Int32) :=
  if v1 < 0 then (some (0 : Int32)) else (if (I (kb b 10) 3) ≤ v1 then (some (0 : Int32)) else (bif mv_in v1 16 then (some (I (kb b 11) (Int32.toNatClampNeg v1))) else none))
set_option maxRecDepth 100000 in
set_option maxHeartbeats 4000000 in
theorem kf50a_ok (f : Bool) (b : Bool) (I : kjI) (L : kjL) (v1 : Int32) (d : Nat) (r : Int32) (h : kf50a b I L v1 = some r) : mv_C kjP kjSta (d + 1) 50 [.ref (kb b 10), .int v1] (kjS f I L) (kjQi f I L r) := by
  cases b
  · unfold kf50a at h
    refine mv_C_in kjM_50 (lc := [some (.ref (kb false 10)), some (.int v1)]) rfl rfl rfl ?_
    refine mv_G_run 1 (F' := (1, [some (.ref (kb false 10)), some (.int v1)], [.int v1], 0, 0, kjS f I L)) rfl ?_
    by_cases hc1 : v1 < 0
    · rw [if_pos hc1] at h
      refine mv_G_br (tgt := 21) rfl rfl (by decide) (fun _ => ?_) (fun z => absurd hc1 z)
      refine mv_G_run 1 (F' := (22, [some (.ref (kb false 10)), some (.int v1)], [.int (0 : Int32)], 0, 0, kjS f I L)) rfl ?_
      obtain rfl := Option.some.inj h
      exact mv_G_ret rfl rfl rfl (Nat.le_refl _) trivial ⟨rfl, rfl⟩
    · rw [if_neg hc1] at h
      refine mv_G_br (tgt := 21) rfl rfl (by decide) (fun z => absurd z hc1) (fun _ => ?_)
      refine mv_G_run 3 (F' := (9, [some (.ref (kb false 10)), some (.int v1)], [.int (I (kb false 10) 3), .int v1], 0, 0, kjS f I L)) rfl ?_
      by_cases hc2 : (I (kb false 10) 3) ≤ v1
      · rw [if_pos hc2] at h
        refine mv_G_br (tgt := 21) rfl rfl (by decide) (fun _ => ?_) (fun z => absurd hc2 z)
        refine mv_G_run 1 (F' := (22, [some (.ref (kb false 10)), some (.int v1)], [.int (0 : Int32)], 0, 0, kjS f I L)) rfl ?_
        obtain rfl := Option.some.inj h
        exact mv_G_ret rfl rfl rfl (Nat.le_refl _) trivial ⟨rfl, rfl⟩
      · rw [if_neg hc2] at h
        refine mv_G_br (tgt := 21) rfl rfl (by decide) (fun z => absurd z hc2) (fun _ => ?_)
        refine mv_G_run 3 (F' := (17, [some (.ref (kb false 10)), some (.int v1)], [.int v1, .ref (kb false 11)], 0, 0, kjS f I L)) rfl ?_
        obtain ⟨hi3, h⟩ := mv_bifs h
        refine mv_G_ald rfl rfl (mv_in_ok hi3) ?_
        refine mv_G_run 1 (F' := (22, [some (.ref (kb false 10)), some (.int v1)], [.int (I (kb false 11) (Int32.toNatClampNeg v1))], 0, 0, kjS f I L)) rfl ?_
        obtain rfl := Option.some.inj h
        exact mv_G_ret rfl rfl rfl (Nat.le_refl _) trivial ⟨rfl, rfl⟩
  · unfold kf50a at h
    refine mv_C_in kjM_50 (lc := [some (.ref (kb true 10)), some (.int v1)]) rfl rfl rfl ?_
    refine mv_G_run 1 (F' := (1, [some (.ref (kb true 10)), some (.int v1)], [.int v1], 0, 0, kjS f I L)) rfl ?_
    by_cases hc1 : v1 < 0
    · rw [if_pos hc1] at h
      refine mv_G_br (tgt := 21) rfl rfl (by decide) (fun _ => ?_) (fun z => absurd hc1 z)
      refine mv_G_run 1 (F' := (22, [some (.ref (kb true 10)), some (.int v1)], [.int (0 : Int32)], 0, 0, kjS f I L)) rfl ?_
      obtain rfl := Option.some.inj h
      exact mv_G_ret rfl rfl rfl (Nat.le_refl _) trivial ⟨rfl, rfl⟩
    · rw [if_neg hc1] at h
      refine mv_G_br (tgt := 21) rfl rfl (by decide) (fun z => absurd z hc1) (fun _ => ?_)
      refine mv_G_run 3 (F' := (9, [some (.ref (kb true 10)), some (.int v1)], [.int (I (kb true 10) 3), .int v1], 0, 0, kjS f I L)) rfl ?_
      by_cases hc2 : (I (kb true 10) 3) ≤ v1
      · rw [if_pos hc2] at h
        refine mv_G_br (tgt := 21) rfl rfl (by decide) (fun _ => ?_) (fun z => absurd hc2 z)
        refine mv_G_run 1 (F' := (22, [some (.ref (kb true 10)), some (.int v1)], [.int (0 : Int32)], 0, 0, kjS f I L)) rfl ?_
        obtain rfl := Option.some.inj h
        exact mv_G_ret rfl rfl rfl (Nat.le_refl _) trivial ⟨rfl, rfl⟩
      · rw [if_neg hc2] at h
        refine mv_G_br (tgt := 21) rfl rfl (by decide) (fun z => absurd z hc2) (fun _ => ?_)
        refine mv_G_run 3 (F' := (17, [some (.ref (kb true 10)), some (.int v1)], [.int v1, .ref (kb true 11)], 0, 0, kjS f I L)) rfl ?_
        obtain ⟨hi3, h⟩ := mv_bifs h
        refine mv_G_ald rfl rfl (mv_in_ok hi3) ?_
        refine mv_G_run 1 (F' := (22, [some (.ref (kb true 10)), some (.int v1)], [.int (I (kb true 11) (Int32.toNatClampNeg v1))], 0, 0, kjS f I L)) rfl ?_
        obtain rfl := Option.some.inj h
        exact mv_G_ret rfl rfl rfl (Nat.le_refl _) trivial ⟨rfl, rfl⟩
/-! KindJudge$Code.takes(II)I on ('b', 24) -/
def kf69 (b : Bool) (I : kjI) (L : kjL) (v1 : Int32) (v2 : Int32) : Option (Int32) :=
  if v1 < 0 then (some (0 : Int32)) else (if v1 < (54 : Int32) then (if ¬ v1 = (47 : Int32) then (if ¬ v1 = (48 : Int32) then (bif mv_in v1 54 then (some ((kjSta 1).getD (Int32.toNatClampNeg v1) 0)) else none) else ((kf50a b I L v2).bind fun r6 => some ((1 : Int32) + r6))) else ((kf50 b I L v2).bind fun r8 => some r8)) else (some (0 : Int32)))
set_option maxRecDepth 100000 in
set_option maxHeartbeats 4000000 in
theorem kf69_ok (f : Bool) (b : Bool) (I : kjI) (L : kjL) (v1 : Int32) (v2 : Int32) (d : Nat) (r : Int32) (h : kf69 b I L v1 v2 = some r) : mv_C kjP kjSta (d + 2) 69 [.ref (kb b 24), .int v1, .int v2] (kjS f I L) (kjQi f I L r) := by
  cases b
  · unfold kf69 at h
    refine mv_C_in kjM_69 (lc := [some (.ref (kb false 24)), some (.int v1), some (.int v2)]) rfl rfl rfl ?_
    refine mv_G_run 1 (F' := (1, [some (.ref (kb false 24)), some (.int v1), some (.int v2)], [.int v1], 0, 0, kjS f I L)) rfl ?_
    by_cases hc1 : v1 < 0
    · rw [if_pos hc1] at h
      refine mv_G_br (tgt := 12) rfl rfl (by decide) (fun _ => ?_) (fun z => absurd hc1 z)
      refine mv_G_run 1 (F' := (13, [some (.ref (kb false 24)), some (.int v1), some (.int v2)], [.int (0 : Int32)], 0, 0, kjS f I L)) rfl ?_
      obtain rfl := Option.some.inj h
      exact mv_G_ret rfl rfl rfl (Nat.le_refl _) trivial ⟨rfl, rfl⟩
    · rw [if_neg hc1] at h
      refine mv_G_br (tgt := 12) rfl rfl (by decide) (fun z => absurd z hc1) (fun _ => ?_)
      refine mv_G_run 3 (F' := (9, [some (.ref (kb false 24)), some (.int v1), some (.int v2)], [.int (54 : Int32), .int v1], 0, 0, kjS f I L)) rfl ?_
      by_cases hc2 : v1 < (54 : Int32)
      · rw [if_pos hc2] at h
        refine mv_G_br (tgt := 14) rfl rfl (by decide) (fun _ => ?_) (fun z => absurd hc2 z)
        refine mv_G_run 2 (F' := (17, [some (.ref (kb false 24)), some (.int v1), some (.int v2)], [.int (47 : Int32), .int v1], 0, 0, kjS f I L)) rfl ?_
        by_cases hc3 : ¬ v1 = (47 : Int32)
        · rw [if_pos hc3] at h
          refine mv_G_br (tgt := 32) rfl rfl (by decide) (fun _ => ?_) (fun z => absurd hc3 z)
          refine mv_G_run 2 (F' := (35, [some (.ref (kb false 24)), some (.int v1), some (.int v2)], [.int (48 : Int32), .int v1], 0, 0, kjS f I L)) rfl ?_
          by_cases hc4 : ¬ v1 = (48 : Int32)
          · rw [if_pos hc4] at h
            refine mv_G_br (tgt := 54) rfl rfl (by decide) (fun _ => ?_) (fun z => absurd hc4 z)
            refine mv_G_run 2 (F' := (58, [some (.ref (kb false 24)), some (.int v1), some (.int v2)], [.int v1, .ref 100001], 0, 0, kjS f I L)) rfl ?_
            obtain ⟨hi5, h⟩ := mv_bifs h
            refine mv_G_ald rfl rfl (mv_in_ok hi5) ?_
            obtain rfl := Option.some.inj h
            exact mv_G_ret rfl rfl rfl (Nat.le_refl _) trivial ⟨rfl, rfl⟩
          · rw [if_neg hc4] at h
            refine mv_G_br (tgt := 54) rfl rfl (by decide) (fun z => absurd z hc4) (fun _ => ?_)
            refine mv_G_run 5 (F' := (47, [some (.ref (kb false 24)), some (.int v1), some (.int v2)], [.int v2, .ref (kb false 10), .int (1 : Int32)], 0, 0, kjS f I L)) rfl ?_
            obtain ⟨r6, hc7, h⟩ := mv_bd h
            refine mv_G_call (r := [.int (1 : Int32)]) (kf50a_ok _ _ _ _ _ _ _ hc7) rfl rfl rfl rfl rfl (Nat.le_of_ble_eq_true rfl) (Nat.le_of_ble_eq_true rfl) (Nat.le_of_ble_eq_true rfl) ?_
            rintro _ _ ⟨rfl, rfl⟩
            refine mv_G_run 2 (F' := (59, [some (.ref (kb false 24)), some (.int v1), some (.int v2)], [.int ((1 : Int32) + r6)], 0, 0, kjS f I L)) rfl ?_
            obtain rfl := Option.some.inj h
            exact mv_G_ret rfl rfl rfl (Nat.le_refl _) trivial ⟨rfl, rfl⟩
        · rw [if_neg hc3] at h
          refine mv_G_br (tgt := 32) rfl rfl (by decide) (fun z => absurd z hc3) (fun _ => ?_)
          refine mv_G_run 4 (F' := (28, [some (.ref (kb false 24)), some (.int v1), some (.int v2)], [.int v2, .ref (kb false 14)], 0, 0, kjS f I L)) rfl ?_
          obtain ⟨r8, hc9, h⟩ := mv_bd h
          refine mv_G_call (r := []) (kf50_ok _ _ _ _ _ _ _ hc9) rfl rfl rfl rfl rfl (Nat.le_of_ble_eq_true rfl) (Nat.le_of_ble_eq_true rfl) (Nat.le_of_ble_eq_true rfl) ?_
          rintro _ _ ⟨rfl, rfl⟩
          obtain rfl := Option.some.inj h
          exact mv_G_ret rfl rfl rfl (Nat.le_refl _) trivial ⟨rfl, rfl⟩
      · rw [if_neg hc2] at h
        refine mv_G_br (tgt := 14) rfl rfl (by decide) (fun z => absurd z hc2) (fun _ => ?_)
        refine mv_G_run 1 (F' := (13, [some (.ref (kb false 24)), some (.int v1), some (.int v2)], [.int (0 : Int32)], 0, 0, kjS f I L)) rfl ?_
        obtain rfl := Option.some.inj h
        exact mv_G_ret rfl rfl rfl (Nat.le_refl _) trivial ⟨rfl, rfl⟩
  · unfold kf69 at h
    refine mv_C_in kjM_69 (lc := [some (.ref (kb true 24)), some (.int v1), some (.int v2)]) rfl rfl rfl ?_
    refine mv_G_run 1 (F' := (1, [some (.ref (kb true 24)), some (.int v1), some (.int v2)], [.int v1], 0, 0, kjS f I L)) rfl ?_
    by_cases hc1 : v1 < 0
    · rw [if_pos hc1] at h
      refine mv_G_br (tgt := 12) rfl rfl (by decide) (fun _ => ?_) (fun z => absurd hc1 z)
      refine mv_G_run 1 (F' := (13, [some (.ref (kb true 24)), some (.int v1), some (.int v2)], [.int (0 : Int32)], 0, 0, kjS f I L)) rfl ?_
      obtain rfl := Option.some.inj h
      exact mv_G_ret rfl rfl rfl (Nat.le_refl _) trivial ⟨rfl, rfl⟩
    · rw [if_neg hc1] at h
      refine mv_G_br (tgt := 12) rfl rfl (by decide) (fun z => absurd z hc1) (fun _ => ?_)
      refine mv_G_run 3 (F' := (9, [some (.ref (kb true 24)), some (.int v1), some (.int v2)], [.int (54 : Int32), .int v1], 0, 0, kjS f I L)) rfl ?_
      by_cases hc2 : v1 < (54 : Int32)
      · rw [if_pos hc2] at h
        refine mv_G_br (tgt := 14) rfl rfl (by decide) (fun _ => ?_) (fun z => absurd hc2 z)
        refine mv_G_run 2 (F' := (17, [some (.ref (kb true 24)), some (.int v1), some (.int v2)], [.int (47 : Int32), .int v1], 0, 0, kjS f I L)) rfl ?_
        by_cases hc3 : ¬ v1 = (47 : Int32)
        · rw [if_pos hc3] at h
          refine mv_G_br (tgt := 32) rfl rfl (by decide) (fun _ => ?_) (fun z => absurd hc3 z)
          refine mv_G_run 2 (F' := (35, [some (.ref (kb true 24)), some (.int v1), some (.int v2)], [.int (48 : Int32), .int v1], 0, 0, kjS f I L)) rfl ?_
          by_cases hc4 : ¬ v1 = (48 : Int32)
          · rw [if_pos hc4] at h
            refine mv_G_br (tgt := 54) rfl rfl (by decide) (fun _ => ?_) (fun z => absurd hc4 z)
            refine mv_G_run 2 (F' := (58, [some (.ref (kb true 24)), some (.int v1), some (.int v2)], [.int v1, .ref 100001], 0, 0, kjS f I L)) rfl ?_
            obtain ⟨hi5, h⟩ := mv_bifs h
            refine mv_G_ald rfl rfl (mv_in_ok hi5) ?_
            obtain rfl := Option.some.inj h
            exact mv_G_ret rfl rfl rfl (Nat.le_refl _) trivial ⟨rfl, rfl⟩
          · rw [if_neg hc4] at h
            refine mv_G_br (tgt := 54) rfl rfl (by decide) (fun z => absurd z hc4) (fun _ => ?_)
            refine mv_G_run 5 (F' := (47, [some (.ref (kb true 24)), some (.int v1), some (.int v2)], [.int v2, .ref (kb true 10), .int (1 : Int32)], 0, 0, kjS f I L)) rfl ?_
            obtain ⟨r6, hc7, h⟩ := mv_bd h
            refine mv_G_call (r := [.int (1 : Int32)]) (kf50a_ok _ _ _ _ _ _ _ hc7) rfl rfl rfl rfl rfl (Nat.le_of_ble_eq_true rfl) (Nat.le_of_ble_eq_true rfl) (Nat.le_of_ble_eq_true rfl) ?_
            rintro _ _ ⟨rfl, rfl⟩
            refine mv_G_run 2 (F' := (59, [some (.ref (kb true 24)), some (.int v1), some (.int v2)], [.int ((1 : Int32) + r6)], 0, 0, kjS f I L)) rfl ?_
            obtain rfl := Option.some.inj h
            exact mv_G_ret rfl rfl rfl (Nat.le_refl _) trivial ⟨rfl, rfl⟩
        · rw [if_neg hc3] at h
          refine mv_G_br (tgt := 32) rfl rfl (by decide) (fun z => absurd z hc3) (fun _ => ?_)
          refine mv_G_run 4 (F' := (28, [some (.ref (kb true 24)), some (.int v1), some (.int v2)], [.int v2, .ref (kb true 14)], 0, 0, kjS f I L)) rfl ?_
          obtain ⟨r8, hc9, h⟩ := mv_bd h
          refine mv_G_call (r := []) (kf50_ok _ _ _ _ _ _ _ hc9) rfl rfl rfl rfl rfl (Nat.le_of_ble_eq_true rfl) (Nat.le_of_ble_eq_true rfl) (Nat.le_of_ble_eq_true rfl) ?_
          rintro _ _ ⟨rfl, rfl⟩
          obtain rfl := Option.some.inj h
          exact mv_G_ret rfl rfl rfl (Nat.le_refl _) trivial ⟨rfl, rfl⟩
      · rw [if_neg hc2] at h
        refine mv_G_br (tgt := 14) rfl rfl (by decide) (fun z => absurd z hc2) (fun _ => ?_)
        refine mv_G_run 1 (F' := (13, [some (.ref (kb true 24)), some (.int v1), some (.int v2)], [.int (0 : Int32)], 0, 0, kjS f I L)) rfl ?_
        obtain rfl := Option.some.inj h
        exact mv_G_ret rfl rfl rfl (Nat.le_refl _) trivial ⟨rfl, rfl⟩
/-! KindJudge$Code.sizeOf(II)I on ('b', 24) -/
def kf68_51 (b : Bool) (I : kjI) (L : kjL) (v1 : Int32) (v2 : Int32) (v4 : Int32) : Option (Int32) :=
  (kf32 b I L v1).bind fun r1 => if (r1 - v2) < v4 then (some (0 : Int32)) else (some v4)
set_option maxRecDepth 100000 in
set_option maxHeartbeats 4000000 in
theorem kf68_51_ok (f : Bool) (b : Bool) (I : kjI) (L : kjL) (d : Nat)  (v1 : Int32) (v2 : Int32) (v4 : Int32) (r : Int32) (h : kf68_51 b I L v1 v2 v4 = some r) : mv_G kjP kjSta (mv_C kjP kjSta (d + 3)) kjM_68 (kjQi f I L r) (51, [some (.ref (kb b 24)), some (.int v1), some (.int v2), none, some (.int v4)], [], 0, 0, kjS f I L) := by
  cases b
  · unfold kf68_51 at h
    refine mv_G_run 4 (F' := (58, [some (.ref (kb false 24)), some (.int v1), some (.int v2), none, some (.int v4)], [.int v1, .ref (kb false 4), .int v4], 0, 0, kjS f I L)) rfl ?_
    obtain ⟨r1, hc2, h⟩ := mv_bd h
    refine mv_G_call (r := [.int v4]) (kf32_ok _ _ _ _ _ _ _ hc2) rfl rfl rfl rfl rfl (Nat.le_of_ble_eq_true rfl) (Nat.le_of_ble_eq_true rfl) (Nat.le_of_ble_eq_true rfl) ?_
    rintro _ _ ⟨rfl, rfl⟩
    refine mv_G_run 2 (F' := (63, [some (.ref (kb false 24)), some (.int v1), some (.int v2), none, some (.int v4)], [.int (r1 - v2), .int v4], 0, 0, kjS f I L)) rfl ?_
    by_cases hc3 : (r1 - v2) < v4
    · rw [if_pos hc3] at h
      refine mv_G_br (tgt := 71) rfl rfl (by decide) (fun _ => ?_) (fun z => absurd hc3 z)
      refine mv_G_run 1 (F' := (72, [some (.ref (kb false 24)), some (.int v1), some (.int v2), none, some (.int v4)], [.int (0 : Int32)], 0, 0, kjS f I L)) rfl ?_
      obtain rfl := Option.some.inj h
      exact mv_G_ret rfl rfl rfl (Nat.le_refl _) trivial ⟨rfl, rfl⟩
    · rw [if_neg hc3] at h
      refine mv_G_br (tgt := 71) rfl rfl (by decide) (fun z => absurd z hc3) (fun _ => ?_)
      refine mv_G_run 2 (F' := (72, [some (.ref (kb false 24)), some (.int v1), some (.int v2), none, some (.int v4)], [.int v4], 0, 0, kjS f I L)) rfl ?_
      obtain rfl := Option.some.inj h
      exact mv_G_ret rfl rfl rfl (Nat.le_refl _) trivial ⟨rfl, rfl⟩
  · unfold kf68_51 at h
    refine mv_G_run 4 (F' := (58, [some (.ref (kb true 24)), some (.int v1), some (.int v2), none, some (.int v4)], [.int v1, .ref (kb true 4), .int v4], 0, 0, kjS f I L)) rfl ?_
    obtain ⟨r1, hc2, h⟩ := mv_bd h
    refine mv_G_call (r := [.int v4]) (kf32_ok _ _ _ _ _ _ _ hc2) rfl rfl rfl rfl rfl (Nat.le_of_ble_eq_true rfl) (Nat.le_of_ble_eq_true rfl) (Nat.le_of_ble_eq_true rfl) ?_
    rintro _ _ ⟨rfl, rfl⟩
    refine mv_G_run 2 (F' := (63, [some (.ref (kb true 24)), some (.int v1), some (.int v2), none, some (.int v4)], [.int (r1 - v2), .int v4], 0, 0, kjS f I L)) rfl ?_
    by_cases hc3 : (r1 - v2) < v4
    · rw [if_pos hc3] at h
      refine mv_G_br (tgt := 71) rfl rfl (by decide) (fun _ => ?_) (fun z => absurd hc3 z)
      refine mv_G_run 1 (F' := (72, [some (.ref (kb true 24)), some (.int v1), some (.int v2), none, some (.int v4)], [.int (0 : Int32)], 0, 0, kjS f I L)) rfl ?_
      obtain rfl := Option.some.inj h
      exact mv_G_ret rfl rfl rfl (Nat.le_refl _) trivial ⟨rfl, rfl⟩
    · rw [if_neg hc3] at h
      refine mv_G_br (tgt := 71) rfl rfl (by decide) (fun z => absurd z hc3) (fun _ => ?_)
      refine mv_G_run 2 (F' := (72, [some (.ref (kb true 24)), some (.int v1), some (.int v2), none, some (.int v4)], [.int v4], 0, 0, kjS f I L)) rfl ?_
      obtain rfl := Option.some.inj h
      exact mv_G_ret rfl rfl rfl (Nat.le_refl _) trivial ⟨rfl, rfl⟩
def kf68 (b : Bool) (I : kjI) (L : kjL) (v1 : Int32) (v2 : Int32) : Option (Int32) :=
  (kf67 b I L v1 v2 (0 : Int32)).bind fun r1 => if r1 < 0 then (some (0 : Int32)) else (if r1 < (54 : Int32) then (bif mv_in r1 54 then (if ¬ r1 = (53 : Int32) then (kf68_51 b I L v1 v2 ((kjSta 0).getD (Int32.toNatClampNeg r1) 0)) else ((kf67 b I L v1 v2 (1 : Int32)).bind fun r7 => kf68_51 b I L v1 v2 (((kjSta 0).getD (Int32.toNatClampNeg r1) 0) + (if (0 : Int32) < r7 then r7 else (0 : Int32))))) else none) else (some (0 : Int32)))
set_option maxRecDepth 100000 in
set_option maxHeartbeats 4000000 in
theorem kf68_ok (f : Bool) (b : Bool) (I : kjI) (L : kjL) (v1 : Int32) (v2 : Int32) (d : Nat) (r : Int32) (h : kf68 b I L v1 v2 = some r) : mv_C kjP kjSta (d + 4) 68 [.ref (kb b 24), .int v1, .int v2] (kjS f I L) (kjQi f I L r) := by
  cases b
  · unfold kf68 at h
    refine mv_C_in kjM_68 (lc := [some (.ref (kb false 24)), some (.int v1), some (.int v2), none, none]) rfl rfl rfl ?_
    refine mv_G_run 4 (F' := (4, [some (.ref (kb false 24)), some (.int v1), some (.int v2), none, none], [.int (0 : Int32), .int v2, .int v1, .ref (kb false 24)], 0, 0, kjS f I L)) rfl ?_
    obtain ⟨r1, hc2, h⟩ := mv_bd h
    refine mv_G_call (r := []) (kf67_ok _ _ _ _ _ _ _ _ _ hc2) rfl rfl rfl rfl rfl (Nat.le_of_ble_eq_true rfl) (Nat.le_of_ble_eq_true rfl) (Nat.le_of_ble_eq_true rfl) ?_
    rintro _ _ ⟨rfl, rfl⟩
    refine mv_G_run 2 (F' := (9, [some (.ref (kb false 24)), some (.int v1), some (.int v2), some (.int r1), none], [.int r1], 0, 0, kjS f I L)) rfl ?_
    by_cases hc3 : r1 < 0
    · rw [if_pos hc3] at h
      refine mv_G_br (tgt := 20) rfl rfl (by decide) (fun _ => ?_) (fun z => absurd hc3 z)
      refine mv_G_run 1 (F' := (21, [some (.ref (kb false 24)), some (.int v1), some (.int v2), some (.int r1), none], [.int (0 : Int32)], 0, 0, kjS f I L)) rfl ?_
      obtain rfl := Option.some.inj h
      exact mv_G_ret rfl rfl rfl (Nat.le_refl _) trivial ⟨rfl, rfl⟩
    · rw [if_neg hc3] at h
      refine mv_G_br (tgt := 20) rfl rfl (by decide) (fun z => absurd z hc3) (fun _ => ?_)
      refine mv_G_run 3 (F' := (17, [some (.ref (kb false 24)), some (.int v1), some (.int v2), some (.int r1), none], [.int (54 : Int32), .int r1], 0, 0, kjS f I L)) rfl ?_
      by_cases hc4 : r1 < (54 : Int32)
      · rw [if_pos hc4] at h
        refine mv_G_br (tgt := 22) rfl rfl (by decide) (fun _ => ?_) (fun z => absurd hc4 z)
        refine mv_G_run 2 (F' := (26, [some (.ref (kb false 24)), some (.int v1), some (.int v2), some (.int r1), none], [.int r1, .ref 100000], 0, 0, kjS f I L)) rfl ?_
        obtain ⟨hi5, h⟩ := mv_bifs h
        refine mv_G_ald rfl rfl (mv_in_ok hi5) ?_
        refine mv_G_run 3 (F' := (32, [some (.ref (kb false 24)), some (.int v1), some (.int v2), some (.int r1), some (.int ((kjSta 0).getD (Int32.toNatClampNeg r1) 0))], [.int (53 : Int32), .int r1], 0, 0, kjS f I L)) rfl ?_
        by_cases hc6 : ¬ r1 = (53 : Int32)
        · rw [if_pos hc6] at h
          refine mv_G_br (tgt := 51) rfl rfl (by decide) (fun _ => ?_) (fun z => absurd hc6 z)
          refine mv_G_fg (lc' := [some (.ref (kb false 24)), some (.int v1), some (.int v2), none, some (.int ((kjSta 0).getD (Int32.toNatClampNeg r1) 0))]) (And.intro rfl (And.intro rfl (And.intro rfl (And.intro rfl trivial)))) ?_
          exact kf68_51_ok _ _ _ _ d _ _ _ _ h
        · rw [if_neg hc6] at h
          refine mv_G_br (tgt := 51) rfl rfl (by decide) (fun z => absurd z hc6) (fun _ => ?_)
          refine mv_G_run 6 (F' := (42, [some (.ref (kb false 24)), some (.int v1), some (.int v2), some (.int r1), some (.int ((kjSta 0).getD (Int32.toNatClampNeg r1) 0))], [.int (1 : Int32), .int v2, .int v1, .ref (kb false 24), .int (0 : Int32), .int ((kjSta 0).getD (Int32.toNatClampNeg r1) 0)], 0, 0, kjS f I L)) rfl ?_
          obtain ⟨r7, hc8, h⟩ := mv_bd h
          refine mv_G_call (r := [.int (0 : Int32), .int ((kjSta 0).getD (Int32.toNatClampNeg r1) 0)]) (kf67_ok _ _ _ _ _ _ _ _ _ hc8) rfl rfl rfl rfl rfl (Nat.le_of_ble_eq_true rfl) (Nat.le_of_ble_eq_true rfl) (Nat.le_of_ble_eq_true rfl) ?_
          rintro _ _ ⟨rfl, rfl⟩
          refine mv_G_run 3 (F' := (51, [some (.ref (kb false 24)), some (.int v1), some (.int v2), some (.int r1), some (.int (((kjSta 0).getD (Int32.toNatClampNeg r1) 0) + (if (0 : Int32) < r7 then r7 else (0 : Int32))))], [], 0, 0, kjS f I L)) rfl ?_
          refine mv_G_fg (lc' := [some (.ref (kb false 24)), some (.int v1), some (.int v2), none, some (.int (((kjSta 0).getD (Int32.toNatClampNeg r1) 0) + (if (0 : Int32) < r7 then r7 else (0 : Int32))))]) (And.intro rfl (And.intro rfl (And.intro rfl (And.intro rfl trivial)))) ?_
          exact kf68_51_ok _ _ _ _ d _ _ _ _ h
      · rw [if_neg hc4] at h
        refine mv_G_br (tgt := 22) rfl rfl (by decide) (fun z => absurd z hc4) (fun _ => ?_)
        refine mv_G_run 1 (F' := (21, [some (.ref (kb false 24)), some (.int v1), some (.int v2), some (.int r1), none], [.int (0 : Int32)], 0, 0, kjS f I L)) rfl ?_
        obtain rfl := Option.some.inj h
        exact mv_G_ret rfl rfl rfl (Nat.le_refl _) trivial ⟨rfl, rfl⟩
  · unfold kf68 at h
    refine mv_C_in kjM_68 (lc := [some (.ref (kb true 24)), some (.int v1), some (.int v2), none, none]) rfl rfl rfl ?_
    refine mv_G_run 4 (F' := (4, [some (.ref (kb true 24)), some (.int v1), some (.int v2), none, none], [.int (0 : Int32), .int v2, .int v1, .ref (kb true 24)], 0, 0, kjS f I L)) rfl ?_
    obtain ⟨r1, hc2, h⟩ := mv_bd h
    refine mv_G_call (r := []) (kf67_ok _ _ _ _ _ _ _ _ _ hc2) rfl rfl rfl rfl rfl (Nat.le_of_ble_eq_true rfl) (Nat.le_of_ble_eq_true rfl) (Nat.le_of_ble_eq_true rfl) ?_
    rintro _ _ ⟨rfl, rfl⟩
    refine mv_G_run 2 (F' := (9, [some (.ref (kb true 24)), some (.int v1), some (.int v2), some (.int r1), none], [.int r1], 0, 0, kjS f I L)) rfl ?_
    by_cases hc3 : r1 < 0
    · rw [if_pos hc3] at h
      refine mv_G_br (tgt := 20) rfl rfl (by decide) (fun _ => ?_) (fun z => absurd hc3 z)
      refine mv_G_run 1 (F' := (21, [some (.ref (kb true 24)), some (.int v1), some (.int v2), some (.int r1), none], [.int (0 : Int32)], 0, 0, kjS f I L)) rfl ?_
      obtain rfl := Option.some.inj h
      exact mv_G_ret rfl rfl rfl (Nat.le_refl _) trivial ⟨rfl, rfl⟩
    · rw [if_neg hc3] at h
      refine mv_G_br (tgt := 20) rfl rfl (by decide) (fun z => absurd z hc3) (fun _ => ?_)
      refine mv_G_run 3 (F' := (17, [some (.ref (kb true 24)), some (.int v1), some (.int v2), some (.int r1), none], [.int (54 : Int32), .int r1], 0, 0, kjS f I L)) rfl ?_
      by_cases hc4 : r1 < (54 : Int32)
      · rw [if_pos hc4] at h
        refine mv_G_br (tgt := 22) rfl rfl (by decide) (fun _ => ?_) (fun z => absurd hc4 z)
        refine mv_G_run 2 (F' := (26, [some (.ref (kb true 24)), some (.int v1), some (.int v2), some (.int r1), none], [.int r1, .ref 100000], 0, 0, kjS f I L)) rfl ?_
        obtain ⟨hi5, h⟩ := mv_bifs h
        refine mv_G_ald rfl rfl (mv_in_ok hi5) ?_
        refine mv_G_run 3 (F' := (32, [some (.ref (kb true 24)), some (.int v1), some (.int v2), some (.int r1), some (.int ((kjSta 0).getD (Int32.toNatClampNeg r1) 0))], [.int (53 : Int32), .int r1], 0, 0, kjS f I L)) rfl ?_
        by_cases hc6 : ¬ r1 = (53 : Int32)
        · rw [if_pos hc6] at h
          refine mv_G_br (tgt := 51) rfl rfl (by decide) (fun _ => ?_) (fun z => absurd hc6 z)
          refine mv_G_fg (lc' := [some (.ref (kb true 24)), some (.int v1), some (.int v2), none, some (.int ((kjSta 0).getD (Int32.toNatClampNeg r1) 0))]) (And.intro rfl (And.intro rfl (And.intro rfl (And.intro rfl trivial)))) ?_
          exact kf68_51_ok _ _ _ _ d _ _ _ _ h
        · rw [if_neg hc6] at h
          refine mv_G_br (tgt := 51) rfl rfl (by decide) (fun z => absurd z hc6) (fun _ => ?_)
          refine mv_G_run 6 (F' := (42, [some (.ref (kb true 24)), some (.int v1), some (.int v2), some (.int r1), some (.int ((kjSta 0).getD (Int32.toNatClampNeg r1) 0))], [.int (1 : Int32), .int v2, .int v1, .ref (kb true 24), .int (0 : Int32), .int ((kjSta 0).getD (Int32.toNatClampNeg r1) 0)], 0, 0, kjS f I L)) rfl ?_
          obtain ⟨r7, hc8, h⟩ := mv_bd h
          refine mv_G_call (r := [.int (0 : Int32), .int ((kjSta 0).getD (Int32.toNatClampNeg r1) 0)]) (kf67_ok _ _ _ _ _ _ _ _ _ hc8) rfl rfl rfl rfl rfl (Nat.le_of_ble_eq_true rfl) (Nat.le_of_ble_eq_true rfl) (Nat.le_of_ble_eq_true rfl) ?_
          rintro _ _ ⟨rfl, rfl⟩
          refine mv_G_run 3 (F' := (51, [some (.ref (kb true 24)), some (.int v1), some (.int v2), some (.int r1), some (.int (((kjSta 0).getD (Int32.toNatClampNeg r1) 0) + (if (0 : Int32) < r7 then r7 else (0 : Int32))))], [], 0, 0, kjS f I L)) rfl ?_
          refine mv_G_fg (lc' := [some (.ref (kb true 24)), some (.int v1), some (.int v2), none, some (.int (((kjSta 0).getD (Int32.toNatClampNeg r1) 0) + (if (0 : Int32) < r7 then r7 else (0 : Int32))))]) (And.intro rfl (And.intro rfl (And.intro rfl (And.intro rfl trivial)))) ?_
          exact kf68_51_ok _ _ _ _ d _ _ _ _ h
      · rw [if_neg hc4] at h
        refine mv_G_br (tgt := 22) rfl rfl (by decide) (fun z => absurd z hc4) (fun _ => ?_)
        refine mv_G_run 1 (F' := (21, [some (.ref (kb true 24)), some (.int v1), some (.int v2), some (.int r1), none], [.int (0 : Int32)], 0, 0, kjS f I L)) rfl ?_
        obtain rfl := Option.some.inj h
        exact mv_G_ret rfl rfl rfl (Nat.le_refl _) trivial ⟨rfl, rfl⟩
/-! KindJudge.look(III)I on ('c', 0) -/
def kf5 (f : Bool) (I : kjI) (L : kjL) (v1 : Int32) (v2 : Int32) (v3 : Int32) : Option (Int32) :=
  if v3 < 0 then (none) else (if (5 : Int32) < v3 then (none) else ((kf66 f I L v1 v2).bind fun r3 => if ¬ r3 = 0 then ((kf67 f I L v1 v2 (0 : Int32)).bind fun r6 => (kf67 f I L v1 v2 (1 : Int32)).bind fun r8 => (kf78 f I L v1 v2).bind fun r10 => if (v3).toInt = 0 then (some r6) else (if (v3).toInt = 1 then ((kf68 f I L v1 v2).bind fun r14 => some r14) else (if (v3).toInt = 2 then ((kf69 f I L r6 r8).bind fun r17 => some r17) else (if (v3).toInt = 3 then ((kf70 f I L r6 r8).bind fun r20 => some r20) else (if (v3).toInt = 4 then (if ¬ r10 = (-1 : Int32) then (some (1 : Int32)) else (some (0 : Int32))) else (if ¬ r10 = (-1 : Int32) then (some r10) else (some (0 : Int32)))))))) else (none)))
set_option maxRecDepth 100000 in
set_option maxHeartbeats 4000000 in
theorem kf5_ok (f : Bool) (I : kjI) (L : kjL) (v1 : Int32) (v2 : Int32) (v3 : Int32) (d : Nat) (r : Int32) (h : kf5 f I L v1 v2 v3 = some r) : mv_C kjP kjSta (d + 5) 5 [.ref 0, .int v1, .int v2, .int v3] (kjS f I L) (kjQi f I L r) := by
  cases f
  · unfold kf5 at h
    refine mv_C_in kjM_5 (lc := [some (.ref 0), some (.int v1), some (.int v2), some (.int v3), none, none, none]) rfl rfl rfl ?_
    refine mv_G_run 1 (F' := (1, [some (.ref 0), some (.int v1), some (.int v2), some (.int v3), none, none, none], [.int v3], 0, 0, kjS false I L)) rfl ?_
    by_cases hc1 : v3 < 0
    · rw [if_pos hc1] at h
      refine mv_G_br (tgt := 24) rfl rfl (by decide) (fun _ => ?_) (fun z => absurd hc1 z)
      cases h
    · rw [if_neg hc1] at h
      refine mv_G_br (tgt := 24) rfl rfl (by decide) (fun z => absurd z hc1) (fun _ => ?_)
      refine mv_G_run 2 (F' := (6, [some (.ref 0), some (.int v1), some (.int v2), some (.int v3), none, none, none], [.int (5 : Int32), .int v3], 0, 0, kjS false I L)) rfl ?_
      by_cases hc2 : (5 : Int32) < v3
      · rw [if_pos hc2] at h
        refine mv_G_br (tgt := 24) rfl rfl (by decide) (fun _ => ?_) (fun z => absurd hc2 z)
        cases h
      · rw [if_neg hc2] at h
        refine mv_G_br (tgt := 24) rfl rfl (by decide) (fun z => absurd z hc2) (fun _ => ?_)
        refine mv_G_run 5 (F' := (18, [some (.ref 0), some (.int v1), some (.int v2), some (.int v3), none, none, none], [.int v2, .int v1, .ref (kb false 24)], 0, 0, kjS false I L)) rfl ?_
        obtain ⟨r3, hc4, h⟩ := mv_bd h
        refine mv_G_call (r := []) (kf66_ok _ _ _ _ _ _ _ _ hc4) rfl rfl rfl rfl rfl (Nat.le_of_ble_eq_true rfl) (Nat.le_of_ble_eq_true rfl) (Nat.le_of_ble_eq_true rfl) ?_
        rintro _ _ ⟨rfl, rfl⟩
        by_cases hc5 : ¬ r3 = 0
        · rw [if_pos hc5] at h
          refine mv_G_br (tgt := 34) rfl rfl (by decide) (fun _ => ?_) (fun z => absurd hc5 z)
          refine mv_G_run 6 (F' := (44, [some (.ref 0), some (.int v1), some (.int v2), some (.int v3), none, none, none], [.int (0 : Int32), .int v2, .int v1, .ref (kb false 24)], 0, 0, kjS false I L)) rfl ?_
          obtain ⟨r6, hc7, h⟩ := mv_bd h
          refine mv_G_call (r := []) (kf67_ok _ _ _ _ _ _ _ _ _ hc7) rfl rfl rfl rfl rfl (Nat.le_of_ble_eq_true rfl) (Nat.le_of_ble_eq_true rfl) (Nat.le_of_ble_eq_true rfl) ?_
          rintro _ _ ⟨rfl, rfl⟩
          refine mv_G_run 7 (F' := (59, [some (.ref 0), some (.int v1), some (.int v2), some (.int v3), some (.int r6), none, none], [.int (1 : Int32), .int v2, .int v1, .ref (kb false 24)], 0, 0, kjS false I L)) rfl ?_
          obtain ⟨r8, hc9, h⟩ := mv_bd h
          refine mv_G_call (r := []) (kf67_ok _ _ _ _ _ _ _ _ _ hc9) rfl rfl rfl rfl rfl (Nat.le_of_ble_eq_true rfl) (Nat.le_of_ble_eq_true rfl) (Nat.le_of_ble_eq_true rfl) ?_
          rintro _ _ ⟨rfl, rfl⟩
          refine mv_G_run 6 (F' := (73, [some (.ref 0), some (.int v1), some (.int v2), some (.int v3), some (.int r6), some (.int r8), none], [.int v2, .int v1, .ref (kb false 26)], 0, 0, kjS false I L)) rfl ?_
          obtain ⟨r10, hc11, h⟩ := mv_bd h
          refine mv_G_call (r := []) (kf78_ok _ _ _ _ _ _ _ _ hc11) rfl rfl rfl rfl rfl (Nat.le_of_ble_eq_true rfl) (Nat.le_of_ble_eq_true rfl) (Nat.le_of_ble_eq_true rfl) ?_
          rintro _ _ ⟨rfl, rfl⟩
          refine mv_G_run 2 (F' := (79, [some (.ref 0), some (.int v1), some (.int v2), some (.int v3), some (.int r6), some (.int r8), some (.int r10)], [.int v3], 0, 0, kjS false I L)) rfl ?_
          by_cases hw12 : (v3).toInt = 0
          · rw [if_pos hw12] at h
            refine mv_G_sw (tgt := 112) (off := 33) rfl (by simp only [mv_sw, hw12]; rfl) (by decide) ?_
            refine mv_G_run 1 (F' := (114, [some (.ref 0), some (.int v1), some (.int v2), some (.int v3), some (.int r6), some (.int r8), some (.int r10)], [.int r6], 0, 0, kjS false I L)) rfl ?_
            obtain rfl := Option.some.inj h
            exact mv_G_ret rfl rfl rfl (Nat.le_refl _) trivial ⟨rfl, rfl⟩
          rw [if_neg hw12] at h
          by_cases hw13 : (v3).toInt = 1
          · rw [if_pos hw13] at h
            refine mv_G_sw (tgt := 115) (off := 36) rfl (by simp only [mv_sw, hw13]; rfl) (by decide) ?_
            refine mv_G_run 5 (F' := (124, [some (.ref 0), some (.int v1), some (.int v2), some (.int v3), some (.int r6), some (.int r8), some (.int r10)], [.int v2, .int v1, .ref (kb false 24)], 0, 0, kjS false I L)) rfl ?_
            obtain ⟨r14, hc15, h⟩ := mv_bd h
            refine mv_G_call (r := []) (kf68_ok _ _ _ _ _ _ _ _ hc15) rfl rfl rfl rfl rfl (Nat.le_of_ble_eq_true rfl) (Nat.le_of_ble_eq_true rfl) (Nat.le_of_ble_eq_true rfl) ?_
            rintro _ _ ⟨rfl, rfl⟩
            obtain rfl := Option.some.inj h
            exact mv_G_ret rfl rfl rfl (Nat.le_refl _) trivial ⟨rfl, rfl⟩
          rw [if_neg hw13] at h
          by_cases hw16 : (v3).toInt = 2
          · rw [if_pos hw16] at h
            refine mv_G_sw (tgt := 128) (off := 49) rfl (by simp only [mv_sw, hw16]; rfl) (by decide) ?_
            refine mv_G_run 5 (F' := (139, [some (.ref 0), some (.int v1), some (.int v2), some (.int v3), some (.int r6), some (.int r8), some (.int r10)], [.int r8, .int r6, .ref (kb false 24)], 0, 0, kjS false I L)) rfl ?_
            obtain ⟨r17, hc18, h⟩ := mv_bd h
            refine mv_G_call (r := []) (kf69_ok _ _ _ _ _ _ _ _ hc18) rfl rfl rfl rfl rfl (Nat.le_of_ble_eq_true rfl) (Nat.le_of_ble_eq_true rfl) (Nat.le_of_ble_eq_true rfl) ?_
            rintro _ _ ⟨rfl, rfl⟩
            obtain rfl := Option.some.inj h
            exact mv_G_ret rfl rfl rfl (Nat.le_refl _) trivial ⟨rfl, rfl⟩
          rw [if_neg hw16] at h
          by_cases hw19 : (v3).toInt = 3
          · rw [if_pos hw19] at h
            refine mv_G_sw (tgt := 143) (off := 64) rfl (by simp only [mv_sw, hw19]; rfl) (by decide) ?_
            refine mv_G_run 5 (F' := (154, [some (.ref 0), some (.int v1), some (.int v2), some (.int v3), some (.int r6), some (.int r8), some (.int r10)], [.int r8, .int r6, .ref (kb false 24)], 0, 0, kjS false I L)) rfl ?_
            obtain ⟨r20, hc21, h⟩ := mv_bd h
            refine mv_G_call (r := []) (kf70_ok _ _ _ _ _ _ _ _ hc21) rfl rfl rfl rfl rfl (Nat.le_of_ble_eq_true rfl) (Nat.le_of_ble_eq_true rfl) (Nat.le_of_ble_eq_true rfl) ?_
            rintro _ _ ⟨rfl, rfl⟩
            obtain rfl := Option.some.inj h
            exact mv_G_ret rfl rfl rfl (Nat.le_refl _) trivial ⟨rfl, rfl⟩
          rw [if_neg hw19] at h
          by_cases hw22 : (v3).toInt = 4
          · rw [if_pos hw22] at h
            refine mv_G_sw (tgt := 158) (off := 79) rfl (by simp only [mv_sw, hw22]; rfl) (by decide) ?_
            refine mv_G_run 2 (F' := (161, [some (.ref 0), some (.int v1), some (.int v2), some (.int v3), some (.int r6), some (.int r8), some (.int r10)], [.int (-1 : Int32), .int r10], 0, 0, kjS false I L)) rfl ?_
            by_cases hc23 : ¬ r10 = (-1 : Int32)
            · rw [if_pos hc23] at h
              refine mv_G_br (tgt := 168) rfl rfl (by decide) (fun _ => ?_) (fun z => absurd hc23 z)
              refine mv_G_run 1 (F' := (169, [some (.ref 0), some (.int v1), some (.int v2), some (.int v3), some (.int r6), some (.int r8), some (.int r10)], [.int (1 : Int32)], 0, 0, kjS false I L)) rfl ?_
              obtain rfl := Option.some.inj h
              exact mv_G_ret rfl rfl rfl (Nat.le_refl _) trivial ⟨rfl, rfl⟩
            · rw [if_neg hc23] at h
              refine mv_G_br (tgt := 168) rfl rfl (by decide) (fun z => absurd z hc23) (fun _ => ?_)
              refine mv_G_run 2 (F' := (169, [some (.ref 0), some (.int v1), some (.int v2), some (.int v3), some (.int r6), some (.int r8), some (.int r10)], [.int (0 : Int32)], 0, 0, kjS false I L)) rfl ?_
              obtain rfl := Option.some.inj h
              exact mv_G_ret rfl rfl rfl (Nat.le_refl _) trivial ⟨rfl, rfl⟩
          rw [if_neg hw22] at h
          refine mv_G_sw (tgt := 170) (off := 91) rfl (by
          have hz25 : ((v3).toInt < 0 ∨ 4 < (v3).toInt) := by omega
          rcases hz25 with hz25
          · exact if_pos hz25) (by decide) ?_
          refine mv_G_run 2 (F' := (173, [some (.ref 0), some (.int v1), some (.int v2), some (.int v3), some (.int r6), some (.int r8), some (.int r10)], [.int (-1 : Int32), .int r10], 0, 0, kjS false I L)) rfl ?_
          by_cases hc24 : ¬ r10 = (-1 : Int32)
          · rw [if_pos hc24] at h
            refine mv_G_br (tgt := 180) rfl rfl (by decide) (fun _ => ?_) (fun z => absurd hc24 z)
            refine mv_G_run 1 (F' := (182, [some (.ref 0), some (.int v1), some (.int v2), some (.int v3), some (.int r6), some (.int r8), some (.int r10)], [.int r10], 0, 0, kjS false I L)) rfl ?_
            obtain rfl := Option.some.inj h
            exact mv_G_ret rfl rfl rfl (Nat.le_refl _) trivial ⟨rfl, rfl⟩
          · rw [if_neg hc24] at h
            refine mv_G_br (tgt := 180) rfl rfl (by decide) (fun z => absurd z hc24) (fun _ => ?_)
            refine mv_G_run 2 (F' := (182, [some (.ref 0), some (.int v1), some (.int v2), some (.int v3), some (.int r6), some (.int r8), some (.int r10)], [.int (0 : Int32)], 0, 0, kjS false I L)) rfl ?_
            obtain rfl := Option.some.inj h
            exact mv_G_ret rfl rfl rfl (Nat.le_refl _) trivial ⟨rfl, rfl⟩
        · rw [if_neg hc5] at h
          refine mv_G_br (tgt := 34) rfl rfl (by decide) (fun z => absurd z hc5) (fun _ => ?_)
          cases h
  · unfold kf5 at h
    refine mv_C_in kjM_5 (lc := [some (.ref 0), some (.int v1), some (.int v2), some (.int v3), none, none, none]) rfl rfl rfl ?_
    refine mv_G_run 1 (F' := (1, [some (.ref 0), some (.int v1), some (.int v2), some (.int v3), none, none, none], [.int v3], 0, 0, kjS true I L)) rfl ?_
    by_cases hc1 : v3 < 0
    · rw [if_pos hc1] at h
      refine mv_G_br (tgt := 24) rfl rfl (by decide) (fun _ => ?_) (fun z => absurd hc1 z)
      cases h
    · rw [if_neg hc1] at h
      refine mv_G_br (tgt := 24) rfl rfl (by decide) (fun z => absurd z hc1) (fun _ => ?_)
      refine mv_G_run 2 (F' := (6, [some (.ref 0), some (.int v1), some (.int v2), some (.int v3), none, none, none], [.int (5 : Int32), .int v3], 0, 0, kjS true I L)) rfl ?_
      by_cases hc2 : (5 : Int32) < v3
      · rw [if_pos hc2] at h
        refine mv_G_br (tgt := 24) rfl rfl (by decide) (fun _ => ?_) (fun z => absurd hc2 z)
        cases h
      · rw [if_neg hc2] at h
        refine mv_G_br (tgt := 24) rfl rfl (by decide) (fun z => absurd z hc2) (fun _ => ?_)
        refine mv_G_run 5 (F' := (18, [some (.ref 0), some (.int v1), some (.int v2), some (.int v3), none, none, none], [.int v2, .int v1, .ref (kb true 24)], 0, 0, kjS true I L)) rfl ?_
        obtain ⟨r3, hc4, h⟩ := mv_bd h
        refine mv_G_call (r := []) (kf66_ok _ _ _ _ _ _ _ _ hc4) rfl rfl rfl rfl rfl (Nat.le_of_ble_eq_true rfl) (Nat.le_of_ble_eq_true rfl) (Nat.le_of_ble_eq_true rfl) ?_
        rintro _ _ ⟨rfl, rfl⟩
        by_cases hc5 : ¬ r3 = 0
        · rw [if_pos hc5] at h
          refine mv_G_br (tgt := 34) rfl rfl (by decide) (fun _ => ?_) (fun z => absurd hc5 z)
          refine mv_G_run 6 (F' := (44, [some (.ref 0), some (.int v1), some (.int v2), some (.int v3), none, none, none], [.int (0 : Int32), .int v2, .int v1, .ref (kb true 24)], 0, 0, kjS true I L)) rfl ?_
          obtain ⟨r6, hc7, h⟩ := mv_bd h
          refine mv_G_call (r := []) (kf67_ok _ _ _ _ _ _ _ _ _ hc7) rfl rfl rfl rfl rfl (Nat.le_of_ble_eq_true rfl) (Nat.le_of_ble_eq_true rfl) (Nat.le_of_ble_eq_true rfl) ?_
          rintro _ _ ⟨rfl, rfl⟩
          refine mv_G_run 7 (F' := (59, [some (.ref 0), some (.int v1), some (.int v2), some (.int v3), some (.int r6), none, none], [.int (1 : Int32), .int v2, .int v1, .ref (kb true 24)], 0, 0, kjS true I L)) rfl ?_
          obtain ⟨r8, hc9, h⟩ := mv_bd h
          refine mv_G_call (r := []) (kf67_ok _ _ _ _ _ _ _ _ _ hc9) rfl rfl rfl rfl rfl (Nat.le_of_ble_eq_true rfl) (Nat.le_of_ble_eq_true rfl) (Nat.le_of_ble_eq_true rfl) ?_
          rintro _ _ ⟨rfl, rfl⟩
          refine mv_G_run 6 (F' := (73, [some (.ref 0), some (.int v1), some (.int v2), some (.int v3), some (.int r6), some (.int r8), none], [.int v2, .int v1, .ref (kb true 26)], 0, 0, kjS true I L)) rfl ?_
          obtain ⟨r10, hc11, h⟩ := mv_bd h
          refine mv_G_call (r := []) (kf78_ok _ _ _ _ _ _ _ _ hc11) rfl rfl rfl rfl rfl (Nat.le_of_ble_eq_true rfl) (Nat.le_of_ble_eq_true rfl) (Nat.le_of_ble_eq_true rfl) ?_
          rintro _ _ ⟨rfl, rfl⟩
          refine mv_G_run 2 (F' := (79, [some (.ref 0), some (.int v1), some (.int v2), some (.int v3), some (.int r6), some (.int r8), some (.int r10)], [.int v3], 0, 0, kjS true I L)) rfl ?_
          by_cases hw12 : (v3).toInt = 0
          · rw [if_pos hw12] at h
            refine mv_G_sw (tgt := 112) (off := 33) rfl (by simp only [mv_sw, hw12]; rfl) (by decide) ?_
            refine mv_G_run 1 (F' := (114, [some (.ref 0), some (.int v1), some (.int v2), some (.int v3), some (.int r6), some (.int r8), some (.int r10)], [.int r6], 0, 0, kjS true I L)) rfl ?_
            obtain rfl := Option.some.inj h
            exact mv_G_ret rfl rfl rfl (Nat.le_refl _) trivial ⟨rfl, rfl⟩
          rw [if_neg hw12] at h
          by_cases hw13 : (v3).toInt = 1
          · rw [if_pos hw13] at h
            refine mv_G_sw (tgt := 115) (off := 36) rfl (by simp only [mv_sw, hw13]; rfl) (by decide) ?_
            refine mv_G_run 5 (F' := (124, [some (.ref 0), some (.int v1), some (.int v2), some (.int v3), some (.int r6), some (.int r8), some (.int r10)], [.int v2, .int v1, .ref (kb true 24)], 0, 0, kjS true I L)) rfl ?_
            obtain ⟨r14, hc15, h⟩ := mv_bd h
            refine mv_G_call (r := []) (kf68_ok _ _ _ _ _ _ _ _ hc15) rfl rfl rfl rfl rfl (Nat.le_of_ble_eq_true rfl) (Nat.le_of_ble_eq_true rfl) (Nat.le_of_ble_eq_true rfl) ?_
            rintro _ _ ⟨rfl, rfl⟩
            obtain rfl := Option.some.inj h
            exact mv_G_ret rfl rfl rfl (Nat.le_refl _) trivial ⟨rfl, rfl⟩
          rw [if_neg hw13] at h
          by_cases hw16 : (v3).toInt = 2
          · rw [if_pos hw16] at h
            refine mv_G_sw (tgt := 128) (off := 49) rfl (by simp only [mv_sw, hw16]; rfl) (by decide) ?_
            refine mv_G_run 5 (F' := (139, [some (.ref 0), some (.int v1), some (.int v2), some (.int v3), some (.int r6), some (.int r8), some (.int r10)], [.int r8, .int r6, .ref (kb true 24)], 0, 0, kjS true I L)) rfl ?_
            obtain ⟨r17, hc18, h⟩ := mv_bd h
            refine mv_G_call (r := []) (kf69_ok _ _ _ _ _ _ _ _ hc18) rfl rfl rfl rfl rfl (Nat.le_of_ble_eq_true rfl) (Nat.le_of_ble_eq_true rfl) (Nat.le_of_ble_eq_true rfl) ?_
            rintro _ _ ⟨rfl, rfl⟩
            obtain rfl := Option.some.inj h
            exact mv_G_ret rfl rfl rfl (Nat.le_refl _) trivial ⟨rfl, rfl⟩
          rw [if_neg hw16] at h
          by_cases hw19 : (v3).toInt = 3
          · rw [if_pos hw19] at h
            refine mv_G_sw (tgt := 143) (off := 64) rfl (by simp only [mv_sw, hw19]; rfl) (by decide) ?_
            refine mv_G_run 5 (F' := (154, [some (.ref 0), some (.int v1), some (.int v2), some (.int v3), some (.int r6), some (.int r8), some (.int r10)], [.int r8, .int r6, .ref (kb true 24)], 0, 0, kjS true I L)) rfl ?_
            obtain ⟨r20, hc21, h⟩ := mv_bd h
            refine mv_G_call (r := []) (kf70_ok _ _ _ _ _ _ _ _ hc21) rfl rfl rfl rfl rfl (Nat.le_of_ble_eq_true rfl) (Nat.le_of_ble_eq_true rfl) (Nat.le_of_ble_eq_true rfl) ?_
            rintro _ _ ⟨rfl, rfl⟩
            obtain rfl := Option.some.inj h
            exact mv_G_ret rfl rfl rfl (Nat.le_refl _) trivial ⟨rfl, rfl⟩
          rw [if_neg hw19] at h
          by_cases hw22 : (v3).toInt = 4
          · rw [if_pos hw22] at h
            refine mv_G_sw (tgt := 158) (off := 79) rfl (by simp only [mv_sw, hw22]; rfl) (by decide) ?_
            refine mv_G_run 2 (F' := (161, [some (.ref 0), some (.int v1), some (.int v2), some (.int v3), some (.int r6), some (.int r8), some (.int r10)], [.int (-1 : Int32), .int r10], 0, 0, kjS true I L)) rfl ?_
            by_cases hc23 : ¬ r10 = (-1 : Int32)
            · rw [if_pos hc23] at h
              refine mv_G_br (tgt := 168) rfl rfl (by decide) (fun _ => ?_) (fun z => absurd hc23 z)
              refine mv_G_run 1 (F' := (169, [some (.ref 0), some (.int v1), some (.int v2), some (.int v3), some (.int r6), some (.int r8), some (.int r10)], [.int (1 : Int32)], 0, 0, kjS true I L)) rfl ?_
              obtain rfl := Option.some.inj h
              exact mv_G_ret rfl rfl rfl (Nat.le_refl _) trivial ⟨rfl, rfl⟩
            · rw [if_neg hc23] at h
              refine mv_G_br (tgt := 168) rfl rfl (by decide) (fun z => absurd z hc23) (fun _ => ?_)
              refine mv_G_run 2 (F' := (169, [some (.ref 0), some (.int v1), some (.int v2), some (.int v3), some (.int r6), some (.int r8), some (.int r10)], [.int (0 : Int32)], 0, 0, kjS true I L)) rfl ?_
              obtain rfl := Option.some.inj h
              exact mv_G_ret rfl rfl rfl (Nat.le_refl _) trivial ⟨rfl, rfl⟩
          rw [if_neg hw22] at h
          refine mv_G_sw (tgt := 170) (off := 91) rfl (by
          have hz25 : ((v3).toInt < 0 ∨ 4 < (v3).toInt) := by omega
          rcases hz25 with hz25
          · exact if_pos hz25) (by decide) ?_
          refine mv_G_run 2 (F' := (173, [some (.ref 0), some (.int v1), some (.int v2), some (.int v3), some (.int r6), some (.int r8), some (.int r10)], [.int (-1 : Int32), .int r10], 0, 0, kjS true I L)) rfl ?_
          by_cases hc24 : ¬ r10 = (-1 : Int32)
          · rw [if_pos hc24] at h
            refine mv_G_br (tgt := 180) rfl rfl (by decide) (fun _ => ?_) (fun z => absurd hc24 z)
            refine mv_G_run 1 (F' := (182, [some (.ref 0), some (.int v1), some (.int v2), some (.int v3), some (.int r6), some (.int r8), some (.int r10)], [.int r10], 0, 0, kjS true I L)) rfl ?_
            obtain rfl := Option.some.inj h
            exact mv_G_ret rfl rfl rfl (Nat.le_refl _) trivial ⟨rfl, rfl⟩
          · rw [if_neg hc24] at h
            refine mv_G_br (tgt := 180) rfl rfl (by decide) (fun z => absurd z hc24) (fun _ => ?_)
            refine mv_G_run 2 (F' := (182, [some (.ref 0), some (.int v1), some (.int v2), some (.int v3), some (.int r6), some (.int r8), some (.int r10)], [.int (0 : Int32)], 0, 0, kjS true I L)) rfl ?_
            obtain rfl := Option.some.inj h
            exact mv_G_ret rfl rfl rfl (Nat.le_refl _) trivial ⟨rfl, rfl⟩
        · rw [if_neg hc5] at h
          refine mv_G_br (tgt := 34) rfl rfl (by decide) (fun z => absurd z hc5) (fun _ => ?_)
          cases h
/-! KindJudge.mayBeComeTo(II)Z on ('c', 0) -/
def kf15 (f : Bool) (I : kjI) (L : kjL) (v1 : Int32) (v2 : Int32) : Option (Int32) :=
  (kf78 f I L v1 v2).bind fun r1 => if r1 = (-1 : Int32) then (some (0 : Int32)) else (some (1 : Int32))
set_option maxRecDepth 100000 in
set_option maxHeartbeats 4000000 in
theorem kf15_ok (f : Bool) (I : kjI) (L : kjL) (v1 : Int32) (v2 : Int32) (d : Nat) (r : Int32) (h : kf15 f I L v1 v2 = some r) : mv_C kjP kjSta (d + 4) 15 [.ref 0, .int v1, .int v2] (kjS f I L) (kjQi f I L r) := by
  cases f
  · unfold kf15 at h
    refine mv_C_in kjM_15 (lc := [some (.ref 0), some (.int v1), some (.int v2)]) rfl rfl rfl ?_
    refine mv_G_run 5 (F' := (9, [some (.ref 0), some (.int v1), some (.int v2)], [.int v2, .int v1, .ref (kb false 26)], 0, 0, kjS false I L)) rfl ?_
    obtain ⟨r1, hc2, h⟩ := mv_bd h
    refine mv_G_call (r := []) (kf78_ok _ _ _ _ _ _ _ _ hc2) rfl rfl rfl rfl rfl (Nat.le_of_ble_eq_true rfl) (Nat.le_of_ble_eq_true rfl) (Nat.le_of_ble_eq_true rfl) ?_
    rintro _ _ ⟨rfl, rfl⟩
    refine mv_G_run 1 (F' := (13, [some (.ref 0), some (.int v1), some (.int v2)], [.int (-1 : Int32), .int r1], 0, 0, kjS false I L)) rfl ?_
    by_cases hc3 : r1 = (-1 : Int32)
    · rw [if_pos hc3] at h
      refine mv_G_br (tgt := 20) rfl rfl (by decide) (fun _ => ?_) (fun z => absurd hc3 z)
      refine mv_G_run 1 (F' := (21, [some (.ref 0), some (.int v1), some (.int v2)], [.int (0 : Int32)], 0, 0, kjS false I L)) rfl ?_
      obtain rfl := Option.some.inj h
      exact mv_G_ret rfl rfl rfl (Nat.le_refl _) (Or.inl rfl) ⟨rfl, rfl⟩
    · rw [if_neg hc3] at h
      refine mv_G_br (tgt := 20) rfl rfl (by decide) (fun z => absurd z hc3) (fun _ => ?_)
      refine mv_G_run 2 (F' := (21, [some (.ref 0), some (.int v1), some (.int v2)], [.int (1 : Int32)], 0, 0, kjS false I L)) rfl ?_
      obtain rfl := Option.some.inj h
      exact mv_G_ret rfl rfl rfl (Nat.le_refl _) (Or.inr rfl) ⟨rfl, rfl⟩
  · unfold kf15 at h
    refine mv_C_in kjM_15 (lc := [some (.ref 0), some (.int v1), some (.int v2)]) rfl rfl rfl ?_
    refine mv_G_run 5 (F' := (9, [some (.ref 0), some (.int v1), some (.int v2)], [.int v2, .int v1, .ref (kb true 26)], 0, 0, kjS true I L)) rfl ?_
    obtain ⟨r1, hc2, h⟩ := mv_bd h
    refine mv_G_call (r := []) (kf78_ok _ _ _ _ _ _ _ _ hc2) rfl rfl rfl rfl rfl (Nat.le_of_ble_eq_true rfl) (Nat.le_of_ble_eq_true rfl) (Nat.le_of_ble_eq_true rfl) ?_
    rintro _ _ ⟨rfl, rfl⟩
    refine mv_G_run 1 (F' := (13, [some (.ref 0), some (.int v1), some (.int v2)], [.int (-1 : Int32), .int r1], 0, 0, kjS true I L)) rfl ?_
    by_cases hc3 : r1 = (-1 : Int32)
    · rw [if_pos hc3] at h
      refine mv_G_br (tgt := 20) rfl rfl (by decide) (fun _ => ?_) (fun z => absurd hc3 z)
      refine mv_G_run 1 (F' := (21, [some (.ref 0), some (.int v1), some (.int v2)], [.int (0 : Int32)], 0, 0, kjS true I L)) rfl ?_
      obtain rfl := Option.some.inj h
      exact mv_G_ret rfl rfl rfl (Nat.le_refl _) (Or.inl rfl) ⟨rfl, rfl⟩
    · rw [if_neg hc3] at h
      refine mv_G_br (tgt := 20) rfl rfl (by decide) (fun z => absurd z hc3) (fun _ => ?_)
      refine mv_G_run 2 (F' := (21, [some (.ref 0), some (.int v1), some (.int v2)], [.int (1 : Int32)], 0, 0, kjS true I L)) rfl ?_
      obtain rfl := Option.some.inj h
      exact mv_G_ret rfl rfl rfl (Nat.le_refl _) (Or.inr rfl) ⟨rfl, rfl⟩
/-! KindJudge$Code.targetsOf(II)I on ('b', 24) -/
def kf73 (b : Bool) (I : kjI) (L : kjL) (v1 : Int32) (v2 : Int32) : Option (Int32) :=
  (kf67 b I L v1 v2 (0 : Int32)).bind fun r1 => if ¬ r1 = (53 : Int32) then (if r1 < (21 : Int32) then (some (0 : Int32)) else (if (37 : Int32) < r1 then (some (0 : Int32)) else (some (1 : Int32)))) else ((kf67 b I L v1 v2 (1 : Int32)).bind fun r6 => some (r6 + (1 : Int32)))
set_option maxRecDepth 100000 in
set_option maxHeartbeats 4000000 in
theorem kf73_ok (f : Bool) (b : Bool) (I : kjI) (L : kjL) (v1 : Int32) (v2 : Int32) (d : Nat) (r : Int32) (h : kf73 b I L v1 v2 = some r) : mv_C kjP kjSta (d + 4) 73 [.ref (kb b 24), .int v1, .int v2] (kjS f I L) (kjQi f I L r) := by
  cases b
  · unfold kf73 at h
    refine mv_C_in kjM_73 (lc := [some (.ref (kb false 24)), some (.int v1), some (.int v2), none]) rfl rfl rfl ?_
    refine mv_G_run 4 (F' := (4, [some (.ref (kb false 24)), some (.int v1), some (.int v2), none], [.int (0 : Int32), .int v2, .int v1, .ref (kb false 24)], 0, 0, kjS f I L)) rfl ?_
    obtain ⟨r1, hc2, h⟩ := mv_bd h
    refine mv_G_call (r := []) (kf67_ok _ _ _ _ _ _ _ _ _ hc2) rfl rfl rfl rfl rfl (Nat.le_of_ble_eq_true rfl) (Nat.le_of_ble_eq_true rfl) (Nat.le_of_ble_eq_true rfl) ?_
    rintro _ _ ⟨rfl, rfl⟩
    refine mv_G_run 3 (F' := (11, [some (.ref (kb false 24)), some (.int v1), some (.int v2), some (.int r1)], [.int (53 : Int32), .int r1], 0, 0, kjS f I L)) rfl ?_
    by_cases hc3 : ¬ r1 = (53 : Int32)
    · rw [if_pos hc3] at h
      refine mv_G_br (tgt := 24) rfl rfl (by decide) (fun _ => ?_) (fun z => absurd hc3 z)
      refine mv_G_run 2 (F' := (27, [some (.ref (kb false 24)), some (.int v1), some (.int v2), some (.int r1)], [.int (21 : Int32), .int r1], 0, 0, kjS f I L)) rfl ?_
      by_cases hc4 : r1 < (21 : Int32)
      · rw [if_pos hc4] at h
        refine mv_G_br (tgt := 40) rfl rfl (by decide) (fun _ => ?_) (fun z => absurd hc4 z)
        refine mv_G_run 1 (F' := (41, [some (.ref (kb false 24)), some (.int v1), some (.int v2), some (.int r1)], [.int (0 : Int32)], 0, 0, kjS f I L)) rfl ?_
        obtain rfl := Option.some.inj h
        exact mv_G_ret rfl rfl rfl (Nat.le_refl _) trivial ⟨rfl, rfl⟩
      · rw [if_neg hc4] at h
        refine mv_G_br (tgt := 40) rfl rfl (by decide) (fun z => absurd z hc4) (fun _ => ?_)
        refine mv_G_run 2 (F' := (33, [some (.ref (kb false 24)), some (.int v1), some (.int v2), some (.int r1)], [.int (37 : Int32), .int r1], 0, 0, kjS f I L)) rfl ?_
        by_cases hc5 : (37 : Int32) < r1
        · rw [if_pos hc5] at h
          refine mv_G_br (tgt := 40) rfl rfl (by decide) (fun _ => ?_) (fun z => absurd hc5 z)
          refine mv_G_run 1 (F' := (41, [some (.ref (kb false 24)), some (.int v1), some (.int v2), some (.int r1)], [.int (0 : Int32)], 0, 0, kjS f I L)) rfl ?_
          obtain rfl := Option.some.inj h
          exact mv_G_ret rfl rfl rfl (Nat.le_refl _) trivial ⟨rfl, rfl⟩
        · rw [if_neg hc5] at h
          refine mv_G_br (tgt := 40) rfl rfl (by decide) (fun z => absurd z hc5) (fun _ => ?_)
          refine mv_G_run 2 (F' := (41, [some (.ref (kb false 24)), some (.int v1), some (.int v2), some (.int r1)], [.int (1 : Int32)], 0, 0, kjS f I L)) rfl ?_
          obtain rfl := Option.some.inj h
          exact mv_G_ret rfl rfl rfl (Nat.le_refl _) trivial ⟨rfl, rfl⟩
    · rw [if_neg hc3] at h
      refine mv_G_br (tgt := 24) rfl rfl (by decide) (fun z => absurd z hc3) (fun _ => ?_)
      refine mv_G_run 4 (F' := (18, [some (.ref (kb false 24)), some (.int v1), some (.int v2), some (.int r1)], [.int (1 : Int32), .int v2, .int v1, .ref (kb false 24)], 0, 0, kjS f I L)) rfl ?_
      obtain ⟨r6, hc7, h⟩ := mv_bd h
      refine mv_G_call (r := []) (kf67_ok _ _ _ _ _ _ _ _ _ hc7) rfl rfl rfl rfl rfl (Nat.le_of_ble_eq_true rfl) (Nat.le_of_ble_eq_true rfl) (Nat.le_of_ble_eq_true rfl) ?_
      rintro _ _ ⟨rfl, rfl⟩
      refine mv_G_run 2 (F' := (23, [some (.ref (kb false 24)), some (.int v1), some (.int v2), some (.int r1)], [.int (r6 + (1 : Int32))], 0, 0, kjS f I L)) rfl ?_
      obtain rfl := Option.some.inj h
      exact mv_G_ret rfl rfl rfl (Nat.le_refl _) trivial ⟨rfl, rfl⟩
  · unfold kf73 at h
    refine mv_C_in kjM_73 (lc := [some (.ref (kb true 24)), some (.int v1), some (.int v2), none]) rfl rfl rfl ?_
    refine mv_G_run 4 (F' := (4, [some (.ref (kb true 24)), some (.int v1), some (.int v2), none], [.int (0 : Int32), .int v2, .int v1, .ref (kb true 24)], 0, 0, kjS f I L)) rfl ?_
    obtain ⟨r1, hc2, h⟩ := mv_bd h
    refine mv_G_call (r := []) (kf67_ok _ _ _ _ _ _ _ _ _ hc2) rfl rfl rfl rfl rfl (Nat.le_of_ble_eq_true rfl) (Nat.le_of_ble_eq_true rfl) (Nat.le_of_ble_eq_true rfl) ?_
    rintro _ _ ⟨rfl, rfl⟩
    refine mv_G_run 3 (F' := (11, [some (.ref (kb true 24)), some (.int v1), some (.int v2), some (.int r1)], [.int (53 : Int32), .int r1], 0, 0, kjS f I L)) rfl ?_
    by_cases hc3 : ¬ r1 = (53 : Int32)
    · rw [if_pos hc3] at h
      refine mv_G_br (tgt := 24) rfl rfl (by decide) (fun _ => ?_) (fun z => absurd hc3 z)
      refine mv_G_run 2 (F' := (27, [some (.ref (kb true 24)), some (.int v1), some (.int v2), some (.int r1)], [.int (21 : Int32), .int r1], 0, 0, kjS f I L)) rfl ?_
      by_cases hc4 : r1 < (21 : Int32)
      · rw [if_pos hc4] at h
        refine mv_G_br (tgt := 40) rfl rfl (by decide) (fun _ => ?_) (fun z => absurd hc4 z)
        refine mv_G_run 1 (F' := (41, [some (.ref (kb true 24)), some (.int v1), some (.int v2), some (.int r1)], [.int (0 : Int32)], 0, 0, kjS f I L)) rfl ?_
        obtain rfl := Option.some.inj h
        exact mv_G_ret rfl rfl rfl (Nat.le_refl _) trivial ⟨rfl, rfl⟩
      · rw [if_neg hc4] at h
        refine mv_G_br (tgt := 40) rfl rfl (by decide) (fun z => absurd z hc4) (fun _ => ?_)
        refine mv_G_run 2 (F' := (33, [some (.ref (kb true 24)), some (.int v1), some (.int v2), some (.int r1)], [.int (37 : Int32), .int r1], 0, 0, kjS f I L)) rfl ?_
        by_cases hc5 : (37 : Int32) < r1
        · rw [if_pos hc5] at h
          refine mv_G_br (tgt := 40) rfl rfl (by decide) (fun _ => ?_) (fun z => absurd hc5 z)
          refine mv_G_run 1 (F' := (41, [some (.ref (kb true 24)), some (.int v1), some (.int v2), some (.int r1)], [.int (0 : Int32)], 0, 0, kjS f I L)) rfl ?_
          obtain rfl := Option.some.inj h
          exact mv_G_ret rfl rfl rfl (Nat.le_refl _) trivial ⟨rfl, rfl⟩
        · rw [if_neg hc5] at h
          refine mv_G_br (tgt := 40) rfl rfl (by decide) (fun z => absurd z hc5) (fun _ => ?_)
          refine mv_G_run 2 (F' := (41, [some (.ref (kb true 24)), some (.int v1), some (.int v2), some (.int r1)], [.int (1 : Int32)], 0, 0, kjS f I L)) rfl ?_
          obtain rfl := Option.some.inj h
          exact mv_G_ret rfl rfl rfl (Nat.le_refl _) trivial ⟨rfl, rfl⟩
    · rw [if_neg hc3] at h
      refine mv_G_br (tgt := 24) rfl rfl (by decide) (fun z => absurd z hc3) (fun _ => ?_)
      refine mv_G_run 4 (F' := (18, [some (.ref (kb true 24)), some (.int v1), some (.int v2), some (.int r1)], [.int (1 : Int32), .int v2, .int v1, .ref (kb true 24)], 0, 0, kjS f I L)) rfl ?_
      obtain ⟨r6, hc7, h⟩ := mv_bd h
      refine mv_G_call (r := []) (kf67_ok _ _ _ _ _ _ _ _ _ hc7) rfl rfl rfl rfl rfl (Nat.le_of_ble_eq_true rfl) (Nat.le_of_ble_eq_true rfl) (Nat.le_of_ble_eq_true rfl) ?_
      rintro _ _ ⟨rfl, rfl⟩
      refine mv_G_run 2 (F' := (23, [some (.ref (kb true 24)), some (.int v1), some (.int v2), some (.int r1)], [.int (r6 + (1 : Int32))], 0, 0, kjS f I L)) rfl ?_
      obtain rfl := Option.some.inj h
      exact mv_G_ret rfl rfl rfl (Nat.le_refl _) trivial ⟨rfl, rfl⟩
/-! KindJudge$Code.target(III)I on ('b', 24) -/
def kf74_24 (b : Bool) (I : kjI) (L : kjL) (s1 : Int32) (s2 : Int32) (s3 : Int32) : Option (Int32) :=
  (kf67 b I L s1 s2 s3).bind fun r1 => some r1
set_option maxRecDepth 100000 in
set_option maxHeartbeats 4000000 in
theorem kf74_24_ok (f : Bool) (b : Bool) (I : kjI) (L : kjL) (d : Nat)  (s1 : Int32) (s2 : Int32) (s3 : Int32) (r : Int32) (h : kf74_24 b I L s1 s2 s3 = some r) : mv_G kjP kjSta (mv_C kjP kjSta (d + 3)) kjM_74 (kjQi f I L r) (24, [none, none, none, none], [.int s3, .int s2, .int s1, .ref (kb b 24)], 0, 0, kjS f I L) := by
  cases b
  · unfold kf74_24 at h
    obtain ⟨r1, hc2, h⟩ := mv_bd h
    refine mv_G_call (r := []) (kf67_ok _ _ _ _ _ _ _ _ _ hc2) rfl rfl rfl rfl rfl (Nat.le_of_ble_eq_true rfl) (Nat.le_of_ble_eq_true rfl) (Nat.le_of_ble_eq_true rfl) ?_
    rintro _ _ ⟨rfl, rfl⟩
    obtain rfl := Option.some.inj h
    exact mv_G_ret rfl rfl rfl (Nat.le_refl _) trivial ⟨rfl, rfl⟩
  · unfold kf74_24 at h
    obtain ⟨r1, hc2, h⟩ := mv_bd h
    refine mv_G_call (r := []) (kf67_ok _ _ _ _ _ _ _ _ _ hc2) rfl rfl rfl rfl rfl (Nat.le_of_ble_eq_true rfl) (Nat.le_of_ble_eq_true rfl) (Nat.le_of_ble_eq_true rfl) ?_
    rintro _ _ ⟨rfl, rfl⟩
    obtain rfl := Option.some.inj h
    exact mv_G_ret rfl rfl rfl (Nat.le_refl _) trivial ⟨rfl, rfl⟩
def kf74 (b : Bool) (I : kjI) (L : kjL) (v1 : Int32) (v2 : Int32) (v3 : Int32) : Option (Int32) :=
  (kf67 b I L v1 v2 (0 : Int32)).bind fun r1 => if ¬ r1 = (53 : Int32) then (kf74_24 b I L v1 v2 (v3 + (1 : Int32))) else (kf74_24 b I L v1 v2 (v3 + (2 : Int32)))
set_option maxRecDepth 100000 in
set_option maxHeartbeats 4000000 in
theorem kf74_ok (f : Bool) (b : Bool) (I : kjI) (L : kjL) (v1 : Int32) (v2 : Int32) (v3 : Int32) (d : Nat) (r : Int32) (h : kf74 b I L v1 v2 v3 = some r) : mv_C kjP kjSta (d + 4) 74 [.ref (kb b 24), .int v1, .int v2, .int v3] (kjS f I L) (kjQi f I L r) := by
  cases b
  · unfold kf74 at h
    refine mv_C_in kjM_74 (lc := [some (.ref (kb false 24)), some (.int v1), some (.int v2), some (.int v3)]) rfl rfl rfl ?_
    refine mv_G_run 7 (F' := (7, [some (.ref (kb false 24)), some (.int v1), some (.int v2), some (.int v3)], [.int (0 : Int32), .int v2, .int v1, .ref (kb false 24), .int v2, .int v1, .ref (kb false 24)], 0, 0, kjS f I L)) rfl ?_
    obtain ⟨r1, hc2, h⟩ := mv_bd h
    refine mv_G_call (r := [.int v2, .int v1, .ref (kb false 24)]) (kf67_ok _ _ _ _ _ _ _ _ _ hc2) rfl rfl rfl rfl rfl (Nat.le_of_ble_eq_true rfl) (Nat.le_of_ble_eq_true rfl) (Nat.le_of_ble_eq_true rfl) ?_
    rintro _ _ ⟨rfl, rfl⟩
    refine mv_G_run 1 (F' := (12, [some (.ref (kb false 24)), some (.int v1), some (.int v2), some (.int v3)], [.int (53 : Int32), .int r1, .int v2, .int v1, .ref (kb false 24)], 0, 0, kjS f I L)) rfl ?_
    by_cases hc3 : ¬ r1 = (53 : Int32)
    · rw [if_pos hc3] at h
      refine mv_G_br (tgt := 21) rfl rfl (by decide) (fun _ => ?_) (fun z => absurd hc3 z)
      refine mv_G_run 3 (F' := (24, [some (.ref (kb false 24)), some (.int v1), some (.int v2), some (.int v3)], [.int (v3 + (1 : Int32)), .int v2, .int v1, .ref (kb false 24)], 0, 0, kjS f I L)) rfl ?_
      refine mv_G_fg (lc' := [none, none, none, none]) (trivial) ?_
      exact kf74_24_ok _ _ _ _ d _ _ _ _ h
    · rw [if_neg hc3] at h
      refine mv_G_br (tgt := 21) rfl rfl (by decide) (fun z => absurd z hc3) (fun _ => ?_)
      refine mv_G_run 4 (F' := (24, [some (.ref (kb false 24)), some (.int v1), some (.int v2), some (.int v3)], [.int (v3 + (2 : Int32)), .int v2, .int v1, .ref (kb false 24)], 0, 0, kjS f I L)) rfl ?_
      refine mv_G_fg (lc' := [none, none, none, none]) (trivial) ?_
      exact kf74_24_ok _ _ _ _ d _ _ _ _ h
  · unfold kf74 at h
    refine mv_C_in kjM_74 (lc := [some (.ref (kb true 24)), some (.int v1), some (.int v2), some (.int v3)]) rfl rfl rfl ?_
    refine mv_G_run 7 (F' := (7, [some (.ref (kb true 24)), some (.int v1), some (.int v2), some (.int v3)], [.int (0 : Int32), .int v2, .int v1, .ref (kb true 24), .int v2, .int v1, .ref (kb true 24)], 0, 0, kjS f I L)) rfl ?_
    obtain ⟨r1, hc2, h⟩ := mv_bd h
    refine mv_G_call (r := [.int v2, .int v1, .ref (kb true 24)]) (kf67_ok _ _ _ _ _ _ _ _ _ hc2) rfl rfl rfl rfl rfl (Nat.le_of_ble_eq_true rfl) (Nat.le_of_ble_eq_true rfl) (Nat.le_of_ble_eq_true rfl) ?_
    rintro _ _ ⟨rfl, rfl⟩
    refine mv_G_run 1 (F' := (12, [some (.ref (kb true 24)), some (.int v1), some (.int v2), some (.int v3)], [.int (53 : Int32), .int r1, .int v2, .int v1, .ref (kb true 24)], 0, 0, kjS f I L)) rfl ?_
    by_cases hc3 : ¬ r1 = (53 : Int32)
    · rw [if_pos hc3] at h
      refine mv_G_br (tgt := 21) rfl rfl (by decide) (fun _ => ?_) (fun z => absurd hc3 z)
      refine mv_G_run 3 (F' := (24, [some (.ref (kb true 24)), some (.int v1), some (.int v2), some (.int v3)], [.int (v3 + (1 : Int32)), .int v2, .int v1, .ref (kb true 24)], 0, 0, kjS f I L)) rfl ?_
      refine mv_G_fg (lc' := [none, none, none, none]) (trivial) ?_
      exact kf74_24_ok _ _ _ _ d _ _ _ _ h
    · rw [if_neg hc3] at h
      refine mv_G_br (tgt := 21) rfl rfl (by decide) (fun z => absurd z hc3) (fun _ => ?_)
      refine mv_G_run 4 (F' := (24, [some (.ref (kb true 24)), some (.int v1), some (.int v2), some (.int v3)], [.int (v3 + (2 : Int32)), .int v2, .int v1, .ref (kb true 24)], 0, 0, kjS f I L)) rfl ?_
      refine mv_G_fg (lc' := [none, none, none, none]) (trivial) ?_
      exact kf74_24_ok _ _ _ _ d _ _ _ _ h
/-! KindJudge$Code.goesOnBehind(II)Z on ('b', 24) -/
def kf75 (b : Bool) (I : kjI) (L : kjL) (v1 : Int32) (v2 : Int32) : Option (Int32) :=
  (kf67 b I L v1 v2 (0 : Int32)).bind fun r1 => if r1 = (21 : Int32) then (some (0 : Int32)) else (if r1 = (49 : Int32) then (some (0 : Int32)) else (if r1 = (50 : Int32) then (some (0 : Int32)) else (if r1 = (53 : Int32) then (some (0 : Int32)) else (some (1 : Int32)))))
set_option maxRecDepth 100000 in
set_option maxHeartbeats 4000000 in
theorem kf75_ok (f : Bool) (b : Bool) (I : kjI) (L : kjL) (v1 : Int32) (v2 : Int32) (d : Nat) (r : Int32) (h : kf75 b I L v1 v2 = some r) : mv_C kjP kjSta (d + 4) 75 [.ref (kb b 24), .int v1, .int v2] (kjS f I L) (kjQi f I L r) := by
  cases b
  · unfold kf75 at h
    refine mv_C_in kjM_75 (lc := [some (.ref (kb false 24)), some (.int v1), some (.int v2), none]) rfl rfl rfl ?_
    refine mv_G_run 4 (F' := (4, [some (.ref (kb false 24)), some (.int v1), some (.int v2), none], [.int (0 : Int32), .int v2, .int v1, .ref (kb false 24)], 0, 0, kjS f I L)) rfl ?_
    obtain ⟨r1, hc2, h⟩ := mv_bd h
    refine mv_G_call (r := []) (kf67_ok _ _ _ _ _ _ _ _ _ hc2) rfl rfl rfl rfl rfl (Nat.le_of_ble_eq_true rfl) (Nat.le_of_ble_eq_true rfl) (Nat.le_of_ble_eq_true rfl) ?_
    rintro _ _ ⟨rfl, rfl⟩
    refine mv_G_run 3 (F' := (11, [some (.ref (kb false 24)), some (.int v1), some (.int v2), some (.int r1)], [.int (21 : Int32), .int r1], 0, 0, kjS f I L)) rfl ?_
    by_cases hc3 : r1 = (21 : Int32)
    · rw [if_pos hc3] at h
      refine mv_G_br (tgt := 36) rfl rfl (by decide) (fun _ => ?_) (fun z => absurd hc3 z)
      refine mv_G_run 1 (F' := (37, [some (.ref (kb false 24)), some (.int v1), some (.int v2), some (.int r1)], [.int (0 : Int32)], 0, 0, kjS f I L)) rfl ?_
      obtain rfl := Option.some.inj h
      exact mv_G_ret rfl rfl rfl (Nat.le_refl _) (Or.inl rfl) ⟨rfl, rfl⟩
    · rw [if_neg hc3] at h
      refine mv_G_br (tgt := 36) rfl rfl (by decide) (fun z => absurd z hc3) (fun _ => ?_)
      refine mv_G_run 2 (F' := (17, [some (.ref (kb false 24)), some (.int v1), some (.int v2), some (.int r1)], [.int (49 : Int32), .int r1], 0, 0, kjS f I L)) rfl ?_
      by_cases hc4 : r1 = (49 : Int32)
      · rw [if_pos hc4] at h
        refine mv_G_br (tgt := 36) rfl rfl (by decide) (fun _ => ?_) (fun z => absurd hc4 z)
        refine mv_G_run 1 (F' := (37, [some (.ref (kb false 24)), some (.int v1), some (.int v2), some (.int r1)], [.int (0 : Int32)], 0, 0, kjS f I L)) rfl ?_
        obtain rfl := Option.some.inj h
        exact mv_G_ret rfl rfl rfl (Nat.le_refl _) (Or.inl rfl) ⟨rfl, rfl⟩
      · rw [if_neg hc4] at h
        refine mv_G_br (tgt := 36) rfl rfl (by decide) (fun z => absurd z hc4) (fun _ => ?_)
        refine mv_G_run 2 (F' := (23, [some (.ref (kb false 24)), some (.int v1), some (.int v2), some (.int r1)], [.int (50 : Int32), .int r1], 0, 0, kjS f I L)) rfl ?_
        by_cases hc5 : r1 = (50 : Int32)
        · rw [if_pos hc5] at h
          refine mv_G_br (tgt := 36) rfl rfl (by decide) (fun _ => ?_) (fun z => absurd hc5 z)
          refine mv_G_run 1 (F' := (37, [some (.ref (kb false 24)), some (.int v1), some (.int v2), some (.int r1)], [.int (0 : Int32)], 0, 0, kjS f I L)) rfl ?_
          obtain rfl := Option.some.inj h
          exact mv_G_ret rfl rfl rfl (Nat.le_refl _) (Or.inl rfl) ⟨rfl, rfl⟩
        · rw [if_neg hc5] at h
          refine mv_G_br (tgt := 36) rfl rfl (by decide) (fun z => absurd z hc5) (fun _ => ?_)
          refine mv_G_run 2 (F' := (29, [some (.ref (kb false 24)), some (.int v1), some (.int v2), some (.int r1)], [.int (53 : Int32), .int r1], 0, 0, kjS f I L)) rfl ?_
          by_cases hc6 : r1 = (53 : Int32)
          · rw [if_pos hc6] at h
            refine mv_G_br (tgt := 36) rfl rfl (by decide) (fun _ => ?_) (fun z => absurd hc6 z)
            refine mv_G_run 1 (F' := (37, [some (.ref (kb false 24)), some (.int v1), some (.int v2), some (.int r1)], [.int (0 : Int32)], 0, 0, kjS f I L)) rfl ?_
            obtain rfl := Option.some.inj h
            exact mv_G_ret rfl rfl rfl (Nat.le_refl _) (Or.inl rfl) ⟨rfl, rfl⟩
          · rw [if_neg hc6] at h
            refine mv_G_br (tgt := 36) rfl rfl (by decide) (fun z => absurd z hc6) (fun _ => ?_)
            refine mv_G_run 2 (F' := (37, [some (.ref (kb false 24)), some (.int v1), some (.int v2), some (.int r1)], [.int (1 : Int32)], 0, 0, kjS f I L)) rfl ?_
            obtain rfl := Option.some.inj h
            exact mv_G_ret rfl rfl rfl (Nat.le_refl _) (Or.inr rfl) ⟨rfl, rfl⟩
  · unfold kf75 at h
    refine mv_C_in kjM_75 (lc := [some (.ref (kb true 24)), some (.int v1), some (.int v2), none]) rfl rfl rfl ?_
    refine mv_G_run 4 (F' := (4, [some (.ref (kb true 24)), some (.int v1), some (.int v2), none], [.int (0 : Int32), .int v2, .int v1, .ref (kb true 24)], 0, 0, kjS f I L)) rfl ?_
    obtain ⟨r1, hc2, h⟩ := mv_bd h
    refine mv_G_call (r := []) (kf67_ok _ _ _ _ _ _ _ _ _ hc2) rfl rfl rfl rfl rfl (Nat.le_of_ble_eq_true rfl) (Nat.le_of_ble_eq_true rfl) (Nat.le_of_ble_eq_true rfl) ?_
    rintro _ _ ⟨rfl, rfl⟩
    refine mv_G_run 3 (F' := (11, [some (.ref (kb true 24)), some (.int v1), some (.int v2), some (.int r1)], [.int (21 : Int32), .int r1], 0, 0, kjS f I L)) rfl ?_
    by_cases hc3 : r1 = (21 : Int32)
    · rw [if_pos hc3] at h
      refine mv_G_br (tgt := 36) rfl rfl (by decide) (fun _ => ?_) (fun z => absurd hc3 z)
      refine mv_G_run 1 (F' := (37, [some (.ref (kb true 24)), some (.int v1), some (.int v2), some (.int r1)], [.int (0 : Int32)], 0, 0, kjS f I L)) rfl ?_
      obtain rfl := Option.some.inj h
      exact mv_G_ret rfl rfl rfl (Nat.le_refl _) (Or.inl rfl) ⟨rfl, rfl⟩
    · rw [if_neg hc3] at h
      refine mv_G_br (tgt := 36) rfl rfl (by decide) (fun z => absurd z hc3) (fun _ => ?_)
      refine mv_G_run 2 (F' := (17, [some (.ref (kb true 24)), some (.int v1), some (.int v2), some (.int r1)], [.int (49 : Int32), .int r1], 0, 0, kjS f I L)) rfl ?_
      by_cases hc4 : r1 = (49 : Int32)
      · rw [if_pos hc4] at h
        refine mv_G_br (tgt := 36) rfl rfl (by decide) (fun _ => ?_) (fun z => absurd hc4 z)
        refine mv_G_run 1 (F' := (37, [some (.ref (kb true 24)), some (.int v1), some (.int v2), some (.int r1)], [.int (0 : Int32)], 0, 0, kjS f I L)) rfl ?_
        obtain rfl := Option.some.inj h
        exact mv_G_ret rfl rfl rfl (Nat.le_refl _) (Or.inl rfl) ⟨rfl, rfl⟩
      · rw [if_neg hc4] at h
        refine mv_G_br (tgt := 36) rfl rfl (by decide) (fun z => absurd z hc4) (fun _ => ?_)
        refine mv_G_run 2 (F' := (23, [some (.ref (kb true 24)), some (.int v1), some (.int v2), some (.int r1)], [.int (50 : Int32), .int r1], 0, 0, kjS f I L)) rfl ?_
        by_cases hc5 : r1 = (50 : Int32)
        · rw [if_pos hc5] at h
          refine mv_G_br (tgt := 36) rfl rfl (by decide) (fun _ => ?_) (fun z => absurd hc5 z)
          refine mv_G_run 1 (F' := (37, [some (.ref (kb true 24)), some (.int v1), some (.int v2), some (.int r1)], [.int (0 : Int32)], 0, 0, kjS f I L)) rfl ?_
          obtain rfl := Option.some.inj h
          exact mv_G_ret rfl rfl rfl (Nat.le_refl _) (Or.inl rfl) ⟨rfl, rfl⟩
        · rw [if_neg hc5] at h
          refine mv_G_br (tgt := 36) rfl rfl (by decide) (fun z => absurd z hc5) (fun _ => ?_)
          refine mv_G_run 2 (F' := (29, [some (.ref (kb true 24)), some (.int v1), some (.int v2), some (.int r1)], [.int (53 : Int32), .int r1], 0, 0, kjS f I L)) rfl ?_
          by_cases hc6 : r1 = (53 : Int32)
          · rw [if_pos hc6] at h
            refine mv_G_br (tgt := 36) rfl rfl (by decide) (fun _ => ?_) (fun z => absurd hc6 z)
            refine mv_G_run 1 (F' := (37, [some (.ref (kb true 24)), some (.int v1), some (.int v2), some (.int r1)], [.int (0 : Int32)], 0, 0, kjS f I L)) rfl ?_
            obtain rfl := Option.some.inj h
            exact mv_G_ret rfl rfl rfl (Nat.le_refl _) (Or.inl rfl) ⟨rfl, rfl⟩
          · rw [if_neg hc6] at h
            refine mv_G_br (tgt := 36) rfl rfl (by decide) (fun z => absurd z hc6) (fun _ => ?_)
            refine mv_G_run 2 (F' := (37, [some (.ref (kb true 24)), some (.int v1), some (.int v2), some (.int r1)], [.int (1 : Int32)], 0, 0, kjS f I L)) rfl ?_
            obtain rfl := Option.some.inj h
            exact mv_G_ret rfl rfl rfl (Nat.le_refl _) (Or.inr rfl) ⟨rfl, rfl⟩
/-! KindJudge$Code.leadsTo(III)Z on ('b', 24) -/
def kf76_11 (b : Bool) (N : Nat) (I : kjI) (L : kjL) : Nat → Int32 → Int32 → Int32 → Int32 → Int32 → Option (Int32)
  | 0, _, _, _, _, _ => none
  | n + 1, v1, v2, v3, v4, v5 => if v4 ≤ v5 then ((kf75 b I L v1 v2).bind fun r2 => if r2 = 0 then (some (0 : Int32)) else ((kf68 b I L v1 v2).bind fun r5 => if ¬ (v2 + r5) = v3 then (some (0 : Int32)) else (some (1 : Int32)))) else ((kf74 b I L v1 v2 v5).bind fun r8 => if ¬ r8 = v3 then ((fun v1 v2 v3 v4 v5 => kf76_11 b N I L n v1 v2 v3 v4 v5) v1 v2 v3 v4 (v5 + (1 : Int32))) else (some (1 : Int32)))
set_option maxRecDepth 100000 in
set_option maxHeartbeats 4000000 in
theorem kf76_11_ok (f : Bool) (b : Bool) (N : Nat) (I : kjI) (L : kjL) (d : Nat)  : ∀ (n : Nat) (v1 : Int32) (v2 : Int32) (v3 : Int32) (v4 : Int32) (v5 : Int32) (r : Int32), kf76_11 b N I L n v1 v2 v3 v4 v5 = some r → mv_G kjP kjSta (mv_C kjP kjSta (d + 4)) kjM_76 (kjQi f I L r) (11, [some (.ref (kb b 24)), some (.int v1), some (.int v2), some (.int v3), some (.int v4), some (.int v5)], [], 0, 0, kjS f I L) := by
  cases b
  · intro n
    induction n with
    | zero => intro v1 v2 v3 v4 v5 r h; cases h
    | succ n ih =>
      have hk11 := ih
      intro v1 v2 v3 v4 v5 r h
      unfold kf76_11 at h
      refine mv_G_run 2 (F' := (15, [some (.ref (kb false 24)), some (.int v1), some (.int v2), some (.int v3), some (.int v4), some (.int v5)], [.int v4, .int v5], 0, 0, kjS f I L)) rfl ?_
      by_cases hc1 : v4 ≤ v5
      · rw [if_pos hc1] at h
        refine mv_G_br (tgt := 38) rfl rfl (by decide) (fun _ => ?_) (fun z => absurd hc1 z)
        refine mv_G_run 3 (F' := (41, [some (.ref (kb false 24)), some (.int v1), some (.int v2), some (.int v3), some (.int v4), some (.int v5)], [.int v2, .int v1, .ref (kb false 24)], 0, 0, kjS f I L)) rfl ?_
        obtain ⟨r2, hc3, h⟩ := mv_bd h
        refine mv_G_call (r := []) (kf75_ok _ _ _ _ _ _ _ _ hc3) rfl rfl rfl rfl rfl (Nat.le_of_ble_eq_true rfl) (Nat.le_of_ble_eq_true rfl) (Nat.le_of_ble_eq_true rfl) ?_
        rintro _ _ ⟨rfl, rfl⟩
        by_cases hc4 : r2 = 0
        · rw [if_pos hc4] at h
          refine mv_G_br (tgt := 63) rfl rfl (by decide) (fun _ => ?_) (fun z => absurd hc4 z)
          refine mv_G_run 1 (F' := (64, [some (.ref (kb false 24)), some (.int v1), some (.int v2), some (.int v3), some (.int v4), some (.int v5)], [.int (0 : Int32)], 0, 0, kjS f I L)) rfl ?_
          obtain rfl := Option.some.inj h
          exact mv_G_ret rfl rfl rfl (Nat.le_refl _) (Or.inl rfl) ⟨rfl, rfl⟩
        · rw [if_neg hc4] at h
          refine mv_G_br (tgt := 63) rfl rfl (by decide) (fun z => absurd z hc4) (fun _ => ?_)
          refine mv_G_run 4 (F' := (51, [some (.ref (kb false 24)), some (.int v1), some (.int v2), some (.int v3), some (.int v4), some (.int v5)], [.int v2, .int v1, .ref (kb false 24), .int v2], 0, 0, kjS f I L)) rfl ?_
          obtain ⟨r5, hc6, h⟩ := mv_bd h
          refine mv_G_call (r := [.int v2]) (kf68_ok _ _ _ _ _ _ _ _ hc6) rfl rfl rfl rfl rfl (Nat.le_of_ble_eq_true rfl) (Nat.le_of_ble_eq_true rfl) (Nat.le_of_ble_eq_true rfl) ?_
          rintro _ _ ⟨rfl, rfl⟩
          refine mv_G_run 2 (F' := (56, [some (.ref (kb false 24)), some (.int v1), some (.int v2), some (.int v3), some (.int v4), some (.int v5)], [.int v3, .int (v2 + r5)], 0, 0, kjS f I L)) rfl ?_
          by_cases hc7 : ¬ (v2 + r5) = v3
          · rw [if_pos hc7] at h
            refine mv_G_br (tgt := 63) rfl rfl (by decide) (fun _ => ?_) (fun z => absurd hc7 z)
            refine mv_G_run 1 (F' := (64, [some (.ref (kb false 24)), some (.int v1), some (.int v2), some (.int v3), some (.int v4), some (.int v5)], [.int (0 : Int32)], 0, 0, kjS f I L)) rfl ?_
            obtain rfl := Option.some.inj h
            exact mv_G_ret rfl rfl rfl (Nat.le_refl _) (Or.inl rfl) ⟨rfl, rfl⟩
          · rw [if_neg hc7] at h
            refine mv_G_br (tgt := 63) rfl rfl (by decide) (fun z => absurd z hc7) (fun _ => ?_)
            refine mv_G_run 2 (F' := (64, [some (.ref (kb false 24)), some (.int v1), some (.int v2), some (.int v3), some (.int v4), some (.int v5)], [.int (1 : Int32)], 0, 0, kjS f I L)) rfl ?_
            obtain rfl := Option.some.inj h
            exact mv_G_ret rfl rfl rfl (Nat.le_refl _) (Or.inr rfl) ⟨rfl, rfl⟩
      · rw [if_neg hc1] at h
        refine mv_G_br (tgt := 38) rfl rfl (by decide) (fun z => absurd z hc1) (fun _ => ?_)
        refine mv_G_run 4 (F' := (23, [some (.ref (kb false 24)), some (.int v1), some (.int v2), some (.int v3), some (.int v4), some (.int v5)], [.int v5, .int v2, .int v1, .ref (kb false 24)], 0, 0, kjS f I L)) rfl ?_
        obtain ⟨r8, hc9, h⟩ := mv_bd h
        refine mv_G_call (r := []) (kf74_ok _ _ _ _ _ _ _ _ _ hc9) rfl rfl rfl rfl rfl (Nat.le_of_ble_eq_true rfl) (Nat.le_of_ble_eq_true rfl) (Nat.le_of_ble_eq_true rfl) ?_
        rintro _ _ ⟨rfl, rfl⟩
        refine mv_G_run 1 (F' := (27, [some (.ref (kb false 24)), some (.int v1), some (.int v2), some (.int v3), some (.int v4), some (.int v5)], [.int v3, .int r8], 0, 0, kjS f I L)) rfl ?_
        by_cases hc10 : ¬ r8 = v3
        · rw [if_pos hc10] at h
          refine mv_G_br (tgt := 32) rfl rfl (by decide) (fun _ => ?_) (fun z => absurd hc10 z)
          refine mv_G_run 2 (F' := (11, [some (.ref (kb false 24)), some (.int v1), some (.int v2), some (.int v3), some (.int v4), some (.int (v5 + (1 : Int32)))], [], 0, 0, kjS f I L)) rfl ?_
          exact hk11 v1 v2 v3 v4 (v5 + (1 : Int32)) _ h
        · rw [if_neg hc10] at h
          refine mv_G_br (tgt := 32) rfl rfl (by decide) (fun z => absurd z hc10) (fun _ => ?_)
          refine mv_G_run 1 (F' := (31, [some (.ref (kb false 24)), some (.int v1), some (.int v2), some (.int v3), some (.int v4), some (.int v5)], [.int (1 : Int32)], 0, 0, kjS f I L)) rfl ?_
          obtain rfl := Option.some.inj h
          exact mv_G_ret rfl rfl rfl (Nat.le_refl _) (Or.inr rfl) ⟨rfl, rfl⟩
  · intro n
    induction n with
    | zero => intro v1 v2 v3 v4 v5 r h; cases h
    | succ n ih =>
      have hk11 := ih
      intro v1 v2 v3 v4 v5 r h
      unfold kf76_11 at h
      refine mv_G_run 2 (F' := (15, [some (.ref (kb true 24)), some (.int v1), some (.int v2), some (.int v3), some (.int v4), some (.int v5)], [.int v4, .int v5], 0, 0, kjS f I L)) rfl ?_
      by_cases hc1 : v4 ≤ v5
      · rw [if_pos hc1] at h
        refine mv_G_br (tgt := 38) rfl rfl (by decide) (fun _ => ?_) (fun z => absurd hc1 z)
        refine mv_G_run 3 (F' := (41, [some (.ref (kb true 24)), some (.int v1), some (.int v2), some (.int v3), some (.int v4), some (.int v5)], [.int v2, .int v1, .ref (kb true 24)], 0, 0, kjS f I L)) rfl ?_
        obtain ⟨r2, hc3, h⟩ := mv_bd h
        refine mv_G_call (r := []) (kf75_ok _ _ _ _ _ _ _ _ hc3) rfl rfl rfl rfl rfl (Nat.le_of_ble_eq_true rfl) (Nat.le_of_ble_eq_true rfl) (Nat.le_of_ble_eq_true rfl) ?_
        rintro _ _ ⟨rfl, rfl⟩
        by_cases hc4 : r2 = 0
        · rw [if_pos hc4] at h
          refine mv_G_br (tgt := 63) rfl rfl (by decide) (fun _ => ?_) (fun z => absurd hc4 z)
          refine mv_G_run 1 (F' := (64, [some (.ref (kb true 24)), some (.int v1), some (.int v2), some (.int v3), some (.int v4), some (.int v5)], [.int (0 : Int32)], 0, 0, kjS f I L)) rfl ?_
          obtain rfl := Option.some.inj h
          exact mv_G_ret rfl rfl rfl (Nat.le_refl _) (Or.inl rfl) ⟨rfl, rfl⟩
        · rw [if_neg hc4] at h
          refine mv_G_br (tgt := 63) rfl rfl (by decide) (fun z => absurd z hc4) (fun _ => ?_)
          refine mv_G_run 4 (F' := (51, [some (.ref (kb true 24)), some (.int v1), some (.int v2), some (.int v3), some (.int v4), some (.int v5)], [.int v2, .int v1, .ref (kb true 24), .int v2], 0, 0, kjS f I L)) rfl ?_
          obtain ⟨r5, hc6, h⟩ := mv_bd h
          refine mv_G_call (r := [.int v2]) (kf68_ok _ _ _ _ _ _ _ _ hc6) rfl rfl rfl rfl rfl (Nat.le_of_ble_eq_true rfl) (Nat.le_of_ble_eq_true rfl) (Nat.le_of_ble_eq_true rfl) ?_
          rintro _ _ ⟨rfl, rfl⟩
          refine mv_G_run 2 (F' := (56, [some (.ref (kb true 24)), some (.int v1), some (.int v2), some (.int v3), some (.int v4), some (.int v5)], [.int v3, .int (v2 + r5)], 0, 0, kjS f I L)) rfl ?_
          by_cases hc7 : ¬ (v2 + r5) = v3
          · rw [if_pos hc7] at h
            refine mv_G_br (tgt := 63) rfl rfl (by decide) (fun _ => ?_) (fun z => absurd hc7 z)
            refine mv_G_run 1 (F' := (64, [some (.ref (kb true 24)), some (.int v1), some (.int v2), some (.int v3), some (.int v4), some (.int v5)], [.int (0 : Int32)], 0, 0, kjS f I L)) rfl ?_
            obtain rfl := Option.some.inj h
            exact mv_G_ret rfl rfl rfl (Nat.le_refl _) (Or.inl rfl) ⟨rfl, rfl⟩
          · rw [if_neg hc7] at h
            refine mv_G_br (tgt := 63) rfl rfl (by decide) (fun z => absurd z hc7) (fun _ => ?_)
            refine mv_G_run 2 (F' := (64, [some (.ref (kb true 24)), some (.int v1), some (.int v2), some (.int v3), some (.int v4), some (.int v5)], [.int (1 : Int32)], 0, 0, kjS f I L)) rfl ?_
            obtain rfl := Option.some.inj h
            exact mv_G_ret rfl rfl rfl (Nat.le_refl _) (Or.inr rfl) ⟨rfl, rfl⟩
      · rw [if_neg hc1] at h
        refine mv_G_br (tgt := 38) rfl rfl (by decide) (fun z => absurd z hc1) (fun _ => ?_)
        refine mv_G_run 4 (F' := (23, [some (.ref (kb true 24)), some (.int v1), some (.int v2), some (.int v3), some (.int v4), some (.int v5)], [.int v5, .int v2, .int v1, .ref (kb true 24)], 0, 0, kjS f I L)) rfl ?_
        obtain ⟨r8, hc9, h⟩ := mv_bd h
        refine mv_G_call (r := []) (kf74_ok _ _ _ _ _ _ _ _ _ hc9) rfl rfl rfl rfl rfl (Nat.le_of_ble_eq_true rfl) (Nat.le_of_ble_eq_true rfl) (Nat.le_of_ble_eq_true rfl) ?_
        rintro _ _ ⟨rfl, rfl⟩
        refine mv_G_run 1 (F' := (27, [some (.ref (kb true 24)), some (.int v1), some (.int v2), some (.int v3), some (.int v4), some (.int v5)], [.int v3, .int r8], 0, 0, kjS f I L)) rfl ?_
        by_cases hc10 : ¬ r8 = v3
        · rw [if_pos hc10] at h
          refine mv_G_br (tgt := 32) rfl rfl (by decide) (fun _ => ?_) (fun z => absurd hc10 z)
          refine mv_G_run 2 (F' := (11, [some (.ref (kb true 24)), some (.int v1), some (.int v2), some (.int v3), some (.int v4), some (.int (v5 + (1 : Int32)))], [], 0, 0, kjS f I L)) rfl ?_
          exact hk11 v1 v2 v3 v4 (v5 + (1 : Int32)) _ h
        · rw [if_neg hc10] at h
          refine mv_G_br (tgt := 32) rfl rfl (by decide) (fun z => absurd z hc10) (fun _ => ?_)
          refine mv_G_run 1 (F' := (31, [some (.ref (kb true 24)), some (.int v1), some (.int v2), some (.int v3), some (.int v4), some (.int v5)], [.int (1 : Int32)], 0, 0, kjS f I L)) rfl ?_
          obtain rfl := Option.some.inj h
          exact mv_G_ret rfl rfl rfl (Nat.le_refl _) (Or.inr rfl) ⟨rfl, rfl⟩
def kf76 (b : Bool) (N : Nat) (I : kjI) (L : kjL) (v1 : Int32) (v2 : Int32) (v3 : Int32) : Option (Int32) :=
  (kf73 b I L v1 v2).bind fun r1 => kf76_11 b N I L N v1 v2 v3 r1 (0 : Int32)
set_option maxRecDepth 100000 in
set_option maxHeartbeats 4000000 in
theorem kf76_ok (f : Bool) (b : Bool) (N : Nat) (I : kjI) (L : kjL) (v1 : Int32) (v2 : Int32) (v3 : Int32) (d : Nat) (r : Int32) (h : kf76 b N I L v1 v2 v3 = some r) : mv_C kjP kjSta (d + 5) 76 [.ref (kb b 24), .int v1, .int v2, .int v3] (kjS f I L) (kjQi f I L r) := by
  cases b
  · unfold kf76 at h
    refine mv_C_in kjM_76 (lc := [some (.ref (kb false 24)), some (.int v1), some (.int v2), some (.int v3), none, none]) rfl rfl rfl ?_
    refine mv_G_run 3 (F' := (3, [some (.ref (kb false 24)), some (.int v1), some (.int v2), some (.int v3), none, none], [.int v2, .int v1, .ref (kb false 24)], 0, 0, kjS f I L)) rfl ?_
    obtain ⟨r1, hc2, h⟩ := mv_bd h
    refine mv_G_call (r := []) (kf73_ok _ _ _ _ _ _ _ _ hc2) rfl rfl rfl rfl rfl (Nat.le_of_ble_eq_true rfl) (Nat.le_of_ble_eq_true rfl) (Nat.le_of_ble_eq_true rfl) ?_
    rintro _ _ ⟨rfl, rfl⟩
    refine mv_G_run 3 (F' := (11, [some (.ref (kb false 24)), some (.int v1), some (.int v2), some (.int v3), some (.int r1), some (.int (0 : Int32))], [], 0, 0, kjS f I L)) rfl ?_
    exact kf76_11_ok _ _ _ _ _ d _ _ _ _ _ _ _ h
  · unfold kf76 at h
    refine mv_C_in kjM_76 (lc := [some (.ref (kb true 24)), some (.int v1), some (.int v2), some (.int v3), none, none]) rfl rfl rfl ?_
    refine mv_G_run 3 (F' := (3, [some (.ref (kb true 24)), some (.int v1), some (.int v2), some (.int v3), none, none], [.int v2, .int v1, .ref (kb true 24)], 0, 0, kjS f I L)) rfl ?_
    obtain ⟨r1, hc2, h⟩ := mv_bd h
    refine mv_G_call (r := []) (kf73_ok _ _ _ _ _ _ _ _ hc2) rfl rfl rfl rfl rfl (Nat.le_of_ble_eq_true rfl) (Nat.le_of_ble_eq_true rfl) (Nat.le_of_ble_eq_true rfl) ?_
    rintro _ _ ⟨rfl, rfl⟩
    refine mv_G_run 3 (F' := (11, [some (.ref (kb true 24)), some (.int v1), some (.int v2), some (.int v3), some (.int r1), some (.int (0 : Int32))], [], 0, 0, kjS f I L)) rfl ?_
    exact kf76_11_ok _ _ _ _ _ d _ _ _ _ _ _ _ h
/-! KindJudge.ways(II)I on ('c', 0) -/
def kf6_80 (f : Bool) (N : Nat) (I : kjI) (L : kjL) (k43 : Int32 → Int32 → Int32 → Int32 → Int32 → Option (Int32)) (v1 : Int32) (v2 : Int32) (v3 : Int32) (v4 : Int32) (v5 : Int32) : Option (Int32) :=
  k43 v1 v2 v3 v4 (v5 + (1 : Int32))
set_option maxRecDepth 100000 in
set_option maxHeartbeats 4000000 in
theorem kf6_80_ok (f : Bool) (N : Nat) (I : kjI) (L : kjL) (k43 : Int32 → Int32 → Int32 → Int32 → Int32 → Option (Int32)) (d : Nat) (hk43 : ∀ (v1 : Int32) (v2 : Int32) (v3 : Int32) (v4 : Int32) (v5 : Int32) (r : Int32), k43 v1 v2 v3 v4 v5 = some r → mv_G kjP kjSta (mv_C kjP kjSta (d + 5)) kjM_6 (kjQi f I L r) (43, [some (.ref 0), some (.int v1), some (.int v2), some (.int v3), some (.int v4), some (.int v5)], [], 0, 0, kjS f I L)) (v1 : Int32) (v2 : Int32) (v3 : Int32) (v4 : Int32) (v5 : Int32) (r : Int32) (h : kf6_80 f N I L k43 v1 v2 v3 v4 v5 = some r) : mv_G kjP kjSta (mv_C kjP kjSta (d + 5)) kjM_6 (kjQi f I L r) (80, [some (.ref 0), some (.int v1), some (.int v2), some (.int v3), some (.int v4), some (.int v5)], [], 0, 0, kjS f I L) := by
  cases f
  · unfold kf6_80 at h
    refine mv_G_run 2 (F' := (43, [some (.ref 0), some (.int v1), some (.int v2), some (.int v3), some (.int v4), some (.int (v5 + (1 : Int32)))], [], 0, 0, kjS false I L)) rfl ?_
    exact hk43 v1 v2 v3 v4 (v5 + (1 : Int32)) _ h
  · unfold kf6_80 at h
    refine mv_G_run 2 (F' := (43, [some (.ref 0), some (.int v1), some (.int v2), some (.int v3), some (.int v4), some (.int (v5 + (1 : Int32)))], [], 0, 0, kjS true I L)) rfl ?_
    exact hk43 v1 v2 v3 v4 (v5 + (1 : Int32)) _ h
def kf6_43 (f : Bool) (N : Nat) (I : kjI) (L : kjL) : Nat → Int32 → Int32 → Int32 → Int32 → Int32 → Option (Int32)
  | 0, _, _, _, _, _ => none
  | n + 1, v1, v2, v3, v4, v5 => if v4 ≤ v5 then (some v3) else ((kf15 f I L v1 v5).bind fun r2 => if r2 = 0 then (kf6_80 f N I L (fun v1 v2 v3 v4 v5 => kf6_43 f N I L n v1 v2 v3 v4 v5) v1 v2 v3 v4 v5) else ((kf76 f N I L v1 v5 v2).bind fun r5 => if r5 = 0 then (kf6_80 f N I L (fun v1 v2 v3 v4 v5 => kf6_43 f N I L n v1 v2 v3 v4 v5) v1 v2 v3 v4 v5) else (kf6_80 f N I L (fun v1 v2 v3 v4 v5 => kf6_43 f N I L n v1 v2 v3 v4 v5) v1 v2 (v3 + (1 : Int32)) v4 v5)))
set_option maxRecDepth 100000 in
set_option maxHeartbeats 4000000 in
theorem kf6_43_ok (f : Bool) (N : Nat) (I : kjI) (L : kjL) (d : Nat)  : ∀ (n : Nat) (v1 : Int32) (v2 : Int32) (v3 : Int32) (v4 : Int32) (v5 : Int32) (r : Int32), kf6_43 f N I L n v1 v2 v3 v4 v5 = some r → mv_G kjP kjSta (mv_C kjP kjSta (d + 5)) kjM_6 (kjQi f I L r) (43, [some (.ref 0), some (.int v1), some (.int v2), some (.int v3), some (.int v4), some (.int v5)], [], 0, 0, kjS f I L) := by
  cases f
  · intro n
    induction n with
    | zero => intro v1 v2 v3 v4 v5 r h; cases h
    | succ n ih =>
      have hk43 := ih
      intro v1 v2 v3 v4 v5 r h
      unfold kf6_43 at h
      refine mv_G_run 2 (F' := (47, [some (.ref 0), some (.int v1), some (.int v2), some (.int v3), some (.int v4), some (.int v5)], [.int v4, .int v5], 0, 0, kjS false I L)) rfl ?_
      by_cases hc1 : v4 ≤ v5
      · rw [if_pos hc1] at h
        refine mv_G_br (tgt := 86) rfl rfl (by decide) (fun _ => ?_) (fun z => absurd hc1 z)
        refine mv_G_run 1 (F' := (87, [some (.ref 0), some (.int v1), some (.int v2), some (.int v3), some (.int v4), some (.int v5)], [.int v3], 0, 0, kjS false I L)) rfl ?_
        obtain rfl := Option.some.inj h
        exact mv_G_ret rfl rfl rfl (Nat.le_refl _) trivial ⟨rfl, rfl⟩
      · rw [if_neg hc1] at h
        refine mv_G_br (tgt := 86) rfl rfl (by decide) (fun z => absurd z hc1) (fun _ => ?_)
        refine mv_G_run 3 (F' := (54, [some (.ref 0), some (.int v1), some (.int v2), some (.int v3), some (.int v4), some (.int v5)], [.int v5, .int v1, .ref 0], 0, 0, kjS false I L)) rfl ?_
        obtain ⟨r2, hc3, h⟩ := mv_bd h
        refine mv_G_call (r := []) (kf15_ok _ _ _ _ _ _ _ hc3) rfl rfl rfl rfl rfl (Nat.le_of_ble_eq_true rfl) (Nat.le_of_ble_eq_true rfl) (Nat.le_of_ble_eq_true rfl) ?_
        rintro _ _ ⟨rfl, rfl⟩
        by_cases hc4 : r2 = 0
        · rw [if_pos hc4] at h
          refine mv_G_br (tgt := 80) rfl rfl (by decide) (fun _ => ?_) (fun z => absurd hc4 z)
          exact kf6_80_ok _ _ _ _ _ d hk43 _ _ _ _ _ _ h
        · rw [if_neg hc4] at h
          refine mv_G_br (tgt := 80) rfl rfl (by decide) (fun z => absurd z hc4) (fun _ => ?_)
          refine mv_G_run 6 (F' := (71, [some (.ref 0), some (.int v1), some (.int v2), some (.int v3), some (.int v4), some (.int v5)], [.int v2, .int v5, .int v1, .ref (kb false 24)], 0, 0, kjS false I L)) rfl ?_
          obtain ⟨r5, hc6, h⟩ := mv_bd h
          refine mv_G_call (r := []) (kf76_ok _ _ _ _ _ _ _ _ _ _ hc6) rfl rfl rfl rfl rfl (Nat.le_of_ble_eq_true rfl) (Nat.le_of_ble_eq_true rfl) (Nat.le_of_ble_eq_true rfl) ?_
          rintro _ _ ⟨rfl, rfl⟩
          by_cases hc7 : r5 = 0
          · rw [if_pos hc7] at h
            refine mv_G_br (tgt := 80) rfl rfl (by decide) (fun _ => ?_) (fun z => absurd hc7 z)
            exact kf6_80_ok _ _ _ _ _ d hk43 _ _ _ _ _ _ h
          · rw [if_neg hc7] at h
            refine mv_G_br (tgt := 80) rfl rfl (by decide) (fun z => absurd z hc7) (fun _ => ?_)
            refine mv_G_run 1 (F' := (80, [some (.ref 0), some (.int v1), some (.int v2), some (.int (v3 + (1 : Int32))), some (.int v4), some (.int v5)], [], 0, 0, kjS false I L)) rfl ?_
            exact kf6_80_ok _ _ _ _ _ d hk43 _ _ _ _ _ _ h
  · intro n
    induction n with
    | zero => intro v1 v2 v3 v4 v5 r h; cases h
    | succ n ih =>
      have hk43 := ih
      intro v1 v2 v3 v4 v5 r h
      unfold kf6_43 at h
      refine mv_G_run 2 (F' := (47, [some (.ref 0), some (.int v1), some (.int v2), some (.int v3), some (.int v4), some (.int v5)], [.int v4, .int v5], 0, 0, kjS true I L)) rfl ?_
      by_cases hc1 : v4 ≤ v5
      · rw [if_pos hc1] at h
        refine mv_G_br (tgt := 86) rfl rfl (by decide) (fun _ => ?_) (fun z => absurd hc1 z)
        refine mv_G_run 1 (F' := (87, [some (.ref 0), some (.int v1), some (.int v2), some (.int v3), some (.int v4), some (.int v5)], [.int v3], 0, 0, kjS true I L)) rfl ?_
        obtain rfl := Option.some.inj h
        exact mv_G_ret rfl rfl rfl (Nat.le_refl _) trivial ⟨rfl, rfl⟩
      · rw [if_neg hc1] at h
        refine mv_G_br (tgt := 86) rfl rfl (by decide) (fun z => absurd z hc1) (fun _ => ?_)
        refine mv_G_run 3 (F' := (54, [some (.ref 0), some (.int v1), some (.int v2), some (.int v3), some (.int v4), some (.int v5)], [.int v5, .int v1, .ref 0], 0, 0, kjS true I L)) rfl ?_
        obtain ⟨r2, hc3, h⟩ := mv_bd h
        refine mv_G_call (r := []) (kf15_ok _ _ _ _ _ _ _ hc3) rfl rfl rfl rfl rfl (Nat.le_of_ble_eq_true rfl) (Nat.le_of_ble_eq_true rfl) (Nat.le_of_ble_eq_true rfl) ?_
        rintro _ _ ⟨rfl, rfl⟩
        by_cases hc4 : r2 = 0
        · rw [if_pos hc4] at h
          refine mv_G_br (tgt := 80) rfl rfl (by decide) (fun _ => ?_) (fun z => absurd hc4 z)
          exact kf6_80_ok _ _ _ _ _ d hk43 _ _ _ _ _ _ h
        · rw [if_neg hc4] at h
          refine mv_G_br (tgt := 80) rfl rfl (by decide) (fun z => absurd z hc4) (fun _ => ?_)
          refine mv_G_run 6 (F' := (71, [some (.ref 0), some (.int v1), some (.int v2), some (.int v3), some (.int v4), some (.int v5)], [.int v2, .int v5, .int v1, .ref (kb true 24)], 0, 0, kjS true I L)) rfl ?_
          obtain ⟨r5, hc6, h⟩ := mv_bd h
          refine mv_G_call (r := []) (kf76_ok _ _ _ _ _ _ _ _ _ _ hc6) rfl rfl rfl rfl rfl (Nat.le_of_ble_eq_true rfl) (Nat.le_of_ble_eq_true rfl) (Nat.le_of_ble_eq_true rfl) ?_
          rintro _ _ ⟨rfl, rfl⟩
          by_cases hc7 : r5 = 0
          · rw [if_pos hc7] at h
            refine mv_G_br (tgt := 80) rfl rfl (by decide) (fun _ => ?_) (fun z => absurd hc7 z)
            exact kf6_80_ok _ _ _ _ _ d hk43 _ _ _ _ _ _ h
          · rw [if_neg hc7] at h
            refine mv_G_br (tgt := 80) rfl rfl (by decide) (fun z => absurd z hc7) (fun _ => ?_)
            refine mv_G_run 1 (F' := (80, [some (.ref 0), some (.int v1), some (.int v2), some (.int (v3 + (1 : Int32))), some (.int v4), some (.int v5)], [], 0, 0, kjS true I L)) rfl ?_
            exact kf6_80_ok _ _ _ _ _ d hk43 _ _ _ _ _ _ h
def kf6_26 (f : Bool) (N : Nat) (I : kjI) (L : kjL) (v1 : Int32) (v2 : Int32) (s0 : Int32) : Option (Int32) :=
  (kf32 f I L v1).bind fun r1 => kf6_43 f N I L N v1 v2 s0 r1 (0 : Int32)
set_option maxRecDepth 100000 in
set_option maxHeartbeats 4000000 in
theorem kf6_26_ok (f : Bool) (N : Nat) (I : kjI) (L : kjL) (d : Nat)  (v1 : Int32) (v2 : Int32) (s0 : Int32) (r : Int32) (h : kf6_26 f N I L v1 v2 s0 = some r) : mv_G kjP kjSta (mv_C kjP kjSta (d + 5)) kjM_6 (kjQi f I L r) (26, [some (.ref 0), some (.int v1), some (.int v2), none, none, none], [.int s0], 0, 0, kjS f I L) := by
  cases f
  · unfold kf6_26 at h
    refine mv_G_run 5 (F' := (35, [some (.ref 0), some (.int v1), some (.int v2), some (.int s0), none, none], [.int v1, .ref (kb false 4)], 0, 0, kjS false I L)) rfl ?_
    obtain ⟨r1, hc2, h⟩ := mv_bd h
    refine mv_G_call (r := []) (kf32_ok _ _ _ _ _ _ _ hc2) rfl rfl rfl rfl rfl (Nat.le_of_ble_eq_true rfl) (Nat.le_of_ble_eq_true rfl) (Nat.le_of_ble_eq_true rfl) ?_
    rintro _ _ ⟨rfl, rfl⟩
    refine mv_G_run 3 (F' := (43, [some (.ref 0), some (.int v1), some (.int v2), some (.int s0), some (.int r1), some (.int (0 : Int32))], [], 0, 0, kjS false I L)) rfl ?_
    exact kf6_43_ok _ _ _ _ d _ _ _ _ _ _ _ h
  · unfold kf6_26 at h
    refine mv_G_run 5 (F' := (35, [some (.ref 0), some (.int v1), some (.int v2), some (.int s0), none, none], [.int v1, .ref (kb true 4)], 0, 0, kjS true I L)) rfl ?_
    obtain ⟨r1, hc2, h⟩ := mv_bd h
    refine mv_G_call (r := []) (kf32_ok _ _ _ _ _ _ _ hc2) rfl rfl rfl rfl rfl (Nat.le_of_ble_eq_true rfl) (Nat.le_of_ble_eq_true rfl) (Nat.le_of_ble_eq_true rfl) ?_
    rintro _ _ ⟨rfl, rfl⟩
    refine mv_G_run 3 (F' := (43, [some (.ref 0), some (.int v1), some (.int v2), some (.int s0), some (.int r1), some (.int (0 : Int32))], [], 0, 0, kjS true I L)) rfl ?_
    exact kf6_43_ok _ _ _ _ d _ _ _ _ _ _ _ h
def kf6 (f : Bool) (N : Nat) (I : kjI) (L : kjL) (v1 : Int32) (v2 : Int32) : Option (Int32) :=
  (kf66 f I L v1 v2).bind fun r1 => if ¬ r1 = 0 then (if ¬ v2 = 0 then (kf6_26 f N I L v1 v2 (0 : Int32)) else (kf6_26 f N I L v1 v2 (1 : Int32))) else (some (-1 : Int32))
set_option maxRecDepth 100000 in
set_option maxHeartbeats 4000000 in
theorem kf6_ok (f : Bool) (N : Nat) (I : kjI) (L : kjL) (v1 : Int32) (v2 : Int32) (d : Nat) (r : Int32) (h : kf6 f N I L v1 v2 = some r) : mv_C kjP kjSta (d + 6) 6 [.ref 0, .int v1, .int v2] (kjS f I L) (kjQi f I L r) := by
  cases f
  · unfold kf6 at h
    refine mv_C_in kjM_6 (lc := [some (.ref 0), some (.int v1), some (.int v2), none, none, none]) rfl rfl rfl ?_
    refine mv_G_run 5 (F' := (9, [some (.ref 0), some (.int v1), some (.int v2), none, none, none], [.int v2, .int v1, .ref (kb false 24)], 0, 0, kjS false I L)) rfl ?_
    obtain ⟨r1, hc2, h⟩ := mv_bd h
    refine mv_G_call (r := []) (kf66_ok _ _ _ _ _ _ _ _ hc2) rfl rfl rfl rfl rfl (Nat.le_of_ble_eq_true rfl) (Nat.le_of_ble_eq_true rfl) (Nat.le_of_ble_eq_true rfl) ?_
    rintro _ _ ⟨rfl, rfl⟩
    by_cases hc3 : ¬ r1 = 0
    · rw [if_pos hc3] at h
      refine mv_G_br (tgt := 17) rfl rfl (by decide) (fun _ => ?_) (fun z => absurd hc3 z)
      refine mv_G_run 1 (F' := (18, [some (.ref 0), some (.int v1), some (.int v2), none, none, none], [.int v2], 0, 0, kjS false I L)) rfl ?_
      by_cases hc4 : ¬ v2 = 0
      · rw [if_pos hc4] at h
        refine mv_G_br (tgt := 25) rfl rfl (by decide) (fun _ => ?_) (fun z => absurd hc4 z)
        refine mv_G_run 1 (F' := (26, [some (.ref 0), some (.int v1), some (.int v2), none, none, none], [.int (0 : Int32)], 0, 0, kjS false I L)) rfl ?_
        exact kf6_26_ok _ _ _ _ d _ _ _ _ h
      · rw [if_neg hc4] at h
        refine mv_G_br (tgt := 25) rfl rfl (by decide) (fun z => absurd z hc4) (fun _ => ?_)
        refine mv_G_run 2 (F' := (26, [some (.ref 0), some (.int v1), some (.int v2), none, none, none], [.int (1 : Int32)], 0, 0, kjS false I L)) rfl ?_
        exact kf6_26_ok _ _ _ _ d _ _ _ _ h
    · rw [if_neg hc3] at h
      refine mv_G_br (tgt := 17) rfl rfl (by decide) (fun z => absurd z hc3) (fun _ => ?_)
      refine mv_G_run 1 (F' := (16, [some (.ref 0), some (.int v1), some (.int v2), none, none, none], [.int (-1 : Int32)], 0, 0, kjS false I L)) rfl ?_
      obtain rfl := Option.some.inj h
      exact mv_G_ret rfl rfl rfl (Nat.le_refl _) trivial ⟨rfl, rfl⟩
  · unfold kf6 at h
    refine mv_C_in kjM_6 (lc := [some (.ref 0), some (.int v1), some (.int v2), none, none, none]) rfl rfl rfl ?_
    refine mv_G_run 5 (F' := (9, [some (.ref 0), some (.int v1), some (.int v2), none, none, none], [.int v2, .int v1, .ref (kb true 24)], 0, 0, kjS true I L)) rfl ?_
    obtain ⟨r1, hc2, h⟩ := mv_bd h
    refine mv_G_call (r := []) (kf66_ok _ _ _ _ _ _ _ _ hc2) rfl rfl rfl rfl rfl (Nat.le_of_ble_eq_true rfl) (Nat.le_of_ble_eq_true rfl) (Nat.le_of_ble_eq_true rfl) ?_
    rintro _ _ ⟨rfl, rfl⟩
    by_cases hc3 : ¬ r1 = 0
    · rw [if_pos hc3] at h
      refine mv_G_br (tgt := 17) rfl rfl (by decide) (fun _ => ?_) (fun z => absurd hc3 z)
      refine mv_G_run 1 (F' := (18, [some (.ref 0), some (.int v1), some (.int v2), none, none, none], [.int v2], 0, 0, kjS true I L)) rfl ?_
      by_cases hc4 : ¬ v2 = 0
      · rw [if_pos hc4] at h
        refine mv_G_br (tgt := 25) rfl rfl (by decide) (fun _ => ?_) (fun z => absurd hc4 z)
        refine mv_G_run 1 (F' := (26, [some (.ref 0), some (.int v1), some (.int v2), none, none, none], [.int (0 : Int32)], 0, 0, kjS true I L)) rfl ?_
        exact kf6_26_ok _ _ _ _ d _ _ _ _ h
      · rw [if_neg hc4] at h
        refine mv_G_br (tgt := 25) rfl rfl (by decide) (fun z => absurd z hc4) (fun _ => ?_)
        refine mv_G_run 2 (F' := (26, [some (.ref 0), some (.int v1), some (.int v2), none, none, none], [.int (1 : Int32)], 0, 0, kjS true I L)) rfl ?_
        exact kf6_26_ok _ _ _ _ d _ _ _ _ h
    · rw [if_neg hc3] at h
      refine mv_G_br (tgt := 17) rfl rfl (by decide) (fun z => absurd z hc3) (fun _ => ?_)
      refine mv_G_run 1 (F' := (16, [some (.ref 0), some (.int v1), some (.int v2), none, none, none], [.int (-1 : Int32)], 0, 0, kjS true I L)) rfl ?_
      obtain rfl := Option.some.inj h
      exact mv_G_ret rfl rfl rfl (Nat.le_refl _) trivial ⟨rfl, rfl⟩
/-! KindJudge$Signatures.has(I)Z on ('b', 14) -/
def kf49 (b : Bool) (I : kjI) (L : kjL) (v1 : Int32) : Option (Int32) :=
  if v1 < 0 then (some (0 : Int32)) else (if (I (kb b 14) 3) ≤ v1 then (some (0 : Int32)) else (some (1 : Int32)))
set_option maxRecDepth 100000 in
set_option maxHeartbeats 4000000 in
theorem kf49_ok (f : Bool) (b : Bool) (I : kjI) (L : kjL) (v1 : Int32) (d : Nat) (r : Int32) (h : kf49 b I L v1 = some r) : mv_C kjP kjSta (d + 1) 49 [.ref (kb b 14), .int v1] (kjS f I L) (kjQi f I L r) := by
  cases b
  · unfold kf49 at h
    refine mv_C_in kjM_49 (lc := [some (.ref (kb false 14)), some (.int v1)]) rfl rfl rfl ?_
    refine mv_G_run 1 (F' := (1, [some (.ref (kb false 14)), some (.int v1)], [.int v1], 0, 0, kjS f I L)) rfl ?_
    by_cases hc1 : v1 < 0
    · rw [if_pos hc1] at h
      refine mv_G_br (tgt := 16) rfl rfl (by decide) (fun _ => ?_) (fun z => absurd hc1 z)
      refine mv_G_run 1 (F' := (17, [some (.ref (kb false 14)), some (.int v1)], [.int (0 : Int32)], 0, 0, kjS f I L)) rfl ?_
      obtain rfl := Option.some.inj h
      exact mv_G_ret rfl rfl rfl (Nat.le_refl _) (Or.inl rfl) ⟨rfl, rfl⟩
    · rw [if_neg hc1] at h
      refine mv_G_br (tgt := 16) rfl rfl (by decide) (fun z => absurd z hc1) (fun _ => ?_)
      refine mv_G_run 3 (F' := (9, [some (.ref (kb false 14)), some (.int v1)], [.int (I (kb false 14) 3), .int v1], 0, 0, kjS f I L)) rfl ?_
      by_cases hc2 : (I (kb false 14) 3) ≤ v1
      · rw [if_pos hc2] at h
        refine mv_G_br (tgt := 16) rfl rfl (by decide) (fun _ => ?_) (fun z => absurd hc2 z)
        refine mv_G_run 1 (F' := (17, [some (.ref (kb false 14)), some (.int v1)], [.int (0 : Int32)], 0, 0, kjS f I L)) rfl ?_
        obtain rfl := Option.some.inj h
        exact mv_G_ret rfl rfl rfl (Nat.le_refl _) (Or.inl rfl) ⟨rfl, rfl⟩
      · rw [if_neg hc2] at h
        refine mv_G_br (tgt := 16) rfl rfl (by decide) (fun z => absurd z hc2) (fun _ => ?_)
        refine mv_G_run 2 (F' := (17, [some (.ref (kb false 14)), some (.int v1)], [.int (1 : Int32)], 0, 0, kjS f I L)) rfl ?_
        obtain rfl := Option.some.inj h
        exact mv_G_ret rfl rfl rfl (Nat.le_refl _) (Or.inr rfl) ⟨rfl, rfl⟩
  · unfold kf49 at h
    refine mv_C_in kjM_49 (lc := [some (.ref (kb true 14)), some (.int v1)]) rfl rfl rfl ?_
    refine mv_G_run 1 (F' := (1, [some (.ref (kb true 14)), some (.int v1)], [.int v1], 0, 0, kjS f I L)) rfl ?_
    by_cases hc1 : v1 < 0
    · rw [if_pos hc1] at h
      refine mv_G_br (tgt := 16) rfl rfl (by decide) (fun _ => ?_) (fun z => absurd hc1 z)
      refine mv_G_run 1 (F' := (17, [some (.ref (kb true 14)), some (.int v1)], [.int (0 : Int32)], 0, 0, kjS f I L)) rfl ?_
      obtain rfl := Option.some.inj h
      exact mv_G_ret rfl rfl rfl (Nat.le_refl _) (Or.inl rfl) ⟨rfl, rfl⟩
    · rw [if_neg hc1] at h
      refine mv_G_br (tgt := 16) rfl rfl (by decide) (fun z => absurd z hc1) (fun _ => ?_)
      refine mv_G_run 3 (F' := (9, [some (.ref (kb true 14)), some (.int v1)], [.int (I (kb true 14) 3), .int v1], 0, 0, kjS f I L)) rfl ?_
      by_cases hc2 : (I (kb true 14) 3) ≤ v1
      · rw [if_pos hc2] at h
        refine mv_G_br (tgt := 16) rfl rfl (by decide) (fun _ => ?_) (fun z => absurd hc2 z)
        refine mv_G_run 1 (F' := (17, [some (.ref (kb true 14)), some (.int v1)], [.int (0 : Int32)], 0, 0, kjS f I L)) rfl ?_
        obtain rfl := Option.some.inj h
        exact mv_G_ret rfl rfl rfl (Nat.le_refl _) (Or.inl rfl) ⟨rfl, rfl⟩
      · rw [if_neg hc2] at h
        refine mv_G_br (tgt := 16) rfl rfl (by decide) (fun z => absurd z hc2) (fun _ => ?_)
        refine mv_G_run 2 (F' := (17, [some (.ref (kb true 14)), some (.int v1)], [.int (1 : Int32)], 0, 0, kjS f I L)) rfl ?_
        obtain rfl := Option.some.inj h
        exact mv_G_ret rfl rfl rfl (Nat.le_refl _) (Or.inr rfl) ⟨rfl, rfl⟩
/-! KindJudge$Layout.stackOf(I)I on ('b', 4) -/
def kf31 (b : Bool) (I : kjI) (L : kjL) (v1 : Int32) : Option (Int32) :=
  if v1 < 0 then (some (0 : Int32)) else (if (I (kb b 14) 3) ≤ v1 then (some (0 : Int32)) else (bif mv_in v1 16 then (some (I (kb b 19) (Int32.toNatClampNeg v1))) else none))
set_option maxRecDepth 100000 in
set_option maxHeartbeats 4000000 in
theorem kf31_ok (f : Bool) (b : Bool) (I : kjI) (L : kjL) (v1 : Int32) (d : Nat) (r : Int32) (h : kf31 b I L v1 = some r) : mv_C kjP kjSta (d + 1) 31 [.ref (kb b 4), .int v1] (kjS f I L) (kjQi f I L r) := by
  cases b
  · unfold kf31 at h
    refine mv_C_in kjM_31 (lc := [some (.ref (kb false 4)), some (.int v1)]) rfl rfl rfl ?_
    refine mv_G_run 1 (F' := (1, [some (.ref (kb false 4)), some (.int v1)], [.int v1], 0, 0, kjS f I L)) rfl ?_
    by_cases hc1 : v1 < 0
    · rw [if_pos hc1] at h
      refine mv_G_br (tgt := 24) rfl rfl (by decide) (fun _ => ?_) (fun z => absurd hc1 z)
      refine mv_G_run 1 (F' := (25, [some (.ref (kb false 4)), some (.int v1)], [.int (0 : Int32)], 0, 0, kjS f I L)) rfl ?_
      obtain rfl := Option.some.inj h
      exact mv_G_ret rfl rfl rfl (Nat.le_refl _) trivial ⟨rfl, rfl⟩
    · rw [if_neg hc1] at h
      refine mv_G_br (tgt := 24) rfl rfl (by decide) (fun z => absurd z hc1) (fun _ => ?_)
      refine mv_G_run 4 (F' := (12, [some (.ref (kb false 4)), some (.int v1)], [.int (I (kb false 14) 3), .int v1], 0, 0, kjS f I L)) rfl ?_
      by_cases hc2 : (I (kb false 14) 3) ≤ v1
      · rw [if_pos hc2] at h
        refine mv_G_br (tgt := 24) rfl rfl (by decide) (fun _ => ?_) (fun z => absurd hc2 z)
        refine mv_G_run 1 (F' := (25, [some (.ref (kb false 4)), some (.int v1)], [.int (0 : Int32)], 0, 0, kjS f I L)) rfl ?_
        obtain rfl := Option.some.inj h
        exact mv_G_ret rfl rfl rfl (Nat.le_refl _) trivial ⟨rfl, rfl⟩
      · rw [if_neg hc2] at h
        refine mv_G_br (tgt := 24) rfl rfl (by decide) (fun z => absurd z hc2) (fun _ => ?_)
        refine mv_G_run 3 (F' := (20, [some (.ref (kb false 4)), some (.int v1)], [.int v1, .ref (kb false 19)], 0, 0, kjS f I L)) rfl ?_
        obtain ⟨hi3, h⟩ := mv_bifs h
        refine mv_G_ald rfl rfl (mv_in_ok hi3) ?_
        refine mv_G_run 1 (F' := (25, [some (.ref (kb false 4)), some (.int v1)], [.int (I (kb false 19) (Int32.toNatClampNeg v1))], 0, 0, kjS f I L)) rfl ?_
        obtain rfl := Option.some.inj h
        exact mv_G_ret rfl rfl rfl (Nat.le_refl _) trivial ⟨rfl, rfl⟩
  · unfold kf31 at h
    refine mv_C_in kjM_31 (lc := [some (.ref (kb true 4)), some (.int v1)]) rfl rfl rfl ?_
    refine mv_G_run 1 (F' := (1, [some (.ref (kb true 4)), some (.int v1)], [.int v1], 0, 0, kjS f I L)) rfl ?_
    by_cases hc1 : v1 < 0
    · rw [if_pos hc1] at h
      refine mv_G_br (tgt := 24) rfl rfl (by decide) (fun _ => ?_) (fun z => absurd hc1 z)
      refine mv_G_run 1 (F' := (25, [some (.ref (kb true 4)), some (.int v1)], [.int (0 : Int32)], 0, 0, kjS f I L)) rfl ?_
      obtain rfl := Option.some.inj h
      exact mv_G_ret rfl rfl rfl (Nat.le_refl _) trivial ⟨rfl, rfl⟩
    · rw [if_neg hc1] at h
      refine mv_G_br (tgt := 24) rfl rfl (by decide) (fun z => absurd z hc1) (fun _ => ?_)
      refine mv_G_run 4 (F' := (12, [some (.ref (kb true 4)), some (.int v1)], [.int (I (kb true 14) 3), .int v1], 0, 0, kjS f I L)) rfl ?_
      by_cases hc2 : (I (kb true 14) 3) ≤ v1
      · rw [if_pos hc2] at h
        refine mv_G_br (tgt := 24) rfl rfl (by decide) (fun _ => ?_) (fun z => absurd hc2 z)
        refine mv_G_run 1 (F' := (25, [some (.ref (kb true 4)), some (.int v1)], [.int (0 : Int32)], 0, 0, kjS f I L)) rfl ?_
        obtain rfl := Option.some.inj h
        exact mv_G_ret rfl rfl rfl (Nat.le_refl _) trivial ⟨rfl, rfl⟩
      · rw [if_neg hc2] at h
        refine mv_G_br (tgt := 24) rfl rfl (by decide) (fun z => absurd z hc2) (fun _ => ?_)
        refine mv_G_run 3 (F' := (20, [some (.ref (kb true 4)), some (.int v1)], [.int v1, .ref (kb true 19)], 0, 0, kjS f I L)) rfl ?_
        obtain ⟨hi3, h⟩ := mv_bifs h
        refine mv_G_ald rfl rfl (mv_in_ok hi3) ?_
        refine mv_G_run 1 (F' := (25, [some (.ref (kb true 4)), some (.int v1)], [.int (I (kb true 19) (Int32.toNatClampNeg v1))], 0, 0, kjS f I L)) rfl ?_
        obtain rfl := Option.some.inj h
        exact mv_G_ret rfl rfl rfl (Nat.le_refl _) trivial ⟨rfl, rfl⟩
/-! KindJudge$Flow.open(II)V on ('b', 26) -/
def kf86_141 (b : Bool) (I : kjI) (L : kjL) : Option (kjI × kjL) :=
  some ((mv_up I (kb b 26) 10 (99 : Int32)), L)
set_option maxRecDepth 100000 in
set_option maxHeartbeats 4000000 in
theorem kf86_141_ok (f : Bool) (b : Bool) (d : Nat)  (I : kjI) (L : kjL) (r : kjI × kjL) (h : kf86_141 b I L = some r) : mv_G kjP kjSta (mv_C kjP kjSta (d + 3)) kjM_86 (kjQwv f r) (141, [some (.ref (kb b 26)), none, none], [], 0, 0, kjS f I L) := by
  cases b
  · unfold kf86_141 at h
    refine mv_G_run 3 (F' := (147, [some (.ref (kb false 26)), none, none], [], 0, 0, kjS f (mv_up I (kb false 26) 10 (99 : Int32)) L)) rfl ?_
    obtain rfl := Option.some.inj h
    exact mv_G_ret rfl rfl rfl (Nat.le_refl _) trivial ⟨rfl, rfl⟩
  · unfold kf86_141 at h
    refine mv_G_run 3 (F' := (147, [some (.ref (kb true 26)), none, none], [], 0, 0, kjS f (mv_up I (kb true 26) 10 (99 : Int32)) L)) rfl ?_
    obtain rfl := Option.some.inj h
    exact mv_G_ret rfl rfl rfl (Nat.le_refl _) trivial ⟨rfl, rfl⟩
def kf86 (b : Bool) (v1 : Int32) (v2 : Int32) (I : kjI) (L : kjL) : Option (kjI × kjL) :=
  (kf67 b I L v1 v2 (0 : Int32)).bind fun r1 => (kf67 b (mv_up I (kb b 26) 5 r1) L v1 v2 (1 : Int32)).bind fun r3 => (kf67 b (mv_up (mv_up I (kb b 26) 5 r1) (kb b 26) 6 r3) L v1 v2 (2 : Int32)).bind fun r5 => (kf78 b (mv_up (mv_up (mv_up I (kb b 26) 5 r1) (kb b 26) 6 r3) (kb b 26) 7 r5) L v1 v2).bind fun r7 => (kf81 b (mv_up (mv_up (mv_up (mv_up I (kb b 26) 5 r1) (kb b 26) 6 r3) (kb b 26) 7 r5) (kb b 26) 8 r7) L v1 v2).bind fun r9 => (kf69 b (mv_up (mv_up (mv_up (mv_up I (kb b 26) 5 r1) (kb b 26) 6 r3) (kb b 26) 7 r5) (kb b 26) 8 r7) (mv_up L (kb b 26) 11 r9) ((mv_up (mv_up (mv_up (mv_up I (kb b 26) 5 r1) (kb b 26) 6 r3) (kb b 26) 7 r5) (kb b 26) 8 r7) (kb b 26) 5) ((mv_up (mv_up (mv_up (mv_up I (kb b 26) 5 r1) (kb b 26) 6 r3) (kb b 26) 7 r5) (kb b 26) 8 r7) (kb b 26) 6)).bind fun r11 => (kf70 b (mv_up (mv_up (mv_up (mv_up (mv_up I (kb b 26) 5 r1) (kb b 26) 6 r3) (kb b 26) 7 r5) (kb b 26) 8 r7) (kb b 26) 9 (((mv_up (mv_up (mv_up (mv_up I (kb b 26) 5 r1) (kb b 26) 6 r3) (kb b 26) 7 r5) (kb b 26) 8 r7) (kb b 26) 8) - r11)) (mv_up L (kb b 26) 11 r9) ((mv_up (mv_up (mv_up (mv_up (mv_up I (kb b 26) 5 r1) (kb b 26) 6 r3) (kb b 26) 7 r5) (kb b 26) 8 r7) (kb b 26) 9 (((mv_up (mv_up (mv_up (mv_up I (kb b 26) 5 r1) (kb b 26) 6 r3) (kb b 26) 7 r5) (kb b 26) 8 r7) (kb b 26) 8) - r11)) (kb b 26) 5) ((mv_up (mv_up (mv_up (mv_up (mv_up I (kb b 26) 5 r1) (kb b 26) 6 r3) (kb b 26) 7 r5) (kb b 26) 8 r7) (kb b 26) 9 (((mv_up (mv_up (mv_up (mv_up I (kb b 26) 5 r1) (kb b 26) 6 r3) (kb b 26) 7 r5) (kb b 26) 8 r7) (kb b 26) 8) - r11)) (kb b 26) 6)).bind fun r13 => if ((mv_up (mv_up (mv_up (mv_up (mv_up (mv_up I (kb b 26) 5 r1) (kb b 26) 6 r3) (kb b 26) 7 r5) (kb b 26) 8 r7) (kb b 26) 9 (((mv_up (mv_up (mv_up (mv_up I (kb b 26) 5 r1) (kb b 26) 6 r3) (kb b 26) 7 r5) (kb b 26) 8 r7) (kb b 26) 8) - r11)) (kb b 26) 10 (((mv_up (mv_up (mv_up (mv_up (mv_up I (kb b 26) 5 r1) (kb b 26) 6 r3) (kb b 26) 7 r5) (kb b 26) 8 r7) (kb b 26) 9 (((mv_up (mv_up (mv_up (mv_up I (kb b 26) 5 r1) (kb b 26) 6 r3) (kb b 26) 7 r5) (kb b 26) 8 r7) (kb b 26) 8) - r11)) (kb b 26) 9) + r13)) (kb b 26) 8) = (99 : Int32) then (kf86_141 b (mv_up (mv_up (mv_up (mv_up (mv_up (mv_up I (kb b 26) 5 r1) (kb b 26) 6 r3) (kb b 26) 7 r5) (kb b 26) 8 r7) (kb b 26) 9 (((mv_up (mv_up (mv_up (mv_up I (kb b 26) 5 r1) (kb b 26) 6 r3) (kb b 26) 7 r5) (kb b 26) 8 r7) (kb b 26) 8) - r11)) (kb b 26) 10 (((mv_up (mv_up (mv_up (mv_up (mv_up I (kb b 26) 5 r1) (kb b 26) 6 r3) (kb b 26) 7 r5) (kb b 26) 8 r7) (kb b 26) 9 (((mv_up (mv_up (mv_up (mv_up I (kb b 26) 5 r1) (kb b 26) 6 r3) (kb b 26) 7 r5) (kb b 26) 8 r7) (kb b 26) 8) - r11)) (kb b 26) 9) + r13)) (mv_up L (kb b 26) 11 r9)) else (if ((mv_up (mv_up (mv_up (mv_up (mv_up (mv_up I (kb b 26) 5 r1) (kb b 26) 6 r3) (kb b 26) 7 r5) (kb b 26) 8 r7) (kb b 26) 9 (((mv_up (mv_up (mv_up (mv_up I (kb b 26) 5 r1) (kb b 26) 6 r3) (kb b 26) 7 r5) (kb b 26) 8 r7) (kb b 26) 8) - r11)) (kb b 26) 10 (((mv_up (mv_up (mv_up (mv_up (mv_up I (kb b 26) 5 r1) (kb b 26) 6 r3) (kb b 26) 7 r5) (kb b 26) 8 r7) (kb b 26) 9 (((mv_up (mv_up (mv_up (mv_up I (kb b 26) 5 r1) (kb b 26) 6 r3) (kb b 26) 7 r5) (kb b 26) 8 r7) (kb b 26) 8) - r11)) (kb b 26) 9) + r13)) (kb b 26) 9) < 0 then (kf86_141 b (mv_up (mv_up (mv_up (mv_up (mv_up (mv_up I (kb b 26) 5 r1) (kb b 26) 6 r3) (kb b 26) 7 r5) (kb b 26) 8 r7) (kb b 26) 9 (((mv_up (mv_up (mv_up (mv_up I (kb b 26) 5 r1) (kb b 26) 6 r3) (kb b 26) 7 r5) (kb b 26) 8 r7) (kb b 26) 8) - r11)) (kb b 26) 10 (((mv_up (mv_up (mv_up (mv_up (mv_up I (kb b 26) 5 r1) (kb b 26) 6 r3) (kb b 26) 7 r5) (kb b 26) 8 r7) (kb b 26) 9 (((mv_up (mv_up (mv_up (mv_up I (kb b 26) 5 r1) (kb b 26) 6 r3) (kb b 26) 7 r5) (kb b 26) 8 r7) (kb b 26) 8) - r11)) (kb b 26) 9) + r13)) (mv_up L (kb b 26) 11 r9)) else ((kf31 b (mv_up (mv_up (mv_up (mv_up (mv_up (mv_up I (kb b 26) 5 r1) (kb b 26) 6 r3) (kb b 26) 7 r5) (kb b 26) 8 r7) (kb b 26) 9 (((mv_up (mv_up (mv_up (mv_up I (kb b 26) 5 r1) (kb b 26) 6 r3) (kb b 26) 7 r5) (kb b 26) 8 r7) (kb b 26) 8) - r11)) (kb b 26) 10 (((mv_up (mv_up (mv_up (mv_up (mv_up I (kb b 26) 5 r1) (kb b 26) 6 r3) (kb b 26) 7 r5) (kb b 26) 8 r7) (kb b 26) 9 (((mv_up (mv_up (mv_up (mv_up I (kb b 26) 5 r1) (kb b 26) 6 r3) (kb b 26) 7 r5) (kb b 26) 8 r7) (kb b 26) 8) - r11)) (kb b 26) 9) + r13)) (mv_up L (kb b 26) 11 r9) v1).bind fun r17 => if ((mv_up (mv_up (mv_up (mv_up (mv_up (mv_up I (kb b 26) 5 r1) (kb b 26) 6 r3) (kb b 26) 7 r5) (kb b 26) 8 r7) (kb b 26) 9 (((mv_up (mv_up (mv_up (mv_up I (kb b 26) 5 r1) (kb b 26) 6 r3) (kb b 26) 7 r5) (kb b 26) 8 r7) (kb b 26) 8) - r11)) (kb b 26) 10 (((mv_up (mv_up (mv_up (mv_up (mv_up I (kb b 26) 5 r1) (kb b 26) 6 r3) (kb b 26) 7 r5) (kb b 26) 8 r7) (kb b 26) 9 (((mv_up (mv_up (mv_up (mv_up I (kb b 26) 5 r1) (kb b 26) 6 r3) (kb b 26) 7 r5) (kb b 26) 8 r7) (kb b 26) 8) - r11)) (kb b 26) 9) + r13)) (kb b 26) 10) ≤ r17 then (some ((mv_up (mv_up (mv_up (mv_up (mv_up (mv_up I (kb b 26) 5 r1) (kb b 26) 6 r3) (kb b 26) 7 r5) (kb b 26) 8 r7) (kb b 26) 9 (((mv_up (mv_up (mv_up (mv_up I (kb b 26) 5 r1) (kb b 26) 6 r3) (kb b 26) 7 r5) (kb b 26) 8 r7) (kb b 26) 8) - r11)) (kb b 26) 10 (((mv_up (mv_up (mv_up (mv_up (mv_up I (kb b 26) 5 r1) (kb b 26) 6 r3) (kb b 26) 7 r5) (kb b 26) 8 r7) (kb b 26) 9 (((mv_up (mv_up (mv_up (mv_up I (kb b 26) 5 r1) (kb b 26) 6 r3) (kb b 26) 7 r5) (kb b 26) 8 r7) (kb b 26) 8) - r11)) (kb b 26) 9) + r13)), (mv_up L (kb b 26) 11 r9))) else (kf86_141 b (mv_up (mv_up (mv_up (mv_up (mv_up (mv_up I (kb b 26) 5 r1) (kb b 26) 6 r3) (kb b 26) 7 r5) (kb b 26) 8 r7) (kb b 26) 9 (((mv_up (mv_up (mv_up (mv_up I (kb b 26) 5 r1) (kb b 26) 6 r3) (kb b 26) 7 r5) (kb b 26) 8 r7) (kb b 26) 8) - r11)) (kb b 26) 10 (((mv_up (mv_up (mv_up (mv_up (mv_up I (kb b 26) 5 r1) (kb b 26) 6 r3) (kb b 26) 7 r5) (kb b 26) 8 r7) (kb b 26) 9 (((mv_up (mv_up (mv_up (mv_up I (kb b 26) 5 r1) (kb b 26) 6 r3) (kb b 26) 7 r5) (kb b 26) 8 r7) (kb b 26) 8) - r11)) (kb b 26) 9) + r13)) (mv_up L (kb b 26) 11 r9))))
set_option maxRecDepth 100000 in
set_option maxHeartbeats 4000000 in
theorem kf86_ok (f : Bool) (b : Bool) (v1 : Int32) (v2 : Int32) (I : kjI) (L : kjL) (d : Nat) (r : kjI × kjL) (h : kf86 b v1 v2 I L = some r) : mv_C kjP kjSta (d + 4) 86 [.ref (kb b 26), .int v1, .int v2] (kjS f I L) (kjQwv f r) := by
  cases b
  · unfold kf86 at h
    refine mv_C_in kjM_86 (lc := [some (.ref (kb false 26)), some (.int v1), some (.int v2)]) rfl rfl rfl ?_
    refine mv_G_run 6 (F' := (8, [some (.ref (kb false 26)), some (.int v1), some (.int v2)], [.int (0 : Int32), .int v2, .int v1, .ref (kb false 24), .ref (kb false 26)], 0, 0, kjS f I L)) rfl ?_
    obtain ⟨r1, hc2, h⟩ := mv_bd h
    refine mv_G_call (r := [.ref (kb false 26)]) (kf67_ok _ _ _ _ _ _ _ _ _ hc2) rfl rfl rfl rfl rfl (Nat.le_of_ble_eq_true rfl) (Nat.le_of_ble_eq_true rfl) (Nat.le_of_ble_eq_true rfl) ?_
    rintro _ _ ⟨rfl, rfl⟩
    refine mv_G_run 7 (F' := (22, [some (.ref (kb false 26)), some (.int v1), some (.int v2)], [.int (1 : Int32), .int v2, .int v1, .ref (kb false 24), .ref (kb false 26)], 0, 0, kjS f (mv_up I (kb false 26) 5 r1) L)) rfl ?_
    obtain ⟨r3, hc4, h⟩ := mv_bd h
    refine mv_G_call (r := [.ref (kb false 26)]) (kf67_ok _ _ _ _ _ _ _ _ _ hc4) rfl rfl rfl rfl rfl (Nat.le_of_ble_eq_true rfl) (Nat.le_of_ble_eq_true rfl) (Nat.le_of_ble_eq_true rfl) ?_
    rintro _ _ ⟨rfl, rfl⟩
    refine mv_G_run 7 (F' := (36, [some (.ref (kb false 26)), some (.int v1), some (.int v2)], [.int (2 : Int32), .int v2, .int v1, .ref (kb false 24), .ref (kb false 26)], 0, 0, kjS f (mv_up (mv_up I (kb false 26) 5 r1) (kb false 26) 6 r3) L)) rfl ?_
    obtain ⟨r5, hc6, h⟩ := mv_bd h
    refine mv_G_call (r := [.ref (kb false 26)]) (kf67_ok _ _ _ _ _ _ _ _ _ hc6) rfl rfl rfl rfl rfl (Nat.le_of_ble_eq_true rfl) (Nat.le_of_ble_eq_true rfl) (Nat.le_of_ble_eq_true rfl) ?_
    rintro _ _ ⟨rfl, rfl⟩
    refine mv_G_run 5 (F' := (46, [some (.ref (kb false 26)), some (.int v1), some (.int v2)], [.int v2, .int v1, .ref (kb false 26), .ref (kb false 26)], 0, 0, kjS f (mv_up (mv_up (mv_up I (kb false 26) 5 r1) (kb false 26) 6 r3) (kb false 26) 7 r5) L)) rfl ?_
    obtain ⟨r7, hc8, h⟩ := mv_bd h
    refine mv_G_call (r := [.ref (kb false 26)]) (kf78_ok _ _ _ _ _ _ _ _ hc8) rfl rfl rfl rfl rfl (Nat.le_of_ble_eq_true rfl) (Nat.le_of_ble_eq_true rfl) (Nat.le_of_ble_eq_true rfl) ?_
    rintro _ _ ⟨rfl, rfl⟩
    refine mv_G_run 5 (F' := (56, [some (.ref (kb false 26)), some (.int v1), some (.int v2)], [.int v2, .int v1, .ref (kb false 26), .ref (kb false 26)], 0, 0, kjS f (mv_up (mv_up (mv_up (mv_up I (kb false 26) 5 r1) (kb false 26) 6 r3) (kb false 26) 7 r5) (kb false 26) 8 r7) L)) rfl ?_
    obtain ⟨r9, hc10, h⟩ := mv_bd h
    refine mv_G_call (r := [.ref (kb false 26)]) (kf81_ok _ _ _ _ _ _ _ _ hc10) rfl rfl rfl rfl rfl (Nat.le_of_ble_eq_true rfl) (Nat.le_of_ble_eq_true rfl) (Nat.le_of_ble_eq_true rfl) ?_
    rintro _ _ ⟨rfl, rfl⟩
    refine mv_G_run 10 (F' := (79, [some (.ref (kb false 26)), some (.int v1), some (.int v2)], [.int ((mv_up (mv_up (mv_up (mv_up I (kb false 26) 5 r1) (kb false 26) 6 r3) (kb false 26) 7 r5) (kb false 26) 8 r7) (kb false 26) 6), .int ((mv_up (mv_up (mv_up (mv_up I (kb false 26) 5 r1) (kb false 26) 6 r3) (kb false 26) 7 r5) (kb false 26) 8 r7) (kb false 26) 5), .ref (kb false 24), .int ((mv_up (mv_up (mv_up (mv_up I (kb false 26) 5 r1) (kb false 26) 6 r3) (kb false 26) 7 r5) (kb false 26) 8 r7) (kb false 26) 8), .ref (kb false 26)], 0, 0, kjS f (mv_up (mv_up (mv_up (mv_up I (kb false 26) 5 r1) (kb false 26) 6 r3) (kb false 26) 7 r5) (kb false 26) 8 r7) (mv_up L (kb false 26) 11 r9))) rfl ?_
    obtain ⟨r11, hc12, h⟩ := mv_bd h
    refine mv_G_call (r := [.int ((mv_up (mv_up (mv_up (mv_up I (kb false 26) 5 r1) (kb false 26) 6 r3) (kb false 26) 7 r5) (kb false 26) 8 r7) (kb false 26) 8), .ref (kb false 26)]) (kf69_ok _ _ _ _ _ _ _ _ hc12) rfl rfl rfl rfl rfl (Nat.le_of_ble_eq_true rfl) (Nat.le_of_ble_eq_true rfl) (Nat.le_of_ble_eq_true rfl) ?_
    rintro _ _ ⟨rfl, rfl⟩
    refine mv_G_run 11 (F' := (103, [some (.ref (kb false 26)), some (.int v1), some (.int v2)], [.int ((mv_up (mv_up (mv_up (mv_up (mv_up I (kb false 26) 5 r1) (kb false 26) 6 r3) (kb false 26) 7 r5) (kb false 26) 8 r7) (kb false 26) 9 (((mv_up (mv_up (mv_up (mv_up I (kb false 26) 5 r1) (kb false 26) 6 r3) (kb false 26) 7 r5) (kb false 26) 8 r7) (kb false 26) 8) - r11)) (kb false 26) 6), .int ((mv_up (mv_up (mv_up (mv_up (mv_up I (kb false 26) 5 r1) (kb false 26) 6 r3) (kb false 26) 7 r5) (kb false 26) 8 r7) (kb false 26) 9 (((mv_up (mv_up (mv_up (mv_up I (kb false 26) 5 r1) (kb false 26) 6 r3) (kb false 26) 7 r5) (kb false 26) 8 r7) (kb false 26) 8) - r11)) (kb false 26) 5), .ref (kb false 24), .int ((mv_up (mv_up (mv_up (mv_up (mv_up I (kb false 26) 5 r1) (kb false 26) 6 r3) (kb false 26) 7 r5) (kb false 26) 8 r7) (kb false 26) 9 (((mv_up (mv_up (mv_up (mv_up I (kb false 26) 5 r1) (kb false 26) 6 r3) (kb false 26) 7 r5) (kb false 26) 8 r7) (kb false 26) 8) - r11)) (kb false 26) 9), .ref (kb false 26)], 0, 0, kjS f (mv_up (mv_up (mv_up (mv_up (mv_up I (kb false 26) 5 r1) (kb false 26) 6 r3) (kb false 26) 7 r5) (kb false 26) 8 r7) (kb false 26) 9 (((mv_up (mv_up (mv_up (mv_up I (kb false 26) 5 r1) (kb false 26) 6 r3) (kb false 26) 7 r5) (kb false 26) 8 r7) (kb false 26) 8) - r11)) (mv_up L (kb false 26) 11 r9))) rfl ?_
    obtain ⟨r13, hc14, h⟩ := mv_bd h
    refine mv_G_call (r := [.int ((mv_up (mv_up (mv_up (mv_up (mv_up I (kb false 26) 5 r1) (kb false 26) 6 r3) (kb false 26) 7 r5) (kb false 26) 8 r7) (kb false 26) 9 (((mv_up (mv_up (mv_up (mv_up I (kb false 26) 5 r1) (kb false 26) 6 r3) (kb false 26) 7 r5) (kb false 26) 8 r7) (kb false 26) 8) - r11)) (kb false 26) 9), .ref (kb false 26)]) (kf70_ok _ _ _ _ _ _ _ _ hc14) rfl rfl rfl rfl rfl (Nat.le_of_ble_eq_true rfl) (Nat.le_of_ble_eq_true rfl) (Nat.le_of_ble_eq_true rfl) ?_
    rintro _ _ ⟨rfl, rfl⟩
    refine mv_G_run 5 (F' := (116, [some (.ref (kb false 26)), some (.int v1), some (.int v2)], [.int (99 : Int32), .int ((mv_up (mv_up (mv_up (mv_up (mv_up (mv_up I (kb false 26) 5 r1) (kb false 26) 6 r3) (kb false 26) 7 r5) (kb false 26) 8 r7) (kb false 26) 9 (((mv_up (mv_up (mv_up (mv_up I (kb false 26) 5 r1) (kb false 26) 6 r3) (kb false 26) 7 r5) (kb false 26) 8 r7) (kb false 26) 8) - r11)) (kb false 26) 10 (((mv_up (mv_up (mv_up (mv_up (mv_up I (kb false 26) 5 r1) (kb false 26) 6 r3) (kb false 26) 7 r5) (kb false 26) 8 r7) (kb false 26) 9 (((mv_up (mv_up (mv_up (mv_up I (kb false 26) 5 r1) (kb false 26) 6 r3) (kb false 26) 7 r5) (kb false 26) 8 r7) (kb false 26) 8) - r11)) (kb false 26) 9) + r13)) (kb false 26) 8)], 0, 0, kjS f (mv_up (mv_up (mv_up (mv_up (mv_up (mv_up I (kb false 26) 5 r1) (kb false 26) 6 r3) (kb false 26) 7 r5) (kb false 26) 8 r7) (kb false 26) 9 (((mv_up (mv_up (mv_up (mv_up I (kb false 26) 5 r1) (kb false 26) 6 r3) (kb false 26) 7 r5) (kb false 26) 8 r7) (kb false 26) 8) - r11)) (kb false 26) 10 (((mv_up (mv_up (mv_up (mv_up (mv_up I (kb false 26) 5 r1) (kb false 26) 6 r3) (kb false 26) 7 r5) (kb false 26) 8 r7) (kb false 26) 9 (((mv_up (mv_up (mv_up (mv_up I (kb false 26) 5 r1) (kb false 26) 6 r3) (kb false 26) 7 r5) (kb false 26) 8 r7) (kb false 26) 8) - r11)) (kb false 26) 9) + r13)) (mv_up L (kb false 26) 11 r9))) rfl ?_
    by_cases hc15 : ((mv_up (mv_up (mv_up (mv_up (mv_up (mv_up I (kb false 26) 5 r1) (kb false 26) 6 r3) (kb false 26) 7 r5) (kb false 26) 8 r7) (kb false 26) 9 (((mv_up (mv_up (mv_up (mv_up I (kb false 26) 5 r1) (kb false 26) 6 r3) (kb false 26) 7 r5) (kb false 26) 8 r7) (kb false 26) 8) - r11)) (kb false 26) 10 (((mv_up (mv_up (mv_up (mv_up (mv_up I (kb false 26) 5 r1) (kb false 26) 6 r3) (kb false 26) 7 r5) (kb false 26) 8 r7) (kb false 26) 9 (((mv_up (mv_up (mv_up (mv_up I (kb false 26) 5 r1) (kb false 26) 6 r3) (kb false 26) 7 r5) (kb false 26) 8 r7) (kb false 26) 8) - r11)) (kb false 26) 9) + r13)) (kb false 26) 8) = (99 : Int32)
    · rw [if_pos hc15] at h
      refine mv_G_br (tgt := 141) rfl rfl (by decide) (fun _ => ?_) (fun z => absurd hc15 z)
      refine mv_G_fg (lc' := [some (.ref (kb false 26)), none, none]) (And.intro rfl trivial) ?_
      exact kf86_141_ok _ _ d _ _ _ h
    · rw [if_neg hc15] at h
      refine mv_G_br (tgt := 141) rfl rfl (by decide) (fun z => absurd z hc15) (fun _ => ?_)
      refine mv_G_run 2 (F' := (123, [some (.ref (kb false 26)), some (.int v1), some (.int v2)], [.int ((mv_up (mv_up (mv_up (mv_up (mv_up (mv_up I (kb false 26) 5 r1) (kb false 26) 6 r3) (kb false 26) 7 r5) (kb false 26) 8 r7) (kb false 26) 9 (((mv_up (mv_up (mv_up (mv_up I (kb false 26) 5 r1) (kb false 26) 6 r3) (kb false 26) 7 r5) (kb false 26) 8 r7) (kb false 26) 8) - r11)) (kb false 26) 10 (((mv_up (mv_up (mv_up (mv_up (mv_up I (kb false 26) 5 r1) (kb false 26) 6 r3) (kb false 26) 7 r5) (kb false 26) 8 r7) (kb false 26) 9 (((mv_up (mv_up (mv_up (mv_up I (kb false 26) 5 r1) (kb false 26) 6 r3) (kb false 26) 7 r5) (kb false 26) 8 r7) (kb false 26) 8) - r11)) (kb false 26) 9) + r13)) (kb false 26) 9)], 0, 0, kjS f (mv_up (mv_up (mv_up (mv_up (mv_up (mv_up I (kb false 26) 5 r1) (kb false 26) 6 r3) (kb false 26) 7 r5) (kb false 26) 8 r7) (kb false 26) 9 (((mv_up (mv_up (mv_up (mv_up I (kb false 26) 5 r1) (kb false 26) 6 r3) (kb false 26) 7 r5) (kb false 26) 8 r7) (kb false 26) 8) - r11)) (kb false 26) 10 (((mv_up (mv_up (mv_up (mv_up (mv_up I (kb false 26) 5 r1) (kb false 26) 6 r3) (kb false 26) 7 r5) (kb false 26) 8 r7) (kb false 26) 9 (((mv_up (mv_up (mv_up (mv_up I (kb false 26) 5 r1) (kb false 26) 6 r3) (kb false 26) 7 r5) (kb false 26) 8 r7) (kb false 26) 8) - r11)) (kb false 26) 9) + r13)) (mv_up L (kb false 26) 11 r9))) rfl ?_
      by_cases hc16 : ((mv_up (mv_up (mv_up (mv_up (mv_up (mv_up I (kb false 26) 5 r1) (kb false 26) 6 r3) (kb false 26) 7 r5) (kb false 26) 8 r7) (kb false 26) 9 (((mv_up (mv_up (mv_up (mv_up I (kb false 26) 5 r1) (kb false 26) 6 r3) (kb false 26) 7 r5) (kb false 26) 8 r7) (kb false 26) 8) - r11)) (kb false 26) 10 (((mv_up (mv_up (mv_up (mv_up (mv_up I (kb false 26) 5 r1) (kb false 26) 6 r3) (kb false 26) 7 r5) (kb false 26) 8 r7) (kb false 26) 9 (((mv_up (mv_up (mv_up (mv_up I (kb false 26) 5 r1) (kb false 26) 6 r3) (kb false 26) 7 r5) (kb false 26) 8 r7) (kb false 26) 8) - r11)) (kb false 26) 9) + r13)) (kb false 26) 9) < 0
      · rw [if_pos hc16] at h
        refine mv_G_br (tgt := 141) rfl rfl (by decide) (fun _ => ?_) (fun z => absurd hc16 z)
        refine mv_G_fg (lc' := [some (.ref (kb false 26)), none, none]) (And.intro rfl trivial) ?_
        exact kf86_141_ok _ _ d _ _ _ h
      · rw [if_neg hc16] at h
        refine mv_G_br (tgt := 141) rfl rfl (by decide) (fun z => absurd z hc16) (fun _ => ?_)
        refine mv_G_run 5 (F' := (135, [some (.ref (kb false 26)), some (.int v1), some (.int v2)], [.int v1, .ref (kb false 4), .int ((mv_up (mv_up (mv_up (mv_up (mv_up (mv_up I (kb false 26) 5 r1) (kb false 26) 6 r3) (kb false 26) 7 r5) (kb false 26) 8 r7) (kb false 26) 9 (((mv_up (mv_up (mv_up (mv_up I (kb false 26) 5 r1) (kb false 26) 6 r3) (kb false 26) 7 r5) (kb false 26) 8 r7) (kb false 26) 8) - r11)) (kb false 26) 10 (((mv_up (mv_up (mv_up (mv_up (mv_up I (kb false 26) 5 r1) (kb false 26) 6 r3) (kb false 26) 7 r5) (kb false 26) 8 r7) (kb false 26) 9 (((mv_up (mv_up (mv_up (mv_up I (kb false 26) 5 r1) (kb false 26) 6 r3) (kb false 26) 7 r5) (kb false 26) 8 r7) (kb false 26) 8) - r11)) (kb false 26) 9) + r13)) (kb false 26) 10)], 0, 0, kjS f (mv_up (mv_up (mv_up (mv_up (mv_up (mv_up I (kb false 26) 5 r1) (kb false 26) 6 r3) (kb false 26) 7 r5) (kb false 26) 8 r7) (kb false 26) 9 (((mv_up (mv_up (mv_up (mv_up I (kb false 26) 5 r1) (kb false 26) 6 r3) (kb false 26) 7 r5) (kb false 26) 8 r7) (kb false 26) 8) - r11)) (kb false 26) 10 (((mv_up (mv_up (mv_up (mv_up (mv_up I (kb false 26) 5 r1) (kb false 26) 6 r3) (kb false 26) 7 r5) (kb false 26) 8 r7) (kb false 26) 9 (((mv_up (mv_up (mv_up (mv_up I (kb false 26) 5 r1) (kb false 26) 6 r3) (kb false 26) 7 r5) (kb false 26) 8 r7) (kb false 26) 8) - r11)) (kb false 26) 9) + r13)) (mv_up L (kb false 26) 11 r9))) rfl ?_
        obtain ⟨r17, hc18, h⟩ := mv_bd h
        refine mv_G_call (r := [.int ((mv_up (mv_up (mv_up (mv_up (mv_up (mv_up I (kb false 26) 5 r1) (kb false 26) 6 r3) (kb false 26) 7 r5) (kb false 26) 8 r7) (kb false 26) 9 (((mv_up (mv_up (mv_up (mv_up I (kb false 26) 5 r1) (kb false 26) 6 r3) (kb false 26) 7 r5) (kb false 26) 8 r7) (kb false 26) 8) - r11)) (kb false 26) 10 (((mv_up (mv_up (mv_up (mv_up (mv_up I (kb false 26) 5 r1) (kb false 26) 6 r3) (kb false 26) 7 r5) (kb false 26) 8 r7) (kb false 26) 9 (((mv_up (mv_up (mv_up (mv_up I (kb false 26) 5 r1) (kb false 26) 6 r3) (kb false 26) 7 r5) (kb false 26) 8 r7) (kb false 26) 8) - r11)) (kb false 26) 9) + r13)) (kb false 26) 10)]) (kf31_ok _ _ _ _ _ _ _ hc18) rfl rfl rfl rfl rfl (Nat.le_of_ble_eq_true rfl) (Nat.le_of_ble_eq_true rfl) (Nat.le_of_ble_eq_true rfl) ?_
        rintro _ _ ⟨rfl, rfl⟩
        by_cases hc19 : ((mv_up (mv_up (mv_up (mv_up (mv_up (mv_up I (kb false 26) 5 r1) (kb false 26) 6 r3) (kb false 26) 7 r5) (kb false 26) 8 r7) (kb false 26) 9 (((mv_up (mv_up (mv_up (mv_up I (kb false 26) 5 r1) (kb false 26) 6 r3) (kb false 26) 7 r5) (kb false 26) 8 r7) (kb false 26) 8) - r11)) (kb false 26) 10 (((mv_up (mv_up (mv_up (mv_up (mv_up I (kb false 26) 5 r1) (kb false 26) 6 r3) (kb false 26) 7 r5) (kb false 26) 8 r7) (kb false 26) 9 (((mv_up (mv_up (mv_up (mv_up I (kb false 26) 5 r1) (kb false 26) 6 r3) (kb false 26) 7 r5) (kb false 26) 8 r7) (kb false 26) 8) - r11)) (kb false 26) 9) + r13)) (kb false 26) 10) ≤ r17
        · rw [if_pos hc19] at h
          refine mv_G_br (tgt := 147) rfl rfl (by decide) (fun _ => ?_) (fun z => absurd hc19 z)
          obtain rfl := Option.some.inj h
          exact mv_G_ret rfl rfl rfl (Nat.le_refl _) trivial ⟨rfl, rfl⟩
        · rw [if_neg hc19] at h
          refine mv_G_br (tgt := 147) rfl rfl (by decide) (fun z => absurd z hc19) (fun _ => ?_)
          refine mv_G_fg (lc' := [some (.ref (kb false 26)), none, none]) (And.intro rfl trivial) ?_
          exact kf86_141_ok _ _ d _ _ _ h
  · unfold kf86 at h
    refine mv_C_in kjM_86 (lc := [some (.ref (kb true 26)), some (.int v1), some (.int v2)]) rfl rfl rfl ?_
    refine mv_G_run 6 (F' := (8, [some (.ref (kb true 26)), some (.int v1), some (.int v2)], [.int (0 : Int32), .int v2, .int v1, .ref (kb true 24), .ref (kb true 26)], 0, 0, kjS f I L)) rfl ?_
    obtain ⟨r1, hc2, h⟩ := mv_bd h
    refine mv_G_call (r := [.ref (kb true 26)]) (kf67_ok _ _ _ _ _ _ _ _ _ hc2) rfl rfl rfl rfl rfl (Nat.le_of_ble_eq_true rfl) (Nat.le_of_ble_eq_true rfl) (Nat.le_of_ble_eq_true rfl) ?_
    rintro _ _ ⟨rfl, rfl⟩
    refine mv_G_run 7 (F' := (22, [some (.ref (kb true 26)), some (.int v1), some (.int v2)], [.int (1 : Int32), .int v2, .int v1, .ref (kb true 24), .ref (kb true 26)], 0, 0, kjS f (mv_up I (kb true 26) 5 r1) L)) rfl ?_
    obtain ⟨r3, hc4, h⟩ := mv_bd h
    refine mv_G_call (r := [.ref (kb true 26)]) (kf67_ok _ _ _ _ _ _ _ _ _ hc4) rfl rfl rfl rfl rfl (Nat.le_of_ble_eq_true rfl) (Nat.le_of_ble_eq_true rfl) (Nat.le_of_ble_eq_true rfl) ?_
    rintro _ _ ⟨rfl, rfl⟩
    refine mv_G_run 7 (F' := (36, [some (.ref (kb true 26)), some (.int v1), some (.int v2)], [.int (2 : Int32), .int v2, .int v1, .ref (kb true 24), .ref (kb true 26)], 0, 0, kjS f (mv_up (mv_up I (kb true 26) 5 r1) (kb true 26) 6 r3) L)) rfl ?_
    obtain ⟨r5, hc6, h⟩ := mv_bd h
    refine mv_G_call (r := [.ref (kb true 26)]) (kf67_ok _ _ _ _ _ _ _ _ _ hc6) rfl rfl rfl rfl rfl (Nat.le_of_ble_eq_true rfl) (Nat.le_of_ble_eq_true rfl) (Nat.le_of_ble_eq_true rfl) ?_
    rintro _ _ ⟨rfl, rfl⟩
    refine mv_G_run 5 (F' := (46, [some (.ref (kb true 26)), some (.int v1), some (.int v2)], [.int v2, .int v1, .ref (kb true 26), .ref (kb true 26)], 0, 0, kjS f (mv_up (mv_up (mv_up I (kb true 26) 5 r1) (kb true 26) 6 r3) (kb true 26) 7 r5) L)) rfl ?_
    obtain ⟨r7, hc8, h⟩ := mv_bd h
    refine mv_G_call (r := [.ref (kb true 26)]) (kf78_ok _ _ _ _ _ _ _ _ hc8) rfl rfl rfl rfl rfl (Nat.le_of_ble_eq_true rfl) (Nat.le_of_ble_eq_true rfl) (Nat.le_of_ble_eq_true rfl) ?_
    rintro _ _ ⟨rfl, rfl⟩
    refine mv_G_run 5 (F' := (56, [some (.ref (kb true 26)), some (.int v1), some (.int v2)], [.int v2, .int v1, .ref (kb true 26), .ref (kb true 26)], 0, 0, kjS f (mv_up (mv_up (mv_up (mv_up I (kb true 26) 5 r1) (kb true 26) 6 r3) (kb true 26) 7 r5) (kb true 26) 8 r7) L)) rfl ?_
    obtain ⟨r9, hc10, h⟩ := mv_bd h
    refine mv_G_call (r := [.ref (kb true 26)]) (kf81_ok _ _ _ _ _ _ _ _ hc10) rfl rfl rfl rfl rfl (Nat.le_of_ble_eq_true rfl) (Nat.le_of_ble_eq_true rfl) (Nat.le_of_ble_eq_true rfl) ?_
    rintro _ _ ⟨rfl, rfl⟩
    refine mv_G_run 10 (F' := (79, [some (.ref (kb true 26)), some (.int v1), some (.int v2)], [.int ((mv_up (mv_up (mv_up (mv_up I (kb true 26) 5 r1) (kb true 26) 6 r3) (kb true 26) 7 r5) (kb true 26) 8 r7) (kb true 26) 6), .int ((mv_up (mv_up (mv_up (mv_up I (kb true 26) 5 r1) (kb true 26) 6 r3) (kb true 26) 7 r5) (kb true 26) 8 r7) (kb true 26) 5), .ref (kb true 24), .int ((mv_up (mv_up (mv_up (mv_up I (kb true 26) 5 r1) (kb true 26) 6 r3) (kb true 26) 7 r5) (kb true 26) 8 r7) (kb true 26) 8), .ref (kb true 26)], 0, 0, kjS f (mv_up (mv_up (mv_up (mv_up I (kb true 26) 5 r1) (kb true 26) 6 r3) (kb true 26) 7 r5) (kb true 26) 8 r7) (mv_up L (kb true 26) 11 r9))) rfl ?_
    obtain ⟨r11, hc12, h⟩ := mv_bd h
    refine mv_G_call (r := [.int ((mv_up (mv_up (mv_up (mv_up I (kb true 26) 5 r1) (kb true 26) 6 r3) (kb true 26) 7 r5) (kb true 26) 8 r7) (kb true 26) 8), .ref (kb true 26)]) (kf69_ok _ _ _ _ _ _ _ _ hc12) rfl rfl rfl rfl rfl (Nat.le_of_ble_eq_true rfl) (Nat.le_of_ble_eq_true rfl) (Nat.le_of_ble_eq_true rfl) ?_
    rintro _ _ ⟨rfl, rfl⟩
    refine mv_G_run 11 (F' := (103, [some (.ref (kb true 26)), some (.int v1), some (.int v2)], [.int ((mv_up (mv_up (mv_up (mv_up (mv_up I (kb true 26) 5 r1) (kb true 26) 6 r3) (kb true 26) 7 r5) (kb true 26) 8 r7) (kb true 26) 9 (((mv_up (mv_up (mv_up (mv_up I (kb true 26) 5 r1) (kb true 26) 6 r3) (kb true 26) 7 r5) (kb true 26) 8 r7) (kb true 26) 8) - r11)) (kb true 26) 6), .int ((mv_up (mv_up (mv_up (mv_up (mv_up I (kb true 26) 5 r1) (kb true 26) 6 r3) (kb true 26) 7 r5) (kb true 26) 8 r7) (kb true 26) 9 (((mv_up (mv_up (mv_up (mv_up I (kb true 26) 5 r1) (kb true 26) 6 r3) (kb true 26) 7 r5) (kb true 26) 8 r7) (kb true 26) 8) - r11)) (kb true 26) 5), .ref (kb true 24), .int ((mv_up (mv_up (mv_up (mv_up (mv_up I (kb true 26) 5 r1) (kb true 26) 6 r3) (kb true 26) 7 r5) (kb true 26) 8 r7) (kb true 26) 9 (((mv_up (mv_up (mv_up (mv_up I (kb true 26) 5 r1) (kb true 26) 6 r3) (kb true 26) 7 r5) (kb true 26) 8 r7) (kb true 26) 8) - r11)) (kb true 26) 9), .ref (kb true 26)], 0, 0, kjS f (mv_up (mv_up (mv_up (mv_up (mv_up I (kb true 26) 5 r1) (kb true 26) 6 r3) (kb true 26) 7 r5) (kb true 26) 8 r7) (kb true 26) 9 (((mv_up (mv_up (mv_up (mv_up I (kb true 26) 5 r1) (kb true 26) 6 r3) (kb true 26) 7 r5) (kb true 26) 8 r7) (kb true 26) 8) - r11)) (mv_up L (kb true 26) 11 r9))) rfl ?_
    obtain ⟨r13, hc14, h⟩ := mv_bd h
    refine mv_G_call (r := [.int ((mv_up (mv_up (mv_up (mv_up (mv_up I (kb true 26) 5 r1) (kb true 26) 6 r3) (kb true 26) 7 r5) (kb true 26) 8 r7) (kb true 26) 9 (((mv_up (mv_up (mv_up (mv_up I (kb true 26) 5 r1) (kb true 26) 6 r3) (kb true 26) 7 r5) (kb true 26) 8 r7) (kb true 26) 8) - r11)) (kb true 26) 9), .ref (kb true 26)]) (kf70_ok _ _ _ _ _ _ _ _ hc14) rfl rfl rfl rfl rfl (Nat.le_of_ble_eq_true rfl) (Nat.le_of_ble_eq_true rfl) (Nat.le_of_ble_eq_true rfl) ?_
    rintro _ _ ⟨rfl, rfl⟩
    refine mv_G_run 5 (F' := (116, [some (.ref (kb true 26)), some (.int v1), some (.int v2)], [.int (99 : Int32), .int ((mv_up (mv_up (mv_up (mv_up (mv_up (mv_up I (kb true 26) 5 r1) (kb true 26) 6 r3) (kb true 26) 7 r5) (kb true 26) 8 r7) (kb true 26) 9 (((mv_up (mv_up (mv_up (mv_up I (kb true 26) 5 r1) (kb true 26) 6 r3) (kb true 26) 7 r5) (kb true 26) 8 r7) (kb true 26) 8) - r11)) (kb true 26) 10 (((mv_up (mv_up (mv_up (mv_up (mv_up I (kb true 26) 5 r1) (kb true 26) 6 r3) (kb true 26) 7 r5) (kb true 26) 8 r7) (kb true 26) 9 (((mv_up (mv_up (mv_up (mv_up I (kb true 26) 5 r1) (kb true 26) 6 r3) (kb true 26) 7 r5) (kb true 26) 8 r7) (kb true 26) 8) - r11)) (kb true 26) 9) + r13)) (kb true 26) 8)], 0, 0, kjS f (mv_up (mv_up (mv_up (mv_up (mv_up (mv_up I (kb true 26) 5 r1) (kb true 26) 6 r3) (kb true 26) 7 r5) (kb true 26) 8 r7) (kb true 26) 9 (((mv_up (mv_up (mv_up (mv_up I (kb true 26) 5 r1) (kb true 26) 6 r3) (kb true 26) 7 r5) (kb true 26) 8 r7) (kb true 26) 8) - r11)) (kb true 26) 10 (((mv_up (mv_up (mv_up (mv_up (mv_up I (kb true 26) 5 r1) (kb true 26) 6 r3) (kb true 26) 7 r5) (kb true 26) 8 r7) (kb true 26) 9 (((mv_up (mv_up (mv_up (mv_up I (kb true 26) 5 r1) (kb true 26) 6 r3) (kb true 26) 7 r5) (kb true 26) 8 r7) (kb true 26) 8) - r11)) (kb true 26) 9) + r13)) (mv_up L (kb true 26) 11 r9))) rfl ?_
    by_cases hc15 : ((mv_up (mv_up (mv_up (mv_up (mv_up (mv_up I (kb true 26) 5 r1) (kb true 26) 6 r3) (kb true 26) 7 r5) (kb true 26) 8 r7) (kb true 26) 9 (((mv_up (mv_up (mv_up (mv_up I (kb true 26) 5 r1) (kb true 26) 6 r3) (kb true 26) 7 r5) (kb true 26) 8 r7) (kb true 26) 8) - r11)) (kb true 26) 10 (((mv_up (mv_up (mv_up (mv_up (mv_up I (kb true 26) 5 r1) (kb true 26) 6 r3) (kb true 26) 7 r5) (kb true 26) 8 r7) (kb true 26) 9 (((mv_up (mv_up (mv_up (mv_up I (kb true 26) 5 r1) (kb true 26) 6 r3) (kb true 26) 7 r5) (kb true 26) 8 r7) (kb true 26) 8) - r11)) (kb true 26) 9) + r13)) (kb true 26) 8) = (99 : Int32)
    · rw [if_pos hc15] at h
      refine mv_G_br (tgt := 141) rfl rfl (by decide) (fun _ => ?_) (fun z => absurd hc15 z)
      refine mv_G_fg (lc' := [some (.ref (kb true 26)), none, none]) (And.intro rfl trivial) ?_
      exact kf86_141_ok _ _ d _ _ _ h
    · rw [if_neg hc15] at h
      refine mv_G_br (tgt := 141) rfl rfl (by decide) (fun z => absurd z hc15) (fun _ => ?_)
      refine mv_G_run 2 (F' := (123, [some (.ref (kb true 26)), some (.int v1), some (.int v2)], [.int ((mv_up (mv_up (mv_up (mv_up (mv_up (mv_up I (kb true 26) 5 r1) (kb true 26) 6 r3) (kb true 26) 7 r5) (kb true 26) 8 r7) (kb true 26) 9 (((mv_up (mv_up (mv_up (mv_up I (kb true 26) 5 r1) (kb true 26) 6 r3) (kb true 26) 7 r5) (kb true 26) 8 r7) (kb true 26) 8) - r11)) (kb true 26) 10 (((mv_up (mv_up (mv_up (mv_up (mv_up I (kb true 26) 5 r1) (kb true 26) 6 r3) (kb true 26) 7 r5) (kb true 26) 8 r7) (kb true 26) 9 (((mv_up (mv_up (mv_up (mv_up I (kb true 26) 5 r1) (kb true 26) 6 r3) (kb true 26) 7 r5) (kb true 26) 8 r7) (kb true 26) 8) - r11)) (kb true 26) 9) + r13)) (kb true 26) 9)], 0, 0, kjS f (mv_up (mv_up (mv_up (mv_up (mv_up (mv_up I (kb true 26) 5 r1) (kb true 26) 6 r3) (kb true 26) 7 r5) (kb true 26) 8 r7) (kb true 26) 9 (((mv_up (mv_up (mv_up (mv_up I (kb true 26) 5 r1) (kb true 26) 6 r3) (kb true 26) 7 r5) (kb true 26) 8 r7) (kb true 26) 8) - r11)) (kb true 26) 10 (((mv_up (mv_up (mv_up (mv_up (mv_up I (kb true 26) 5 r1) (kb true 26) 6 r3) (kb true 26) 7 r5) (kb true 26) 8 r7) (kb true 26) 9 (((mv_up (mv_up (mv_up (mv_up I (kb true 26) 5 r1) (kb true 26) 6 r3) (kb true 26) 7 r5) (kb true 26) 8 r7) (kb true 26) 8) - r11)) (kb true 26) 9) + r13)) (mv_up L (kb true 26) 11 r9))) rfl ?_
      by_cases hc16 : ((mv_up (mv_up (mv_up (mv_up (mv_up (mv_up I (kb true 26) 5 r1) (kb true 26) 6 r3) (kb true 26) 7 r5) (kb true 26) 8 r7) (kb true 26) 9 (((mv_up (mv_up (mv_up (mv_up I (kb true 26) 5 r1) (kb true 26) 6 r3) (kb true 26) 7 r5) (kb true 26) 8 r7) (kb true 26) 8) - r11)) (kb true 26) 10 (((mv_up (mv_up (mv_up (mv_up (mv_up I (kb true 26) 5 r1) (kb true 26) 6 r3) (kb true 26) 7 r5) (kb true 26) 8 r7) (kb true 26) 9 (((mv_up (mv_up (mv_up (mv_up I (kb true 26) 5 r1) (kb true 26) 6 r3) (kb true 26) 7 r5) (kb true 26) 8 r7) (kb true 26) 8) - r11)) (kb true 26) 9) + r13)) (kb true 26) 9) < 0
      · rw [if_pos hc16] at h
        refine mv_G_br (tgt := 141) rfl rfl (by decide) (fun _ => ?_) (fun z => absurd hc16 z)
        refine mv_G_fg (lc' := [some (.ref (kb true 26)), none, none]) (And.intro rfl trivial) ?_
        exact kf86_141_ok _ _ d _ _ _ h
      · rw [if_neg hc16] at h
        refine mv_G_br (tgt := 141) rfl rfl (by decide) (fun z => absurd z hc16) (fun _ => ?_)
        refine mv_G_run 5 (F' := (135, [some (.ref (kb true 26)), some (.int v1), some (.int v2)], [.int v1, .ref (kb true 4), .int ((mv_up (mv_up (mv_up (mv_up (mv_up (mv_up I (kb true 26) 5 r1) (kb true 26) 6 r3) (kb true 26) 7 r5) (kb true 26) 8 r7) (kb true 26) 9 (((mv_up (mv_up (mv_up (mv_up I (kb true 26) 5 r1) (kb true 26) 6 r3) (kb true 26) 7 r5) (kb true 26) 8 r7) (kb true 26) 8) - r11)) (kb true 26) 10 (((mv_up (mv_up (mv_up (mv_up (mv_up I (kb true 26) 5 r1) (kb true 26) 6 r3) (kb true 26) 7 r5) (kb true 26) 8 r7) (kb true 26) 9 (((mv_up (mv_up (mv_up (mv_up I (kb true 26) 5 r1) (kb true 26) 6 r3) (kb true 26) 7 r5) (kb true 26) 8 r7) (kb true 26) 8) - r11)) (kb true 26) 9) + r13)) (kb true 26) 10)], 0, 0, kjS f (mv_up (mv_up (mv_up (mv_up (mv_up (mv_up I (kb true 26) 5 r1) (kb true 26) 6 r3) (kb true 26) 7 r5) (kb true 26) 8 r7) (kb true 26) 9 (((mv_up (mv_up (mv_up (mv_up I (kb true 26) 5 r1) (kb true 26) 6 r3) (kb true 26) 7 r5) (kb true 26) 8 r7) (kb true 26) 8) - r11)) (kb true 26) 10 (((mv_up (mv_up (mv_up (mv_up (mv_up I (kb true 26) 5 r1) (kb true 26) 6 r3) (kb true 26) 7 r5) (kb true 26) 8 r7) (kb true 26) 9 (((mv_up (mv_up (mv_up (mv_up I (kb true 26) 5 r1) (kb true 26) 6 r3) (kb true 26) 7 r5) (kb true 26) 8 r7) (kb true 26) 8) - r11)) (kb true 26) 9) + r13)) (mv_up L (kb true 26) 11 r9))) rfl ?_
        obtain ⟨r17, hc18, h⟩ := mv_bd h
        refine mv_G_call (r := [.int ((mv_up (mv_up (mv_up (mv_up (mv_up (mv_up I (kb true 26) 5 r1) (kb true 26) 6 r3) (kb true 26) 7 r5) (kb true 26) 8 r7) (kb true 26) 9 (((mv_up (mv_up (mv_up (mv_up I (kb true 26) 5 r1) (kb true 26) 6 r3) (kb true 26) 7 r5) (kb true 26) 8 r7) (kb true 26) 8) - r11)) (kb true 26) 10 (((mv_up (mv_up (mv_up (mv_up (mv_up I (kb true 26) 5 r1) (kb true 26) 6 r3) (kb true 26) 7 r5) (kb true 26) 8 r7) (kb true 26) 9 (((mv_up (mv_up (mv_up (mv_up I (kb true 26) 5 r1) (kb true 26) 6 r3) (kb true 26) 7 r5) (kb true 26) 8 r7) (kb true 26) 8) - r11)) (kb true 26) 9) + r13)) (kb true 26) 10)]) (kf31_ok _ _ _ _ _ _ _ hc18) rfl rfl rfl rfl rfl (Nat.le_of_ble_eq_true rfl) (Nat.le_of_ble_eq_true rfl) (Nat.le_of_ble_eq_true rfl) ?_
        rintro _ _ ⟨rfl, rfl⟩
        by_cases hc19 : ((mv_up (mv_up (mv_up (mv_up (mv_up (mv_up I (kb true 26) 5 r1) (kb true 26) 6 r3) (kb true 26) 7 r5) (kb true 26) 8 r7) (kb true 26) 9 (((mv_up (mv_up (mv_up (mv_up I (kb true 26) 5 r1) (kb true 26) 6 r3) (kb true 26) 7 r5) (kb true 26) 8 r7) (kb true 26) 8) - r11)) (kb true 26) 10 (((mv_up (mv_up (mv_up (mv_up (mv_up I (kb true 26) 5 r1) (kb true 26) 6 r3) (kb true 26) 7 r5) (kb true 26) 8 r7) (kb true 26) 9 (((mv_up (mv_up (mv_up (mv_up I (kb true 26) 5 r1) (kb true 26) 6 r3) (kb true 26) 7 r5) (kb true 26) 8 r7) (kb true 26) 8) - r11)) (kb true 26) 9) + r13)) (kb true 26) 10) ≤ r17
        · rw [if_pos hc19] at h
          refine mv_G_br (tgt := 147) rfl rfl (by decide) (fun _ => ?_) (fun z => absurd hc19 z)
          obtain rfl := Option.some.inj h
          exact mv_G_ret rfl rfl rfl (Nat.le_refl _) trivial ⟨rfl, rfl⟩
        · rw [if_neg hc19] at h
          refine mv_G_br (tgt := 147) rfl rfl (by decide) (fun z => absurd z hc19) (fun _ => ?_)
          refine mv_G_fg (lc' := [some (.ref (kb true 26)), none, none]) (And.intro rfl trivial) ?_
          exact kf86_141_ok _ _ d _ _ _ h
/-! KindJudge$Flow.heightBehind(II)I on ('b', 26) -/
def kf79 (b : Bool) (v1 : Int32) (v2 : Int32) (I : kjI) (L : kjL) : Option (Int32 × kjI × kjL) :=
  (kf86 b v1 v2 I L).bind fun r1 => some ((r1.1 (kb b 26) 10), r1.1, r1.2)
set_option maxRecDepth 100000 in
set_option maxHeartbeats 4000000 in
theorem kf79_ok (f : Bool) (b : Bool) (v1 : Int32) (v2 : Int32) (I : kjI) (L : kjL) (d : Nat) (r : Int32 × kjI × kjL) (h : kf79 b v1 v2 I L = some r) : mv_C kjP kjSta (d + 5) 79 [.ref (kb b 26), .int v1, .int v2] (kjS f I L) (kjQwi f r) := by
  cases b
  · unfold kf79 at h
    refine mv_C_in kjM_79 (lc := [some (.ref (kb false 26)), some (.int v1), some (.int v2)]) rfl rfl rfl ?_
    refine mv_G_run 3 (F' := (3, [some (.ref (kb false 26)), some (.int v1), some (.int v2)], [.int v2, .int v1, .ref (kb false 26)], 0, 0, kjS f I L)) rfl ?_
    obtain ⟨r1, hc2, h⟩ := mv_bd h
    refine mv_G_call (r := []) (kf86_ok _ _ _ _ _ _ _ _ hc2) rfl rfl rfl rfl rfl (Nat.le_of_ble_eq_true rfl) (Nat.le_of_ble_eq_true rfl) (Nat.le_of_ble_eq_true rfl) ?_
    rintro _ _ ⟨rfl, rfl⟩
    refine mv_G_run 2 (F' := (10, [some (.ref (kb false 26)), some (.int v1), some (.int v2)], [.int (r1.1 (kb false 26) 10)], 0, 0, kjS f r1.1 r1.2)) rfl ?_
    obtain rfl := Option.some.inj h
    exact mv_G_ret rfl rfl rfl (Nat.le_refl _) trivial ⟨rfl, rfl⟩
  · unfold kf79 at h
    refine mv_C_in kjM_79 (lc := [some (.ref (kb true 26)), some (.int v1), some (.int v2)]) rfl rfl rfl ?_
    refine mv_G_run 3 (F' := (3, [some (.ref (kb true 26)), some (.int v1), some (.int v2)], [.int v2, .int v1, .ref (kb true 26)], 0, 0, kjS f I L)) rfl ?_
    obtain ⟨r1, hc2, h⟩ := mv_bd h
    refine mv_G_call (r := []) (kf86_ok _ _ _ _ _ _ _ _ hc2) rfl rfl rfl rfl rfl (Nat.le_of_ble_eq_true rfl) (Nat.le_of_ble_eq_true rfl) (Nat.le_of_ble_eq_true rfl) ?_
    rintro _ _ ⟨rfl, rfl⟩
    refine mv_G_run 2 (F' := (10, [some (.ref (kb true 26)), some (.int v1), some (.int v2)], [.int (r1.1 (kb true 26) 10)], 0, 0, kjS f r1.1 r1.2)) rfl ?_
    obtain rfl := Option.some.inj h
    exact mv_G_ret rfl rfl rfl (Nat.le_refl _) trivial ⟨rfl, rfl⟩
/-! KindJudge.highestBehind(I)I on ('c', 0) -/
def kf17_51 (f : Bool) (N : Nat) (k17 : Int32 → Int32 → Int32 → Int32 → kjI → kjL → Option (Int32 × kjI × kjL)) (v1 : Int32) (v2 : Int32) (v3 : Int32) (v4 : Int32) (I : kjI) (L : kjL) : Option (Int32 × kjI × kjL) :=
  k17 v1 v2 v3 (v4 + (1 : Int32)) I L
set_option maxRecDepth 100000 in
set_option maxHeartbeats 4000000 in
theorem kf17_51_ok (f : Bool) (N : Nat) (k17 : Int32 → Int32 → Int32 → Int32 → kjI → kjL → Option (Int32 × kjI × kjL)) (d : Nat) (hk17 : ∀ (v1 : Int32) (v2 : Int32) (v3 : Int32) (v4 : Int32) (I : kjI) (L : kjL) (r : Int32 × kjI × kjL), k17 v1 v2 v3 v4 I L = some r → mv_G kjP kjSta (mv_C kjP kjSta (d + 5)) kjM_17 (kjQwi f r) (17, [some (.ref 0), some (.int v1), some (.int v2), some (.int v3), some (.int v4)], [], 0, 0, kjS f I L)) (v1 : Int32) (v2 : Int32) (v3 : Int32) (v4 : Int32) (I : kjI) (L : kjL) (r : Int32 × kjI × kjL) (h : kf17_51 f N k17 v1 v2 v3 v4 I L = some r) : mv_G kjP kjSta (mv_C kjP kjSta (d + 5)) kjM_17 (kjQwi f r) (51, [some (.ref 0), some (.int v1), some (.int v2), some (.int v3), some (.int v4)], [], 0, 0, kjS f I L) := by
  cases f
  · unfold kf17_51 at h
    refine mv_G_run 2 (F' := (17, [some (.ref 0), some (.int v1), some (.int v2), some (.int v3), some (.int (v4 + (1 : Int32)))], [], 0, 0, kjS false I L)) rfl ?_
    exact hk17 v1 v2 v3 (v4 + (1 : Int32)) I L _ h
  · unfold kf17_51 at h
    refine mv_G_run 2 (F' := (17, [some (.ref 0), some (.int v1), some (.int v2), some (.int v3), some (.int (v4 + (1 : Int32)))], [], 0, 0, kjS true I L)) rfl ?_
    exact hk17 v1 v2 v3 (v4 + (1 : Int32)) I L _ h
def kf17_17 (f : Bool) (N : Nat) : Nat → Int32 → Int32 → Int32 → Int32 → kjI → kjL → Option (Int32 × kjI × kjL)
  | 0, _, _, _, _, _, _ => none
  | n + 1, v1, v2, v3, v4, I, L => if v3 ≤ v4 then (some (v2, I, L)) else ((kf15 f I L v1 v4).bind fun r2 => if r2 = 0 then (kf17_51 f N (fun v1 v2 v3 v4 I L => kf17_17 f N n v1 v2 v3 v4 I L) v1 v2 v3 v4 I L) else ((kf79 f v1 v4 I L).bind fun r5 => kf17_51 f N (fun v1 v2 v3 v4 I L => kf17_17 f N n v1 v2 v3 v4 I L) v1 (if v2 < r5.1 then r5.1 else v2) v3 v4 r5.2.1 r5.2.2))
set_option maxRecDepth 100000 in
set_option maxHeartbeats 4000000 in
theorem kf17_17_ok (f : Bool) (N : Nat) (d : Nat)  : ∀ (n : Nat) (v1 : Int32) (v2 : Int32) (v3 : Int32) (v4 : Int32) (I : kjI) (L : kjL) (r : Int32 × kjI × kjL), kf17_17 f N n v1 v2 v3 v4 I L = some r → mv_G kjP kjSta (mv_C kjP kjSta (d + 5)) kjM_17 (kjQwi f r) (17, [some (.ref 0), some (.int v1), some (.int v2), some (.int v3), some (.int v4)], [], 0, 0, kjS f I L) := by
  cases f
  · intro n
    induction n with
    | zero => intro v1 v2 v3 v4 I L r h; cases h
    | succ n ih =>
      have hk17 := ih
      intro v1 v2 v3 v4 I L r h
      unfold kf17_17 at h
      refine mv_G_run 2 (F' := (20, [some (.ref 0), some (.int v1), some (.int v2), some (.int v3), some (.int v4)], [.int v3, .int v4], 0, 0, kjS false I L)) rfl ?_
      by_cases hc1 : v3 ≤ v4
      · rw [if_pos hc1] at h
        refine mv_G_br (tgt := 57) rfl rfl (by decide) (fun _ => ?_) (fun z => absurd hc1 z)
        refine mv_G_run 1 (F' := (58, [some (.ref 0), some (.int v1), some (.int v2), some (.int v3), some (.int v4)], [.int v2], 0, 0, kjS false I L)) rfl ?_
        obtain rfl := Option.some.inj h
        exact mv_G_ret rfl rfl rfl (Nat.le_refl _) trivial ⟨rfl, rfl⟩
      · rw [if_neg hc1] at h
        refine mv_G_br (tgt := 57) rfl rfl (by decide) (fun z => absurd z hc1) (fun _ => ?_)
        refine mv_G_run 3 (F' := (27, [some (.ref 0), some (.int v1), some (.int v2), some (.int v3), some (.int v4)], [.int v4, .int v1, .ref 0], 0, 0, kjS false I L)) rfl ?_
        obtain ⟨r2, hc3, h⟩ := mv_bd h
        refine mv_G_call (r := []) (kf15_ok _ _ _ _ _ _ _ hc3) rfl rfl rfl rfl rfl (Nat.le_of_ble_eq_true rfl) (Nat.le_of_ble_eq_true rfl) (Nat.le_of_ble_eq_true rfl) ?_
        rintro _ _ ⟨rfl, rfl⟩
        by_cases hc4 : r2 = 0
        · rw [if_pos hc4] at h
          refine mv_G_br (tgt := 51) rfl rfl (by decide) (fun _ => ?_) (fun z => absurd hc4 z)
          exact kf17_51_ok _ _ _ d hk17 _ _ _ _ _ _ _ h
        · rw [if_neg hc4] at h
          refine mv_G_br (tgt := 51) rfl rfl (by decide) (fun z => absurd z hc4) (fun _ => ?_)
          refine mv_G_run 6 (F' := (44, [some (.ref 0), some (.int v1), some (.int v2), some (.int v3), some (.int v4)], [.int v4, .int v1, .ref (kb false 26), .int v2], 0, 0, kjS false I L)) rfl ?_
          obtain ⟨r5, hc6, h⟩ := mv_bd h
          refine mv_G_call (r := [.int v2]) (kf79_ok _ _ _ _ _ _ _ _ hc6) rfl rfl rfl rfl rfl (Nat.le_of_ble_eq_true rfl) (Nat.le_of_ble_eq_true rfl) (Nat.le_of_ble_eq_true rfl) ?_
          rintro _ _ ⟨rfl, rfl⟩
          refine mv_G_run 2 (F' := (51, [some (.ref 0), some (.int v1), some (.int (if v2 < r5.1 then r5.1 else v2)), some (.int v3), some (.int v4)], [], 0, 0, kjS false r5.2.1 r5.2.2)) rfl ?_
          exact kf17_51_ok _ _ _ d hk17 _ _ _ _ _ _ _ h
  · intro n
    induction n with
    | zero => intro v1 v2 v3 v4 I L r h; cases h
    | succ n ih =>
      have hk17 := ih
      intro v1 v2 v3 v4 I L r h
      unfold kf17_17 at h
      refine mv_G_run 2 (F' := (20, [some (.ref 0), some (.int v1), some (.int v2), some (.int v3), some (.int v4)], [.int v3, .int v4], 0, 0, kjS true I L)) rfl ?_
      by_cases hc1 : v3 ≤ v4
      · rw [if_pos hc1] at h
        refine mv_G_br (tgt := 57) rfl rfl (by decide) (fun _ => ?_) (fun z => absurd hc1 z)
        refine mv_G_run 1 (F' := (58, [some (.ref 0), some (.int v1), some (.int v2), some (.int v3), some (.int v4)], [.int v2], 0, 0, kjS true I L)) rfl ?_
        obtain rfl := Option.some.inj h
        exact mv_G_ret rfl rfl rfl (Nat.le_refl _) trivial ⟨rfl, rfl⟩
      · rw [if_neg hc1] at h
        refine mv_G_br (tgt := 57) rfl rfl (by decide) (fun z => absurd z hc1) (fun _ => ?_)
        refine mv_G_run 3 (F' := (27, [some (.ref 0), some (.int v1), some (.int v2), some (.int v3), some (.int v4)], [.int v4, .int v1, .ref 0], 0, 0, kjS true I L)) rfl ?_
        obtain ⟨r2, hc3, h⟩ := mv_bd h
        refine mv_G_call (r := []) (kf15_ok _ _ _ _ _ _ _ hc3) rfl rfl rfl rfl rfl (Nat.le_of_ble_eq_true rfl) (Nat.le_of_ble_eq_true rfl) (Nat.le_of_ble_eq_true rfl) ?_
        rintro _ _ ⟨rfl, rfl⟩
        by_cases hc4 : r2 = 0
        · rw [if_pos hc4] at h
          refine mv_G_br (tgt := 51) rfl rfl (by decide) (fun _ => ?_) (fun z => absurd hc4 z)
          exact kf17_51_ok _ _ _ d hk17 _ _ _ _ _ _ _ h
        · rw [if_neg hc4] at h
          refine mv_G_br (tgt := 51) rfl rfl (by decide) (fun z => absurd z hc4) (fun _ => ?_)
          refine mv_G_run 6 (F' := (44, [some (.ref 0), some (.int v1), some (.int v2), some (.int v3), some (.int v4)], [.int v4, .int v1, .ref (kb true 26), .int v2], 0, 0, kjS true I L)) rfl ?_
          obtain ⟨r5, hc6, h⟩ := mv_bd h
          refine mv_G_call (r := [.int v2]) (kf79_ok _ _ _ _ _ _ _ _ hc6) rfl rfl rfl rfl rfl (Nat.le_of_ble_eq_true rfl) (Nat.le_of_ble_eq_true rfl) (Nat.le_of_ble_eq_true rfl) ?_
          rintro _ _ ⟨rfl, rfl⟩
          refine mv_G_run 2 (F' := (51, [some (.ref 0), some (.int v1), some (.int (if v2 < r5.1 then r5.1 else v2)), some (.int v3), some (.int v4)], [], 0, 0, kjS true r5.2.1 r5.2.2)) rfl ?_
          exact kf17_51_ok _ _ _ d hk17 _ _ _ _ _ _ _ h
def kf17 (f : Bool) (N : Nat) (v1 : Int32) (I : kjI) (L : kjL) : Option (Int32 × kjI × kjL) :=
  (kf32 f I L v1).bind fun r1 => kf17_17 f N N v1 (0 : Int32) r1 (0 : Int32) I L
set_option maxRecDepth 100000 in
set_option maxHeartbeats 4000000 in
theorem kf17_ok (f : Bool) (N : Nat) (v1 : Int32) (I : kjI) (L : kjL) (d : Nat) (r : Int32 × kjI × kjL) (h : kf17 f N v1 I L = some r) : mv_C kjP kjSta (d + 6) 17 [.ref 0, .int v1] (kjS f I L) (kjQwi f r) := by
  cases f
  · unfold kf17 at h
    refine mv_C_in kjM_17 (lc := [some (.ref 0), some (.int v1), none, none, none]) rfl rfl rfl ?_
    refine mv_G_run 6 (F' := (10, [some (.ref 0), some (.int v1), some (.int (0 : Int32)), none, none], [.int v1, .ref (kb false 4)], 0, 0, kjS false I L)) rfl ?_
    obtain ⟨r1, hc2, h⟩ := mv_bd h
    refine mv_G_call (r := []) (kf32_ok _ _ _ _ _ _ _ hc2) rfl rfl rfl rfl rfl (Nat.le_of_ble_eq_true rfl) (Nat.le_of_ble_eq_true rfl) (Nat.le_of_ble_eq_true rfl) ?_
    rintro _ _ ⟨rfl, rfl⟩
    refine mv_G_run 3 (F' := (17, [some (.ref 0), some (.int v1), some (.int (0 : Int32)), some (.int r1), some (.int (0 : Int32))], [], 0, 0, kjS false I L)) rfl ?_
    exact kf17_17_ok _ _ d _ _ _ _ _ _ _ _ h
  · unfold kf17 at h
    refine mv_C_in kjM_17 (lc := [some (.ref 0), some (.int v1), none, none, none]) rfl rfl rfl ?_
    refine mv_G_run 6 (F' := (10, [some (.ref 0), some (.int v1), some (.int (0 : Int32)), none, none], [.int v1, .ref (kb true 4)], 0, 0, kjS true I L)) rfl ?_
    obtain ⟨r1, hc2, h⟩ := mv_bd h
    refine mv_G_call (r := []) (kf32_ok _ _ _ _ _ _ _ hc2) rfl rfl rfl rfl rfl (Nat.le_of_ble_eq_true rfl) (Nat.le_of_ble_eq_true rfl) (Nat.le_of_ble_eq_true rfl) ?_
    rintro _ _ ⟨rfl, rfl⟩
    refine mv_G_run 3 (F' := (17, [some (.ref 0), some (.int v1), some (.int (0 : Int32)), some (.int r1), some (.int (0 : Int32))], [], 0, 0, kjS true I L)) rfl ?_
    exact kf17_17_ok _ _ d _ _ _ _ _ _ _ _ h
/-! KindJudge.instructions(IZ)I on ('c', 0) -/
def kf16_55 (f : Bool) (N : Nat) (I : kjI) (L : kjL) (k18 : Int32 → Int32 → Int32 → Int32 → Int32 → Option (Int32)) (v1 : Int32) (v2 : Int32) (v3 : Int32) (v4 : Int32) (v5 : Int32) : Option (Int32) :=
  k18 v1 v2 v3 v4 (v5 + (1 : Int32))
set_option maxRecDepth 100000 in
set_option maxHeartbeats 4000000 in
theorem kf16_55_ok (f : Bool) (N : Nat) (I : kjI) (L : kjL) (k18 : Int32 → Int32 → Int32 → Int32 → Int32 → Option (Int32)) (d : Nat) (hk18 : ∀ (v1 : Int32) (v2 : Int32) (v3 : Int32) (v4 : Int32) (v5 : Int32) (r : Int32), k18 v1 v2 v3 v4 v5 = some r → mv_G kjP kjSta (mv_C kjP kjSta (d + 4)) kjM_16 (kjQi f I L r) (18, [some (.ref 0), some (.int v1), some (.int v2), some (.int v3), some (.int v4), some (.int v5)], [], 0, 0, kjS f I L)) (v1 : Int32) (v2 : Int32) (v3 : Int32) (v4 : Int32) (v5 : Int32) (r : Int32) (h : kf16_55 f N I L k18 v1 v2 v3 v4 v5 = some r) : mv_G kjP kjSta (mv_C kjP kjSta (d + 4)) kjM_16 (kjQi f I L r) (55, [some (.ref 0), some (.int v1), some (.int v2), some (.int v3), some (.int v4), some (.int v5)], [], 0, 0, kjS f I L) := by
  cases f
  · unfold kf16_55 at h
    refine mv_G_run 2 (F' := (18, [some (.ref 0), some (.int v1), some (.int v2), some (.int v3), some (.int v4), some (.int (v5 + (1 : Int32)))], [], 0, 0, kjS false I L)) rfl ?_
    exact hk18 v1 v2 v3 v4 (v5 + (1 : Int32)) _ h
  · unfold kf16_55 at h
    refine mv_G_run 2 (F' := (18, [some (.ref 0), some (.int v1), some (.int v2), some (.int v3), some (.int v4), some (.int (v5 + (1 : Int32)))], [], 0, 0, kjS true I L)) rfl ?_
    exact hk18 v1 v2 v3 v4 (v5 + (1 : Int32)) _ h
def kf16_18 (f : Bool) (N : Nat) (I : kjI) (L : kjL) : Nat → Int32 → Int32 → Int32 → Int32 → Int32 → Option (Int32)
  | 0, _, _, _, _, _ => none
  | n + 1, v1, v2, v3, v4, v5 => if v4 ≤ v5 then (some v3) else ((kf66 f I L v1 v5).bind fun r2 => if r2 = 0 then (kf16_55 f N I L (fun v1 v2 v3 v4 v5 => kf16_18 f N I L n v1 v2 v3 v4 v5) v1 v2 v3 v4 v5) else ((kf15 f I L v1 v5).bind fun r5 => if ¬ r5 = v2 then (kf16_55 f N I L (fun v1 v2 v3 v4 v5 => kf16_18 f N I L n v1 v2 v3 v4 v5) v1 v2 v3 v4 v5) else (kf16_55 f N I L (fun v1 v2 v3 v4 v5 => kf16_18 f N I L n v1 v2 v3 v4 v5) v1 v2 (v3 + (1 : Int32)) v4 v5)))
set_option maxRecDepth 100000 in
set_option maxHeartbeats 4000000 in
theorem kf16_18_ok (f : Bool) (N : Nat) (I : kjI) (L : kjL) (d : Nat)  : ∀ (n : Nat) (v1 : Int32) (v2 : Int32) (v3 : Int32) (v4 : Int32) (v5 : Int32) (r : Int32), kf16_18 f N I L n v1 v2 v3 v4 v5 = some r → mv_G kjP kjSta (mv_C kjP kjSta (d + 4)) kjM_16 (kjQi f I L r) (18, [some (.ref 0), some (.int v1), some (.int v2), some (.int v3), some (.int v4), some (.int v5)], [], 0, 0, kjS f I L) := by
  cases f
  · intro n
    induction n with
    | zero => intro v1 v2 v3 v4 v5 r h; cases h
    | succ n ih =>
      have hk18 := ih
      intro v1 v2 v3 v4 v5 r h
      unfold kf16_18 at h
      refine mv_G_run 2 (F' := (22, [some (.ref 0), some (.int v1), some (.int v2), some (.int v3), some (.int v4), some (.int v5)], [.int v4, .int v5], 0, 0, kjS false I L)) rfl ?_
      by_cases hc1 : v4 ≤ v5
      · rw [if_pos hc1] at h
        refine mv_G_br (tgt := 61) rfl rfl (by decide) (fun _ => ?_) (fun z => absurd hc1 z)
        refine mv_G_run 1 (F' := (62, [some (.ref 0), some (.int v1), some (.int v2), some (.int v3), some (.int v4), some (.int v5)], [.int v3], 0, 0, kjS false I L)) rfl ?_
        obtain rfl := Option.some.inj h
        exact mv_G_ret rfl rfl rfl (Nat.le_refl _) trivial ⟨rfl, rfl⟩
      · rw [if_neg hc1] at h
        refine mv_G_br (tgt := 61) rfl rfl (by decide) (fun z => absurd z hc1) (fun _ => ?_)
        refine mv_G_run 5 (F' := (35, [some (.ref 0), some (.int v1), some (.int v2), some (.int v3), some (.int v4), some (.int v5)], [.int v5, .int v1, .ref (kb false 24)], 0, 0, kjS false I L)) rfl ?_
        obtain ⟨r2, hc3, h⟩ := mv_bd h
        refine mv_G_call (r := []) (kf66_ok _ _ _ _ _ _ _ _ hc3) rfl rfl rfl rfl rfl (Nat.le_of_ble_eq_true rfl) (Nat.le_of_ble_eq_true rfl) (Nat.le_of_ble_eq_true rfl) ?_
        rintro _ _ ⟨rfl, rfl⟩
        by_cases hc4 : r2 = 0
        · rw [if_pos hc4] at h
          refine mv_G_br (tgt := 55) rfl rfl (by decide) (fun _ => ?_) (fun z => absurd hc4 z)
          exact kf16_55_ok _ _ _ _ _ d hk18 _ _ _ _ _ _ h
        · rw [if_neg hc4] at h
          refine mv_G_br (tgt := 55) rfl rfl (by decide) (fun z => absurd z hc4) (fun _ => ?_)
          refine mv_G_run 3 (F' := (45, [some (.ref 0), some (.int v1), some (.int v2), some (.int v3), some (.int v4), some (.int v5)], [.int v5, .int v1, .ref 0], 0, 0, kjS false I L)) rfl ?_
          obtain ⟨r5, hc6, h⟩ := mv_bd h
          refine mv_G_call (r := []) (kf15_ok _ _ _ _ _ _ _ hc6) rfl rfl rfl rfl rfl (Nat.le_of_ble_eq_true rfl) (Nat.le_of_ble_eq_true rfl) (Nat.le_of_ble_eq_true rfl) ?_
          rintro _ _ ⟨rfl, rfl⟩
          refine mv_G_run 1 (F' := (49, [some (.ref 0), some (.int v1), some (.int v2), some (.int v3), some (.int v4), some (.int v5)], [.int v2, .int r5], 0, 0, kjS false I L)) rfl ?_
          by_cases hc7 : ¬ r5 = v2
          · rw [if_pos hc7] at h
            refine mv_G_br (tgt := 55) rfl rfl (by decide) (fun _ => ?_) (fun z => absurd hc7 z)
            exact kf16_55_ok _ _ _ _ _ d hk18 _ _ _ _ _ _ h
          · rw [if_neg hc7] at h
            refine mv_G_br (tgt := 55) rfl rfl (by decide) (fun z => absurd z hc7) (fun _ => ?_)
            refine mv_G_run 1 (F' := (55, [some (.ref 0), some (.int v1), some (.int v2), some (.int (v3 + (1 : Int32))), some (.int v4), some (.int v5)], [], 0, 0, kjS false I L)) rfl ?_
            exact kf16_55_ok _ _ _ _ _ d hk18 _ _ _ _ _ _ h
  · intro n
    induction n with
    | zero => intro v1 v2 v3 v4 v5 r h; cases h
    | succ n ih =>
      have hk18 := ih
      intro v1 v2 v3 v4 v5 r h
      unfold kf16_18 at h
      refine mv_G_run 2 (F' := (22, [some (.ref 0), some (.int v1), some (.int v2), some (.int v3), some (.int v4), some (.int v5)], [.int v4, .int v5], 0, 0, kjS true I L)) rfl ?_
      by_cases hc1 : v4 ≤ v5
      · rw [if_pos hc1] at h
        refine mv_G_br (tgt := 61) rfl rfl (by decide) (fun _ => ?_) (fun z => absurd hc1 z)
        refine mv_G_run 1 (F' := (62, [some (.ref 0), some (.int v1), some (.int v2), some (.int v3), some (.int v4), some (.int v5)], [.int v3], 0, 0, kjS true I L)) rfl ?_
        obtain rfl := Option.some.inj h
        exact mv_G_ret rfl rfl rfl (Nat.le_refl _) trivial ⟨rfl, rfl⟩
      · rw [if_neg hc1] at h
        refine mv_G_br (tgt := 61) rfl rfl (by decide) (fun z => absurd z hc1) (fun _ => ?_)
        refine mv_G_run 5 (F' := (35, [some (.ref 0), some (.int v1), some (.int v2), some (.int v3), some (.int v4), some (.int v5)], [.int v5, .int v1, .ref (kb true 24)], 0, 0, kjS true I L)) rfl ?_
        obtain ⟨r2, hc3, h⟩ := mv_bd h
        refine mv_G_call (r := []) (kf66_ok _ _ _ _ _ _ _ _ hc3) rfl rfl rfl rfl rfl (Nat.le_of_ble_eq_true rfl) (Nat.le_of_ble_eq_true rfl) (Nat.le_of_ble_eq_true rfl) ?_
        rintro _ _ ⟨rfl, rfl⟩
        by_cases hc4 : r2 = 0
        · rw [if_pos hc4] at h
          refine mv_G_br (tgt := 55) rfl rfl (by decide) (fun _ => ?_) (fun z => absurd hc4 z)
          exact kf16_55_ok _ _ _ _ _ d hk18 _ _ _ _ _ _ h
        · rw [if_neg hc4] at h
          refine mv_G_br (tgt := 55) rfl rfl (by decide) (fun z => absurd z hc4) (fun _ => ?_)
          refine mv_G_run 3 (F' := (45, [some (.ref 0), some (.int v1), some (.int v2), some (.int v3), some (.int v4), some (.int v5)], [.int v5, .int v1, .ref 0], 0, 0, kjS true I L)) rfl ?_
          obtain ⟨r5, hc6, h⟩ := mv_bd h
          refine mv_G_call (r := []) (kf15_ok _ _ _ _ _ _ _ hc6) rfl rfl rfl rfl rfl (Nat.le_of_ble_eq_true rfl) (Nat.le_of_ble_eq_true rfl) (Nat.le_of_ble_eq_true rfl) ?_
          rintro _ _ ⟨rfl, rfl⟩
          refine mv_G_run 1 (F' := (49, [some (.ref 0), some (.int v1), some (.int v2), some (.int v3), some (.int v4), some (.int v5)], [.int v2, .int r5], 0, 0, kjS true I L)) rfl ?_
          by_cases hc7 : ¬ r5 = v2
          · rw [if_pos hc7] at h
            refine mv_G_br (tgt := 55) rfl rfl (by decide) (fun _ => ?_) (fun z => absurd hc7 z)
            exact kf16_55_ok _ _ _ _ _ d hk18 _ _ _ _ _ _ h
          · rw [if_neg hc7] at h
            refine mv_G_br (tgt := 55) rfl rfl (by decide) (fun z => absurd z hc7) (fun _ => ?_)
            refine mv_G_run 1 (F' := (55, [some (.ref 0), some (.int v1), some (.int v2), some (.int (v3 + (1 : Int32))), some (.int v4), some (.int v5)], [], 0, 0, kjS true I L)) rfl ?_
            exact kf16_55_ok _ _ _ _ _ d hk18 _ _ _ _ _ _ h
def kf16 (f : Bool) (N : Nat) (I : kjI) (L : kjL) (v1 : Int32) (v2 : Int32) : Option (Int32) :=
  (kf32 f I L v1).bind fun r1 => kf16_18 f N I L N v1 v2 (0 : Int32) r1 (0 : Int32)
set_option maxRecDepth 100000 in
set_option maxHeartbeats 4000000 in
theorem kf16_ok (f : Bool) (N : Nat) (I : kjI) (L : kjL) (v1 : Int32) (v2 : Int32) (d : Nat) (r : Int32) (h : kf16 f N I L v1 v2 = some r) : mv_C kjP kjSta (d + 5) 16 [.ref 0, .int v1, .int v2] (kjS f I L) (kjQi f I L r) := by
  cases f
  · unfold kf16 at h
    refine mv_C_in kjM_16 (lc := [some (.ref 0), some (.int v1), some (.int v2), none, none, none]) rfl rfl rfl ?_
    refine mv_G_run 6 (F' := (10, [some (.ref 0), some (.int v1), some (.int v2), some (.int (0 : Int32)), none, none], [.int v1, .ref (kb false 4)], 0, 0, kjS false I L)) rfl ?_
    obtain ⟨r1, hc2, h⟩ := mv_bd h
    refine mv_G_call (r := []) (kf32_ok _ _ _ _ _ _ _ hc2) rfl rfl rfl rfl rfl (Nat.le_of_ble_eq_true rfl) (Nat.le_of_ble_eq_true rfl) (Nat.le_of_ble_eq_true rfl) ?_
    rintro _ _ ⟨rfl, rfl⟩
    refine mv_G_run 3 (F' := (18, [some (.ref 0), some (.int v1), some (.int v2), some (.int (0 : Int32)), some (.int r1), some (.int (0 : Int32))], [], 0, 0, kjS false I L)) rfl ?_
    exact kf16_18_ok _ _ _ _ d _ _ _ _ _ _ _ h
  · unfold kf16 at h
    refine mv_C_in kjM_16 (lc := [some (.ref 0), some (.int v1), some (.int v2), none, none, none]) rfl rfl rfl ?_
    refine mv_G_run 6 (F' := (10, [some (.ref 0), some (.int v1), some (.int v2), some (.int (0 : Int32)), none, none], [.int v1, .ref (kb true 4)], 0, 0, kjS true I L)) rfl ?_
    obtain ⟨r1, hc2, h⟩ := mv_bd h
    refine mv_G_call (r := []) (kf32_ok _ _ _ _ _ _ _ hc2) rfl rfl rfl rfl rfl (Nat.le_of_ble_eq_true rfl) (Nat.le_of_ble_eq_true rfl) (Nat.le_of_ble_eq_true rfl) ?_
    rintro _ _ ⟨rfl, rfl⟩
    refine mv_G_run 3 (F' := (18, [some (.ref 0), some (.int v1), some (.int v2), some (.int (0 : Int32)), some (.int r1), some (.int (0 : Int32))], [], 0, 0, kjS true I L)) rfl ?_
    exact kf16_18_ok _ _ _ _ d _ _ _ _ _ _ _ h
/-! KindJudge.count(II)I on ('c', 0) -/
def kf7_52 (f : Bool) (N : Nat) (s1 : Int32) (s2 : Int32) (I : kjI) (L : kjL) : Option (Int32 × kjI × kjL) :=
  (kf16 f N I L s1 s2).bind fun r1 => some (r1, I, L)
set_option maxRecDepth 100000 in
set_option maxHeartbeats 4000000 in
theorem kf7_52_ok (f : Bool) (N : Nat) (d : Nat)  (s1 : Int32) (s2 : Int32) (I : kjI) (L : kjL) (r : Int32 × kjI × kjL) (h : kf7_52 f N s1 s2 I L = some r) : mv_G kjP kjSta (mv_C kjP kjSta (d + 6)) kjM_7 (kjQwi f r) (52, [none, none, none], [.int s2, .int s1, .ref 0], 0, 0, kjS f I L) := by
  cases f
  · unfold kf7_52 at h
    obtain ⟨r1, hc2, h⟩ := mv_bd h
    refine mv_G_call (r := []) (kf16_ok _ _ _ _ _ _ _ _ hc2) rfl rfl rfl rfl rfl (Nat.le_of_ble_eq_true rfl) (Nat.le_of_ble_eq_true rfl) (Nat.le_of_ble_eq_true rfl) ?_
    rintro _ _ ⟨rfl, rfl⟩
    obtain rfl := Option.some.inj h
    exact mv_G_ret rfl rfl rfl (Nat.le_refl _) trivial ⟨rfl, rfl⟩
  · unfold kf7_52 at h
    obtain ⟨r1, hc2, h⟩ := mv_bd h
    refine mv_G_call (r := []) (kf16_ok _ _ _ _ _ _ _ _ hc2) rfl rfl rfl rfl rfl (Nat.le_of_ble_eq_true rfl) (Nat.le_of_ble_eq_true rfl) (Nat.le_of_ble_eq_true rfl) ?_
    rintro _ _ ⟨rfl, rfl⟩
    obtain rfl := Option.some.inj h
    exact mv_G_ret rfl rfl rfl (Nat.le_refl _) trivial ⟨rfl, rfl⟩
def kf7 (f : Bool) (N : Nat) (v1 : Int32) (v2 : Int32) (I : kjI) (L : kjL) : Option (Int32 × kjI × kjL) :=
  (kf49 f I L v1).bind fun r1 => if r1 = 0 then (some ((-1 : Int32), I, L)) else (if v2 < 0 then (some ((-1 : Int32), I, L)) else (if v2 ≤ (2 : Int32) then (if ¬ v2 = (2 : Int32) then (if ¬ v2 = 0 then (kf7_52 f N v1 (0 : Int32) I L) else (kf7_52 f N v1 (1 : Int32) I L)) else ((kf17 f N v1 I L).bind fun r8 => some (r8.1, r8.2.1, r8.2.2))) else (some ((-1 : Int32), I, L))))
set_option maxRecDepth 100000 in
set_option maxHeartbeats 4000000 in
theorem kf7_ok (f : Bool) (N : Nat) (v1 : Int32) (v2 : Int32) (I : kjI) (L : kjL) (d : Nat) (r : Int32 × kjI × kjL) (h : kf7 f N v1 v2 I L = some r) : mv_C kjP kjSta (d + 7) 7 [.ref 0, .int v1, .int v2] (kjS f I L) (kjQwi f r) := by
  cases f
  · unfold kf7 at h
    refine mv_C_in kjM_7 (lc := [some (.ref 0), some (.int v1), some (.int v2)]) rfl rfl rfl ?_
    refine mv_G_run 5 (F' := (11, [some (.ref 0), some (.int v1), some (.int v2)], [.int v1, .ref (kb false 14)], 0, 0, kjS false I L)) rfl ?_
    obtain ⟨r1, hc2, h⟩ := mv_bd h
    refine mv_G_call (r := []) (kf49_ok _ _ _ _ _ _ _ hc2) rfl rfl rfl rfl rfl (Nat.le_of_ble_eq_true rfl) (Nat.le_of_ble_eq_true rfl) (Nat.le_of_ble_eq_true rfl) ?_
    rintro _ _ ⟨rfl, rfl⟩
    by_cases hc3 : r1 = 0
    · rw [if_pos hc3] at h
      refine mv_G_br (tgt := 26) rfl rfl (by decide) (fun _ => ?_) (fun z => absurd hc3 z)
      refine mv_G_run 1 (F' := (27, [some (.ref 0), some (.int v1), some (.int v2)], [.int (-1 : Int32)], 0, 0, kjS false I L)) rfl ?_
      obtain rfl := Option.some.inj h
      exact mv_G_ret rfl rfl rfl (Nat.le_refl _) trivial ⟨rfl, rfl⟩
    · rw [if_neg hc3] at h
      refine mv_G_br (tgt := 26) rfl rfl (by decide) (fun z => absurd z hc3) (fun _ => ?_)
      refine mv_G_run 1 (F' := (18, [some (.ref 0), some (.int v1), some (.int v2)], [.int v2], 0, 0, kjS false I L)) rfl ?_
      by_cases hc4 : v2 < 0
      · rw [if_pos hc4] at h
        refine mv_G_br (tgt := 26) rfl rfl (by decide) (fun _ => ?_) (fun z => absurd hc4 z)
        refine mv_G_run 1 (F' := (27, [some (.ref 0), some (.int v1), some (.int v2)], [.int (-1 : Int32)], 0, 0, kjS false I L)) rfl ?_
        obtain rfl := Option.some.inj h
        exact mv_G_ret rfl rfl rfl (Nat.le_refl _) trivial ⟨rfl, rfl⟩
      · rw [if_neg hc4] at h
        refine mv_G_br (tgt := 26) rfl rfl (by decide) (fun z => absurd z hc4) (fun _ => ?_)
        refine mv_G_run 2 (F' := (23, [some (.ref 0), some (.int v1), some (.int v2)], [.int (2 : Int32), .int v2], 0, 0, kjS false I L)) rfl ?_
        by_cases hc5 : v2 ≤ (2 : Int32)
        · rw [if_pos hc5] at h
          refine mv_G_br (tgt := 28) rfl rfl (by decide) (fun _ => ?_) (fun z => absurd hc5 z)
          refine mv_G_run 2 (F' := (30, [some (.ref 0), some (.int v1), some (.int v2)], [.int (2 : Int32), .int v2], 0, 0, kjS false I L)) rfl ?_
          by_cases hc6 : ¬ v2 = (2 : Int32)
          · rw [if_pos hc6] at h
            refine mv_G_br (tgt := 41) rfl rfl (by decide) (fun _ => ?_) (fun z => absurd hc6 z)
            refine mv_G_run 3 (F' := (44, [some (.ref 0), some (.int v1), some (.int v2)], [.int v2, .int v1, .ref 0], 0, 0, kjS false I L)) rfl ?_
            by_cases hc7 : ¬ v2 = 0
            · rw [if_pos hc7] at h
              refine mv_G_br (tgt := 51) rfl rfl (by decide) (fun _ => ?_) (fun z => absurd hc7 z)
              refine mv_G_run 1 (F' := (52, [some (.ref 0), some (.int v1), some (.int v2)], [.int (0 : Int32), .int v1, .ref 0], 0, 0, kjS false I L)) rfl ?_
              refine mv_G_fg (lc' := [none, none, none]) (trivial) ?_
              exact kf7_52_ok _ _ d _ _ _ _ _ h
            · rw [if_neg hc7] at h
              refine mv_G_br (tgt := 51) rfl rfl (by decide) (fun z => absurd z hc7) (fun _ => ?_)
              refine mv_G_run 2 (F' := (52, [some (.ref 0), some (.int v1), some (.int v2)], [.int (1 : Int32), .int v1, .ref 0], 0, 0, kjS false I L)) rfl ?_
              refine mv_G_fg (lc' := [none, none, none]) (trivial) ?_
              exact kf7_52_ok _ _ d _ _ _ _ _ h
          · rw [if_neg hc6] at h
            refine mv_G_br (tgt := 41) rfl rfl (by decide) (fun z => absurd z hc6) (fun _ => ?_)
            refine mv_G_run 2 (F' := (35, [some (.ref 0), some (.int v1), some (.int v2)], [.int v1, .ref 0], 0, 0, kjS false I L)) rfl ?_
            obtain ⟨r8, hc9, h⟩ := mv_bd h
            refine mv_G_call (r := []) (kf17_ok _ _ _ _ _ _ _ hc9) rfl rfl rfl rfl rfl (Nat.le_of_ble_eq_true rfl) (Nat.le_of_ble_eq_true rfl) (Nat.le_of_ble_eq_true rfl) ?_
            rintro _ _ ⟨rfl, rfl⟩
            refine mv_G_run 1 (F' := (55, [some (.ref 0), some (.int v1), some (.int v2)], [.int r8.1], 0, 0, kjS false r8.2.1 r8.2.2)) rfl ?_
            obtain rfl := Option.some.inj h
            exact mv_G_ret rfl rfl rfl (Nat.le_refl _) trivial ⟨rfl, rfl⟩
        · rw [if_neg hc5] at h
          refine mv_G_br (tgt := 28) rfl rfl (by decide) (fun z => absurd z hc5) (fun _ => ?_)
          refine mv_G_run 1 (F' := (27, [some (.ref 0), some (.int v1), some (.int v2)], [.int (-1 : Int32)], 0, 0, kjS false I L)) rfl ?_
          obtain rfl := Option.some.inj h
          exact mv_G_ret rfl rfl rfl (Nat.le_refl _) trivial ⟨rfl, rfl⟩
  · unfold kf7 at h
    refine mv_C_in kjM_7 (lc := [some (.ref 0), some (.int v1), some (.int v2)]) rfl rfl rfl ?_
    refine mv_G_run 5 (F' := (11, [some (.ref 0), some (.int v1), some (.int v2)], [.int v1, .ref (kb true 14)], 0, 0, kjS true I L)) rfl ?_
    obtain ⟨r1, hc2, h⟩ := mv_bd h
    refine mv_G_call (r := []) (kf49_ok _ _ _ _ _ _ _ hc2) rfl rfl rfl rfl rfl (Nat.le_of_ble_eq_true rfl) (Nat.le_of_ble_eq_true rfl) (Nat.le_of_ble_eq_true rfl) ?_
    rintro _ _ ⟨rfl, rfl⟩
    by_cases hc3 : r1 = 0
    · rw [if_pos hc3] at h
      refine mv_G_br (tgt := 26) rfl rfl (by decide) (fun _ => ?_) (fun z => absurd hc3 z)
      refine mv_G_run 1 (F' := (27, [some (.ref 0), some (.int v1), some (.int v2)], [.int (-1 : Int32)], 0, 0, kjS true I L)) rfl ?_
      obtain rfl := Option.some.inj h
      exact mv_G_ret rfl rfl rfl (Nat.le_refl _) trivial ⟨rfl, rfl⟩
    · rw [if_neg hc3] at h
      refine mv_G_br (tgt := 26) rfl rfl (by decide) (fun z => absurd z hc3) (fun _ => ?_)
      refine mv_G_run 1 (F' := (18, [some (.ref 0), some (.int v1), some (.int v2)], [.int v2], 0, 0, kjS true I L)) rfl ?_
      by_cases hc4 : v2 < 0
      · rw [if_pos hc4] at h
        refine mv_G_br (tgt := 26) rfl rfl (by decide) (fun _ => ?_) (fun z => absurd hc4 z)
        refine mv_G_run 1 (F' := (27, [some (.ref 0), some (.int v1), some (.int v2)], [.int (-1 : Int32)], 0, 0, kjS true I L)) rfl ?_
        obtain rfl := Option.some.inj h
        exact mv_G_ret rfl rfl rfl (Nat.le_refl _) trivial ⟨rfl, rfl⟩
      · rw [if_neg hc4] at h
        refine mv_G_br (tgt := 26) rfl rfl (by decide) (fun z => absurd z hc4) (fun _ => ?_)
        refine mv_G_run 2 (F' := (23, [some (.ref 0), some (.int v1), some (.int v2)], [.int (2 : Int32), .int v2], 0, 0, kjS true I L)) rfl ?_
        by_cases hc5 : v2 ≤ (2 : Int32)
        · rw [if_pos hc5] at h
          refine mv_G_br (tgt := 28) rfl rfl (by decide) (fun _ => ?_) (fun z => absurd hc5 z)
          refine mv_G_run 2 (F' := (30, [some (.ref 0), some (.int v1), some (.int v2)], [.int (2 : Int32), .int v2], 0, 0, kjS true I L)) rfl ?_
          by_cases hc6 : ¬ v2 = (2 : Int32)
          · rw [if_pos hc6] at h
            refine mv_G_br (tgt := 41) rfl rfl (by decide) (fun _ => ?_) (fun z => absurd hc6 z)
            refine mv_G_run 3 (F' := (44, [some (.ref 0), some (.int v1), some (.int v2)], [.int v2, .int v1, .ref 0], 0, 0, kjS true I L)) rfl ?_
            by_cases hc7 : ¬ v2 = 0
            · rw [if_pos hc7] at h
              refine mv_G_br (tgt := 51) rfl rfl (by decide) (fun _ => ?_) (fun z => absurd hc7 z)
              refine mv_G_run 1 (F' := (52, [some (.ref 0), some (.int v1), some (.int v2)], [.int (0 : Int32), .int v1, .ref 0], 0, 0, kjS true I L)) rfl ?_
              refine mv_G_fg (lc' := [none, none, none]) (trivial) ?_
              exact kf7_52_ok _ _ d _ _ _ _ _ h
            · rw [if_neg hc7] at h
              refine mv_G_br (tgt := 51) rfl rfl (by decide) (fun z => absurd z hc7) (fun _ => ?_)
              refine mv_G_run 2 (F' := (52, [some (.ref 0), some (.int v1), some (.int v2)], [.int (1 : Int32), .int v1, .ref 0], 0, 0, kjS true I L)) rfl ?_
              refine mv_G_fg (lc' := [none, none, none]) (trivial) ?_
              exact kf7_52_ok _ _ d _ _ _ _ _ h
          · rw [if_neg hc6] at h
            refine mv_G_br (tgt := 41) rfl rfl (by decide) (fun z => absurd z hc6) (fun _ => ?_)
            refine mv_G_run 2 (F' := (35, [some (.ref 0), some (.int v1), some (.int v2)], [.int v1, .ref 0], 0, 0, kjS true I L)) rfl ?_
            obtain ⟨r8, hc9, h⟩ := mv_bd h
            refine mv_G_call (r := []) (kf17_ok _ _ _ _ _ _ _ hc9) rfl rfl rfl rfl rfl (Nat.le_of_ble_eq_true rfl) (Nat.le_of_ble_eq_true rfl) (Nat.le_of_ble_eq_true rfl) ?_
            rintro _ _ ⟨rfl, rfl⟩
            refine mv_G_run 1 (F' := (55, [some (.ref 0), some (.int v1), some (.int v2)], [.int r8.1], 0, 0, kjS true r8.2.1 r8.2.2)) rfl ?_
            obtain rfl := Option.some.inj h
            exact mv_G_ret rfl rfl rfl (Nat.le_refl _) trivial ⟨rfl, rfl⟩
        · rw [if_neg hc5] at h
          refine mv_G_br (tgt := 28) rfl rfl (by decide) (fun z => absurd z hc5) (fun _ => ?_)
          refine mv_G_run 1 (F' := (27, [some (.ref 0), some (.int v1), some (.int v2)], [.int (-1 : Int32)], 0, 0, kjS true I L)) rfl ?_
          obtain rfl := Option.some.inj h
          exact mv_G_ret rfl rfl rfl (Nat.le_refl _) trivial ⟨rfl, rfl⟩
/-! KindJudge$Classes.isType(I)Z on ('b', 5) -/
def kf43 (b : Bool) (I : kjI) (L : kjL) (v1 : Int32) : Option (Int32) :=
  if v1 = (1 : Int32) then (some (1 : Int32)) else (if v1 = (2 : Int32) then (some (1 : Int32)) else (if v1 = (15 : Int32) then (some (1 : Int32)) else (if v1 < (16 : Int32) then (some (0 : Int32)) else (if (I (kb b 5) 4) ≤ (v1 - (16 : Int32)) then (some (0 : Int32)) else (some (1 : Int32))))))
set_option maxRecDepth 100000 in
set_option maxHeartbeats 4000000 in
theorem kf43_ok (f : Bool) (b : Bool) (I : kjI) (L : kjL) (v1 : Int32) (d : Nat) (r : Int32) (h : kf43 b I L v1 = some r) : mv_C kjP kjSta (d + 1) 43 [.ref (kb b 5), .int v1] (kjS f I L) (kjQi f I L r) := by
  cases b
  · unfold kf43 at h
    refine mv_C_in kjM_43 (lc := [some (.ref (kb false 5)), some (.int v1)]) rfl rfl rfl ?_
    refine mv_G_run 2 (F' := (2, [some (.ref (kb false 5)), some (.int v1)], [.int (1 : Int32), .int v1], 0, 0, kjS f I L)) rfl ?_
    by_cases hc1 : v1 = (1 : Int32)
    · rw [if_pos hc1] at h
      refine mv_G_br (tgt := 33) rfl rfl (by decide) (fun _ => ?_) (fun z => absurd hc1 z)
      refine mv_G_run 2 (F' := (38, [some (.ref (kb false 5)), some (.int v1)], [.int (1 : Int32)], 0, 0, kjS f I L)) rfl ?_
      obtain rfl := Option.some.inj h
      exact mv_G_ret rfl rfl rfl (Nat.le_refl _) (Or.inr rfl) ⟨rfl, rfl⟩
    · rw [if_neg hc1] at h
      refine mv_G_br (tgt := 33) rfl rfl (by decide) (fun z => absurd z hc1) (fun _ => ?_)
      refine mv_G_run 2 (F' := (7, [some (.ref (kb false 5)), some (.int v1)], [.int (2 : Int32), .int v1], 0, 0, kjS f I L)) rfl ?_
      by_cases hc2 : v1 = (2 : Int32)
      · rw [if_pos hc2] at h
        refine mv_G_br (tgt := 33) rfl rfl (by decide) (fun _ => ?_) (fun z => absurd hc2 z)
        refine mv_G_run 2 (F' := (38, [some (.ref (kb false 5)), some (.int v1)], [.int (1 : Int32)], 0, 0, kjS f I L)) rfl ?_
        obtain rfl := Option.some.inj h
        exact mv_G_ret rfl rfl rfl (Nat.le_refl _) (Or.inr rfl) ⟨rfl, rfl⟩
      · rw [if_neg hc2] at h
        refine mv_G_br (tgt := 33) rfl rfl (by decide) (fun z => absurd z hc2) (fun _ => ?_)
        refine mv_G_run 2 (F' := (13, [some (.ref (kb false 5)), some (.int v1)], [.int (15 : Int32), .int v1], 0, 0, kjS f I L)) rfl ?_
        by_cases hc3 : v1 = (15 : Int32)
        · rw [if_pos hc3] at h
          refine mv_G_br (tgt := 33) rfl rfl (by decide) (fun _ => ?_) (fun z => absurd hc3 z)
          refine mv_G_run 2 (F' := (38, [some (.ref (kb false 5)), some (.int v1)], [.int (1 : Int32)], 0, 0, kjS f I L)) rfl ?_
          obtain rfl := Option.some.inj h
          exact mv_G_ret rfl rfl rfl (Nat.le_refl _) (Or.inr rfl) ⟨rfl, rfl⟩
        · rw [if_neg hc3] at h
          refine mv_G_br (tgt := 33) rfl rfl (by decide) (fun z => absurd z hc3) (fun _ => ?_)
          refine mv_G_run 2 (F' := (19, [some (.ref (kb false 5)), some (.int v1)], [.int (16 : Int32), .int v1], 0, 0, kjS f I L)) rfl ?_
          by_cases hc4 : v1 < (16 : Int32)
          · rw [if_pos hc4] at h
            refine mv_G_br (tgt := 37) rfl rfl (by decide) (fun _ => ?_) (fun z => absurd hc4 z)
            refine mv_G_run 1 (F' := (38, [some (.ref (kb false 5)), some (.int v1)], [.int (0 : Int32)], 0, 0, kjS f I L)) rfl ?_
            obtain rfl := Option.some.inj h
            exact mv_G_ret rfl rfl rfl (Nat.le_refl _) (Or.inl rfl) ⟨rfl, rfl⟩
          · rw [if_neg hc4] at h
            refine mv_G_br (tgt := 37) rfl rfl (by decide) (fun z => absurd z hc4) (fun _ => ?_)
            refine mv_G_run 5 (F' := (30, [some (.ref (kb false 5)), some (.int v1)], [.int (I (kb false 5) 4), .int (v1 - (16 : Int32))], 0, 0, kjS f I L)) rfl ?_
            by_cases hc5 : (I (kb false 5) 4) ≤ (v1 - (16 : Int32))
            · rw [if_pos hc5] at h
              refine mv_G_br (tgt := 37) rfl rfl (by decide) (fun _ => ?_) (fun z => absurd hc5 z)
              refine mv_G_run 1 (F' := (38, [some (.ref (kb false 5)), some (.int v1)], [.int (0 : Int32)], 0, 0, kjS f I L)) rfl ?_
              obtain rfl := Option.some.inj h
              exact mv_G_ret rfl rfl rfl (Nat.le_refl _) (Or.inl rfl) ⟨rfl, rfl⟩
            · rw [if_neg hc5] at h
              refine mv_G_br (tgt := 37) rfl rfl (by decide) (fun z => absurd z hc5) (fun _ => ?_)
              refine mv_G_run 2 (F' := (38, [some (.ref (kb false 5)), some (.int v1)], [.int (1 : Int32)], 0, 0, kjS f I L)) rfl ?_
              obtain rfl := Option.some.inj h
              exact mv_G_ret rfl rfl rfl (Nat.le_refl _) (Or.inr rfl) ⟨rfl, rfl⟩
  · unfold kf43 at h
    refine mv_C_in kjM_43 (lc := [some (.ref (kb true 5)), some (.int v1)]) rfl rfl rfl ?_
    refine mv_G_run 2 (F' := (2, [some (.ref (kb true 5)), some (.int v1)], [.int (1 : Int32), .int v1], 0, 0, kjS f I L)) rfl ?_
    by_cases hc1 : v1 = (1 : Int32)
    · rw [if_pos hc1] at h
      refine mv_G_br (tgt := 33) rfl rfl (by decide) (fun _ => ?_) (fun z => absurd hc1 z)
      refine mv_G_run 2 (F' := (38, [some (.ref (kb true 5)), some (.int v1)], [.int (1 : Int32)], 0, 0, kjS f I L)) rfl ?_
      obtain rfl := Option.some.inj h
      exact mv_G_ret rfl rfl rfl (Nat.le_refl _) (Or.inr rfl) ⟨rfl, rfl⟩
    · rw [if_neg hc1] at h
      refine mv_G_br (tgt := 33) rfl rfl (by decide) (fun z => absurd z hc1) (fun _ => ?_)
      refine mv_G_run 2 (F' := (7, [some (.ref (kb true 5)), some (.int v1)], [.int (2 : Int32), .int v1], 0, 0, kjS f I L)) rfl ?_
      by_cases hc2 : v1 = (2 : Int32)
      · rw [if_pos hc2] at h
        refine mv_G_br (tgt := 33) rfl rfl (by decide) (fun _ => ?_) (fun z => absurd hc2 z)
        refine mv_G_run 2 (F' := (38, [some (.ref (kb true 5)), some (.int v1)], [.int (1 : Int32)], 0, 0, kjS f I L)) rfl ?_
        obtain rfl := Option.some.inj h
        exact mv_G_ret rfl rfl rfl (Nat.le_refl _) (Or.inr rfl) ⟨rfl, rfl⟩
      · rw [if_neg hc2] at h
        refine mv_G_br (tgt := 33) rfl rfl (by decide) (fun z => absurd z hc2) (fun _ => ?_)
        refine mv_G_run 2 (F' := (13, [some (.ref (kb true 5)), some (.int v1)], [.int (15 : Int32), .int v1], 0, 0, kjS f I L)) rfl ?_
        by_cases hc3 : v1 = (15 : Int32)
        · rw [if_pos hc3] at h
          refine mv_G_br (tgt := 33) rfl rfl (by decide) (fun _ => ?_) (fun z => absurd hc3 z)
          refine mv_G_run 2 (F' := (38, [some (.ref (kb true 5)), some (.int v1)], [.int (1 : Int32)], 0, 0, kjS f I L)) rfl ?_
          obtain rfl := Option.some.inj h
          exact mv_G_ret rfl rfl rfl (Nat.le_refl _) (Or.inr rfl) ⟨rfl, rfl⟩
        · rw [if_neg hc3] at h
          refine mv_G_br (tgt := 33) rfl rfl (by decide) (fun z => absurd z hc3) (fun _ => ?_)
          refine mv_G_run 2 (F' := (19, [some (.ref (kb true 5)), some (.int v1)], [.int (16 : Int32), .int v1], 0, 0, kjS f I L)) rfl ?_
          by_cases hc4 : v1 < (16 : Int32)
          · rw [if_pos hc4] at h
            refine mv_G_br (tgt := 37) rfl rfl (by decide) (fun _ => ?_) (fun z => absurd hc4 z)
            refine mv_G_run 1 (F' := (38, [some (.ref (kb true 5)), some (.int v1)], [.int (0 : Int32)], 0, 0, kjS f I L)) rfl ?_
            obtain rfl := Option.some.inj h
            exact mv_G_ret rfl rfl rfl (Nat.le_refl _) (Or.inl rfl) ⟨rfl, rfl⟩
          · rw [if_neg hc4] at h
            refine mv_G_br (tgt := 37) rfl rfl (by decide) (fun z => absurd z hc4) (fun _ => ?_)
            refine mv_G_run 5 (F' := (30, [some (.ref (kb true 5)), some (.int v1)], [.int (I (kb true 5) 4), .int (v1 - (16 : Int32))], 0, 0, kjS f I L)) rfl ?_
            by_cases hc5 : (I (kb true 5) 4) ≤ (v1 - (16 : Int32))
            · rw [if_pos hc5] at h
              refine mv_G_br (tgt := 37) rfl rfl (by decide) (fun _ => ?_) (fun z => absurd hc5 z)
              refine mv_G_run 1 (F' := (38, [some (.ref (kb true 5)), some (.int v1)], [.int (0 : Int32)], 0, 0, kjS f I L)) rfl ?_
              obtain rfl := Option.some.inj h
              exact mv_G_ret rfl rfl rfl (Nat.le_refl _) (Or.inl rfl) ⟨rfl, rfl⟩
            · rw [if_neg hc5] at h
              refine mv_G_br (tgt := 37) rfl rfl (by decide) (fun z => absurd z hc5) (fun _ => ?_)
              refine mv_G_run 2 (F' := (38, [some (.ref (kb true 5)), some (.int v1)], [.int (1 : Int32)], 0, 0, kjS f I L)) rfl ?_
              obtain rfl := Option.some.inj h
              exact mv_G_ret rfl rfl rfl (Nat.le_refl _) (Or.inr rfl) ⟨rfl, rfl⟩
/-! KindJudge$Classes.isKind(I)Z on ('b', 5) -/
def kf42 (b : Bool) (I : kjI) (L : kjL) (v1 : Int32) : Option (Int32) :=
  if v1 = 0 then (some (1 : Int32)) else (if v1 = (3 : Int32) then (some (1 : Int32)) else ((kf43 b I L v1).bind fun r3 => if r3 = 0 then (some (0 : Int32)) else (some (1 : Int32))))
set_option maxRecDepth 100000 in
set_option maxHeartbeats 4000000 in
theorem kf42_ok (f : Bool) (b : Bool) (I : kjI) (L : kjL) (v1 : Int32) (d : Nat) (r : Int32) (h : kf42 b I L v1 = some r) : mv_C kjP kjSta (d + 2) 42 [.ref (kb b 5), .int v1] (kjS f I L) (kjQi f I L r) := by
  cases b
  · unfold kf42 at h
    refine mv_C_in kjM_42 (lc := [some (.ref (kb false 5)), some (.int v1)]) rfl rfl rfl ?_
    refine mv_G_run 1 (F' := (1, [some (.ref (kb false 5)), some (.int v1)], [.int v1], 0, 0, kjS f I L)) rfl ?_
    by_cases hc1 : v1 = 0
    · rw [if_pos hc1] at h
      refine mv_G_br (tgt := 17) rfl rfl (by decide) (fun _ => ?_) (fun z => absurd hc1 z)
      refine mv_G_run 2 (F' := (22, [some (.ref (kb false 5)), some (.int v1)], [.int (1 : Int32)], 0, 0, kjS f I L)) rfl ?_
      obtain rfl := Option.some.inj h
      exact mv_G_ret rfl rfl rfl (Nat.le_refl _) (Or.inr rfl) ⟨rfl, rfl⟩
    · rw [if_neg hc1] at h
      refine mv_G_br (tgt := 17) rfl rfl (by decide) (fun z => absurd z hc1) (fun _ => ?_)
      refine mv_G_run 2 (F' := (6, [some (.ref (kb false 5)), some (.int v1)], [.int (3 : Int32), .int v1], 0, 0, kjS f I L)) rfl ?_
      by_cases hc2 : v1 = (3 : Int32)
      · rw [if_pos hc2] at h
        refine mv_G_br (tgt := 17) rfl rfl (by decide) (fun _ => ?_) (fun z => absurd hc2 z)
        refine mv_G_run 2 (F' := (22, [some (.ref (kb false 5)), some (.int v1)], [.int (1 : Int32)], 0, 0, kjS f I L)) rfl ?_
        obtain rfl := Option.some.inj h
        exact mv_G_ret rfl rfl rfl (Nat.le_refl _) (Or.inr rfl) ⟨rfl, rfl⟩
      · rw [if_neg hc2] at h
        refine mv_G_br (tgt := 17) rfl rfl (by decide) (fun z => absurd z hc2) (fun _ => ?_)
        refine mv_G_run 2 (F' := (11, [some (.ref (kb false 5)), some (.int v1)], [.int v1, .ref (kb false 5)], 0, 0, kjS f I L)) rfl ?_
        obtain ⟨r3, hc4, h⟩ := mv_bd h
        refine mv_G_call (r := []) (kf43_ok _ _ _ _ _ _ _ hc4) rfl rfl rfl rfl rfl (Nat.le_of_ble_eq_true rfl) (Nat.le_of_ble_eq_true rfl) (Nat.le_of_ble_eq_true rfl) ?_
        rintro _ _ ⟨rfl, rfl⟩
        by_cases hc5 : r3 = 0
        · rw [if_pos hc5] at h
          refine mv_G_br (tgt := 21) rfl rfl (by decide) (fun _ => ?_) (fun z => absurd hc5 z)
          refine mv_G_run 1 (F' := (22, [some (.ref (kb false 5)), some (.int v1)], [.int (0 : Int32)], 0, 0, kjS f I L)) rfl ?_
          obtain rfl := Option.some.inj h
          exact mv_G_ret rfl rfl rfl (Nat.le_refl _) (Or.inl rfl) ⟨rfl, rfl⟩
        · rw [if_neg hc5] at h
          refine mv_G_br (tgt := 21) rfl rfl (by decide) (fun z => absurd z hc5) (fun _ => ?_)
          refine mv_G_run 2 (F' := (22, [some (.ref (kb false 5)), some (.int v1)], [.int (1 : Int32)], 0, 0, kjS f I L)) rfl ?_
          obtain rfl := Option.some.inj h
          exact mv_G_ret rfl rfl rfl (Nat.le_refl _) (Or.inr rfl) ⟨rfl, rfl⟩
  · unfold kf42 at h
    refine mv_C_in kjM_42 (lc := [some (.ref (kb true 5)), some (.int v1)]) rfl rfl rfl ?_
    refine mv_G_run 1 (F' := (1, [some (.ref (kb true 5)), some (.int v1)], [.int v1], 0, 0, kjS f I L)) rfl ?_
    by_cases hc1 : v1 = 0
    · rw [if_pos hc1] at h
      refine mv_G_br (tgt := 17) rfl rfl (by decide) (fun _ => ?_) (fun z => absurd hc1 z)
      refine mv_G_run 2 (F' := (22, [some (.ref (kb true 5)), some (.int v1)], [.int (1 : Int32)], 0, 0, kjS f I L)) rfl ?_
      obtain rfl := Option.some.inj h
      exact mv_G_ret rfl rfl rfl (Nat.le_refl _) (Or.inr rfl) ⟨rfl, rfl⟩
    · rw [if_neg hc1] at h
      refine mv_G_br (tgt := 17) rfl rfl (by decide) (fun z => absurd z hc1) (fun _ => ?_)
      refine mv_G_run 2 (F' := (6, [some (.ref (kb true 5)), some (.int v1)], [.int (3 : Int32), .int v1], 0, 0, kjS f I L)) rfl ?_
      by_cases hc2 : v1 = (3 : Int32)
      · rw [if_pos hc2] at h
        refine mv_G_br (tgt := 17) rfl rfl (by decide) (fun _ => ?_) (fun z => absurd hc2 z)
        refine mv_G_run 2 (F' := (22, [some (.ref (kb true 5)), some (.int v1)], [.int (1 : Int32)], 0, 0, kjS f I L)) rfl ?_
        obtain rfl := Option.some.inj h
        exact mv_G_ret rfl rfl rfl (Nat.le_refl _) (Or.inr rfl) ⟨rfl, rfl⟩
      · rw [if_neg hc2] at h
        refine mv_G_br (tgt := 17) rfl rfl (by decide) (fun z => absurd z hc2) (fun _ => ?_)
        refine mv_G_run 2 (F' := (11, [some (.ref (kb true 5)), some (.int v1)], [.int v1, .ref (kb true 5)], 0, 0, kjS f I L)) rfl ?_
        obtain ⟨r3, hc4, h⟩ := mv_bd h
        refine mv_G_call (r := []) (kf43_ok _ _ _ _ _ _ _ hc4) rfl rfl rfl rfl rfl (Nat.le_of_ble_eq_true rfl) (Nat.le_of_ble_eq_true rfl) (Nat.le_of_ble_eq_true rfl) ?_
        rintro _ _ ⟨rfl, rfl⟩
        by_cases hc5 : r3 = 0
        · rw [if_pos hc5] at h
          refine mv_G_br (tgt := 21) rfl rfl (by decide) (fun _ => ?_) (fun z => absurd hc5 z)
          refine mv_G_run 1 (F' := (22, [some (.ref (kb true 5)), some (.int v1)], [.int (0 : Int32)], 0, 0, kjS f I L)) rfl ?_
          obtain rfl := Option.some.inj h
          exact mv_G_ret rfl rfl rfl (Nat.le_refl _) (Or.inl rfl) ⟨rfl, rfl⟩
        · rw [if_neg hc5] at h
          refine mv_G_br (tgt := 21) rfl rfl (by decide) (fun z => absurd z hc5) (fun _ => ?_)
          refine mv_G_run 2 (F' := (22, [some (.ref (kb true 5)), some (.int v1)], [.int (1 : Int32)], 0, 0, kjS f I L)) rfl ?_
          obtain rfl := Option.some.inj h
          exact mv_G_ret rfl rfl rfl (Nat.le_refl _) (Or.inr rfl) ⟨rfl, rfl⟩
/-! KindJudge$Classes.isOrIsBelow(II)Z on ('b', 5) -/
def kf41 (b : Bool) (I : kjI) (L : kjL) (v1 : Int32) (v2 : Int32) : Option (Int32) :=
  if v1 < 0 then (some (0 : Int32)) else (if (I (kb b 5) 4) ≤ v1 then (some (0 : Int32)) else (if v2 < 0 then (some (0 : Int32)) else (if (I (kb b 5) 4) ≤ v2 then (some (0 : Int32)) else (bif mv_in v1 8 then (if ¬ (((I (kb b 9) (Int32.toNatClampNeg v1)) >>> (v2 &&& 31)) &&& (1 : Int32)) = (1 : Int32) then (some (0 : Int32)) else (some (1 : Int32))) else none))))
set_option maxRecDepth 100000 in
set_option maxHeartbeats 4000000 in
theorem kf41_ok (f : Bool) (b : Bool) (I : kjI) (L : kjL) (v1 : Int32) (v2 : Int32) (d : Nat) (r : Int32) (h : kf41 b I L v1 v2 = some r) : mv_C kjP kjSta (d + 1) 41 [.ref (kb b 5), .int v1, .int v2] (kjS f I L) (kjQi f I L r) := by
  cases b
  · unfold kf41 at h
    refine mv_C_in kjM_41 (lc := [some (.ref (kb false 5)), some (.int v1), some (.int v2)]) rfl rfl rfl ?_
    refine mv_G_run 1 (F' := (1, [some (.ref (kb false 5)), some (.int v1), some (.int v2)], [.int v1], 0, 0, kjS f I L)) rfl ?_
    by_cases hc1 : v1 < 0
    · rw [if_pos hc1] at h
      refine mv_G_br (tgt := 42) rfl rfl (by decide) (fun _ => ?_) (fun z => absurd hc1 z)
      refine mv_G_run 1 (F' := (43, [some (.ref (kb false 5)), some (.int v1), some (.int v2)], [.int (0 : Int32)], 0, 0, kjS f I L)) rfl ?_
      obtain rfl := Option.some.inj h
      exact mv_G_ret rfl rfl rfl (Nat.le_refl _) (Or.inl rfl) ⟨rfl, rfl⟩
    · rw [if_neg hc1] at h
      refine mv_G_br (tgt := 42) rfl rfl (by decide) (fun z => absurd z hc1) (fun _ => ?_)
      refine mv_G_run 3 (F' := (9, [some (.ref (kb false 5)), some (.int v1), some (.int v2)], [.int (I (kb false 5) 4), .int v1], 0, 0, kjS f I L)) rfl ?_
      by_cases hc2 : (I (kb false 5) 4) ≤ v1
      · rw [if_pos hc2] at h
        refine mv_G_br (tgt := 42) rfl rfl (by decide) (fun _ => ?_) (fun z => absurd hc2 z)
        refine mv_G_run 1 (F' := (43, [some (.ref (kb false 5)), some (.int v1), some (.int v2)], [.int (0 : Int32)], 0, 0, kjS f I L)) rfl ?_
        obtain rfl := Option.some.inj h
        exact mv_G_ret rfl rfl rfl (Nat.le_refl _) (Or.inl rfl) ⟨rfl, rfl⟩
      · rw [if_neg hc2] at h
        refine mv_G_br (tgt := 42) rfl rfl (by decide) (fun z => absurd z hc2) (fun _ => ?_)
        refine mv_G_run 1 (F' := (13, [some (.ref (kb false 5)), some (.int v1), some (.int v2)], [.int v2], 0, 0, kjS f I L)) rfl ?_
        by_cases hc3 : v2 < 0
        · rw [if_pos hc3] at h
          refine mv_G_br (tgt := 42) rfl rfl (by decide) (fun _ => ?_) (fun z => absurd hc3 z)
          refine mv_G_run 1 (F' := (43, [some (.ref (kb false 5)), some (.int v1), some (.int v2)], [.int (0 : Int32)], 0, 0, kjS f I L)) rfl ?_
          obtain rfl := Option.some.inj h
          exact mv_G_ret rfl rfl rfl (Nat.le_refl _) (Or.inl rfl) ⟨rfl, rfl⟩
        · rw [if_neg hc3] at h
          refine mv_G_br (tgt := 42) rfl rfl (by decide) (fun z => absurd z hc3) (fun _ => ?_)
          refine mv_G_run 3 (F' := (21, [some (.ref (kb false 5)), some (.int v1), some (.int v2)], [.int (I (kb false 5) 4), .int v2], 0, 0, kjS f I L)) rfl ?_
          by_cases hc4 : (I (kb false 5) 4) ≤ v2
          · rw [if_pos hc4] at h
            refine mv_G_br (tgt := 42) rfl rfl (by decide) (fun _ => ?_) (fun z => absurd hc4 z)
            refine mv_G_run 1 (F' := (43, [some (.ref (kb false 5)), some (.int v1), some (.int v2)], [.int (0 : Int32)], 0, 0, kjS f I L)) rfl ?_
            obtain rfl := Option.some.inj h
            exact mv_G_ret rfl rfl rfl (Nat.le_refl _) (Or.inl rfl) ⟨rfl, rfl⟩
          · rw [if_neg hc4] at h
            refine mv_G_br (tgt := 42) rfl rfl (by decide) (fun z => absurd z hc4) (fun _ => ?_)
            refine mv_G_run 3 (F' := (29, [some (.ref (kb false 5)), some (.int v1), some (.int v2)], [.int v1, .ref (kb false 9)], 0, 0, kjS f I L)) rfl ?_
            obtain ⟨hi5, h⟩ := mv_bifs h
            refine mv_G_ald rfl rfl (mv_in_ok hi5) ?_
            refine mv_G_run 5 (F' := (35, [some (.ref (kb false 5)), some (.int v1), some (.int v2)], [.int (1 : Int32), .int (((I (kb false 9) (Int32.toNatClampNeg v1)) >>> (v2 &&& 31)) &&& (1 : Int32))], 0, 0, kjS f I L)) rfl ?_
            by_cases hc6 : ¬ (((I (kb false 9) (Int32.toNatClampNeg v1)) >>> (v2 &&& 31)) &&& (1 : Int32)) = (1 : Int32)
            · rw [if_pos hc6] at h
              refine mv_G_br (tgt := 42) rfl rfl (by decide) (fun _ => ?_) (fun z => absurd hc6 z)
              refine mv_G_run 1 (F' := (43, [some (.ref (kb false 5)), some (.int v1), some (.int v2)], [.int (0 : Int32)], 0, 0, kjS f I L)) rfl ?_
              obtain rfl := Option.some.inj h
              exact mv_G_ret rfl rfl rfl (Nat.le_refl _) (Or.inl rfl) ⟨rfl, rfl⟩
            · rw [if_neg hc6] at h
              refine mv_G_br (tgt := 42) rfl rfl (by decide) (fun z => absurd z hc6) (fun _ => ?_)
              refine mv_G_run 2 (F' := (43, [some (.ref (kb false 5)), some (.int v1), some (.int v2)], [.int (1 : Int32)], 0, 0, kjS f I L)) rfl ?_
              obtain rfl := Option.some.inj h
              exact mv_G_ret rfl rfl rfl (Nat.le_refl _) (Or.inr rfl) ⟨rfl, rfl⟩
  · unfold kf41 at h
    refine mv_C_in kjM_41 (lc := [some (.ref (kb true 5)), some (.int v1), some (.int v2)]) rfl rfl rfl ?_
    refine mv_G_run 1 (F' := (1, [some (.ref (kb true 5)), some (.int v1), some (.int v2)], [.int v1], 0, 0, kjS f I L)) rfl ?_
    by_cases hc1 : v1 < 0
    · rw [if_pos hc1] at h
      refine mv_G_br (tgt := 42) rfl rfl (by decide) (fun _ => ?_) (fun z => absurd hc1 z)
      refine mv_G_run 1 (F' := (43, [some (.ref (kb true 5)), some (.int v1), some (.int v2)], [.int (0 : Int32)], 0, 0, kjS f I L)) rfl ?_
      obtain rfl := Option.some.inj h
      exact mv_G_ret rfl rfl rfl (Nat.le_refl _) (Or.inl rfl) ⟨rfl, rfl⟩
    · rw [if_neg hc1] at h
      refine mv_G_br (tgt := 42) rfl rfl (by decide) (fun z => absurd z hc1) (fun _ => ?_)
      refine mv_G_run 3 (F' := (9, [some (.ref (kb true 5)), some (.int v1), some (.int v2)], [.int (I (kb true 5) 4), .int v1], 0, 0, kjS f I L)) rfl ?_
      by_cases hc2 : (I (kb true 5) 4) ≤ v1
      · rw [if_pos hc2] at h
        refine mv_G_br (tgt := 42) rfl rfl (by decide) (fun _ => ?_) (fun z => absurd hc2 z)
        refine mv_G_run 1 (F' := (43, [some (.ref (kb true 5)), some (.int v1), some (.int v2)], [.int (0 : Int32)], 0, 0, kjS f I L)) rfl ?_
        obtain rfl := Option.some.inj h
        exact mv_G_ret rfl rfl rfl (Nat.le_refl _) (Or.inl rfl) ⟨rfl, rfl⟩
      · rw [if_neg hc2] at h
        refine mv_G_br (tgt := 42) rfl rfl (by decide) (fun z => absurd z hc2) (fun _ => ?_)
        refine mv_G_run 1 (F' := (13, [some (.ref (kb true 5)), some (.int v1), some (.int v2)], [.int v2], 0, 0, kjS f I L)) rfl ?_
        by_cases hc3 : v2 < 0
        · rw [if_pos hc3] at h
          refine mv_G_br (tgt := 42) rfl rfl (by decide) (fun _ => ?_) (fun z => absurd hc3 z)
          refine mv_G_run 1 (F' := (43, [some (.ref (kb true 5)), some (.int v1), some (.int v2)], [.int (0 : Int32)], 0, 0, kjS f I L)) rfl ?_
          obtain rfl := Option.some.inj h
          exact mv_G_ret rfl rfl rfl (Nat.le_refl _) (Or.inl rfl) ⟨rfl, rfl⟩
        · rw [if_neg hc3] at h
          refine mv_G_br (tgt := 42) rfl rfl (by decide) (fun z => absurd z hc3) (fun _ => ?_)
          refine mv_G_run 3 (F' := (21, [some (.ref (kb true 5)), some (.int v1), some (.int v2)], [.int (I (kb true 5) 4), .int v2], 0, 0, kjS f I L)) rfl ?_
          by_cases hc4 : (I (kb true 5) 4) ≤ v2
          · rw [if_pos hc4] at h
            refine mv_G_br (tgt := 42) rfl rfl (by decide) (fun _ => ?_) (fun z => absurd hc4 z)
            refine mv_G_run 1 (F' := (43, [some (.ref (kb true 5)), some (.int v1), some (.int v2)], [.int (0 : Int32)], 0, 0, kjS f I L)) rfl ?_
            obtain rfl := Option.some.inj h
            exact mv_G_ret rfl rfl rfl (Nat.le_refl _) (Or.inl rfl) ⟨rfl, rfl⟩
          · rw [if_neg hc4] at h
            refine mv_G_br (tgt := 42) rfl rfl (by decide) (fun z => absurd z hc4) (fun _ => ?_)
            refine mv_G_run 3 (F' := (29, [some (.ref (kb true 5)), some (.int v1), some (.int v2)], [.int v1, .ref (kb true 9)], 0, 0, kjS f I L)) rfl ?_
            obtain ⟨hi5, h⟩ := mv_bifs h
            refine mv_G_ald rfl rfl (mv_in_ok hi5) ?_
            refine mv_G_run 5 (F' := (35, [some (.ref (kb true 5)), some (.int v1), some (.int v2)], [.int (1 : Int32), .int (((I (kb true 9) (Int32.toNatClampNeg v1)) >>> (v2 &&& 31)) &&& (1 : Int32))], 0, 0, kjS f I L)) rfl ?_
            by_cases hc6 : ¬ (((I (kb true 9) (Int32.toNatClampNeg v1)) >>> (v2 &&& 31)) &&& (1 : Int32)) = (1 : Int32)
            · rw [if_pos hc6] at h
              refine mv_G_br (tgt := 42) rfl rfl (by decide) (fun _ => ?_) (fun z => absurd hc6 z)
              refine mv_G_run 1 (F' := (43, [some (.ref (kb true 5)), some (.int v1), some (.int v2)], [.int (0 : Int32)], 0, 0, kjS f I L)) rfl ?_
              obtain rfl := Option.some.inj h
              exact mv_G_ret rfl rfl rfl (Nat.le_refl _) (Or.inl rfl) ⟨rfl, rfl⟩
            · rw [if_neg hc6] at h
              refine mv_G_br (tgt := 42) rfl rfl (by decide) (fun z => absurd z hc6) (fun _ => ?_)
              refine mv_G_run 2 (F' := (43, [some (.ref (kb true 5)), some (.int v1), some (.int v2)], [.int (1 : Int32)], 0, 0, kjS f I L)) rfl ?_
              obtain rfl := Option.some.inj h
              exact mv_G_ret rfl rfl rfl (Nat.le_refl _) (Or.inr rfl) ⟨rfl, rfl⟩
/-! KindJudge$Classes.isFit(II)Z on ('b', 5) -/
def kf44 (b : Bool) (I : kjI) (L : kjL) (v1 : Int32) (v2 : Int32) : Option (Int32) :=
  if ¬ v1 = v2 then (if ¬ v1 = (3 : Int32) then (if v1 < (16 : Int32) then (some (0 : Int32)) else (if v2 = (15 : Int32) then (some (1 : Int32)) else (if v2 < (16 : Int32) then (some (0 : Int32)) else ((kf41 b I L (v1 - (16 : Int32)) (v2 - (16 : Int32))).bind fun r6 => if r6 = 0 then (some (0 : Int32)) else (some (1 : Int32)))))) else (if v2 = (1 : Int32) then (some (0 : Int32)) else (some (1 : Int32)))) else (some (1 : Int32))
set_option maxRecDepth 100000 in
set_option maxHeartbeats 4000000 in
theorem kf44_ok (f : Bool) (b : Bool) (I : kjI) (L : kjL) (v1 : Int32) (v2 : Int32) (d : Nat) (r : Int32) (h : kf44 b I L v1 v2 = some r) : mv_C kjP kjSta (d + 2) 44 [.ref (kb b 5), .int v1, .int v2] (kjS f I L) (kjQi f I L r) := by
  cases b
  · unfold kf44 at h
    refine mv_C_in kjM_44 (lc := [some (.ref (kb false 5)), some (.int v1), some (.int v2)]) rfl rfl rfl ?_
    refine mv_G_run 2 (F' := (2, [some (.ref (kb false 5)), some (.int v1), some (.int v2)], [.int v2, .int v1], 0, 0, kjS f I L)) rfl ?_
    by_cases hc1 : ¬ v1 = v2
    · rw [if_pos hc1] at h
      refine mv_G_br (tgt := 7) rfl rfl (by decide) (fun _ => ?_) (fun z => absurd hc1 z)
      refine mv_G_run 2 (F' := (9, [some (.ref (kb false 5)), some (.int v1), some (.int v2)], [.int (3 : Int32), .int v1], 0, 0, kjS f I L)) rfl ?_
      by_cases hc2 : ¬ v1 = (3 : Int32)
      · rw [if_pos hc2] at h
        refine mv_G_br (tgt := 23) rfl rfl (by decide) (fun _ => ?_) (fun z => absurd hc2 z)
        refine mv_G_run 2 (F' := (26, [some (.ref (kb false 5)), some (.int v1), some (.int v2)], [.int (16 : Int32), .int v1], 0, 0, kjS f I L)) rfl ?_
        by_cases hc3 : v1 < (16 : Int32)
        · rw [if_pos hc3] at h
          refine mv_G_br (tgt := 60) rfl rfl (by decide) (fun _ => ?_) (fun z => absurd hc3 z)
          refine mv_G_run 1 (F' := (61, [some (.ref (kb false 5)), some (.int v1), some (.int v2)], [.int (0 : Int32)], 0, 0, kjS f I L)) rfl ?_
          obtain rfl := Option.some.inj h
          exact mv_G_ret rfl rfl rfl (Nat.le_refl _) (Or.inl rfl) ⟨rfl, rfl⟩
        · rw [if_neg hc3] at h
          refine mv_G_br (tgt := 60) rfl rfl (by decide) (fun z => absurd z hc3) (fun _ => ?_)
          refine mv_G_run 2 (F' := (32, [some (.ref (kb false 5)), some (.int v1), some (.int v2)], [.int (15 : Int32), .int v2], 0, 0, kjS f I L)) rfl ?_
          by_cases hc4 : v2 = (15 : Int32)
          · rw [if_pos hc4] at h
            refine mv_G_br (tgt := 56) rfl rfl (by decide) (fun _ => ?_) (fun z => absurd hc4 z)
            refine mv_G_run 2 (F' := (61, [some (.ref (kb false 5)), some (.int v1), some (.int v2)], [.int (1 : Int32)], 0, 0, kjS f I L)) rfl ?_
            obtain rfl := Option.some.inj h
            exact mv_G_ret rfl rfl rfl (Nat.le_refl _) (Or.inr rfl) ⟨rfl, rfl⟩
          · rw [if_neg hc4] at h
            refine mv_G_br (tgt := 56) rfl rfl (by decide) (fun z => absurd z hc4) (fun _ => ?_)
            refine mv_G_run 2 (F' := (38, [some (.ref (kb false 5)), some (.int v1), some (.int v2)], [.int (16 : Int32), .int v2], 0, 0, kjS f I L)) rfl ?_
            by_cases hc5 : v2 < (16 : Int32)
            · rw [if_pos hc5] at h
              refine mv_G_br (tgt := 60) rfl rfl (by decide) (fun _ => ?_) (fun z => absurd hc5 z)
              refine mv_G_run 1 (F' := (61, [some (.ref (kb false 5)), some (.int v1), some (.int v2)], [.int (0 : Int32)], 0, 0, kjS f I L)) rfl ?_
              obtain rfl := Option.some.inj h
              exact mv_G_ret rfl rfl rfl (Nat.le_refl _) (Or.inl rfl) ⟨rfl, rfl⟩
            · rw [if_neg hc5] at h
              refine mv_G_br (tgt := 60) rfl rfl (by decide) (fun z => absurd z hc5) (fun _ => ?_)
              refine mv_G_run 7 (F' := (50, [some (.ref (kb false 5)), some (.int v1), some (.int v2)], [.int (v2 - (16 : Int32)), .int (v1 - (16 : Int32)), .ref (kb false 5)], 0, 0, kjS f I L)) rfl ?_
              obtain ⟨r6, hc7, h⟩ := mv_bd h
              refine mv_G_call (r := []) (kf41_ok _ _ _ _ _ _ _ _ hc7) rfl rfl rfl rfl rfl (Nat.le_of_ble_eq_true rfl) (Nat.le_of_ble_eq_true rfl) (Nat.le_of_ble_eq_true rfl) ?_
              rintro _ _ ⟨rfl, rfl⟩
              by_cases hc8 : r6 = 0
              · rw [if_pos hc8] at h
                refine mv_G_br (tgt := 60) rfl rfl (by decide) (fun _ => ?_) (fun z => absurd hc8 z)
                refine mv_G_run 1 (F' := (61, [some (.ref (kb false 5)), some (.int v1), some (.int v2)], [.int (0 : Int32)], 0, 0, kjS f I L)) rfl ?_
                obtain rfl := Option.some.inj h
                exact mv_G_ret rfl rfl rfl (Nat.le_refl _) (Or.inl rfl) ⟨rfl, rfl⟩
              · rw [if_neg hc8] at h
                refine mv_G_br (tgt := 60) rfl rfl (by decide) (fun z => absurd z hc8) (fun _ => ?_)
                refine mv_G_run 2 (F' := (61, [some (.ref (kb false 5)), some (.int v1), some (.int v2)], [.int (1 : Int32)], 0, 0, kjS f I L)) rfl ?_
                obtain rfl := Option.some.inj h
                exact mv_G_ret rfl rfl rfl (Nat.le_refl _) (Or.inr rfl) ⟨rfl, rfl⟩
      · rw [if_neg hc2] at h
        refine mv_G_br (tgt := 23) rfl rfl (by decide) (fun z => absurd z hc2) (fun _ => ?_)
        refine mv_G_run 2 (F' := (14, [some (.ref (kb false 5)), some (.int v1), some (.int v2)], [.int (1 : Int32), .int v2], 0, 0, kjS f I L)) rfl ?_
        by_cases hc9 : v2 = (1 : Int32)
        · rw [if_pos hc9] at h
          refine mv_G_br (tgt := 21) rfl rfl (by decide) (fun _ => ?_) (fun z => absurd hc9 z)
          refine mv_G_run 1 (F' := (22, [some (.ref (kb false 5)), some (.int v1), some (.int v2)], [.int (0 : Int32)], 0, 0, kjS f I L)) rfl ?_
          obtain rfl := Option.some.inj h
          exact mv_G_ret rfl rfl rfl (Nat.le_refl _) (Or.inl rfl) ⟨rfl, rfl⟩
        · rw [if_neg hc9] at h
          refine mv_G_br (tgt := 21) rfl rfl (by decide) (fun z => absurd z hc9) (fun _ => ?_)
          refine mv_G_run 2 (F' := (22, [some (.ref (kb false 5)), some (.int v1), some (.int v2)], [.int (1 : Int32)], 0, 0, kjS f I L)) rfl ?_
          obtain rfl := Option.some.inj h
          exact mv_G_ret rfl rfl rfl (Nat.le_refl _) (Or.inr rfl) ⟨rfl, rfl⟩
    · rw [if_neg hc1] at h
      refine mv_G_br (tgt := 7) rfl rfl (by decide) (fun z => absurd z hc1) (fun _ => ?_)
      refine mv_G_run 1 (F' := (6, [some (.ref (kb false 5)), some (.int v1), some (.int v2)], [.int (1 : Int32)], 0, 0, kjS f I L)) rfl ?_
      obtain rfl := Option.some.inj h
      exact mv_G_ret rfl rfl rfl (Nat.le_refl _) (Or.inr rfl) ⟨rfl, rfl⟩
  · unfold kf44 at h
    refine mv_C_in kjM_44 (lc := [some (.ref (kb true 5)), some (.int v1), some (.int v2)]) rfl rfl rfl ?_
    refine mv_G_run 2 (F' := (2, [some (.ref (kb true 5)), some (.int v1), some (.int v2)], [.int v2, .int v1], 0, 0, kjS f I L)) rfl ?_
    by_cases hc1 : ¬ v1 = v2
    · rw [if_pos hc1] at h
      refine mv_G_br (tgt := 7) rfl rfl (by decide) (fun _ => ?_) (fun z => absurd hc1 z)
      refine mv_G_run 2 (F' := (9, [some (.ref (kb true 5)), some (.int v1), some (.int v2)], [.int (3 : Int32), .int v1], 0, 0, kjS f I L)) rfl ?_
      by_cases hc2 : ¬ v1 = (3 : Int32)
      · rw [if_pos hc2] at h
        refine mv_G_br (tgt := 23) rfl rfl (by decide) (fun _ => ?_) (fun z => absurd hc2 z)
        refine mv_G_run 2 (F' := (26, [some (.ref (kb true 5)), some (.int v1), some (.int v2)], [.int (16 : Int32), .int v1], 0, 0, kjS f I L)) rfl ?_
        by_cases hc3 : v1 < (16 : Int32)
        · rw [if_pos hc3] at h
          refine mv_G_br (tgt := 60) rfl rfl (by decide) (fun _ => ?_) (fun z => absurd hc3 z)
          refine mv_G_run 1 (F' := (61, [some (.ref (kb true 5)), some (.int v1), some (.int v2)], [.int (0 : Int32)], 0, 0, kjS f I L)) rfl ?_
          obtain rfl := Option.some.inj h
          exact mv_G_ret rfl rfl rfl (Nat.le_refl _) (Or.inl rfl) ⟨rfl, rfl⟩
        · rw [if_neg hc3] at h
          refine mv_G_br (tgt := 60) rfl rfl (by decide) (fun z => absurd z hc3) (fun _ => ?_)
          refine mv_G_run 2 (F' := (32, [some (.ref (kb true 5)), some (.int v1), some (.int v2)], [.int (15 : Int32), .int v2], 0, 0, kjS f I L)) rfl ?_
          by_cases hc4 : v2 = (15 : Int32)
          · rw [if_pos hc4] at h
            refine mv_G_br (tgt := 56) rfl rfl (by decide) (fun _ => ?_) (fun z => absurd hc4 z)
            refine mv_G_run 2 (F' := (61, [some (.ref (kb true 5)), some (.int v1), some (.int v2)], [.int (1 : Int32)], 0, 0, kjS f I L)) rfl ?_
            obtain rfl := Option.some.inj h
            exact mv_G_ret rfl rfl rfl (Nat.le_refl _) (Or.inr rfl) ⟨rfl, rfl⟩
          · rw [if_neg hc4] at h
            refine mv_G_br (tgt := 56) rfl rfl (by decide) (fun z => absurd z hc4) (fun _ => ?_)
            refine mv_G_run 2 (F' := (38, [some (.ref (kb true 5)), some (.int v1), some (.int v2)], [.int (16 : Int32), .int v2], 0, 0, kjS f I L)) rfl ?_
            by_cases hc5 : v2 < (16 : Int32)
            · rw [if_pos hc5] at h
              refine mv_G_br (tgt := 60) rfl rfl (by decide) (fun _ => ?_) (fun z => absurd hc5 z)
              refine mv_G_run 1 (F' := (61, [some (.ref (kb true 5)), some (.int v1), some (.int v2)], [.int (0 : Int32)], 0, 0, kjS f I L)) rfl ?_
              obtain rfl := Option.some.inj h
              exact mv_G_ret rfl rfl rfl (Nat.le_refl _) (Or.inl rfl) ⟨rfl, rfl⟩
            · rw [if_neg hc5] at h
              refine mv_G_br (tgt := 60) rfl rfl (by decide) (fun z => absurd z hc5) (fun _ => ?_)
              refine mv_G_run 7 (F' := (50, [some (.ref (kb true 5)), some (.int v1), some (.int v2)], [.int (v2 - (16 : Int32)), .int (v1 - (16 : Int32)), .ref (kb true 5)], 0, 0, kjS f I L)) rfl ?_
              obtain ⟨r6, hc7, h⟩ := mv_bd h
              refine mv_G_call (r := []) (kf41_ok _ _ _ _ _ _ _ _ hc7) rfl rfl rfl rfl rfl (Nat.le_of_ble_eq_true rfl) (Nat.le_of_ble_eq_true rfl) (Nat.le_of_ble_eq_true rfl) ?_
              rintro _ _ ⟨rfl, rfl⟩
              by_cases hc8 : r6 = 0
              · rw [if_pos hc8] at h
                refine mv_G_br (tgt := 60) rfl rfl (by decide) (fun _ => ?_) (fun z => absurd hc8 z)
                refine mv_G_run 1 (F' := (61, [some (.ref (kb true 5)), some (.int v1), some (.int v2)], [.int (0 : Int32)], 0, 0, kjS f I L)) rfl ?_
                obtain rfl := Option.some.inj h
                exact mv_G_ret rfl rfl rfl (Nat.le_refl _) (Or.inl rfl) ⟨rfl, rfl⟩
              · rw [if_neg hc8] at h
                refine mv_G_br (tgt := 60) rfl rfl (by decide) (fun z => absurd z hc8) (fun _ => ?_)
                refine mv_G_run 2 (F' := (61, [some (.ref (kb true 5)), some (.int v1), some (.int v2)], [.int (1 : Int32)], 0, 0, kjS f I L)) rfl ?_
                obtain rfl := Option.some.inj h
                exact mv_G_ret rfl rfl rfl (Nat.le_refl _) (Or.inr rfl) ⟨rfl, rfl⟩
      · rw [if_neg hc2] at h
        refine mv_G_br (tgt := 23) rfl rfl (by decide) (fun z => absurd z hc2) (fun _ => ?_)
        refine mv_G_run 2 (F' := (14, [some (.ref (kb true 5)), some (.int v1), some (.int v2)], [.int (1 : Int32), .int v2], 0, 0, kjS f I L)) rfl ?_
        by_cases hc9 : v2 = (1 : Int32)
        · rw [if_pos hc9] at h
          refine mv_G_br (tgt := 21) rfl rfl (by decide) (fun _ => ?_) (fun z => absurd hc9 z)
          refine mv_G_run 1 (F' := (22, [some (.ref (kb true 5)), some (.int v1), some (.int v2)], [.int (0 : Int32)], 0, 0, kjS f I L)) rfl ?_
          obtain rfl := Option.some.inj h
          exact mv_G_ret rfl rfl rfl (Nat.le_refl _) (Or.inl rfl) ⟨rfl, rfl⟩
        · rw [if_neg hc9] at h
          refine mv_G_br (tgt := 21) rfl rfl (by decide) (fun z => absurd z hc9) (fun _ => ?_)
          refine mv_G_run 2 (F' := (22, [some (.ref (kb true 5)), some (.int v1), some (.int v2)], [.int (1 : Int32)], 0, 0, kjS f I L)) rfl ?_
          obtain rfl := Option.some.inj h
          exact mv_G_ret rfl rfl rfl (Nat.le_refl _) (Or.inr rfl) ⟨rfl, rfl⟩
    · rw [if_neg hc1] at h
      refine mv_G_br (tgt := 7) rfl rfl (by decide) (fun z => absurd z hc1) (fun _ => ?_)
      refine mv_G_run 1 (F' := (6, [some (.ref (kb true 5)), some (.int v1), some (.int v2)], [.int (1 : Int32)], 0, 0, kjS f I L)) rfl ?_
      obtain rfl := Option.some.inj h
      exact mv_G_ret rfl rfl rfl (Nat.le_refl _) (Or.inr rfl) ⟨rfl, rfl⟩
/-! KindJudge.fits(II)I on ('c', 0) -/
def kf8 (f : Bool) (I : kjI) (L : kjL) (v1 : Int32) (v2 : Int32) : Option (Int32) :=
  if (I 0 2) = 0 then (some (-1 : Int32)) else (if v1 = 0 then (some (-1 : Int32)) else ((kf42 f I L v1).bind fun r3 => if r3 = 0 then (some (-1 : Int32)) else ((kf43 f I L v2).bind fun r6 => if ¬ r6 = 0 then ((kf44 f I L v1 v2).bind fun r9 => if r9 = 0 then (some (0 : Int32)) else (some (1 : Int32))) else (some (-1 : Int32)))))
set_option maxRecDepth 100000 in
set_option maxHeartbeats 4000000 in
theorem kf8_ok (f : Bool) (I : kjI) (L : kjL) (v1 : Int32) (v2 : Int32) (d : Nat) (r : Int32) (h : kf8 f I L v1 v2 = some r) : mv_C kjP kjSta (d + 3) 8 [.ref 0, .int v1, .int v2] (kjS f I L) (kjQi f I L r) := by
  cases f
  · unfold kf8 at h
    refine mv_C_in kjM_8 (lc := [some (.ref 0), some (.int v1), some (.int v2), none]) rfl rfl rfl ?_
    refine mv_G_run 7 (F' := (15, [some (.ref 0), some (.int v1), some (.int v2), some (.ref (kb false 5))], [.int (I 0 2)], 0, 0, kjS false I L)) rfl ?_
    by_cases hc1 : (I 0 2) = 0
    · rw [if_pos hc1] at h
      refine mv_G_br (tgt := 38) rfl rfl (by decide) (fun _ => ?_) (fun z => absurd hc1 z)
      refine mv_G_run 1 (F' := (39, [some (.ref 0), some (.int v1), some (.int v2), some (.ref (kb false 5))], [.int (-1 : Int32)], 0, 0, kjS false I L)) rfl ?_
      obtain rfl := Option.some.inj h
      exact mv_G_ret rfl rfl rfl (Nat.le_refl _) trivial ⟨rfl, rfl⟩
    · rw [if_neg hc1] at h
      refine mv_G_br (tgt := 38) rfl rfl (by decide) (fun z => absurd z hc1) (fun _ => ?_)
      refine mv_G_run 1 (F' := (19, [some (.ref 0), some (.int v1), some (.int v2), some (.ref (kb false 5))], [.int v1], 0, 0, kjS false I L)) rfl ?_
      by_cases hc2 : v1 = 0
      · rw [if_pos hc2] at h
        refine mv_G_br (tgt := 38) rfl rfl (by decide) (fun _ => ?_) (fun z => absurd hc2 z)
        refine mv_G_run 1 (F' := (39, [some (.ref 0), some (.int v1), some (.int v2), some (.ref (kb false 5))], [.int (-1 : Int32)], 0, 0, kjS false I L)) rfl ?_
        obtain rfl := Option.some.inj h
        exact mv_G_ret rfl rfl rfl (Nat.le_refl _) trivial ⟨rfl, rfl⟩
      · rw [if_neg hc2] at h
        refine mv_G_br (tgt := 38) rfl rfl (by decide) (fun z => absurd z hc2) (fun _ => ?_)
        refine mv_G_run 2 (F' := (24, [some (.ref 0), some (.int v1), some (.int v2), some (.ref (kb false 5))], [.int v1, .ref (kb false 5)], 0, 0, kjS false I L)) rfl ?_
        obtain ⟨r3, hc4, h⟩ := mv_bd h
        refine mv_G_call (r := []) (kf42_ok _ _ _ _ _ _ _ hc4) rfl rfl rfl rfl rfl (Nat.le_of_ble_eq_true rfl) (Nat.le_of_ble_eq_true rfl) (Nat.le_of_ble_eq_true rfl) ?_
        rintro _ _ ⟨rfl, rfl⟩
        by_cases hc5 : r3 = 0
        · rw [if_pos hc5] at h
          refine mv_G_br (tgt := 38) rfl rfl (by decide) (fun _ => ?_) (fun z => absurd hc5 z)
          refine mv_G_run 1 (F' := (39, [some (.ref 0), some (.int v1), some (.int v2), some (.ref (kb false 5))], [.int (-1 : Int32)], 0, 0, kjS false I L)) rfl ?_
          obtain rfl := Option.some.inj h
          exact mv_G_ret rfl rfl rfl (Nat.le_refl _) trivial ⟨rfl, rfl⟩
        · rw [if_neg hc5] at h
          refine mv_G_br (tgt := 38) rfl rfl (by decide) (fun z => absurd z hc5) (fun _ => ?_)
          refine mv_G_run 2 (F' := (32, [some (.ref 0), some (.int v1), some (.int v2), some (.ref (kb false 5))], [.int v2, .ref (kb false 5)], 0, 0, kjS false I L)) rfl ?_
          obtain ⟨r6, hc7, h⟩ := mv_bd h
          refine mv_G_call (r := []) (kf43_ok _ _ _ _ _ _ _ hc7) rfl rfl rfl rfl rfl (Nat.le_of_ble_eq_true rfl) (Nat.le_of_ble_eq_true rfl) (Nat.le_of_ble_eq_true rfl) ?_
          rintro _ _ ⟨rfl, rfl⟩
          by_cases hc8 : ¬ r6 = 0
          · rw [if_pos hc8] at h
            refine mv_G_br (tgt := 40) rfl rfl (by decide) (fun _ => ?_) (fun z => absurd hc8 z)
            refine mv_G_run 3 (F' := (43, [some (.ref 0), some (.int v1), some (.int v2), some (.ref (kb false 5))], [.int v2, .int v1, .ref (kb false 5)], 0, 0, kjS false I L)) rfl ?_
            obtain ⟨r9, hc10, h⟩ := mv_bd h
            refine mv_G_call (r := []) (kf44_ok _ _ _ _ _ _ _ _ hc10) rfl rfl rfl rfl rfl (Nat.le_of_ble_eq_true rfl) (Nat.le_of_ble_eq_true rfl) (Nat.le_of_ble_eq_true rfl) ?_
            rintro _ _ ⟨rfl, rfl⟩
            by_cases hc11 : r9 = 0
            · rw [if_pos hc11] at h
              refine mv_G_br (tgt := 53) rfl rfl (by decide) (fun _ => ?_) (fun z => absurd hc11 z)
              refine mv_G_run 1 (F' := (54, [some (.ref 0), some (.int v1), some (.int v2), some (.ref (kb false 5))], [.int (0 : Int32)], 0, 0, kjS false I L)) rfl ?_
              obtain rfl := Option.some.inj h
              exact mv_G_ret rfl rfl rfl (Nat.le_refl _) trivial ⟨rfl, rfl⟩
            · rw [if_neg hc11] at h
              refine mv_G_br (tgt := 53) rfl rfl (by decide) (fun z => absurd z hc11) (fun _ => ?_)
              refine mv_G_run 2 (F' := (54, [some (.ref 0), some (.int v1), some (.int v2), some (.ref (kb false 5))], [.int (1 : Int32)], 0, 0, kjS false I L)) rfl ?_
              obtain rfl := Option.some.inj h
              exact mv_G_ret rfl rfl rfl (Nat.le_refl _) trivial ⟨rfl, rfl⟩
          · rw [if_neg hc8] at h
            refine mv_G_br (tgt := 40) rfl rfl (by decide) (fun z => absurd z hc8) (fun _ => ?_)
            refine mv_G_run 1 (F' := (39, [some (.ref 0), some (.int v1), some (.int v2), some (.ref (kb false 5))], [.int (-1 : Int32)], 0, 0, kjS false I L)) rfl ?_
            obtain rfl := Option.some.inj h
            exact mv_G_ret rfl rfl rfl (Nat.le_refl _) trivial ⟨rfl, rfl⟩
  · unfold kf8 at h
    refine mv_C_in kjM_8 (lc := [some (.ref 0), some (.int v1), some (.int v2), none]) rfl rfl rfl ?_
    refine mv_G_run 7 (F' := (15, [some (.ref 0), some (.int v1), some (.int v2), some (.ref (kb true 5))], [.int (I 0 2)], 0, 0, kjS true I L)) rfl ?_
    by_cases hc1 : (I 0 2) = 0
    · rw [if_pos hc1] at h
      refine mv_G_br (tgt := 38) rfl rfl (by decide) (fun _ => ?_) (fun z => absurd hc1 z)
      refine mv_G_run 1 (F' := (39, [some (.ref 0), some (.int v1), some (.int v2), some (.ref (kb true 5))], [.int (-1 : Int32)], 0, 0, kjS true I L)) rfl ?_
      obtain rfl := Option.some.inj h
      exact mv_G_ret rfl rfl rfl (Nat.le_refl _) trivial ⟨rfl, rfl⟩
    · rw [if_neg hc1] at h
      refine mv_G_br (tgt := 38) rfl rfl (by decide) (fun z => absurd z hc1) (fun _ => ?_)
      refine mv_G_run 1 (F' := (19, [some (.ref 0), some (.int v1), some (.int v2), some (.ref (kb true 5))], [.int v1], 0, 0, kjS true I L)) rfl ?_
      by_cases hc2 : v1 = 0
      · rw [if_pos hc2] at h
        refine mv_G_br (tgt := 38) rfl rfl (by decide) (fun _ => ?_) (fun z => absurd hc2 z)
        refine mv_G_run 1 (F' := (39, [some (.ref 0), some (.int v1), some (.int v2), some (.ref (kb true 5))], [.int (-1 : Int32)], 0, 0, kjS true I L)) rfl ?_
        obtain rfl := Option.some.inj h
        exact mv_G_ret rfl rfl rfl (Nat.le_refl _) trivial ⟨rfl, rfl⟩
      · rw [if_neg hc2] at h
        refine mv_G_br (tgt := 38) rfl rfl (by decide) (fun z => absurd z hc2) (fun _ => ?_)
        refine mv_G_run 2 (F' := (24, [some (.ref 0), some (.int v1), some (.int v2), some (.ref (kb true 5))], [.int v1, .ref (kb true 5)], 0, 0, kjS true I L)) rfl ?_
        obtain ⟨r3, hc4, h⟩ := mv_bd h
        refine mv_G_call (r := []) (kf42_ok _ _ _ _ _ _ _ hc4) rfl rfl rfl rfl rfl (Nat.le_of_ble_eq_true rfl) (Nat.le_of_ble_eq_true rfl) (Nat.le_of_ble_eq_true rfl) ?_
        rintro _ _ ⟨rfl, rfl⟩
        by_cases hc5 : r3 = 0
        · rw [if_pos hc5] at h
          refine mv_G_br (tgt := 38) rfl rfl (by decide) (fun _ => ?_) (fun z => absurd hc5 z)
          refine mv_G_run 1 (F' := (39, [some (.ref 0), some (.int v1), some (.int v2), some (.ref (kb true 5))], [.int (-1 : Int32)], 0, 0, kjS true I L)) rfl ?_
          obtain rfl := Option.some.inj h
          exact mv_G_ret rfl rfl rfl (Nat.le_refl _) trivial ⟨rfl, rfl⟩
        · rw [if_neg hc5] at h
          refine mv_G_br (tgt := 38) rfl rfl (by decide) (fun z => absurd z hc5) (fun _ => ?_)
          refine mv_G_run 2 (F' := (32, [some (.ref 0), some (.int v1), some (.int v2), some (.ref (kb true 5))], [.int v2, .ref (kb true 5)], 0, 0, kjS true I L)) rfl ?_
          obtain ⟨r6, hc7, h⟩ := mv_bd h
          refine mv_G_call (r := []) (kf43_ok _ _ _ _ _ _ _ hc7) rfl rfl rfl rfl rfl (Nat.le_of_ble_eq_true rfl) (Nat.le_of_ble_eq_true rfl) (Nat.le_of_ble_eq_true rfl) ?_
          rintro _ _ ⟨rfl, rfl⟩
          by_cases hc8 : ¬ r6 = 0
          · rw [if_pos hc8] at h
            refine mv_G_br (tgt := 40) rfl rfl (by decide) (fun _ => ?_) (fun z => absurd hc8 z)
            refine mv_G_run 3 (F' := (43, [some (.ref 0), some (.int v1), some (.int v2), some (.ref (kb true 5))], [.int v2, .int v1, .ref (kb true 5)], 0, 0, kjS true I L)) rfl ?_
            obtain ⟨r9, hc10, h⟩ := mv_bd h
            refine mv_G_call (r := []) (kf44_ok _ _ _ _ _ _ _ _ hc10) rfl rfl rfl rfl rfl (Nat.le_of_ble_eq_true rfl) (Nat.le_of_ble_eq_true rfl) (Nat.le_of_ble_eq_true rfl) ?_
            rintro _ _ ⟨rfl, rfl⟩
            by_cases hc11 : r9 = 0
            · rw [if_pos hc11] at h
              refine mv_G_br (tgt := 53) rfl rfl (by decide) (fun _ => ?_) (fun z => absurd hc11 z)
              refine mv_G_run 1 (F' := (54, [some (.ref 0), some (.int v1), some (.int v2), some (.ref (kb true 5))], [.int (0 : Int32)], 0, 0, kjS true I L)) rfl ?_
              obtain rfl := Option.some.inj h
              exact mv_G_ret rfl rfl rfl (Nat.le_refl _) trivial ⟨rfl, rfl⟩
            · rw [if_neg hc11] at h
              refine mv_G_br (tgt := 53) rfl rfl (by decide) (fun z => absurd z hc11) (fun _ => ?_)
              refine mv_G_run 2 (F' := (54, [some (.ref 0), some (.int v1), some (.int v2), some (.ref (kb true 5))], [.int (1 : Int32)], 0, 0, kjS true I L)) rfl ?_
              obtain rfl := Option.some.inj h
              exact mv_G_ret rfl rfl rfl (Nat.le_refl _) trivial ⟨rfl, rfl⟩
          · rw [if_neg hc8] at h
            refine mv_G_br (tgt := 40) rfl rfl (by decide) (fun z => absurd z hc8) (fun _ => ?_)
            refine mv_G_run 1 (F' := (39, [some (.ref 0), some (.int v1), some (.int v2), some (.ref (kb true 5))], [.int (-1 : Int32)], 0, 0, kjS true I L)) rfl ?_
            obtain rfl := Option.some.inj h
            exact mv_G_ret rfl rfl rfl (Nat.le_refl _) trivial ⟨rfl, rfl⟩
/-! KindJudge$Classes.together(II)I on ('b', 5) -/
def kf45_27 (b : Bool) (N : Nat) (I : kjI) (L : kjL) (s0 : Int32) : Option (Int32) :=
  if s0 = (2 : Int32) then (some s0) else (if s0 < (15 : Int32) then (some (0 : Int32)) else (some s0))
set_option maxRecDepth 100000 in
set_option maxHeartbeats 4000000 in
theorem kf45_27_ok (f : Bool) (b : Bool) (N : Nat) (I : kjI) (L : kjL) (d : Nat)  (s0 : Int32) (r : Int32) (h : kf45_27 b N I L s0 = some r) : mv_G kjP kjSta (mv_C kjP kjSta (d + 1)) kjM_45 (kjQi f I L r) (27, [none, none, none, none], [.int s0], 0, 0, kjS f I L) := by
  cases b
  · unfold kf45_27 at h
    refine mv_G_run 3 (F' := (30, [none, none, none, some (.int s0)], [.int (2 : Int32), .int s0], 0, 0, kjS f I L)) rfl ?_
    by_cases hc1 : s0 = (2 : Int32)
    · rw [if_pos hc1] at h
      refine mv_G_br (tgt := 39) rfl rfl (by decide) (fun _ => ?_) (fun z => absurd hc1 z)
      refine mv_G_run 2 (F' := (44, [none, none, none, some (.int s0)], [.int s0], 0, 0, kjS f I L)) rfl ?_
      obtain rfl := Option.some.inj h
      exact mv_G_ret rfl rfl rfl (Nat.le_refl _) trivial ⟨rfl, rfl⟩
    · rw [if_neg hc1] at h
      refine mv_G_br (tgt := 39) rfl rfl (by decide) (fun z => absurd z hc1) (fun _ => ?_)
      refine mv_G_run 2 (F' := (36, [none, none, none, some (.int s0)], [.int (15 : Int32), .int s0], 0, 0, kjS f I L)) rfl ?_
      by_cases hc2 : s0 < (15 : Int32)
      · rw [if_pos hc2] at h
        refine mv_G_br (tgt := 43) rfl rfl (by decide) (fun _ => ?_) (fun z => absurd hc2 z)
        refine mv_G_run 1 (F' := (44, [none, none, none, some (.int s0)], [.int (0 : Int32)], 0, 0, kjS f I L)) rfl ?_
        obtain rfl := Option.some.inj h
        exact mv_G_ret rfl rfl rfl (Nat.le_refl _) trivial ⟨rfl, rfl⟩
      · rw [if_neg hc2] at h
        refine mv_G_br (tgt := 43) rfl rfl (by decide) (fun z => absurd z hc2) (fun _ => ?_)
        refine mv_G_run 2 (F' := (44, [none, none, none, some (.int s0)], [.int s0], 0, 0, kjS f I L)) rfl ?_
        obtain rfl := Option.some.inj h
        exact mv_G_ret rfl rfl rfl (Nat.le_refl _) trivial ⟨rfl, rfl⟩
  · unfold kf45_27 at h
    refine mv_G_run 3 (F' := (30, [none, none, none, some (.int s0)], [.int (2 : Int32), .int s0], 0, 0, kjS f I L)) rfl ?_
    by_cases hc1 : s0 = (2 : Int32)
    · rw [if_pos hc1] at h
      refine mv_G_br (tgt := 39) rfl rfl (by decide) (fun _ => ?_) (fun z => absurd hc1 z)
      refine mv_G_run 2 (F' := (44, [none, none, none, some (.int s0)], [.int s0], 0, 0, kjS f I L)) rfl ?_
      obtain rfl := Option.some.inj h
      exact mv_G_ret rfl rfl rfl (Nat.le_refl _) trivial ⟨rfl, rfl⟩
    · rw [if_neg hc1] at h
      refine mv_G_br (tgt := 39) rfl rfl (by decide) (fun z => absurd z hc1) (fun _ => ?_)
      refine mv_G_run 2 (F' := (36, [none, none, none, some (.int s0)], [.int (15 : Int32), .int s0], 0, 0, kjS f I L)) rfl ?_
      by_cases hc2 : s0 < (15 : Int32)
      · rw [if_pos hc2] at h
        refine mv_G_br (tgt := 43) rfl rfl (by decide) (fun _ => ?_) (fun z => absurd hc2 z)
        refine mv_G_run 1 (F' := (44, [none, none, none, some (.int s0)], [.int (0 : Int32)], 0, 0, kjS f I L)) rfl ?_
        obtain rfl := Option.some.inj h
        exact mv_G_ret rfl rfl rfl (Nat.le_refl _) trivial ⟨rfl, rfl⟩
      · rw [if_neg hc2] at h
        refine mv_G_br (tgt := 43) rfl rfl (by decide) (fun z => absurd z hc2) (fun _ => ?_)
        refine mv_G_run 2 (F' := (44, [none, none, none, some (.int s0)], [.int s0], 0, 0, kjS f I L)) rfl ?_
        obtain rfl := Option.some.inj h
        exact mv_G_ret rfl rfl rfl (Nat.le_refl _) trivial ⟨rfl, rfl⟩
def kf45_17 (b : Bool) (N : Nat) (I : kjI) (L : kjL) (v1 : Int32) (v2 : Int32) : Option (Int32) :=
  if ¬ v1 = (3 : Int32) then (kf45_27 b N I L v1) else (kf45_27 b N I L v2)
set_option maxRecDepth 100000 in
set_option maxHeartbeats 4000000 in
theorem kf45_17_ok (f : Bool) (b : Bool) (N : Nat) (I : kjI) (L : kjL) (d : Nat)  (v1 : Int32) (v2 : Int32) (r : Int32) (h : kf45_17 b N I L v1 v2 = some r) : mv_G kjP kjSta (mv_C kjP kjSta (d + 1)) kjM_45 (kjQi f I L r) (17, [none, some (.int v1), some (.int v2), none], [], 0, 0, kjS f I L) := by
  cases b
  · unfold kf45_17 at h
    refine mv_G_run 2 (F' := (19, [none, some (.int v1), some (.int v2), none], [.int (3 : Int32), .int v1], 0, 0, kjS f I L)) rfl ?_
    by_cases hc1 : ¬ v1 = (3 : Int32)
    · rw [if_pos hc1] at h
      refine mv_G_br (tgt := 26) rfl rfl (by decide) (fun _ => ?_) (fun z => absurd hc1 z)
      refine mv_G_run 1 (F' := (27, [none, some (.int v1), some (.int v2), none], [.int v1], 0, 0, kjS f I L)) rfl ?_
      refine mv_G_fg (lc' := [none, none, none, none]) (trivial) ?_
      exact kf45_27_ok _ _ _ _ _ d _ _ h
    · rw [if_neg hc1] at h
      refine mv_G_br (tgt := 26) rfl rfl (by decide) (fun z => absurd z hc1) (fun _ => ?_)
      refine mv_G_run 2 (F' := (27, [none, some (.int v1), some (.int v2), none], [.int v2], 0, 0, kjS f I L)) rfl ?_
      refine mv_G_fg (lc' := [none, none, none, none]) (trivial) ?_
      exact kf45_27_ok _ _ _ _ _ d _ _ h
  · unfold kf45_17 at h
    refine mv_G_run 2 (F' := (19, [none, some (.int v1), some (.int v2), none], [.int (3 : Int32), .int v1], 0, 0, kjS f I L)) rfl ?_
    by_cases hc1 : ¬ v1 = (3 : Int32)
    · rw [if_pos hc1] at h
      refine mv_G_br (tgt := 26) rfl rfl (by decide) (fun _ => ?_) (fun z => absurd hc1 z)
      refine mv_G_run 1 (F' := (27, [none, some (.int v1), some (.int v2), none], [.int v1], 0, 0, kjS f I L)) rfl ?_
      refine mv_G_fg (lc' := [none, none, none, none]) (trivial) ?_
      exact kf45_27_ok _ _ _ _ _ d _ _ h
    · rw [if_neg hc1] at h
      refine mv_G_br (tgt := 26) rfl rfl (by decide) (fun z => absurd z hc1) (fun _ => ?_)
      refine mv_G_run 2 (F' := (27, [none, some (.int v1), some (.int v2), none], [.int v2], 0, 0, kjS f I L)) rfl ?_
      refine mv_G_fg (lc' := [none, none, none, none]) (trivial) ?_
      exact kf45_27_ok _ _ _ _ _ d _ _ h
def kf45_101 (b : Bool) (N : Nat) (I : kjI) (L : kjL) (k68 : Int32 → Int32 → Int32 → Option (Int32)) (v1 : Int32) (v2 : Int32) (v3 : Int32) : Option (Int32) :=
  k68 v1 v2 (v3 + (-1 : Int32))
set_option maxRecDepth 100000 in
set_option maxHeartbeats 4000000 in
theorem kf45_101_ok (f : Bool) (b : Bool) (N : Nat) (I : kjI) (L : kjL) (k68 : Int32 → Int32 → Int32 → Option (Int32)) (d : Nat) (hk68 : ∀ (v1 : Int32) (v2 : Int32) (v3 : Int32) (r : Int32), k68 v1 v2 v3 = some r → mv_G kjP kjSta (mv_C kjP kjSta (d + 1)) kjM_45 (kjQi f I L r) (68, [some (.ref (kb b 5)), some (.int v1), some (.int v2), some (.int v3)], [], 0, 0, kjS f I L)) (v1 : Int32) (v2 : Int32) (v3 : Int32) (r : Int32) (h : kf45_101 b N I L k68 v1 v2 v3 = some r) : mv_G kjP kjSta (mv_C kjP kjSta (d + 1)) kjM_45 (kjQi f I L r) (101, [some (.ref (kb b 5)), some (.int v1), some (.int v2), some (.int v3)], [], 0, 0, kjS f I L) := by
  cases b
  · unfold kf45_101 at h
    refine mv_G_run 2 (F' := (68, [some (.ref (kb false 5)), some (.int v1), some (.int v2), some (.int (v3 + (-1 : Int32)))], [], 0, 0, kjS f I L)) rfl ?_
    exact hk68 v1 v2 (v3 + (-1 : Int32)) _ h
  · unfold kf45_101 at h
    refine mv_G_run 2 (F' := (68, [some (.ref (kb true 5)), some (.int v1), some (.int v2), some (.int (v3 + (-1 : Int32)))], [], 0, 0, kjS f I L)) rfl ?_
    exact hk68 v1 v2 (v3 + (-1 : Int32)) _ h
def kf45_68 (b : Bool) (N : Nat) (I : kjI) (L : kjL) : Nat → Int32 → Int32 → Int32 → Option (Int32)
  | 0, _, _, _ => none
  | n + 1, v1, v2, v3 => if v3 < 0 then (some (15 : Int32)) else ((kf41 b I L (v1 - (16 : Int32)) v3).bind fun r2 => if r2 = 0 then (kf45_101 b N I L (fun v1 v2 v3 => kf45_68 b N I L n v1 v2 v3) v1 v2 v3) else ((kf41 b I L (v2 - (16 : Int32)) v3).bind fun r5 => if r5 = 0 then (kf45_101 b N I L (fun v1 v2 v3 => kf45_68 b N I L n v1 v2 v3) v1 v2 v3) else (some ((16 : Int32) + v3))))
set_option maxRecDepth 100000 in
set_option maxHeartbeats 4000000 in
theorem kf45_68_ok (f : Bool) (b : Bool) (N : Nat) (I : kjI) (L : kjL) (d : Nat)  : ∀ (n : Nat) (v1 : Int32) (v2 : Int32) (v3 : Int32) (r : Int32), kf45_68 b N I L n v1 v2 v3 = some r → mv_G kjP kjSta (mv_C kjP kjSta (d + 1)) kjM_45 (kjQi f I L r) (68, [some (.ref (kb b 5)), some (.int v1), some (.int v2), some (.int v3)], [], 0, 0, kjS f I L) := by
  cases b
  · intro n
    induction n with
    | zero => intro v1 v2 v3 r h; cases h
    | succ n ih =>
      have hk68 := ih
      intro v1 v2 v3 r h
      unfold kf45_68 at h
      refine mv_G_run 1 (F' := (69, [some (.ref (kb false 5)), some (.int v1), some (.int v2), some (.int v3)], [.int v3], 0, 0, kjS f I L)) rfl ?_
      by_cases hc1 : v3 < 0
      · rw [if_pos hc1] at h
        refine mv_G_br (tgt := 107) rfl rfl (by decide) (fun _ => ?_) (fun z => absurd hc1 z)
        refine mv_G_run 1 (F' := (109, [some (.ref (kb false 5)), some (.int v1), some (.int v2), some (.int v3)], [.int (15 : Int32)], 0, 0, kjS f I L)) rfl ?_
        obtain rfl := Option.some.inj h
        exact mv_G_ret rfl rfl rfl (Nat.le_refl _) trivial ⟨rfl, rfl⟩
      · rw [if_neg hc1] at h
        refine mv_G_br (tgt := 107) rfl rfl (by decide) (fun z => absurd z hc1) (fun _ => ?_)
        refine mv_G_run 5 (F' := (78, [some (.ref (kb false 5)), some (.int v1), some (.int v2), some (.int v3)], [.int v3, .int (v1 - (16 : Int32)), .ref (kb false 5)], 0, 0, kjS f I L)) rfl ?_
        obtain ⟨r2, hc3, h⟩ := mv_bd h
        refine mv_G_call (r := []) (kf41_ok _ _ _ _ _ _ _ _ hc3) rfl rfl rfl rfl rfl (Nat.le_of_ble_eq_true rfl) (Nat.le_of_ble_eq_true rfl) (Nat.le_of_ble_eq_true rfl) ?_
        rintro _ _ ⟨rfl, rfl⟩
        by_cases hc4 : r2 = 0
        · rw [if_pos hc4] at h
          refine mv_G_br (tgt := 101) rfl rfl (by decide) (fun _ => ?_) (fun z => absurd hc4 z)
          exact kf45_101_ok _ _ _ _ _ _ d hk68 _ _ _ _ h
        · rw [if_neg hc4] at h
          refine mv_G_br (tgt := 101) rfl rfl (by decide) (fun z => absurd z hc4) (fun _ => ?_)
          refine mv_G_run 5 (F' := (90, [some (.ref (kb false 5)), some (.int v1), some (.int v2), some (.int v3)], [.int v3, .int (v2 - (16 : Int32)), .ref (kb false 5)], 0, 0, kjS f I L)) rfl ?_
          obtain ⟨r5, hc6, h⟩ := mv_bd h
          refine mv_G_call (r := []) (kf41_ok _ _ _ _ _ _ _ _ hc6) rfl rfl rfl rfl rfl (Nat.le_of_ble_eq_true rfl) (Nat.le_of_ble_eq_true rfl) (Nat.le_of_ble_eq_true rfl) ?_
          rintro _ _ ⟨rfl, rfl⟩
          by_cases hc7 : r5 = 0
          · rw [if_pos hc7] at h
            refine mv_G_br (tgt := 101) rfl rfl (by decide) (fun _ => ?_) (fun z => absurd hc7 z)
            exact kf45_101_ok _ _ _ _ _ _ d hk68 _ _ _ _ h
          · rw [if_neg hc7] at h
            refine mv_G_br (tgt := 101) rfl rfl (by decide) (fun z => absurd z hc7) (fun _ => ?_)
            refine mv_G_run 3 (F' := (100, [some (.ref (kb false 5)), some (.int v1), some (.int v2), some (.int v3)], [.int ((16 : Int32) + v3)], 0, 0, kjS f I L)) rfl ?_
            obtain rfl := Option.some.inj h
            exact mv_G_ret rfl rfl rfl (Nat.le_refl _) trivial ⟨rfl, rfl⟩
  · intro n
    induction n with
    | zero => intro v1 v2 v3 r h; cases h
    | succ n ih =>
      have hk68 := ih
      intro v1 v2 v3 r h
      unfold kf45_68 at h
      refine mv_G_run 1 (F' := (69, [some (.ref (kb true 5)), some (.int v1), some (.int v2), some (.int v3)], [.int v3], 0, 0, kjS f I L)) rfl ?_
      by_cases hc1 : v3 < 0
      · rw [if_pos hc1] at h
        refine mv_G_br (tgt := 107) rfl rfl (by decide) (fun _ => ?_) (fun z => absurd hc1 z)
        refine mv_G_run 1 (F' := (109, [some (.ref (kb true 5)), some (.int v1), some (.int v2), some (.int v3)], [.int (15 : Int32)], 0, 0, kjS f I L)) rfl ?_
        obtain rfl := Option.some.inj h
        exact mv_G_ret rfl rfl rfl (Nat.le_refl _) trivial ⟨rfl, rfl⟩
      · rw [if_neg hc1] at h
        refine mv_G_br (tgt := 107) rfl rfl (by decide) (fun z => absurd z hc1) (fun _ => ?_)
        refine mv_G_run 5 (F' := (78, [some (.ref (kb true 5)), some (.int v1), some (.int v2), some (.int v3)], [.int v3, .int (v1 - (16 : Int32)), .ref (kb true 5)], 0, 0, kjS f I L)) rfl ?_
        obtain ⟨r2, hc3, h⟩ := mv_bd h
        refine mv_G_call (r := []) (kf41_ok _ _ _ _ _ _ _ _ hc3) rfl rfl rfl rfl rfl (Nat.le_of_ble_eq_true rfl) (Nat.le_of_ble_eq_true rfl) (Nat.le_of_ble_eq_true rfl) ?_
        rintro _ _ ⟨rfl, rfl⟩
        by_cases hc4 : r2 = 0
        · rw [if_pos hc4] at h
          refine mv_G_br (tgt := 101) rfl rfl (by decide) (fun _ => ?_) (fun z => absurd hc4 z)
          exact kf45_101_ok _ _ _ _ _ _ d hk68 _ _ _ _ h
        · rw [if_neg hc4] at h
          refine mv_G_br (tgt := 101) rfl rfl (by decide) (fun z => absurd z hc4) (fun _ => ?_)
          refine mv_G_run 5 (F' := (90, [some (.ref (kb true 5)), some (.int v1), some (.int v2), some (.int v3)], [.int v3, .int (v2 - (16 : Int32)), .ref (kb true 5)], 0, 0, kjS f I L)) rfl ?_
          obtain ⟨r5, hc6, h⟩ := mv_bd h
          refine mv_G_call (r := []) (kf41_ok _ _ _ _ _ _ _ _ hc6) rfl rfl rfl rfl rfl (Nat.le_of_ble_eq_true rfl) (Nat.le_of_ble_eq_true rfl) (Nat.le_of_ble_eq_true rfl) ?_
          rintro _ _ ⟨rfl, rfl⟩
          by_cases hc7 : r5 = 0
          · rw [if_pos hc7] at h
            refine mv_G_br (tgt := 101) rfl rfl (by decide) (fun _ => ?_) (fun z => absurd hc7 z)
            exact kf45_101_ok _ _ _ _ _ _ d hk68 _ _ _ _ h
          · rw [if_neg hc7] at h
            refine mv_G_br (tgt := 101) rfl rfl (by decide) (fun z => absurd z hc7) (fun _ => ?_)
            refine mv_G_run 3 (F' := (100, [some (.ref (kb true 5)), some (.int v1), some (.int v2), some (.int v3)], [.int ((16 : Int32) + v3)], 0, 0, kjS f I L)) rfl ?_
            obtain rfl := Option.some.inj h
            exact mv_G_ret rfl rfl rfl (Nat.le_refl _) trivial ⟨rfl, rfl⟩
def kf45 (b : Bool) (N : Nat) (I : kjI) (L : kjL) (v1 : Int32) (v2 : Int32) : Option (Int32) :=
  if ¬ v1 = v2 then (if v1 = (3 : Int32) then (kf45_17 b N I L v1 v2) else (if ¬ v2 = (3 : Int32) then (if v1 < (15 : Int32) then (some (0 : Int32)) else (if (15 : Int32) ≤ v2 then (kf45_68 b N I L N v1 v2 ((if v2 < v1 then v2 else v1) - (16 : Int32))) else (some (0 : Int32)))) else (kf45_17 b N I L v1 v2))) else (some v1)
set_option maxRecDepth 100000 in
set_option maxHeartbeats 4000000 in
theorem kf45_ok (f : Bool) (b : Bool) (N : Nat) (I : kjI) (L : kjL) (v1 : Int32) (v2 : Int32) (d : Nat) (r : Int32) (h : kf45 b N I L v1 v2 = some r) : mv_C kjP kjSta (d + 2) 45 [.ref (kb b 5), .int v1, .int v2] (kjS f I L) (kjQi f I L r) := by
  cases b
  · unfold kf45 at h
    refine mv_C_in kjM_45 (lc := [some (.ref (kb false 5)), some (.int v1), some (.int v2), none]) rfl rfl rfl ?_
    refine mv_G_run 2 (F' := (2, [some (.ref (kb false 5)), some (.int v1), some (.int v2), none], [.int v2, .int v1], 0, 0, kjS f I L)) rfl ?_
    by_cases hc1 : ¬ v1 = v2
    · rw [if_pos hc1] at h
      refine mv_G_br (tgt := 7) rfl rfl (by decide) (fun _ => ?_) (fun z => absurd hc1 z)
      refine mv_G_run 2 (F' := (9, [some (.ref (kb false 5)), some (.int v1), some (.int v2), none], [.int (3 : Int32), .int v1], 0, 0, kjS f I L)) rfl ?_
      by_cases hc2 : v1 = (3 : Int32)
      · rw [if_pos hc2] at h
        refine mv_G_br (tgt := 17) rfl rfl (by decide) (fun _ => ?_) (fun z => absurd hc2 z)
        refine mv_G_fg (lc' := [none, some (.int v1), some (.int v2), none]) (And.intro rfl (And.intro rfl trivial)) ?_
        exact kf45_17_ok _ _ _ _ _ d _ _ _ h
      · rw [if_neg hc2] at h
        refine mv_G_br (tgt := 17) rfl rfl (by decide) (fun z => absurd z hc2) (fun _ => ?_)
        refine mv_G_run 2 (F' := (14, [some (.ref (kb false 5)), some (.int v1), some (.int v2), none], [.int (3 : Int32), .int v2], 0, 0, kjS f I L)) rfl ?_
        by_cases hc3 : ¬ v2 = (3 : Int32)
        · rw [if_pos hc3] at h
          refine mv_G_br (tgt := 45) rfl rfl (by decide) (fun _ => ?_) (fun z => absurd hc3 z)
          refine mv_G_run 2 (F' := (48, [some (.ref (kb false 5)), some (.int v1), some (.int v2), none], [.int (15 : Int32), .int v1], 0, 0, kjS f I L)) rfl ?_
          by_cases hc4 : v1 < (15 : Int32)
          · rw [if_pos hc4] at h
            refine mv_G_br (tgt := 57) rfl rfl (by decide) (fun _ => ?_) (fun z => absurd hc4 z)
            refine mv_G_run 1 (F' := (58, [some (.ref (kb false 5)), some (.int v1), some (.int v2), none], [.int (0 : Int32)], 0, 0, kjS f I L)) rfl ?_
            obtain rfl := Option.some.inj h
            exact mv_G_ret rfl rfl rfl (Nat.le_refl _) trivial ⟨rfl, rfl⟩
          · rw [if_neg hc4] at h
            refine mv_G_br (tgt := 57) rfl rfl (by decide) (fun z => absurd z hc4) (fun _ => ?_)
            refine mv_G_run 2 (F' := (54, [some (.ref (kb false 5)), some (.int v1), some (.int v2), none], [.int (15 : Int32), .int v2], 0, 0, kjS f I L)) rfl ?_
            by_cases hc5 : (15 : Int32) ≤ v2
            · rw [if_pos hc5] at h
              refine mv_G_br (tgt := 59) rfl rfl (by decide) (fun _ => ?_) (fun z => absurd hc5 z)
              refine mv_G_run 6 (F' := (68, [some (.ref (kb false 5)), some (.int v1), some (.int v2), some (.int ((if v2 < v1 then v2 else v1) - (16 : Int32)))], [], 0, 0, kjS f I L)) rfl ?_
              exact kf45_68_ok _ _ _ _ _ d _ _ _ _ _ h
            · rw [if_neg hc5] at h
              refine mv_G_br (tgt := 59) rfl rfl (by decide) (fun z => absurd z hc5) (fun _ => ?_)
              refine mv_G_run 1 (F' := (58, [some (.ref (kb false 5)), some (.int v1), some (.int v2), none], [.int (0 : Int32)], 0, 0, kjS f I L)) rfl ?_
              obtain rfl := Option.some.inj h
              exact mv_G_ret rfl rfl rfl (Nat.le_refl _) trivial ⟨rfl, rfl⟩
        · rw [if_neg hc3] at h
          refine mv_G_br (tgt := 45) rfl rfl (by decide) (fun z => absurd z hc3) (fun _ => ?_)
          refine mv_G_fg (lc' := [none, some (.int v1), some (.int v2), none]) (And.intro rfl (And.intro rfl trivial)) ?_
          exact kf45_17_ok _ _ _ _ _ d _ _ _ h
    · rw [if_neg hc1] at h
      refine mv_G_br (tgt := 7) rfl rfl (by decide) (fun z => absurd z hc1) (fun _ => ?_)
      refine mv_G_run 1 (F' := (6, [some (.ref (kb false 5)), some (.int v1), some (.int v2), none], [.int v1], 0, 0, kjS f I L)) rfl ?_
      obtain rfl := Option.some.inj h
      exact mv_G_ret rfl rfl rfl (Nat.le_refl _) trivial ⟨rfl, rfl⟩
  · unfold kf45 at h
    refine mv_C_in kjM_45 (lc := [some (.ref (kb true 5)), some (.int v1), some (.int v2), none]) rfl rfl rfl ?_
    refine mv_G_run 2 (F' := (2, [some (.ref (kb true 5)), some (.int v1), some (.int v2), none], [.int v2, .int v1], 0, 0, kjS f I L)) rfl ?_
    by_cases hc1 : ¬ v1 = v2
    · rw [if_pos hc1] at h
      refine mv_G_br (tgt := 7) rfl rfl (by decide) (fun _ => ?_) (fun z => absurd hc1 z)
      refine mv_G_run 2 (F' := (9, [some (.ref (kb true 5)), some (.int v1), some (.int v2), none], [.int (3 : Int32), .int v1], 0, 0, kjS f I L)) rfl ?_
      by_cases hc2 : v1 = (3 : Int32)
      · rw [if_pos hc2] at h
        refine mv_G_br (tgt := 17) rfl rfl (by decide) (fun _ => ?_) (fun z => absurd hc2 z)
        refine mv_G_fg (lc' := [none, some (.int v1), some (.int v2), none]) (And.intro rfl (And.intro rfl trivial)) ?_
        exact kf45_17_ok _ _ _ _ _ d _ _ _ h
      · rw [if_neg hc2] at h
        refine mv_G_br (tgt := 17) rfl rfl (by decide) (fun z => absurd z hc2) (fun _ => ?_)
        refine mv_G_run 2 (F' := (14, [some (.ref (kb true 5)), some (.int v1), some (.int v2), none], [.int (3 : Int32), .int v2], 0, 0, kjS f I L)) rfl ?_
        by_cases hc3 : ¬ v2 = (3 : Int32)
        · rw [if_pos hc3] at h
          refine mv_G_br (tgt := 45) rfl rfl (by decide) (fun _ => ?_) (fun z => absurd hc3 z)
          refine mv_G_run 2 (F' := (48, [some (.ref (kb true 5)), some (.int v1), some (.int v2), none], [.int (15 : Int32), .int v1], 0, 0, kjS f I L)) rfl ?_
          by_cases hc4 : v1 < (15 : Int32)
          · rw [if_pos hc4] at h
            refine mv_G_br (tgt := 57) rfl rfl (by decide) (fun _ => ?_) (fun z => absurd hc4 z)
            refine mv_G_run 1 (F' := (58, [some (.ref (kb true 5)), some (.int v1), some (.int v2), none], [.int (0 : Int32)], 0, 0, kjS f I L)) rfl ?_
            obtain rfl := Option.some.inj h
            exact mv_G_ret rfl rfl rfl (Nat.le_refl _) trivial ⟨rfl, rfl⟩
          · rw [if_neg hc4] at h
            refine mv_G_br (tgt := 57) rfl rfl (by decide) (fun z => absurd z hc4) (fun _ => ?_)
            refine mv_G_run 2 (F' := (54, [some (.ref (kb true 5)), some (.int v1), some (.int v2), none], [.int (15 : Int32), .int v2], 0, 0, kjS f I L)) rfl ?_
            by_cases hc5 : (15 : Int32) ≤ v2
            · rw [if_pos hc5] at h
              refine mv_G_br (tgt := 59) rfl rfl (by decide) (fun _ => ?_) (fun z => absurd hc5 z)
              refine mv_G_run 6 (F' := (68, [some (.ref (kb true 5)), some (.int v1), some (.int v2), some (.int ((if v2 < v1 then v2 else v1) - (16 : Int32)))], [], 0, 0, kjS f I L)) rfl ?_
              exact kf45_68_ok _ _ _ _ _ d _ _ _ _ _ h
            · rw [if_neg hc5] at h
              refine mv_G_br (tgt := 59) rfl rfl (by decide) (fun z => absurd z hc5) (fun _ => ?_)
              refine mv_G_run 1 (F' := (58, [some (.ref (kb true 5)), some (.int v1), some (.int v2), none], [.int (0 : Int32)], 0, 0, kjS f I L)) rfl ?_
              obtain rfl := Option.some.inj h
              exact mv_G_ret rfl rfl rfl (Nat.le_refl _) trivial ⟨rfl, rfl⟩
        · rw [if_neg hc3] at h
          refine mv_G_br (tgt := 45) rfl rfl (by decide) (fun z => absurd z hc3) (fun _ => ?_)
          refine mv_G_fg (lc' := [none, some (.int v1), some (.int v2), none]) (And.intro rfl (And.intro rfl trivial)) ?_
          exact kf45_17_ok _ _ _ _ _ d _ _ _ h
    · rw [if_neg hc1] at h
      refine mv_G_br (tgt := 7) rfl rfl (by decide) (fun z => absurd z hc1) (fun _ => ?_)
      refine mv_G_run 1 (F' := (6, [some (.ref (kb true 5)), some (.int v1), some (.int v2), none], [.int v1], 0, 0, kjS f I L)) rfl ?_
      obtain rfl := Option.some.inj h
      exact mv_G_ret rfl rfl rfl (Nat.le_refl _) trivial ⟨rfl, rfl⟩
