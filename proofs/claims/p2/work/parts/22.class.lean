/-! KindJudge.meet(II)I on ('c', 0) -/
def kf9 (f : Bool) (N : Nat) (I : kjI) (L : kjL) (v1 : Int32) (v2 : Int32) : Option (Int32) :=
  if (I 0 2) = 0 then (some (-1 : Int32)) else ((kf42 f I L v1).bind fun r2 => if r2 = 0 then (some (-1 : Int32)) else ((kf42 f I L v2).bind fun r5 => if ¬ r5 = 0 then ((kf45 f N I L v1 v2).bind fun r8 => some r8) else (some (-1 : Int32))))
set_option maxRecDepth 100000 in
set_option maxHeartbeats 4000000 in
theorem kf9_ok (f : Bool) (N : Nat) (I : kjI) (L : kjL) (v1 : Int32) (v2 : Int32) (d : Nat) (r : Int32) (h : kf9 f N I L v1 v2 = some r) : mv_C kjP kjSta (d + 3) 9 [.ref 0, .int v1, .int v2] (kjS f I L) (kjQi f I L r) := by
  cases f
  · unfold kf9 at h
    refine mv_C_in kjM_9 (lc := [some (.ref 0), some (.int v1), some (.int v2), none]) rfl rfl rfl ?_
    refine mv_G_run 7 (F' := (15, [some (.ref 0), some (.int v1), some (.int v2), some (.ref (kb false 5))], [.int (I 0 2)], 0, 0, kjS false I L)) rfl ?_
    by_cases hc1 : (I 0 2) = 0
    · rw [if_pos hc1] at h
      refine mv_G_br (tgt := 34) rfl rfl (by decide) (fun _ => ?_) (fun z => absurd hc1 z)
      refine mv_G_run 1 (F' := (35, [some (.ref 0), some (.int v1), some (.int v2), some (.ref (kb false 5))], [.int (-1 : Int32)], 0, 0, kjS false I L)) rfl ?_
      obtain rfl := Option.some.inj h
      exact mv_G_ret rfl rfl rfl (Nat.le_refl _) trivial ⟨rfl, rfl⟩
    · rw [if_neg hc1] at h
      refine mv_G_br (tgt := 34) rfl rfl (by decide) (fun z => absurd z hc1) (fun _ => ?_)
      refine mv_G_run 2 (F' := (20, [some (.ref 0), some (.int v1), some (.int v2), some (.ref (kb false 5))], [.int v1, .ref (kb false 5)], 0, 0, kjS false I L)) rfl ?_
      obtain ⟨r2, hc3, h⟩ := mv_bd h
      refine mv_G_call (r := []) (kf42_ok _ _ _ _ _ _ _ hc3) rfl rfl rfl rfl rfl (Nat.le_of_ble_eq_true rfl) (Nat.le_of_ble_eq_true rfl) (Nat.le_of_ble_eq_true rfl) ?_
      rintro _ _ ⟨rfl, rfl⟩
      by_cases hc4 : r2 = 0
      · rw [if_pos hc4] at h
        refine mv_G_br (tgt := 34) rfl rfl (by decide) (fun _ => ?_) (fun z => absurd hc4 z)
        refine mv_G_run 1 (F' := (35, [some (.ref 0), some (.int v1), some (.int v2), some (.ref (kb false 5))], [.int (-1 : Int32)], 0, 0, kjS false I L)) rfl ?_
        obtain rfl := Option.some.inj h
        exact mv_G_ret rfl rfl rfl (Nat.le_refl _) trivial ⟨rfl, rfl⟩
      · rw [if_neg hc4] at h
        refine mv_G_br (tgt := 34) rfl rfl (by decide) (fun z => absurd z hc4) (fun _ => ?_)
        refine mv_G_run 2 (F' := (28, [some (.ref 0), some (.int v1), some (.int v2), some (.ref (kb false 5))], [.int v2, .ref (kb false 5)], 0, 0, kjS false I L)) rfl ?_
        obtain ⟨r5, hc6, h⟩ := mv_bd h
        refine mv_G_call (r := []) (kf42_ok _ _ _ _ _ _ _ hc6) rfl rfl rfl rfl rfl (Nat.le_of_ble_eq_true rfl) (Nat.le_of_ble_eq_true rfl) (Nat.le_of_ble_eq_true rfl) ?_
        rintro _ _ ⟨rfl, rfl⟩
        by_cases hc7 : ¬ r5 = 0
        · rw [if_pos hc7] at h
          refine mv_G_br (tgt := 36) rfl rfl (by decide) (fun _ => ?_) (fun z => absurd hc7 z)
          refine mv_G_run 3 (F' := (39, [some (.ref 0), some (.int v1), some (.int v2), some (.ref (kb false 5))], [.int v2, .int v1, .ref (kb false 5)], 0, 0, kjS false I L)) rfl ?_
          obtain ⟨r8, hc9, h⟩ := mv_bd h
          refine mv_G_call (r := []) (kf45_ok _ _ _ _ _ _ _ _ _ hc9) rfl rfl rfl rfl rfl (Nat.le_of_ble_eq_true rfl) (Nat.le_of_ble_eq_true rfl) (Nat.le_of_ble_eq_true rfl) ?_
          rintro _ _ ⟨rfl, rfl⟩
          obtain rfl := Option.some.inj h
          exact mv_G_ret rfl rfl rfl (Nat.le_refl _) trivial ⟨rfl, rfl⟩
        · rw [if_neg hc7] at h
          refine mv_G_br (tgt := 36) rfl rfl (by decide) (fun z => absurd z hc7) (fun _ => ?_)
          refine mv_G_run 1 (F' := (35, [some (.ref 0), some (.int v1), some (.int v2), some (.ref (kb false 5))], [.int (-1 : Int32)], 0, 0, kjS false I L)) rfl ?_
          obtain rfl := Option.some.inj h
          exact mv_G_ret rfl rfl rfl (Nat.le_refl _) trivial ⟨rfl, rfl⟩
  · unfold kf9 at h
    refine mv_C_in kjM_9 (lc := [some (.ref 0), some (.int v1), some (.int v2), none]) rfl rfl rfl ?_
    refine mv_G_run 7 (F' := (15, [some (.ref 0), some (.int v1), some (.int v2), some (.ref (kb true 5))], [.int (I 0 2)], 0, 0, kjS true I L)) rfl ?_
    by_cases hc1 : (I 0 2) = 0
    · rw [if_pos hc1] at h
      refine mv_G_br (tgt := 34) rfl rfl (by decide) (fun _ => ?_) (fun z => absurd hc1 z)
      refine mv_G_run 1 (F' := (35, [some (.ref 0), some (.int v1), some (.int v2), some (.ref (kb true 5))], [.int (-1 : Int32)], 0, 0, kjS true I L)) rfl ?_
      obtain rfl := Option.some.inj h
      exact mv_G_ret rfl rfl rfl (Nat.le_refl _) trivial ⟨rfl, rfl⟩
    · rw [if_neg hc1] at h
      refine mv_G_br (tgt := 34) rfl rfl (by decide) (fun z => absurd z hc1) (fun _ => ?_)
      refine mv_G_run 2 (F' := (20, [some (.ref 0), some (.int v1), some (.int v2), some (.ref (kb true 5))], [.int v1, .ref (kb true 5)], 0, 0, kjS true I L)) rfl ?_
      obtain ⟨r2, hc3, h⟩ := mv_bd h
      refine mv_G_call (r := []) (kf42_ok _ _ _ _ _ _ _ hc3) rfl rfl rfl rfl rfl (Nat.le_of_ble_eq_true rfl) (Nat.le_of_ble_eq_true rfl) (Nat.le_of_ble_eq_true rfl) ?_
      rintro _ _ ⟨rfl, rfl⟩
      by_cases hc4 : r2 = 0
      · rw [if_pos hc4] at h
        refine mv_G_br (tgt := 34) rfl rfl (by decide) (fun _ => ?_) (fun z => absurd hc4 z)
        refine mv_G_run 1 (F' := (35, [some (.ref 0), some (.int v1), some (.int v2), some (.ref (kb true 5))], [.int (-1 : Int32)], 0, 0, kjS true I L)) rfl ?_
        obtain rfl := Option.some.inj h
        exact mv_G_ret rfl rfl rfl (Nat.le_refl _) trivial ⟨rfl, rfl⟩
      · rw [if_neg hc4] at h
        refine mv_G_br (tgt := 34) rfl rfl (by decide) (fun z => absurd z hc4) (fun _ => ?_)
        refine mv_G_run 2 (F' := (28, [some (.ref 0), some (.int v1), some (.int v2), some (.ref (kb true 5))], [.int v2, .ref (kb true 5)], 0, 0, kjS true I L)) rfl ?_
        obtain ⟨r5, hc6, h⟩ := mv_bd h
        refine mv_G_call (r := []) (kf42_ok _ _ _ _ _ _ _ hc6) rfl rfl rfl rfl rfl (Nat.le_of_ble_eq_true rfl) (Nat.le_of_ble_eq_true rfl) (Nat.le_of_ble_eq_true rfl) ?_
        rintro _ _ ⟨rfl, rfl⟩
        by_cases hc7 : ¬ r5 = 0
        · rw [if_pos hc7] at h
          refine mv_G_br (tgt := 36) rfl rfl (by decide) (fun _ => ?_) (fun z => absurd hc7 z)
          refine mv_G_run 3 (F' := (39, [some (.ref 0), some (.int v1), some (.int v2), some (.ref (kb true 5))], [.int v2, .int v1, .ref (kb true 5)], 0, 0, kjS true I L)) rfl ?_
          obtain ⟨r8, hc9, h⟩ := mv_bd h
          refine mv_G_call (r := []) (kf45_ok _ _ _ _ _ _ _ _ _ hc9) rfl rfl rfl rfl rfl (Nat.le_of_ble_eq_true rfl) (Nat.le_of_ble_eq_true rfl) (Nat.le_of_ble_eq_true rfl) ?_
          rintro _ _ ⟨rfl, rfl⟩
          obtain rfl := Option.some.inj h
          exact mv_G_ret rfl rfl rfl (Nat.le_refl _) trivial ⟨rfl, rfl⟩
        · rw [if_neg hc7] at h
          refine mv_G_br (tgt := 36) rfl rfl (by decide) (fun z => absurd z hc7) (fun _ => ?_)
          refine mv_G_run 1 (F' := (35, [some (.ref 0), some (.int v1), some (.int v2), some (.ref (kb true 5))], [.int (-1 : Int32)], 0, 0, kjS true I L)) rfl ?_
          obtain rfl := Option.some.inj h
          exact mv_G_ret rfl rfl rfl (Nat.le_refl _) trivial ⟨rfl, rfl⟩
/-! KindJudge$Classes.has(I)Z on ('b', 5) -/
def kf37 (b : Bool) (I : kjI) (L : kjL) (v1 : Int32) : Option (Int32) :=
  if v1 < 0 then (some (0 : Int32)) else (if (I (kb b 5) 4) ≤ v1 then (some (0 : Int32)) else (some (1 : Int32)))
set_option maxRecDepth 100000 in
set_option maxHeartbeats 4000000 in
theorem kf37_ok (f : Bool) (b : Bool) (I : kjI) (L : kjL) (v1 : Int32) (d : Nat) (r : Int32) (h : kf37 b I L v1 = some r) : mv_C kjP kjSta (d + 1) 37 [.ref (kb b 5), .int v1] (kjS f I L) (kjQi f I L r) := by
  cases b
  · unfold kf37 at h
    refine mv_C_in kjM_37 (lc := [some (.ref (kb false 5)), some (.int v1)]) rfl rfl rfl ?_
    refine mv_G_run 1 (F' := (1, [some (.ref (kb false 5)), some (.int v1)], [.int v1], 0, 0, kjS f I L)) rfl ?_
    by_cases hc1 : v1 < 0
    · rw [if_pos hc1] at h
      refine mv_G_br (tgt := 16) rfl rfl (by decide) (fun _ => ?_) (fun z => absurd hc1 z)
      refine mv_G_run 1 (F' := (17, [some (.ref (kb false 5)), some (.int v1)], [.int (0 : Int32)], 0, 0, kjS f I L)) rfl ?_
      obtain rfl := Option.some.inj h
      exact mv_G_ret rfl rfl rfl (Nat.le_refl _) (Or.inl rfl) ⟨rfl, rfl⟩
    · rw [if_neg hc1] at h
      refine mv_G_br (tgt := 16) rfl rfl (by decide) (fun z => absurd z hc1) (fun _ => ?_)
      refine mv_G_run 3 (F' := (9, [some (.ref (kb false 5)), some (.int v1)], [.int (I (kb false 5) 4), .int v1], 0, 0, kjS f I L)) rfl ?_
      by_cases hc2 : (I (kb false 5) 4) ≤ v1
      · rw [if_pos hc2] at h
        refine mv_G_br (tgt := 16) rfl rfl (by decide) (fun _ => ?_) (fun z => absurd hc2 z)
        refine mv_G_run 1 (F' := (17, [some (.ref (kb false 5)), some (.int v1)], [.int (0 : Int32)], 0, 0, kjS f I L)) rfl ?_
        obtain rfl := Option.some.inj h
        exact mv_G_ret rfl rfl rfl (Nat.le_refl _) (Or.inl rfl) ⟨rfl, rfl⟩
      · rw [if_neg hc2] at h
        refine mv_G_br (tgt := 16) rfl rfl (by decide) (fun z => absurd z hc2) (fun _ => ?_)
        refine mv_G_run 2 (F' := (17, [some (.ref (kb false 5)), some (.int v1)], [.int (1 : Int32)], 0, 0, kjS f I L)) rfl ?_
        obtain rfl := Option.some.inj h
        exact mv_G_ret rfl rfl rfl (Nat.le_refl _) (Or.inr rfl) ⟨rfl, rfl⟩
  · unfold kf37 at h
    refine mv_C_in kjM_37 (lc := [some (.ref (kb true 5)), some (.int v1)]) rfl rfl rfl ?_
    refine mv_G_run 1 (F' := (1, [some (.ref (kb true 5)), some (.int v1)], [.int v1], 0, 0, kjS f I L)) rfl ?_
    by_cases hc1 : v1 < 0
    · rw [if_pos hc1] at h
      refine mv_G_br (tgt := 16) rfl rfl (by decide) (fun _ => ?_) (fun z => absurd hc1 z)
      refine mv_G_run 1 (F' := (17, [some (.ref (kb true 5)), some (.int v1)], [.int (0 : Int32)], 0, 0, kjS f I L)) rfl ?_
      obtain rfl := Option.some.inj h
      exact mv_G_ret rfl rfl rfl (Nat.le_refl _) (Or.inl rfl) ⟨rfl, rfl⟩
    · rw [if_neg hc1] at h
      refine mv_G_br (tgt := 16) rfl rfl (by decide) (fun z => absurd z hc1) (fun _ => ?_)
      refine mv_G_run 3 (F' := (9, [some (.ref (kb true 5)), some (.int v1)], [.int (I (kb true 5) 4), .int v1], 0, 0, kjS f I L)) rfl ?_
      by_cases hc2 : (I (kb true 5) 4) ≤ v1
      · rw [if_pos hc2] at h
        refine mv_G_br (tgt := 16) rfl rfl (by decide) (fun _ => ?_) (fun z => absurd hc2 z)
        refine mv_G_run 1 (F' := (17, [some (.ref (kb true 5)), some (.int v1)], [.int (0 : Int32)], 0, 0, kjS f I L)) rfl ?_
        obtain rfl := Option.some.inj h
        exact mv_G_ret rfl rfl rfl (Nat.le_refl _) (Or.inl rfl) ⟨rfl, rfl⟩
      · rw [if_neg hc2] at h
        refine mv_G_br (tgt := 16) rfl rfl (by decide) (fun z => absurd z hc2) (fun _ => ?_)
        refine mv_G_run 2 (F' := (17, [some (.ref (kb true 5)), some (.int v1)], [.int (1 : Int32)], 0, 0, kjS f I L)) rfl ?_
        obtain rfl := Option.some.inj h
        exact mv_G_ret rfl rfl rfl (Nat.le_refl _) (Or.inr rfl) ⟨rfl, rfl⟩
/-! KindJudge$Signatures.has(I)Z on ('b', 10) -/
def kf49a (b : Bool) (I : kjI) (L : kjL) (v1 : Int32) : Option (Int32) :=
  if v1 < 0 then (some (0 : Int32)) else (if (I (kb b 10) 3) ≤ v1 then (some (0 : Int32)) else (some (1 : Int32)))
set_option maxRecDepth 100000 in
set_option maxHeartbeats 4000000 in
theorem kf49a_ok (f : Bool) (b : Bool) (I : kjI) (L : kjL) (v1 : Int32) (d : Nat) (r : Int32) (h : kf49a b I L v1 = some r) : mv_C kjP kjSta (d + 1) 49 [.ref (kb b 10), .int v1] (kjS f I L) (kjQi f I L r) := by
  cases b
  · unfold kf49a at h
    refine mv_C_in kjM_49 (lc := [some (.ref (kb false 10)), some (.int v1)]) rfl rfl rfl ?_
    refine mv_G_run 1 (F' := (1, [some (.ref (kb false 10)), some (.int v1)], [.int v1], 0, 0, kjS f I L)) rfl ?_
    by_cases hc1 : v1 < 0
    · rw [if_pos hc1] at h
      refine mv_G_br (tgt := 16) rfl rfl (by decide) (fun _ => ?_) (fun z => absurd hc1 z)
      refine mv_G_run 1 (F' := (17, [some (.ref (kb false 10)), some (.int v1)], [.int (0 : Int32)], 0, 0, kjS f I L)) rfl ?_
      obtain rfl := Option.some.inj h
      exact mv_G_ret rfl rfl rfl (Nat.le_refl _) (Or.inl rfl) ⟨rfl, rfl⟩
    · rw [if_neg hc1] at h
      refine mv_G_br (tgt := 16) rfl rfl (by decide) (fun z => absurd z hc1) (fun _ => ?_)
      refine mv_G_run 3 (F' := (9, [some (.ref (kb false 10)), some (.int v1)], [.int (I (kb false 10) 3), .int v1], 0, 0, kjS f I L)) rfl ?_
      by_cases hc2 : (I (kb false 10) 3) ≤ v1
      · rw [if_pos hc2] at h
        refine mv_G_br (tgt := 16) rfl rfl (by decide) (fun _ => ?_) (fun z => absurd hc2 z)
        refine mv_G_run 1 (F' := (17, [some (.ref (kb false 10)), some (.int v1)], [.int (0 : Int32)], 0, 0, kjS f I L)) rfl ?_
        obtain rfl := Option.some.inj h
        exact mv_G_ret rfl rfl rfl (Nat.le_refl _) (Or.inl rfl) ⟨rfl, rfl⟩
      · rw [if_neg hc2] at h
        refine mv_G_br (tgt := 16) rfl rfl (by decide) (fun z => absurd z hc2) (fun _ => ?_)
        refine mv_G_run 2 (F' := (17, [some (.ref (kb false 10)), some (.int v1)], [.int (1 : Int32)], 0, 0, kjS f I L)) rfl ?_
        obtain rfl := Option.some.inj h
        exact mv_G_ret rfl rfl rfl (Nat.le_refl _) (Or.inr rfl) ⟨rfl, rfl⟩
  · unfold kf49a at h
    refine mv_C_in kjM_49 (lc := [some (.ref (kb true 10)), some (.int v1)]) rfl rfl rfl ?_
    refine mv_G_run 1 (F' := (1, [some (.ref (kb true 10)), some (.int v1)], [.int v1], 0, 0, kjS f I L)) rfl ?_
    by_cases hc1 : v1 < 0
    · rw [if_pos hc1] at h
      refine mv_G_br (tgt := 16) rfl rfl (by decide) (fun _ => ?_) (fun z => absurd hc1 z)
      refine mv_G_run 1 (F' := (17, [some (.ref (kb true 10)), some (.int v1)], [.int (0 : Int32)], 0, 0, kjS f I L)) rfl ?_
      obtain rfl := Option.some.inj h
      exact mv_G_ret rfl rfl rfl (Nat.le_refl _) (Or.inl rfl) ⟨rfl, rfl⟩
    · rw [if_neg hc1] at h
      refine mv_G_br (tgt := 16) rfl rfl (by decide) (fun z => absurd z hc1) (fun _ => ?_)
      refine mv_G_run 3 (F' := (9, [some (.ref (kb true 10)), some (.int v1)], [.int (I (kb true 10) 3), .int v1], 0, 0, kjS f I L)) rfl ?_
      by_cases hc2 : (I (kb true 10) 3) ≤ v1
      · rw [if_pos hc2] at h
        refine mv_G_br (tgt := 16) rfl rfl (by decide) (fun _ => ?_) (fun z => absurd hc2 z)
        refine mv_G_run 1 (F' := (17, [some (.ref (kb true 10)), some (.int v1)], [.int (0 : Int32)], 0, 0, kjS f I L)) rfl ?_
        obtain rfl := Option.some.inj h
        exact mv_G_ret rfl rfl rfl (Nat.le_refl _) (Or.inl rfl) ⟨rfl, rfl⟩
      · rw [if_neg hc2] at h
        refine mv_G_br (tgt := 16) rfl rfl (by decide) (fun z => absurd z hc2) (fun _ => ?_)
        refine mv_G_run 2 (F' := (17, [some (.ref (kb true 10)), some (.int v1)], [.int (1 : Int32)], 0, 0, kjS f I L)) rfl ?_
        obtain rfl := Option.some.inj h
        exact mv_G_ret rfl rfl rfl (Nat.le_refl _) (Or.inr rfl) ⟨rfl, rfl⟩
/-! KindJudge$Layout.methodFor(II)I on ('b', 4) -/
def kf29 (b : Bool) (I : kjI) (L : kjL) (v1 : Int32) (v2 : Int32) : Option (Int32) :=
  (kf37 b I L v1).bind fun r1 => if r1 = 0 then (some (-1 : Int32)) else ((kf49a b I L v2).bind fun r4 => if r4 = 0 then (some (-1 : Int32)) else (bif mv_in ((v1 * (8 : Int32)) + v2) 64 then (some (I (kb b 22) (Int32.toNatClampNeg ((v1 * (8 : Int32)) + v2)))) else none))
set_option maxRecDepth 100000 in
set_option maxHeartbeats 4000000 in
theorem kf29_ok (f : Bool) (b : Bool) (I : kjI) (L : kjL) (v1 : Int32) (v2 : Int32) (d : Nat) (r : Int32) (h : kf29 b I L v1 v2 = some r) : mv_C kjP kjSta (d + 2) 29 [.ref (kb b 4), .int v1, .int v2] (kjS f I L) (kjQi f I L r) := by
  cases b
  · unfold kf29 at h
    refine mv_C_in kjM_29 (lc := [some (.ref (kb false 4)), some (.int v1), some (.int v2)]) rfl rfl rfl ?_
    refine mv_G_run 3 (F' := (5, [some (.ref (kb false 4)), some (.int v1), some (.int v2)], [.int v1, .ref (kb false 5)], 0, 0, kjS f I L)) rfl ?_
    obtain ⟨r1, hc2, h⟩ := mv_bd h
    refine mv_G_call (r := []) (kf37_ok _ _ _ _ _ _ _ hc2) rfl rfl rfl rfl rfl (Nat.le_of_ble_eq_true rfl) (Nat.le_of_ble_eq_true rfl) (Nat.le_of_ble_eq_true rfl) ?_
    rintro _ _ ⟨rfl, rfl⟩
    by_cases hc3 : r1 = 0
    · rw [if_pos hc3] at h
      refine mv_G_br (tgt := 36) rfl rfl (by decide) (fun _ => ?_) (fun z => absurd hc3 z)
      refine mv_G_run 1 (F' := (37, [some (.ref (kb false 4)), some (.int v1), some (.int v2)], [.int (-1 : Int32)], 0, 0, kjS f I L)) rfl ?_
      obtain rfl := Option.some.inj h
      exact mv_G_ret rfl rfl rfl (Nat.le_refl _) trivial ⟨rfl, rfl⟩
    · rw [if_neg hc3] at h
      refine mv_G_br (tgt := 36) rfl rfl (by decide) (fun z => absurd z hc3) (fun _ => ?_)
      refine mv_G_run 3 (F' := (16, [some (.ref (kb false 4)), some (.int v1), some (.int v2)], [.int v2, .ref (kb false 10)], 0, 0, kjS f I L)) rfl ?_
      obtain ⟨r4, hc5, h⟩ := mv_bd h
      refine mv_G_call (r := []) (kf49a_ok _ _ _ _ _ _ _ hc5) rfl rfl rfl rfl rfl (Nat.le_of_ble_eq_true rfl) (Nat.le_of_ble_eq_true rfl) (Nat.le_of_ble_eq_true rfl) ?_
      rintro _ _ ⟨rfl, rfl⟩
      by_cases hc6 : r4 = 0
      · rw [if_pos hc6] at h
        refine mv_G_br (tgt := 36) rfl rfl (by decide) (fun _ => ?_) (fun z => absurd hc6 z)
        refine mv_G_run 1 (F' := (37, [some (.ref (kb false 4)), some (.int v1), some (.int v2)], [.int (-1 : Int32)], 0, 0, kjS f I L)) rfl ?_
        obtain rfl := Option.some.inj h
        exact mv_G_ret rfl rfl rfl (Nat.le_refl _) trivial ⟨rfl, rfl⟩
      · rw [if_neg hc6] at h
        refine mv_G_br (tgt := 36) rfl rfl (by decide) (fun z => absurd z hc6) (fun _ => ?_)
        refine mv_G_run 7 (F' := (32, [some (.ref (kb false 4)), some (.int v1), some (.int v2)], [.int ((v1 * (8 : Int32)) + v2), .ref (kb false 22)], 0, 0, kjS f I L)) rfl ?_
        obtain ⟨hi7, h⟩ := mv_bifs h
        refine mv_G_ald rfl rfl (mv_in_ok hi7) ?_
        refine mv_G_run 1 (F' := (37, [some (.ref (kb false 4)), some (.int v1), some (.int v2)], [.int (I (kb false 22) (Int32.toNatClampNeg ((v1 * (8 : Int32)) + v2)))], 0, 0, kjS f I L)) rfl ?_
        obtain rfl := Option.some.inj h
        exact mv_G_ret rfl rfl rfl (Nat.le_refl _) trivial ⟨rfl, rfl⟩
  · unfold kf29 at h
    refine mv_C_in kjM_29 (lc := [some (.ref (kb true 4)), some (.int v1), some (.int v2)]) rfl rfl rfl ?_
    refine mv_G_run 3 (F' := (5, [some (.ref (kb true 4)), some (.int v1), some (.int v2)], [.int v1, .ref (kb true 5)], 0, 0, kjS f I L)) rfl ?_
    obtain ⟨r1, hc2, h⟩ := mv_bd h
    refine mv_G_call (r := []) (kf37_ok _ _ _ _ _ _ _ hc2) rfl rfl rfl rfl rfl (Nat.le_of_ble_eq_true rfl) (Nat.le_of_ble_eq_true rfl) (Nat.le_of_ble_eq_true rfl) ?_
    rintro _ _ ⟨rfl, rfl⟩
    by_cases hc3 : r1 = 0
    · rw [if_pos hc3] at h
      refine mv_G_br (tgt := 36) rfl rfl (by decide) (fun _ => ?_) (fun z => absurd hc3 z)
      refine mv_G_run 1 (F' := (37, [some (.ref (kb true 4)), some (.int v1), some (.int v2)], [.int (-1 : Int32)], 0, 0, kjS f I L)) rfl ?_
      obtain rfl := Option.some.inj h
      exact mv_G_ret rfl rfl rfl (Nat.le_refl _) trivial ⟨rfl, rfl⟩
    · rw [if_neg hc3] at h
      refine mv_G_br (tgt := 36) rfl rfl (by decide) (fun z => absurd z hc3) (fun _ => ?_)
      refine mv_G_run 3 (F' := (16, [some (.ref (kb true 4)), some (.int v1), some (.int v2)], [.int v2, .ref (kb true 10)], 0, 0, kjS f I L)) rfl ?_
      obtain ⟨r4, hc5, h⟩ := mv_bd h
      refine mv_G_call (r := []) (kf49a_ok _ _ _ _ _ _ _ hc5) rfl rfl rfl rfl rfl (Nat.le_of_ble_eq_true rfl) (Nat.le_of_ble_eq_true rfl) (Nat.le_of_ble_eq_true rfl) ?_
      rintro _ _ ⟨rfl, rfl⟩
      by_cases hc6 : r4 = 0
      · rw [if_pos hc6] at h
        refine mv_G_br (tgt := 36) rfl rfl (by decide) (fun _ => ?_) (fun z => absurd hc6 z)
        refine mv_G_run 1 (F' := (37, [some (.ref (kb true 4)), some (.int v1), some (.int v2)], [.int (-1 : Int32)], 0, 0, kjS f I L)) rfl ?_
        obtain rfl := Option.some.inj h
        exact mv_G_ret rfl rfl rfl (Nat.le_refl _) trivial ⟨rfl, rfl⟩
      · rw [if_neg hc6] at h
        refine mv_G_br (tgt := 36) rfl rfl (by decide) (fun z => absurd z hc6) (fun _ => ?_)
        refine mv_G_run 7 (F' := (32, [some (.ref (kb true 4)), some (.int v1), some (.int v2)], [.int ((v1 * (8 : Int32)) + v2), .ref (kb true 22)], 0, 0, kjS f I L)) rfl ?_
        obtain ⟨hi7, h⟩ := mv_bifs h
        refine mv_G_ald rfl rfl (mv_in_ok hi7) ?_
        refine mv_G_run 1 (F' := (37, [some (.ref (kb true 4)), some (.int v1), some (.int v2)], [.int (I (kb true 22) (Int32.toNatClampNeg ((v1 * (8 : Int32)) + v2)))], 0, 0, kjS f I L)) rfl ?_
        obtain rfl := Option.some.inj h
        exact mv_G_ret rfl rfl rfl (Nat.le_refl _) trivial ⟨rfl, rfl⟩
/-! KindJudge.method(II)I on ('c', 0) -/
def kf10 (f : Bool) (I : kjI) (L : kjL) (v1 : Int32) (v2 : Int32) : Option (Int32) :=
  (kf29 f I L v1 v2).bind fun r1 => some r1
set_option maxRecDepth 100000 in
set_option maxHeartbeats 4000000 in
theorem kf10_ok (f : Bool) (I : kjI) (L : kjL) (v1 : Int32) (v2 : Int32) (d : Nat) (r : Int32) (h : kf10 f I L v1 v2 = some r) : mv_C kjP kjSta (d + 3) 10 [.ref 0, .int v1, .int v2] (kjS f I L) (kjQi f I L r) := by
  cases f
  · unfold kf10 at h
    refine mv_C_in kjM_10 (lc := [some (.ref 0), some (.int v1), some (.int v2)]) rfl rfl rfl ?_
    refine mv_G_run 5 (F' := (9, [some (.ref 0), some (.int v1), some (.int v2)], [.int v2, .int v1, .ref (kb false 4)], 0, 0, kjS false I L)) rfl ?_
    obtain ⟨r1, hc2, h⟩ := mv_bd h
    refine mv_G_call (r := []) (kf29_ok _ _ _ _ _ _ _ _ hc2) rfl rfl rfl rfl rfl (Nat.le_of_ble_eq_true rfl) (Nat.le_of_ble_eq_true rfl) (Nat.le_of_ble_eq_true rfl) ?_
    rintro _ _ ⟨rfl, rfl⟩
    obtain rfl := Option.some.inj h
    exact mv_G_ret rfl rfl rfl (Nat.le_refl _) trivial ⟨rfl, rfl⟩
  · unfold kf10 at h
    refine mv_C_in kjM_10 (lc := [some (.ref 0), some (.int v1), some (.int v2)]) rfl rfl rfl ?_
    refine mv_G_run 5 (F' := (9, [some (.ref 0), some (.int v1), some (.int v2)], [.int v2, .int v1, .ref (kb true 4)], 0, 0, kjS true I L)) rfl ?_
    obtain ⟨r1, hc2, h⟩ := mv_bd h
    refine mv_G_call (r := []) (kf29_ok _ _ _ _ _ _ _ _ hc2) rfl rfl rfl rfl rfl (Nat.le_of_ble_eq_true rfl) (Nat.le_of_ble_eq_true rfl) (Nat.le_of_ble_eq_true rfl) ?_
    rintro _ _ ⟨rfl, rfl⟩
    obtain rfl := Option.some.inj h
    exact mv_G_ret rfl rfl rfl (Nat.le_refl _) trivial ⟨rfl, rfl⟩
/-! KindJudge$Classes.superOf(I)I on ('b', 5) -/
def kf38 (b : Bool) (I : kjI) (L : kjL) (v1 : Int32) : Option (Int32) :=
  if v1 < 0 then (some (-1 : Int32)) else (if (I (kb b 5) 4) ≤ v1 then (some (-1 : Int32)) else (bif mv_in v1 8 then (some (I (kb b 6) (Int32.toNatClampNeg v1))) else none))
set_option maxRecDepth 100000 in
set_option maxHeartbeats 4000000 in
theorem kf38_ok (f : Bool) (b : Bool) (I : kjI) (L : kjL) (v1 : Int32) (d : Nat) (r : Int32) (h : kf38 b I L v1 = some r) : mv_C kjP kjSta (d + 1) 38 [.ref (kb b 5), .int v1] (kjS f I L) (kjQi f I L r) := by
  cases b
  · unfold kf38 at h
    refine mv_C_in kjM_38 (lc := [some (.ref (kb false 5)), some (.int v1)]) rfl rfl rfl ?_
    refine mv_G_run 1 (F' := (1, [some (.ref (kb false 5)), some (.int v1)], [.int v1], 0, 0, kjS f I L)) rfl ?_
    by_cases hc1 : v1 < 0
    · rw [if_pos hc1] at h
      refine mv_G_br (tgt := 21) rfl rfl (by decide) (fun _ => ?_) (fun z => absurd hc1 z)
      refine mv_G_run 1 (F' := (22, [some (.ref (kb false 5)), some (.int v1)], [.int (-1 : Int32)], 0, 0, kjS f I L)) rfl ?_
      obtain rfl := Option.some.inj h
      exact mv_G_ret rfl rfl rfl (Nat.le_refl _) trivial ⟨rfl, rfl⟩
    · rw [if_neg hc1] at h
      refine mv_G_br (tgt := 21) rfl rfl (by decide) (fun z => absurd z hc1) (fun _ => ?_)
      refine mv_G_run 3 (F' := (9, [some (.ref (kb false 5)), some (.int v1)], [.int (I (kb false 5) 4), .int v1], 0, 0, kjS f I L)) rfl ?_
      by_cases hc2 : (I (kb false 5) 4) ≤ v1
      · rw [if_pos hc2] at h
        refine mv_G_br (tgt := 21) rfl rfl (by decide) (fun _ => ?_) (fun z => absurd hc2 z)
        refine mv_G_run 1 (F' := (22, [some (.ref (kb false 5)), some (.int v1)], [.int (-1 : Int32)], 0, 0, kjS f I L)) rfl ?_
        obtain rfl := Option.some.inj h
        exact mv_G_ret rfl rfl rfl (Nat.le_refl _) trivial ⟨rfl, rfl⟩
      · rw [if_neg hc2] at h
        refine mv_G_br (tgt := 21) rfl rfl (by decide) (fun z => absurd z hc2) (fun _ => ?_)
        refine mv_G_run 3 (F' := (17, [some (.ref (kb false 5)), some (.int v1)], [.int v1, .ref (kb false 6)], 0, 0, kjS f I L)) rfl ?_
        obtain ⟨hi3, h⟩ := mv_bifs h
        refine mv_G_ald rfl rfl (mv_in_ok hi3) ?_
        refine mv_G_run 1 (F' := (22, [some (.ref (kb false 5)), some (.int v1)], [.int (I (kb false 6) (Int32.toNatClampNeg v1))], 0, 0, kjS f I L)) rfl ?_
        obtain rfl := Option.some.inj h
        exact mv_G_ret rfl rfl rfl (Nat.le_refl _) trivial ⟨rfl, rfl⟩
  · unfold kf38 at h
    refine mv_C_in kjM_38 (lc := [some (.ref (kb true 5)), some (.int v1)]) rfl rfl rfl ?_
    refine mv_G_run 1 (F' := (1, [some (.ref (kb true 5)), some (.int v1)], [.int v1], 0, 0, kjS f I L)) rfl ?_
    by_cases hc1 : v1 < 0
    · rw [if_pos hc1] at h
      refine mv_G_br (tgt := 21) rfl rfl (by decide) (fun _ => ?_) (fun z => absurd hc1 z)
      refine mv_G_run 1 (F' := (22, [some (.ref (kb true 5)), some (.int v1)], [.int (-1 : Int32)], 0, 0, kjS f I L)) rfl ?_
      obtain rfl := Option.some.inj h
      exact mv_G_ret rfl rfl rfl (Nat.le_refl _) trivial ⟨rfl, rfl⟩
    · rw [if_neg hc1] at h
      refine mv_G_br (tgt := 21) rfl rfl (by decide) (fun z => absurd z hc1) (fun _ => ?_)
      refine mv_G_run 3 (F' := (9, [some (.ref (kb true 5)), some (.int v1)], [.int (I (kb true 5) 4), .int v1], 0, 0, kjS f I L)) rfl ?_
      by_cases hc2 : (I (kb true 5) 4) ≤ v1
      · rw [if_pos hc2] at h
        refine mv_G_br (tgt := 21) rfl rfl (by decide) (fun _ => ?_) (fun z => absurd hc2 z)
        refine mv_G_run 1 (F' := (22, [some (.ref (kb true 5)), some (.int v1)], [.int (-1 : Int32)], 0, 0, kjS f I L)) rfl ?_
        obtain rfl := Option.some.inj h
        exact mv_G_ret rfl rfl rfl (Nat.le_refl _) trivial ⟨rfl, rfl⟩
      · rw [if_neg hc2] at h
        refine mv_G_br (tgt := 21) rfl rfl (by decide) (fun z => absurd z hc2) (fun _ => ?_)
        refine mv_G_run 3 (F' := (17, [some (.ref (kb true 5)), some (.int v1)], [.int v1, .ref (kb true 6)], 0, 0, kjS f I L)) rfl ?_
        obtain ⟨hi3, h⟩ := mv_bifs h
        refine mv_G_ald rfl rfl (mv_in_ok hi3) ?_
        refine mv_G_run 1 (F' := (22, [some (.ref (kb true 5)), some (.int v1)], [.int (I (kb true 6) (Int32.toNatClampNeg v1))], 0, 0, kjS f I L)) rfl ?_
        obtain rfl := Option.some.inj h
        exact mv_G_ret rfl rfl rfl (Nat.le_refl _) trivial ⟨rfl, rfl⟩
/-! KindJudge$Classes.fieldsOf(I)I on ('b', 5) -/
def kf39 (b : Bool) (I : kjI) (L : kjL) (v1 : Int32) : Option (Int32) :=
  if v1 < 0 then (some (0 : Int32)) else (if (I (kb b 5) 4) ≤ v1 then (some (0 : Int32)) else (bif mv_in v1 8 then (some (I (kb b 7) (Int32.toNatClampNeg v1))) else none))
set_option maxRecDepth 100000 in
set_option maxHeartbeats 4000000 in
theorem kf39_ok (f : Bool) (b : Bool) (I : kjI) (L : kjL) (v1 : Int32) (d : Nat) (r : Int32) (h : kf39 b I L v1 = some r) : mv_C kjP kjSta (d + 1) 39 [.ref (kb b 5), .int v1] (kjS f I L) (kjQi f I L r) := by
  cases b
  · unfold kf39 at h
    refine mv_C_in kjM_39 (lc := [some (.ref (kb false 5)), some (.int v1)]) rfl rfl rfl ?_
    refine mv_G_run 1 (F' := (1, [some (.ref (kb false 5)), some (.int v1)], [.int v1], 0, 0, kjS f I L)) rfl ?_
    by_cases hc1 : v1 < 0
    · rw [if_pos hc1] at h
      refine mv_G_br (tgt := 21) rfl rfl (by decide) (fun _ => ?_) (fun z => absurd hc1 z)
      refine mv_G_run 1 (F' := (22, [some (.ref (kb false 5)), some (.int v1)], [.int (0 : Int32)], 0, 0, kjS f I L)) rfl ?_
      obtain rfl := Option.some.inj h
      exact mv_G_ret rfl rfl rfl (Nat.le_refl _) trivial ⟨rfl, rfl⟩
    · rw [if_neg hc1] at h
      refine mv_G_br (tgt := 21) rfl rfl (by decide) (fun z => absurd z hc1) (fun _ => ?_)
      refine mv_G_run 3 (F' := (9, [some (.ref (kb false 5)), some (.int v1)], [.int (I (kb false 5) 4), .int v1], 0, 0, kjS f I L)) rfl ?_
      by_cases hc2 : (I (kb false 5) 4) ≤ v1
      · rw [if_pos hc2] at h
        refine mv_G_br (tgt := 21) rfl rfl (by decide) (fun _ => ?_) (fun z => absurd hc2 z)
        refine mv_G_run 1 (F' := (22, [some (.ref (kb false 5)), some (.int v1)], [.int (0 : Int32)], 0, 0, kjS f I L)) rfl ?_
        obtain rfl := Option.some.inj h
        exact mv_G_ret rfl rfl rfl (Nat.le_refl _) trivial ⟨rfl, rfl⟩
      · rw [if_neg hc2] at h
        refine mv_G_br (tgt := 21) rfl rfl (by decide) (fun z => absurd z hc2) (fun _ => ?_)
        refine mv_G_run 3 (F' := (17, [some (.ref (kb false 5)), some (.int v1)], [.int v1, .ref (kb false 7)], 0, 0, kjS f I L)) rfl ?_
        obtain ⟨hi3, h⟩ := mv_bifs h
        refine mv_G_ald rfl rfl (mv_in_ok hi3) ?_
        refine mv_G_run 1 (F' := (22, [some (.ref (kb false 5)), some (.int v1)], [.int (I (kb false 7) (Int32.toNatClampNeg v1))], 0, 0, kjS f I L)) rfl ?_
        obtain rfl := Option.some.inj h
        exact mv_G_ret rfl rfl rfl (Nat.le_refl _) trivial ⟨rfl, rfl⟩
  · unfold kf39 at h
    refine mv_C_in kjM_39 (lc := [some (.ref (kb true 5)), some (.int v1)]) rfl rfl rfl ?_
    refine mv_G_run 1 (F' := (1, [some (.ref (kb true 5)), some (.int v1)], [.int v1], 0, 0, kjS f I L)) rfl ?_
    by_cases hc1 : v1 < 0
    · rw [if_pos hc1] at h
      refine mv_G_br (tgt := 21) rfl rfl (by decide) (fun _ => ?_) (fun z => absurd hc1 z)
      refine mv_G_run 1 (F' := (22, [some (.ref (kb true 5)), some (.int v1)], [.int (0 : Int32)], 0, 0, kjS f I L)) rfl ?_
      obtain rfl := Option.some.inj h
      exact mv_G_ret rfl rfl rfl (Nat.le_refl _) trivial ⟨rfl, rfl⟩
    · rw [if_neg hc1] at h
      refine mv_G_br (tgt := 21) rfl rfl (by decide) (fun z => absurd z hc1) (fun _ => ?_)
      refine mv_G_run 3 (F' := (9, [some (.ref (kb true 5)), some (.int v1)], [.int (I (kb true 5) 4), .int v1], 0, 0, kjS f I L)) rfl ?_
      by_cases hc2 : (I (kb true 5) 4) ≤ v1
      · rw [if_pos hc2] at h
        refine mv_G_br (tgt := 21) rfl rfl (by decide) (fun _ => ?_) (fun z => absurd hc2 z)
        refine mv_G_run 1 (F' := (22, [some (.ref (kb true 5)), some (.int v1)], [.int (0 : Int32)], 0, 0, kjS f I L)) rfl ?_
        obtain rfl := Option.some.inj h
        exact mv_G_ret rfl rfl rfl (Nat.le_refl _) trivial ⟨rfl, rfl⟩
      · rw [if_neg hc2] at h
        refine mv_G_br (tgt := 21) rfl rfl (by decide) (fun z => absurd z hc2) (fun _ => ?_)
        refine mv_G_run 3 (F' := (17, [some (.ref (kb true 5)), some (.int v1)], [.int v1, .ref (kb true 7)], 0, 0, kjS f I L)) rfl ?_
        obtain ⟨hi3, h⟩ := mv_bifs h
        refine mv_G_ald rfl rfl (mv_in_ok hi3) ?_
        refine mv_G_run 1 (F' := (22, [some (.ref (kb true 5)), some (.int v1)], [.int (I (kb true 7) (Int32.toNatClampNeg v1))], 0, 0, kjS f I L)) rfl ?_
        obtain rfl := Option.some.inj h
        exact mv_G_ret rfl rfl rfl (Nat.le_refl _) trivial ⟨rfl, rfl⟩
/-! KindJudge$Classes.fieldType(II)I on ('b', 5) -/
def kf40 (b : Bool) (I : kjI) (L : kjL) (v1 : Int32) (v2 : Int32) : Option (Int32) :=
  if v2 < 0 then (some (-1 : Int32)) else ((kf39 b I L v1).bind fun r2 => if r2 ≤ v2 then (some (-1 : Int32)) else (bif mv_in ((v1 * (8 : Int32)) + v2) 64 then (some (I (kb b 8) (Int32.toNatClampNeg ((v1 * (8 : Int32)) + v2)))) else none))
set_option maxRecDepth 100000 in
set_option maxHeartbeats 4000000 in
theorem kf40_ok (f : Bool) (b : Bool) (I : kjI) (L : kjL) (v1 : Int32) (v2 : Int32) (d : Nat) (r : Int32) (h : kf40 b I L v1 v2 = some r) : mv_C kjP kjSta (d + 2) 40 [.ref (kb b 5), .int v1, .int v2] (kjS f I L) (kjQi f I L r) := by
  cases b
  · unfold kf40 at h
    refine mv_C_in kjM_40 (lc := [some (.ref (kb false 5)), some (.int v1), some (.int v2)]) rfl rfl rfl ?_
    refine mv_G_run 1 (F' := (1, [some (.ref (kb false 5)), some (.int v1), some (.int v2)], [.int v2], 0, 0, kjS f I L)) rfl ?_
    by_cases hc1 : v2 < 0
    · rw [if_pos hc1] at h
      refine mv_G_br (tgt := 27) rfl rfl (by decide) (fun _ => ?_) (fun z => absurd hc1 z)
      refine mv_G_run 1 (F' := (28, [some (.ref (kb false 5)), some (.int v1), some (.int v2)], [.int (-1 : Int32)], 0, 0, kjS f I L)) rfl ?_
      obtain rfl := Option.some.inj h
      exact mv_G_ret rfl rfl rfl (Nat.le_refl _) trivial ⟨rfl, rfl⟩
    · rw [if_neg hc1] at h
      refine mv_G_br (tgt := 27) rfl rfl (by decide) (fun z => absurd z hc1) (fun _ => ?_)
      refine mv_G_run 3 (F' := (7, [some (.ref (kb false 5)), some (.int v1), some (.int v2)], [.int v1, .ref (kb false 5), .int v2], 0, 0, kjS f I L)) rfl ?_
      obtain ⟨r2, hc3, h⟩ := mv_bd h
      refine mv_G_call (r := [.int v2]) (kf39_ok _ _ _ _ _ _ _ hc3) rfl rfl rfl rfl rfl (Nat.le_of_ble_eq_true rfl) (Nat.le_of_ble_eq_true rfl) (Nat.le_of_ble_eq_true rfl) ?_
      rintro _ _ ⟨rfl, rfl⟩
      by_cases hc4 : r2 ≤ v2
      · rw [if_pos hc4] at h
        refine mv_G_br (tgt := 27) rfl rfl (by decide) (fun _ => ?_) (fun z => absurd hc4 z)
        refine mv_G_run 1 (F' := (28, [some (.ref (kb false 5)), some (.int v1), some (.int v2)], [.int (-1 : Int32)], 0, 0, kjS f I L)) rfl ?_
        obtain rfl := Option.some.inj h
        exact mv_G_ret rfl rfl rfl (Nat.le_refl _) trivial ⟨rfl, rfl⟩
      · rw [if_neg hc4] at h
        refine mv_G_br (tgt := 27) rfl rfl (by decide) (fun z => absurd z hc4) (fun _ => ?_)
        refine mv_G_run 7 (F' := (23, [some (.ref (kb false 5)), some (.int v1), some (.int v2)], [.int ((v1 * (8 : Int32)) + v2), .ref (kb false 8)], 0, 0, kjS f I L)) rfl ?_
        obtain ⟨hi5, h⟩ := mv_bifs h
        refine mv_G_ald rfl rfl (mv_in_ok hi5) ?_
        refine mv_G_run 1 (F' := (28, [some (.ref (kb false 5)), some (.int v1), some (.int v2)], [.int (I (kb false 8) (Int32.toNatClampNeg ((v1 * (8 : Int32)) + v2)))], 0, 0, kjS f I L)) rfl ?_
        obtain rfl := Option.some.inj h
        exact mv_G_ret rfl rfl rfl (Nat.le_refl _) trivial ⟨rfl, rfl⟩
  · unfold kf40 at h
    refine mv_C_in kjM_40 (lc := [some (.ref (kb true 5)), some (.int v1), some (.int v2)]) rfl rfl rfl ?_
    refine mv_G_run 1 (F' := (1, [some (.ref (kb true 5)), some (.int v1), some (.int v2)], [.int v2], 0, 0, kjS f I L)) rfl ?_
    by_cases hc1 : v2 < 0
    · rw [if_pos hc1] at h
      refine mv_G_br (tgt := 27) rfl rfl (by decide) (fun _ => ?_) (fun z => absurd hc1 z)
      refine mv_G_run 1 (F' := (28, [some (.ref (kb true 5)), some (.int v1), some (.int v2)], [.int (-1 : Int32)], 0, 0, kjS f I L)) rfl ?_
      obtain rfl := Option.some.inj h
      exact mv_G_ret rfl rfl rfl (Nat.le_refl _) trivial ⟨rfl, rfl⟩
    · rw [if_neg hc1] at h
      refine mv_G_br (tgt := 27) rfl rfl (by decide) (fun z => absurd z hc1) (fun _ => ?_)
      refine mv_G_run 3 (F' := (7, [some (.ref (kb true 5)), some (.int v1), some (.int v2)], [.int v1, .ref (kb true 5), .int v2], 0, 0, kjS f I L)) rfl ?_
      obtain ⟨r2, hc3, h⟩ := mv_bd h
      refine mv_G_call (r := [.int v2]) (kf39_ok _ _ _ _ _ _ _ hc3) rfl rfl rfl rfl rfl (Nat.le_of_ble_eq_true rfl) (Nat.le_of_ble_eq_true rfl) (Nat.le_of_ble_eq_true rfl) ?_
      rintro _ _ ⟨rfl, rfl⟩
      by_cases hc4 : r2 ≤ v2
      · rw [if_pos hc4] at h
        refine mv_G_br (tgt := 27) rfl rfl (by decide) (fun _ => ?_) (fun z => absurd hc4 z)
        refine mv_G_run 1 (F' := (28, [some (.ref (kb true 5)), some (.int v1), some (.int v2)], [.int (-1 : Int32)], 0, 0, kjS f I L)) rfl ?_
        obtain rfl := Option.some.inj h
        exact mv_G_ret rfl rfl rfl (Nat.le_refl _) trivial ⟨rfl, rfl⟩
      · rw [if_neg hc4] at h
        refine mv_G_br (tgt := 27) rfl rfl (by decide) (fun z => absurd z hc4) (fun _ => ?_)
        refine mv_G_run 7 (F' := (23, [some (.ref (kb true 5)), some (.int v1), some (.int v2)], [.int ((v1 * (8 : Int32)) + v2), .ref (kb true 8)], 0, 0, kjS f I L)) rfl ?_
        obtain ⟨hi5, h⟩ := mv_bifs h
        refine mv_G_ald rfl rfl (mv_in_ok hi5) ?_
        refine mv_G_run 1 (F' := (28, [some (.ref (kb true 5)), some (.int v1), some (.int v2)], [.int (I (kb true 8) (Int32.toNatClampNeg ((v1 * (8 : Int32)) + v2)))], 0, 0, kjS f I L)) rfl ?_
        obtain rfl := Option.some.inj h
        exact mv_G_ret rfl rfl rfl (Nat.le_refl _) trivial ⟨rfl, rfl⟩
/-! KindJudge.type(II)I on ('c', 0) -/
def kf11 (f : Bool) (I : kjI) (L : kjL) (v1 : Int32) (v2 : Int32) : Option (Int32) :=
  (kf37 f I L v1).bind fun r1 => if r1 = 0 then (some (-1 : Int32)) else (if 0 ≤ v2 then (if ¬ v2 = 0 then (if ¬ v2 = (1 : Int32) then ((kf40 f I L v1 (v2 - (2 : Int32))).bind fun r7 => some r7) else ((kf39 f I L v1).bind fun r9 => some r9)) else ((kf38 f I L v1).bind fun r11 => some r11)) else (some (-1 : Int32)))
set_option maxRecDepth 100000 in
set_option maxHeartbeats 4000000 in
theorem kf11_ok (f : Bool) (I : kjI) (L : kjL) (v1 : Int32) (v2 : Int32) (d : Nat) (r : Int32) (h : kf11 f I L v1 v2 = some r) : mv_C kjP kjSta (d + 3) 11 [.ref 0, .int v1, .int v2] (kjS f I L) (kjQi f I L r) := by
  cases f
  · unfold kf11 at h
    refine mv_C_in kjM_11 (lc := [some (.ref 0), some (.int v1), some (.int v2), none]) rfl rfl rfl ?_
    refine mv_G_run 7 (F' := (13, [some (.ref 0), some (.int v1), some (.int v2), some (.ref (kb false 5))], [.int v1, .ref (kb false 5)], 0, 0, kjS false I L)) rfl ?_
    obtain ⟨r1, hc2, h⟩ := mv_bd h
    refine mv_G_call (r := []) (kf37_ok _ _ _ _ _ _ _ hc2) rfl rfl rfl rfl rfl (Nat.le_of_ble_eq_true rfl) (Nat.le_of_ble_eq_true rfl) (Nat.le_of_ble_eq_true rfl) ?_
    rintro _ _ ⟨rfl, rfl⟩
    by_cases hc3 : r1 = 0
    · rw [if_pos hc3] at h
      refine mv_G_br (tgt := 23) rfl rfl (by decide) (fun _ => ?_) (fun z => absurd hc3 z)
      refine mv_G_run 1 (F' := (24, [some (.ref 0), some (.int v1), some (.int v2), some (.ref (kb false 5))], [.int (-1 : Int32)], 0, 0, kjS false I L)) rfl ?_
      obtain rfl := Option.some.inj h
      exact mv_G_ret rfl rfl rfl (Nat.le_refl _) trivial ⟨rfl, rfl⟩
    · rw [if_neg hc3] at h
      refine mv_G_br (tgt := 23) rfl rfl (by decide) (fun z => absurd z hc3) (fun _ => ?_)
      refine mv_G_run 1 (F' := (20, [some (.ref 0), some (.int v1), some (.int v2), some (.ref (kb false 5))], [.int v2], 0, 0, kjS false I L)) rfl ?_
      by_cases hc4 : 0 ≤ v2
      · rw [if_pos hc4] at h
        refine mv_G_br (tgt := 25) rfl rfl (by decide) (fun _ => ?_) (fun z => absurd hc4 z)
        refine mv_G_run 1 (F' := (26, [some (.ref 0), some (.int v1), some (.int v2), some (.ref (kb false 5))], [.int v2], 0, 0, kjS false I L)) rfl ?_
        by_cases hc5 : ¬ v2 = 0
        · rw [if_pos hc5] at h
          refine mv_G_br (tgt := 35) rfl rfl (by decide) (fun _ => ?_) (fun z => absurd hc5 z)
          refine mv_G_run 2 (F' := (37, [some (.ref 0), some (.int v1), some (.int v2), some (.ref (kb false 5))], [.int (1 : Int32), .int v2], 0, 0, kjS false I L)) rfl ?_
          by_cases hc6 : ¬ v2 = (1 : Int32)
          · rw [if_pos hc6] at h
            refine mv_G_br (tgt := 48) rfl rfl (by decide) (fun _ => ?_) (fun z => absurd hc6 z)
            refine mv_G_run 5 (F' := (53, [some (.ref 0), some (.int v1), some (.int v2), some (.ref (kb false 5))], [.int (v2 - (2 : Int32)), .int v1, .ref (kb false 5)], 0, 0, kjS false I L)) rfl ?_
            obtain ⟨r7, hc8, h⟩ := mv_bd h
            refine mv_G_call (r := []) (kf40_ok _ _ _ _ _ _ _ _ hc8) rfl rfl rfl rfl rfl (Nat.le_of_ble_eq_true rfl) (Nat.le_of_ble_eq_true rfl) (Nat.le_of_ble_eq_true rfl) ?_
            rintro _ _ ⟨rfl, rfl⟩
            obtain rfl := Option.some.inj h
            exact mv_G_ret rfl rfl rfl (Nat.le_refl _) trivial ⟨rfl, rfl⟩
          · rw [if_neg hc6] at h
            refine mv_G_br (tgt := 48) rfl rfl (by decide) (fun z => absurd z hc6) (fun _ => ?_)
            refine mv_G_run 2 (F' := (42, [some (.ref 0), some (.int v1), some (.int v2), some (.ref (kb false 5))], [.int v1, .ref (kb false 5)], 0, 0, kjS false I L)) rfl ?_
            obtain ⟨r9, hc10, h⟩ := mv_bd h
            refine mv_G_call (r := []) (kf39_ok _ _ _ _ _ _ _ hc10) rfl rfl rfl rfl rfl (Nat.le_of_ble_eq_true rfl) (Nat.le_of_ble_eq_true rfl) (Nat.le_of_ble_eq_true rfl) ?_
            rintro _ _ ⟨rfl, rfl⟩
            refine mv_G_run 1 (F' := (56, [some (.ref 0), some (.int v1), some (.int v2), some (.ref (kb false 5))], [.int r9], 0, 0, kjS false I L)) rfl ?_
            obtain rfl := Option.some.inj h
            exact mv_G_ret rfl rfl rfl (Nat.le_refl _) trivial ⟨rfl, rfl⟩
        · rw [if_neg hc5] at h
          refine mv_G_br (tgt := 35) rfl rfl (by decide) (fun z => absurd z hc5) (fun _ => ?_)
          refine mv_G_run 2 (F' := (31, [some (.ref 0), some (.int v1), some (.int v2), some (.ref (kb false 5))], [.int v1, .ref (kb false 5)], 0, 0, kjS false I L)) rfl ?_
          obtain ⟨r11, hc12, h⟩ := mv_bd h
          refine mv_G_call (r := []) (kf38_ok _ _ _ _ _ _ _ hc12) rfl rfl rfl rfl rfl (Nat.le_of_ble_eq_true rfl) (Nat.le_of_ble_eq_true rfl) (Nat.le_of_ble_eq_true rfl) ?_
          rintro _ _ ⟨rfl, rfl⟩
          obtain rfl := Option.some.inj h
          exact mv_G_ret rfl rfl rfl (Nat.le_refl _) trivial ⟨rfl, rfl⟩
      · rw [if_neg hc4] at h
        refine mv_G_br (tgt := 25) rfl rfl (by decide) (fun z => absurd z hc4) (fun _ => ?_)
        refine mv_G_run 1 (F' := (24, [some (.ref 0), some (.int v1), some (.int v2), some (.ref (kb false 5))], [.int (-1 : Int32)], 0, 0, kjS false I L)) rfl ?_
        obtain rfl := Option.some.inj h
        exact mv_G_ret rfl rfl rfl (Nat.le_refl _) trivial ⟨rfl, rfl⟩
  · unfold kf11 at h
    refine mv_C_in kjM_11 (lc := [some (.ref 0), some (.int v1), some (.int v2), none]) rfl rfl rfl ?_
    refine mv_G_run 7 (F' := (13, [some (.ref 0), some (.int v1), some (.int v2), some (.ref (kb true 5))], [.int v1, .ref (kb true 5)], 0, 0, kjS true I L)) rfl ?_
    obtain ⟨r1, hc2, h⟩ := mv_bd h
    refine mv_G_call (r := []) (kf37_ok _ _ _ _ _ _ _ hc2) rfl rfl rfl rfl rfl (Nat.le_of_ble_eq_true rfl) (Nat.le_of_ble_eq_true rfl) (Nat.le_of_ble_eq_true rfl) ?_
    rintro _ _ ⟨rfl, rfl⟩
    by_cases hc3 : r1 = 0
    · rw [if_pos hc3] at h
      refine mv_G_br (tgt := 23) rfl rfl (by decide) (fun _ => ?_) (fun z => absurd hc3 z)
      refine mv_G_run 1 (F' := (24, [some (.ref 0), some (.int v1), some (.int v2), some (.ref (kb true 5))], [.int (-1 : Int32)], 0, 0, kjS true I L)) rfl ?_
      obtain rfl := Option.some.inj h
      exact mv_G_ret rfl rfl rfl (Nat.le_refl _) trivial ⟨rfl, rfl⟩
    · rw [if_neg hc3] at h
      refine mv_G_br (tgt := 23) rfl rfl (by decide) (fun z => absurd z hc3) (fun _ => ?_)
      refine mv_G_run 1 (F' := (20, [some (.ref 0), some (.int v1), some (.int v2), some (.ref (kb true 5))], [.int v2], 0, 0, kjS true I L)) rfl ?_
      by_cases hc4 : 0 ≤ v2
      · rw [if_pos hc4] at h
        refine mv_G_br (tgt := 25) rfl rfl (by decide) (fun _ => ?_) (fun z => absurd hc4 z)
        refine mv_G_run 1 (F' := (26, [some (.ref 0), some (.int v1), some (.int v2), some (.ref (kb true 5))], [.int v2], 0, 0, kjS true I L)) rfl ?_
        by_cases hc5 : ¬ v2 = 0
        · rw [if_pos hc5] at h
          refine mv_G_br (tgt := 35) rfl rfl (by decide) (fun _ => ?_) (fun z => absurd hc5 z)
          refine mv_G_run 2 (F' := (37, [some (.ref 0), some (.int v1), some (.int v2), some (.ref (kb true 5))], [.int (1 : Int32), .int v2], 0, 0, kjS true I L)) rfl ?_
          by_cases hc6 : ¬ v2 = (1 : Int32)
          · rw [if_pos hc6] at h
            refine mv_G_br (tgt := 48) rfl rfl (by decide) (fun _ => ?_) (fun z => absurd hc6 z)
            refine mv_G_run 5 (F' := (53, [some (.ref 0), some (.int v1), some (.int v2), some (.ref (kb true 5))], [.int (v2 - (2 : Int32)), .int v1, .ref (kb true 5)], 0, 0, kjS true I L)) rfl ?_
            obtain ⟨r7, hc8, h⟩ := mv_bd h
            refine mv_G_call (r := []) (kf40_ok _ _ _ _ _ _ _ _ hc8) rfl rfl rfl rfl rfl (Nat.le_of_ble_eq_true rfl) (Nat.le_of_ble_eq_true rfl) (Nat.le_of_ble_eq_true rfl) ?_
            rintro _ _ ⟨rfl, rfl⟩
            obtain rfl := Option.some.inj h
            exact mv_G_ret rfl rfl rfl (Nat.le_refl _) trivial ⟨rfl, rfl⟩
          · rw [if_neg hc6] at h
            refine mv_G_br (tgt := 48) rfl rfl (by decide) (fun z => absurd z hc6) (fun _ => ?_)
            refine mv_G_run 2 (F' := (42, [some (.ref 0), some (.int v1), some (.int v2), some (.ref (kb true 5))], [.int v1, .ref (kb true 5)], 0, 0, kjS true I L)) rfl ?_
            obtain ⟨r9, hc10, h⟩ := mv_bd h
            refine mv_G_call (r := []) (kf39_ok _ _ _ _ _ _ _ hc10) rfl rfl rfl rfl rfl (Nat.le_of_ble_eq_true rfl) (Nat.le_of_ble_eq_true rfl) (Nat.le_of_ble_eq_true rfl) ?_
            rintro _ _ ⟨rfl, rfl⟩
            refine mv_G_run 1 (F' := (56, [some (.ref 0), some (.int v1), some (.int v2), some (.ref (kb true 5))], [.int r9], 0, 0, kjS true I L)) rfl ?_
            obtain rfl := Option.some.inj h
            exact mv_G_ret rfl rfl rfl (Nat.le_refl _) trivial ⟨rfl, rfl⟩
        · rw [if_neg hc5] at h
          refine mv_G_br (tgt := 35) rfl rfl (by decide) (fun z => absurd z hc5) (fun _ => ?_)
          refine mv_G_run 2 (F' := (31, [some (.ref 0), some (.int v1), some (.int v2), some (.ref (kb true 5))], [.int v1, .ref (kb true 5)], 0, 0, kjS true I L)) rfl ?_
          obtain ⟨r11, hc12, h⟩ := mv_bd h
          refine mv_G_call (r := []) (kf38_ok _ _ _ _ _ _ _ hc12) rfl rfl rfl rfl rfl (Nat.le_of_ble_eq_true rfl) (Nat.le_of_ble_eq_true rfl) (Nat.le_of_ble_eq_true rfl) ?_
          rintro _ _ ⟨rfl, rfl⟩
          obtain rfl := Option.some.inj h
          exact mv_G_ret rfl rfl rfl (Nat.le_refl _) trivial ⟨rfl, rfl⟩
      · rw [if_neg hc4] at h
        refine mv_G_br (tgt := 25) rfl rfl (by decide) (fun z => absurd z hc4) (fun _ => ?_)
        refine mv_G_run 1 (F' := (24, [some (.ref 0), some (.int v1), some (.int v2), some (.ref (kb true 5))], [.int (-1 : Int32)], 0, 0, kjS true I L)) rfl ?_
        obtain rfl := Option.some.inj h
        exact mv_G_ret rfl rfl rfl (Nat.le_refl _) trivial ⟨rfl, rfl⟩
/-! KindJudge.total(I)I on ('c', 0) -/
def kf12 (f : Bool) (I : kjI) (L : kjL) (v1 : Int32) : Option (Int32) :=
  if (v1).toInt = 0 then (some (I (kb f 14) 3)) else (if (v1).toInt = 1 then (some (I (kb f 5) 4)) else (if (v1).toInt = 2 then (some (I (kb f 10) 3)) else (if (v1).toInt = 3 then (some (I (kb (!f) 2) 1)) else (if (v1).toInt = 4 then (some (I 0 2)) else (some (-1 : Int32))))))
set_option maxRecDepth 100000 in
set_option maxHeartbeats 4000000 in
theorem kf12_ok (f : Bool) (I : kjI) (L : kjL) (v1 : Int32) (d : Nat) (r : Int32) (h : kf12 f I L v1 = some r) : mv_C kjP kjSta (d + 1) 12 [.ref 0, .int v1] (kjS f I L) (kjQi f I L r) := by
  cases f
  · unfold kf12 at h
    refine mv_C_in kjM_12 (lc := [some (.ref 0), some (.int v1)]) rfl rfl rfl ?_
    refine mv_G_run 1 (F' := (1, [some (.ref 0), some (.int v1)], [.int v1], 0, 0, kjS false I L)) rfl ?_
    by_cases hw1 : (v1).toInt = 0
    · rw [if_pos hw1] at h
      refine mv_G_sw (tgt := 36) (off := 35) rfl (by simp only [mv_sw, hw1]; rfl) (by decide) ?_
      refine mv_G_run 5 (F' := (49, [some (.ref 0), some (.int v1)], [.int (I (kb false 14) 3)], 0, 0, kjS false I L)) rfl ?_
      obtain rfl := Option.some.inj h
      exact mv_G_ret rfl rfl rfl (Nat.le_refl _) trivial ⟨rfl, rfl⟩
    rw [if_neg hw1] at h
    by_cases hw2 : (v1).toInt = 1
    · rw [if_pos hw2] at h
      refine mv_G_sw (tgt := 50) (off := 49) rfl (by simp only [mv_sw, hw2]; rfl) (by decide) ?_
      refine mv_G_run 5 (F' := (63, [some (.ref 0), some (.int v1)], [.int (I (kb false 5) 4)], 0, 0, kjS false I L)) rfl ?_
      obtain rfl := Option.some.inj h
      exact mv_G_ret rfl rfl rfl (Nat.le_refl _) trivial ⟨rfl, rfl⟩
    rw [if_neg hw2] at h
    by_cases hw3 : (v1).toInt = 2
    · rw [if_pos hw3] at h
      refine mv_G_sw (tgt := 64) (off := 63) rfl (by simp only [mv_sw, hw3]; rfl) (by decide) ?_
      refine mv_G_run 5 (F' := (77, [some (.ref 0), some (.int v1)], [.int (I (kb false 10) 3)], 0, 0, kjS false I L)) rfl ?_
      obtain rfl := Option.some.inj h
      exact mv_G_ret rfl rfl rfl (Nat.le_refl _) trivial ⟨rfl, rfl⟩
    rw [if_neg hw3] at h
    by_cases hw4 : (v1).toInt = 3
    · rw [if_pos hw4] at h
      refine mv_G_sw (tgt := 78) (off := 77) rfl (by simp only [mv_sw, hw4]; rfl) (by decide) ?_
      refine mv_G_run 4 (F' := (88, [some (.ref 0), some (.int v1)], [.int (I (kb (!false) 2) 1)], 0, 0, kjS false I L)) rfl ?_
      obtain rfl := Option.some.inj h
      exact mv_G_ret rfl rfl rfl (Nat.le_refl _) trivial ⟨rfl, rfl⟩
    rw [if_neg hw4] at h
    by_cases hw5 : (v1).toInt = 4
    · rw [if_pos hw5] at h
      refine mv_G_sw (tgt := 89) (off := 88) rfl (by simp only [mv_sw, hw5]; rfl) (by decide) ?_
      refine mv_G_run 2 (F' := (93, [some (.ref 0), some (.int v1)], [.int (I 0 2)], 0, 0, kjS false I L)) rfl ?_
      obtain rfl := Option.some.inj h
      exact mv_G_ret rfl rfl rfl (Nat.le_refl _) trivial ⟨rfl, rfl⟩
    rw [if_neg hw5] at h
    refine mv_G_sw (tgt := 94) (off := 93) rfl (by
    have hz6 : ((v1).toInt < 0 ∨ 4 < (v1).toInt) := by omega
    rcases hz6 with hz6
    · exact if_pos hz6) (by decide) ?_
    refine mv_G_run 1 (F' := (95, [some (.ref 0), some (.int v1)], [.int (-1 : Int32)], 0, 0, kjS false I L)) rfl ?_
    obtain rfl := Option.some.inj h
    exact mv_G_ret rfl rfl rfl (Nat.le_refl _) trivial ⟨rfl, rfl⟩
  · unfold kf12 at h
    refine mv_C_in kjM_12 (lc := [some (.ref 0), some (.int v1)]) rfl rfl rfl ?_
    refine mv_G_run 1 (F' := (1, [some (.ref 0), some (.int v1)], [.int v1], 0, 0, kjS true I L)) rfl ?_
    by_cases hw1 : (v1).toInt = 0
    · rw [if_pos hw1] at h
      refine mv_G_sw (tgt := 36) (off := 35) rfl (by simp only [mv_sw, hw1]; rfl) (by decide) ?_
      refine mv_G_run 5 (F' := (49, [some (.ref 0), some (.int v1)], [.int (I (kb true 14) 3)], 0, 0, kjS true I L)) rfl ?_
      obtain rfl := Option.some.inj h
      exact mv_G_ret rfl rfl rfl (Nat.le_refl _) trivial ⟨rfl, rfl⟩
    rw [if_neg hw1] at h
    by_cases hw2 : (v1).toInt = 1
    · rw [if_pos hw2] at h
      refine mv_G_sw (tgt := 50) (off := 49) rfl (by simp only [mv_sw, hw2]; rfl) (by decide) ?_
      refine mv_G_run 5 (F' := (63, [some (.ref 0), some (.int v1)], [.int (I (kb true 5) 4)], 0, 0, kjS true I L)) rfl ?_
      obtain rfl := Option.some.inj h
      exact mv_G_ret rfl rfl rfl (Nat.le_refl _) trivial ⟨rfl, rfl⟩
    rw [if_neg hw2] at h
    by_cases hw3 : (v1).toInt = 2
    · rw [if_pos hw3] at h
      refine mv_G_sw (tgt := 64) (off := 63) rfl (by simp only [mv_sw, hw3]; rfl) (by decide) ?_
      refine mv_G_run 5 (F' := (77, [some (.ref 0), some (.int v1)], [.int (I (kb true 10) 3)], 0, 0, kjS true I L)) rfl ?_
      obtain rfl := Option.some.inj h
      exact mv_G_ret rfl rfl rfl (Nat.le_refl _) trivial ⟨rfl, rfl⟩
    rw [if_neg hw3] at h
    by_cases hw4 : (v1).toInt = 3
    · rw [if_pos hw4] at h
      refine mv_G_sw (tgt := 78) (off := 77) rfl (by simp only [mv_sw, hw4]; rfl) (by decide) ?_
      refine mv_G_run 4 (F' := (88, [some (.ref 0), some (.int v1)], [.int (I (kb (!true) 2) 1)], 0, 0, kjS true I L)) rfl ?_
      obtain rfl := Option.some.inj h
      exact mv_G_ret rfl rfl rfl (Nat.le_refl _) trivial ⟨rfl, rfl⟩
    rw [if_neg hw4] at h
    by_cases hw5 : (v1).toInt = 4
    · rw [if_pos hw5] at h
      refine mv_G_sw (tgt := 89) (off := 88) rfl (by simp only [mv_sw, hw5]; rfl) (by decide) ?_
      refine mv_G_run 2 (F' := (93, [some (.ref 0), some (.int v1)], [.int (I 0 2)], 0, 0, kjS true I L)) rfl ?_
      obtain rfl := Option.some.inj h
      exact mv_G_ret rfl rfl rfl (Nat.le_refl _) trivial ⟨rfl, rfl⟩
    rw [if_neg hw5] at h
    refine mv_G_sw (tgt := 94) (off := 93) rfl (by
    have hz6 : ((v1).toInt < 0 ∨ 4 < (v1).toInt) := by omega
    rcases hz6 with hz6
    · exact if_pos hz6) (by decide) ?_
    refine mv_G_run 1 (F' := (95, [some (.ref 0), some (.int v1)], [.int (-1 : Int32)], 0, 0, kjS true I L)) rfl ?_
    obtain rfl := Option.some.inj h
    exact mv_G_ret rfl rfl rfl (Nat.le_refl _) trivial ⟨rfl, rfl⟩
/-! KindJudge.keepFault(III)V on ('c', 0) -/
def kf14 (f : Bool) (v1 : Int32) (v2 : Int32) (v3 : Int32) (I : kjI) (L : kjL) : Option (kjI × kjL) :=
  some ((mv_up (mv_up (mv_up I 0 3 v1) 0 4 v2) 0 5 v3), L)
set_option maxRecDepth 100000 in
set_option maxHeartbeats 4000000 in
theorem kf14_ok (f : Bool) (v1 : Int32) (v2 : Int32) (v3 : Int32) (I : kjI) (L : kjL) (d : Nat) (r : kjI × kjL) (h : kf14 f v1 v2 v3 I L = some r) : mv_C kjP kjSta (d + 1) 14 [.ref 0, .int v1, .int v2, .int v3] (kjS f I L) (kjQwv f r) := by
  cases f
  · unfold kf14 at h
    refine mv_C_in kjM_14 (lc := [some (.ref 0), some (.int v1), some (.int v2), some (.int v3)]) rfl rfl rfl ?_
    refine mv_G_run 9 (F' := (15, [some (.ref 0), some (.int v1), some (.int v2), some (.int v3)], [], 0, 0, kjS false (mv_up (mv_up (mv_up I 0 3 v1) 0 4 v2) 0 5 v3) L)) rfl ?_
    obtain rfl := Option.some.inj h
    exact mv_G_ret rfl rfl rfl (Nat.le_refl _) trivial ⟨rfl, rfl⟩
  · unfold kf14 at h
    refine mv_C_in kjM_14 (lc := [some (.ref 0), some (.int v1), some (.int v2), some (.int v3)]) rfl rfl rfl ?_
    refine mv_G_run 9 (F' := (15, [some (.ref 0), some (.int v1), some (.int v2), some (.int v3)], [], 0, 0, kjS true (mv_up (mv_up (mv_up I 0 3 v1) 0 4 v2) 0 5 v3) L)) rfl ?_
    obtain rfl := Option.some.inj h
    exact mv_G_ret rfl rfl rfl (Nat.le_refl _) trivial ⟨rfl, rfl⟩
/-! KindJudge$Reader.begin()V on ('b', 23) -/
def kf54 (b : Bool) (I : kjI) (L : kjL) : Option (kjI × kjL) :=
  some ((mv_up (mv_up I (kb b 23) 1 (0 : Int32)) (kb b 23) 2 (0 : Int32)), L)
set_option maxRecDepth 100000 in
set_option maxHeartbeats 4000000 in
theorem kf54_ok (f : Bool) (b : Bool) (I : kjI) (L : kjL) (d : Nat) (r : kjI × kjL) (h : kf54 b I L = some r) : mv_C kjP kjSta (d + 1) 54 [.ref (kb b 23)] (kjS f I L) (kjQwv f r) := by
  cases b
  · unfold kf54 at h
    refine mv_C_in kjM_54 (lc := [some (.ref (kb false 23))]) rfl rfl rfl ?_
    refine mv_G_run 6 (F' := (10, [some (.ref (kb false 23))], [], 0, 0, kjS f (mv_up (mv_up I (kb false 23) 1 (0 : Int32)) (kb false 23) 2 (0 : Int32)) L)) rfl ?_
    obtain rfl := Option.some.inj h
    exact mv_G_ret rfl rfl rfl (Nat.le_refl _) trivial ⟨rfl, rfl⟩
  · unfold kf54 at h
    refine mv_C_in kjM_54 (lc := [some (.ref (kb true 23))]) rfl rfl rfl ?_
    refine mv_G_run 6 (F' := (10, [some (.ref (kb true 23))], [], 0, 0, kjS f (mv_up (mv_up I (kb true 23) 1 (0 : Int32)) (kb true 23) 2 (0 : Int32)) L)) rfl ?_
    obtain rfl := Option.some.inj h
    exact mv_G_ret rfl rfl rfl (Nat.le_refl _) trivial ⟨rfl, rfl⟩
/-! KindJudge$Reader.ahead()I on ('b', 23) -/
def kf58 (b : Bool) (I : kjI) (L : kjL) : Option (Int32) :=
  if (I (kb b 23) 2) = 0 then ((kf22 b I L (I (kb b 23) 1)).bind fun r2 => some r2) else (some (-1 : Int32))
set_option maxRecDepth 100000 in
set_option maxHeartbeats 4000000 in
theorem kf58_ok (f : Bool) (b : Bool) (I : kjI) (L : kjL) (d : Nat) (r : Int32) (h : kf58 b I L = some r) : mv_C kjP kjSta (d + 2) 58 [.ref (kb b 23)] (kjS f I L) (kjQi f I L r) := by
  cases b
  · unfold kf58 at h
    refine mv_C_in kjM_58 (lc := [some (.ref (kb false 23))]) rfl rfl rfl ?_
    refine mv_G_run 2 (F' := (4, [some (.ref (kb false 23))], [.int (I (kb false 23) 2)], 0, 0, kjS f I L)) rfl ?_
    by_cases hc1 : (I (kb false 23) 2) = 0
    · rw [if_pos hc1] at h
      refine mv_G_br (tgt := 11) rfl rfl (by decide) (fun _ => ?_) (fun z => absurd hc1 z)
      refine mv_G_run 4 (F' := (19, [some (.ref (kb false 23))], [.int (I (kb false 23) 1), .ref (kb false 2)], 0, 0, kjS f I L)) rfl ?_
      obtain ⟨r2, hc3, h⟩ := mv_bd h
      refine mv_G_call (r := []) (kf22_ok _ _ _ _ _ _ _ hc3) rfl rfl rfl rfl rfl (Nat.le_of_ble_eq_true rfl) (Nat.le_of_ble_eq_true rfl) (Nat.le_of_ble_eq_true rfl) ?_
      rintro _ _ ⟨rfl, rfl⟩
      obtain rfl := Option.some.inj h
      exact mv_G_ret rfl rfl rfl (Nat.le_refl _) trivial ⟨rfl, rfl⟩
    · rw [if_neg hc1] at h
      refine mv_G_br (tgt := 11) rfl rfl (by decide) (fun z => absurd z hc1) (fun _ => ?_)
      refine mv_G_run 2 (F' := (22, [some (.ref (kb false 23))], [.int (-1 : Int32)], 0, 0, kjS f I L)) rfl ?_
      obtain rfl := Option.some.inj h
      exact mv_G_ret rfl rfl rfl (Nat.le_refl _) trivial ⟨rfl, rfl⟩
  · unfold kf58 at h
    refine mv_C_in kjM_58 (lc := [some (.ref (kb true 23))]) rfl rfl rfl ?_
    refine mv_G_run 2 (F' := (4, [some (.ref (kb true 23))], [.int (I (kb true 23) 2)], 0, 0, kjS f I L)) rfl ?_
    by_cases hc1 : (I (kb true 23) 2) = 0
    · rw [if_pos hc1] at h
      refine mv_G_br (tgt := 11) rfl rfl (by decide) (fun _ => ?_) (fun z => absurd hc1 z)
      refine mv_G_run 4 (F' := (19, [some (.ref (kb true 23))], [.int (I (kb true 23) 1), .ref (kb true 2)], 0, 0, kjS f I L)) rfl ?_
      obtain ⟨r2, hc3, h⟩ := mv_bd h
      refine mv_G_call (r := []) (kf22_ok _ _ _ _ _ _ _ hc3) rfl rfl rfl rfl rfl (Nat.le_of_ble_eq_true rfl) (Nat.le_of_ble_eq_true rfl) (Nat.le_of_ble_eq_true rfl) ?_
      rintro _ _ ⟨rfl, rfl⟩
      obtain rfl := Option.some.inj h
      exact mv_G_ret rfl rfl rfl (Nat.le_refl _) trivial ⟨rfl, rfl⟩
    · rw [if_neg hc1] at h
      refine mv_G_br (tgt := 11) rfl rfl (by decide) (fun z => absurd z hc1) (fun _ => ?_)
      refine mv_G_run 2 (F' := (22, [some (.ref (kb true 23))], [.int (-1 : Int32)], 0, 0, kjS f I L)) rfl ?_
      obtain rfl := Option.some.inj h
      exact mv_G_ret rfl rfl rfl (Nat.le_refl _) trivial ⟨rfl, rfl⟩
/-! KindJudge$Reader.pass(Z)Z on ('b', 23) -/
def kf59_25 (b : Bool) (I : kjI) (L : kjL) : Option (Int32 × kjI × kjL) :=
  some ((0 : Int32), (mv_up I (kb b 23) 2 (1 : Int32)), L)
set_option maxRecDepth 100000 in
set_option maxHeartbeats 4000000 in
theorem kf59_25_ok (f : Bool) (b : Bool) (d : Nat)  (I : kjI) (L : kjL) (r : Int32 × kjI × kjL) (h : kf59_25 b I L = some r) : mv_G kjP kjSta (mv_C kjP kjSta (d + 0)) kjM_59 (kjQwi f r) (25, [some (.ref (kb b 23)), none], [], 0, 0, kjS f I L) := by
  cases b
  · unfold kf59_25 at h
    refine mv_G_run 4 (F' := (31, [some (.ref (kb false 23)), none], [.int (0 : Int32)], 0, 0, kjS f (mv_up I (kb false 23) 2 (1 : Int32)) L)) rfl ?_
    obtain rfl := Option.some.inj h
    exact mv_G_ret rfl rfl rfl (Nat.le_refl _) (Or.inl rfl) ⟨rfl, rfl⟩
  · unfold kf59_25 at h
    refine mv_G_run 4 (F' := (31, [some (.ref (kb true 23)), none], [.int (0 : Int32)], 0, 0, kjS f (mv_up I (kb true 23) 2 (1 : Int32)) L)) rfl ?_
    obtain rfl := Option.some.inj h
    exact mv_G_ret rfl rfl rfl (Nat.le_refl _) (Or.inl rfl) ⟨rfl, rfl⟩
def kf59 (b : Bool) (v1 : Int32) (I : kjI) (L : kjL) : Option (Int32 × kjI × kjL) :=
  if v1 = 0 then (kf59_25 b I L) else (if ¬ (I (kb b 23) 2) = 0 then (kf59_25 b I L) else (if (I (kb b 23) 1) < (I (kb b 2) 1) then (some ((1 : Int32), (mv_up I (kb b 23) 1 ((I (kb b 23) 1) + (1 : Int32))), L)) else (kf59_25 b I L)))
set_option maxRecDepth 100000 in
set_option maxHeartbeats 4000000 in
theorem kf59_ok (f : Bool) (b : Bool) (v1 : Int32) (I : kjI) (L : kjL) (d : Nat) (r : Int32 × kjI × kjL) (h : kf59 b v1 I L = some r) : mv_C kjP kjSta (d + 1) 59 [.ref (kb b 23), .int v1] (kjS f I L) (kjQwi f r) := by
  cases b
  · unfold kf59 at h
    refine mv_C_in kjM_59 (lc := [some (.ref (kb false 23)), some (.int v1)]) rfl rfl rfl ?_
    refine mv_G_run 1 (F' := (1, [some (.ref (kb false 23)), some (.int v1)], [.int v1], 0, 0, kjS f I L)) rfl ?_
    by_cases hc1 : v1 = 0
    · rw [if_pos hc1] at h
      refine mv_G_br (tgt := 25) rfl rfl (by decide) (fun _ => ?_) (fun z => absurd hc1 z)
      refine mv_G_fg (lc' := [some (.ref (kb false 23)), none]) (And.intro rfl trivial) ?_
      exact kf59_25_ok _ _ d _ _ _ h
    · rw [if_neg hc1] at h
      refine mv_G_br (tgt := 25) rfl rfl (by decide) (fun z => absurd z hc1) (fun _ => ?_)
      refine mv_G_run 2 (F' := (8, [some (.ref (kb false 23)), some (.int v1)], [.int (I (kb false 23) 2)], 0, 0, kjS f I L)) rfl ?_
      by_cases hc2 : ¬ (I (kb false 23) 2) = 0
      · rw [if_pos hc2] at h
        refine mv_G_br (tgt := 25) rfl rfl (by decide) (fun _ => ?_) (fun z => absurd hc2 z)
        refine mv_G_fg (lc' := [some (.ref (kb false 23)), none]) (And.intro rfl trivial) ?_
        exact kf59_25_ok _ _ d _ _ _ h
      · rw [if_neg hc2] at h
        refine mv_G_br (tgt := 25) rfl rfl (by decide) (fun z => absurd z hc2) (fun _ => ?_)
        refine mv_G_run 5 (F' := (22, [some (.ref (kb false 23)), some (.int v1)], [.int (I (kb false 2) 1), .int (I (kb false 23) 1)], 0, 0, kjS f I L)) rfl ?_
        by_cases hc3 : (I (kb false 23) 1) < (I (kb false 2) 1)
        · rw [if_pos hc3] at h
          refine mv_G_br (tgt := 32) rfl rfl (by decide) (fun _ => ?_) (fun z => absurd hc3 z)
          refine mv_G_run 7 (F' := (43, [some (.ref (kb false 23)), some (.int v1)], [.int (1 : Int32)], 0, 0, kjS f (mv_up I (kb false 23) 1 ((I (kb false 23) 1) + (1 : Int32))) L)) rfl ?_
          obtain rfl := Option.some.inj h
          exact mv_G_ret rfl rfl rfl (Nat.le_refl _) (Or.inr rfl) ⟨rfl, rfl⟩
        · rw [if_neg hc3] at h
          refine mv_G_br (tgt := 32) rfl rfl (by decide) (fun z => absurd z hc3) (fun _ => ?_)
          refine mv_G_fg (lc' := [some (.ref (kb false 23)), none]) (And.intro rfl trivial) ?_
          exact kf59_25_ok _ _ d _ _ _ h
  · unfold kf59 at h
    refine mv_C_in kjM_59 (lc := [some (.ref (kb true 23)), some (.int v1)]) rfl rfl rfl ?_
    refine mv_G_run 1 (F' := (1, [some (.ref (kb true 23)), some (.int v1)], [.int v1], 0, 0, kjS f I L)) rfl ?_
    by_cases hc1 : v1 = 0
    · rw [if_pos hc1] at h
      refine mv_G_br (tgt := 25) rfl rfl (by decide) (fun _ => ?_) (fun z => absurd hc1 z)
      refine mv_G_fg (lc' := [some (.ref (kb true 23)), none]) (And.intro rfl trivial) ?_
      exact kf59_25_ok _ _ d _ _ _ h
    · rw [if_neg hc1] at h
      refine mv_G_br (tgt := 25) rfl rfl (by decide) (fun z => absurd z hc1) (fun _ => ?_)
      refine mv_G_run 2 (F' := (8, [some (.ref (kb true 23)), some (.int v1)], [.int (I (kb true 23) 2)], 0, 0, kjS f I L)) rfl ?_
      by_cases hc2 : ¬ (I (kb true 23) 2) = 0
      · rw [if_pos hc2] at h
        refine mv_G_br (tgt := 25) rfl rfl (by decide) (fun _ => ?_) (fun z => absurd hc2 z)
        refine mv_G_fg (lc' := [some (.ref (kb true 23)), none]) (And.intro rfl trivial) ?_
        exact kf59_25_ok _ _ d _ _ _ h
      · rw [if_neg hc2] at h
        refine mv_G_br (tgt := 25) rfl rfl (by decide) (fun z => absurd z hc2) (fun _ => ?_)
        refine mv_G_run 5 (F' := (22, [some (.ref (kb true 23)), some (.int v1)], [.int (I (kb true 2) 1), .int (I (kb true 23) 1)], 0, 0, kjS f I L)) rfl ?_
        by_cases hc3 : (I (kb true 23) 1) < (I (kb true 2) 1)
        · rw [if_pos hc3] at h
          refine mv_G_br (tgt := 32) rfl rfl (by decide) (fun _ => ?_) (fun z => absurd hc3 z)
          refine mv_G_run 7 (F' := (43, [some (.ref (kb true 23)), some (.int v1)], [.int (1 : Int32)], 0, 0, kjS f (mv_up I (kb true 23) 1 ((I (kb true 23) 1) + (1 : Int32))) L)) rfl ?_
          obtain rfl := Option.some.inj h
          exact mv_G_ret rfl rfl rfl (Nat.le_refl _) (Or.inr rfl) ⟨rfl, rfl⟩
        · rw [if_neg hc3] at h
          refine mv_G_br (tgt := 32) rfl rfl (by decide) (fun z => absurd z hc3) (fun _ => ?_)
          refine mv_G_fg (lc' := [some (.ref (kb true 23)), none]) (And.intro rfl trivial) ?_
          exact kf59_25_ok _ _ d _ _ _ h
/-! KindJudge$Reader.number(II)I on ('b', 23) -/
def kf60_21 (b : Bool) (v1 : Int32) (v3 : Int32) (s1 : Int32) (I : kjI) (L : kjL) : Option (Int32 × kjI × kjL) :=
  (kf59 b s1 I L).bind fun r1 => if r1.1 = 0 then (some (v1, r1.2.1, r1.2.2)) else (some (v3, r1.2.1, r1.2.2))
set_option maxRecDepth 100000 in
set_option maxHeartbeats 4000000 in
theorem kf60_21_ok (f : Bool) (b : Bool) (d : Nat)  (v1 : Int32) (v3 : Int32) (s1 : Int32) (I : kjI) (L : kjL) (r : Int32 × kjI × kjL) (h : kf60_21 b v1 v3 s1 I L = some r) : mv_G kjP kjSta (mv_C kjP kjSta (d + 2)) kjM_60 (kjQwi f r) (21, [none, some (.int v1), none, some (.int v3)], [.int s1, .ref (kb b 23)], 0, 0, kjS f I L) := by
  cases b
  · unfold kf60_21 at h
    obtain ⟨r1, hc2, h⟩ := mv_bd h
    refine mv_G_call (r := []) (kf59_ok _ _ _ _ _ _ _ hc2) rfl rfl rfl rfl rfl (Nat.le_of_ble_eq_true rfl) (Nat.le_of_ble_eq_true rfl) (Nat.le_of_ble_eq_true rfl) ?_
    rintro _ _ ⟨rfl, rfl⟩
    by_cases hc3 : r1.1 = 0
    · rw [if_pos hc3] at h
      refine mv_G_br (tgt := 31) rfl rfl (by decide) (fun _ => ?_) (fun z => absurd hc3 z)
      refine mv_G_run 1 (F' := (32, [none, some (.int v1), none, some (.int v3)], [.int v1], 0, 0, kjS f r1.2.1 r1.2.2)) rfl ?_
      obtain rfl := Option.some.inj h
      exact mv_G_ret rfl rfl rfl (Nat.le_refl _) trivial ⟨rfl, rfl⟩
    · rw [if_neg hc3] at h
      refine mv_G_br (tgt := 31) rfl rfl (by decide) (fun z => absurd z hc3) (fun _ => ?_)
      refine mv_G_run 2 (F' := (32, [none, some (.int v1), none, some (.int v3)], [.int v3], 0, 0, kjS f r1.2.1 r1.2.2)) rfl ?_
      obtain rfl := Option.some.inj h
      exact mv_G_ret rfl rfl rfl (Nat.le_refl _) trivial ⟨rfl, rfl⟩
  · unfold kf60_21 at h
    obtain ⟨r1, hc2, h⟩ := mv_bd h
    refine mv_G_call (r := []) (kf59_ok _ _ _ _ _ _ _ hc2) rfl rfl rfl rfl rfl (Nat.le_of_ble_eq_true rfl) (Nat.le_of_ble_eq_true rfl) (Nat.le_of_ble_eq_true rfl) ?_
    rintro _ _ ⟨rfl, rfl⟩
    by_cases hc3 : r1.1 = 0
    · rw [if_pos hc3] at h
      refine mv_G_br (tgt := 31) rfl rfl (by decide) (fun _ => ?_) (fun z => absurd hc3 z)
      refine mv_G_run 1 (F' := (32, [none, some (.int v1), none, some (.int v3)], [.int v1], 0, 0, kjS f r1.2.1 r1.2.2)) rfl ?_
      obtain rfl := Option.some.inj h
      exact mv_G_ret rfl rfl rfl (Nat.le_refl _) trivial ⟨rfl, rfl⟩
    · rw [if_neg hc3] at h
      refine mv_G_br (tgt := 31) rfl rfl (by decide) (fun z => absurd z hc3) (fun _ => ?_)
      refine mv_G_run 2 (F' := (32, [none, some (.int v1), none, some (.int v3)], [.int v3], 0, 0, kjS f r1.2.1 r1.2.2)) rfl ?_
      obtain rfl := Option.some.inj h
      exact mv_G_ret rfl rfl rfl (Nat.le_refl _) trivial ⟨rfl, rfl⟩
def kf60_20 (b : Bool) (v1 : Int32) (v3 : Int32) (I : kjI) (L : kjL) : Option (Int32 × kjI × kjL) :=
  kf60_21 b v1 v3 (0 : Int32) I L
set_option maxRecDepth 100000 in
set_option maxHeartbeats 4000000 in
theorem kf60_20_ok (f : Bool) (b : Bool) (d : Nat)  (v1 : Int32) (v3 : Int32) (I : kjI) (L : kjL) (r : Int32 × kjI × kjL) (h : kf60_20 b v1 v3 I L = some r) : mv_G kjP kjSta (mv_C kjP kjSta (d + 2)) kjM_60 (kjQwi f r) (20, [none, some (.int v1), none, some (.int v3)], [.ref (kb b 23)], 0, 0, kjS f I L) := by
  cases b
  · unfold kf60_20 at h
    refine mv_G_run 1 (F' := (21, [none, some (.int v1), none, some (.int v3)], [.int (0 : Int32), .ref (kb false 23)], 0, 0, kjS f I L)) rfl ?_
    exact kf60_21_ok _ _ d _ _ _ _ _ _ h
  · unfold kf60_20 at h
    refine mv_G_run 1 (F' := (21, [none, some (.int v1), none, some (.int v3)], [.int (0 : Int32), .ref (kb true 23)], 0, 0, kjS f I L)) rfl ?_
    exact kf60_21_ok _ _ d _ _ _ _ _ _ h
def kf60 (b : Bool) (v1 : Int32) (v2 : Int32) (I : kjI) (L : kjL) : Option (Int32 × kjI × kjL) :=
  (kf58 b I L).bind fun r1 => if r1 < v1 then (kf60_20 b v1 r1 I L) else (if v2 < r1 then (kf60_20 b v1 r1 I L) else (kf60_21 b v1 r1 (1 : Int32) I L))
set_option maxRecDepth 100000 in
set_option maxHeartbeats 4000000 in
theorem kf60_ok (f : Bool) (b : Bool) (v1 : Int32) (v2 : Int32) (I : kjI) (L : kjL) (d : Nat) (r : Int32 × kjI × kjL) (h : kf60 b v1 v2 I L = some r) : mv_C kjP kjSta (d + 3) 60 [.ref (kb b 23), .int v1, .int v2] (kjS f I L) (kjQwi f r) := by
  cases b
  · unfold kf60 at h
    refine mv_C_in kjM_60 (lc := [some (.ref (kb false 23)), some (.int v1), some (.int v2), none]) rfl rfl rfl ?_
    refine mv_G_run 1 (F' := (1, [some (.ref (kb false 23)), some (.int v1), some (.int v2), none], [.ref (kb false 23)], 0, 0, kjS f I L)) rfl ?_
    obtain ⟨r1, hc2, h⟩ := mv_bd h
    refine mv_G_call (r := []) (kf58_ok _ _ _ _ _ _ hc2) rfl rfl rfl rfl rfl (Nat.le_of_ble_eq_true rfl) (Nat.le_of_ble_eq_true rfl) (Nat.le_of_ble_eq_true rfl) ?_
    rintro _ _ ⟨rfl, rfl⟩
    refine mv_G_run 4 (F' := (8, [some (.ref (kb false 23)), some (.int v1), some (.int v2), some (.int r1)], [.int v1, .int r1, .ref (kb false 23)], 0, 0, kjS f I L)) rfl ?_
    by_cases hc3 : r1 < v1
    · rw [if_pos hc3] at h
      refine mv_G_br (tgt := 20) rfl rfl (by decide) (fun _ => ?_) (fun z => absurd hc3 z)
      refine mv_G_fg (lc' := [none, some (.int v1), none, some (.int r1)]) (And.intro rfl (And.intro rfl trivial)) ?_
      exact kf60_20_ok _ _ d _ _ _ _ _ h
    · rw [if_neg hc3] at h
      refine mv_G_br (tgt := 20) rfl rfl (by decide) (fun z => absurd z hc3) (fun _ => ?_)
      refine mv_G_run 2 (F' := (13, [some (.ref (kb false 23)), some (.int v1), some (.int v2), some (.int r1)], [.int v2, .int r1, .ref (kb false 23)], 0, 0, kjS f I L)) rfl ?_
      by_cases hc4 : v2 < r1
      · rw [if_pos hc4] at h
        refine mv_G_br (tgt := 20) rfl rfl (by decide) (fun _ => ?_) (fun z => absurd hc4 z)
        refine mv_G_fg (lc' := [none, some (.int v1), none, some (.int r1)]) (And.intro rfl (And.intro rfl trivial)) ?_
        exact kf60_20_ok _ _ d _ _ _ _ _ h
      · rw [if_neg hc4] at h
        refine mv_G_br (tgt := 20) rfl rfl (by decide) (fun z => absurd z hc4) (fun _ => ?_)
        refine mv_G_run 2 (F' := (21, [some (.ref (kb false 23)), some (.int v1), some (.int v2), some (.int r1)], [.int (1 : Int32), .ref (kb false 23)], 0, 0, kjS f I L)) rfl ?_
        refine mv_G_fg (lc' := [none, some (.int v1), none, some (.int r1)]) (And.intro rfl (And.intro rfl trivial)) ?_
        exact kf60_21_ok _ _ d _ _ _ _ _ _ h
  · unfold kf60 at h
    refine mv_C_in kjM_60 (lc := [some (.ref (kb true 23)), some (.int v1), some (.int v2), none]) rfl rfl rfl ?_
    refine mv_G_run 1 (F' := (1, [some (.ref (kb true 23)), some (.int v1), some (.int v2), none], [.ref (kb true 23)], 0, 0, kjS f I L)) rfl ?_
    obtain ⟨r1, hc2, h⟩ := mv_bd h
    refine mv_G_call (r := []) (kf58_ok _ _ _ _ _ _ hc2) rfl rfl rfl rfl rfl (Nat.le_of_ble_eq_true rfl) (Nat.le_of_ble_eq_true rfl) (Nat.le_of_ble_eq_true rfl) ?_
    rintro _ _ ⟨rfl, rfl⟩
    refine mv_G_run 4 (F' := (8, [some (.ref (kb true 23)), some (.int v1), some (.int v2), some (.int r1)], [.int v1, .int r1, .ref (kb true 23)], 0, 0, kjS f I L)) rfl ?_
    by_cases hc3 : r1 < v1
    · rw [if_pos hc3] at h
      refine mv_G_br (tgt := 20) rfl rfl (by decide) (fun _ => ?_) (fun z => absurd hc3 z)
      refine mv_G_fg (lc' := [none, some (.int v1), none, some (.int r1)]) (And.intro rfl (And.intro rfl trivial)) ?_
      exact kf60_20_ok _ _ d _ _ _ _ _ h
    · rw [if_neg hc3] at h
      refine mv_G_br (tgt := 20) rfl rfl (by decide) (fun z => absurd z hc3) (fun _ => ?_)
      refine mv_G_run 2 (F' := (13, [some (.ref (kb true 23)), some (.int v1), some (.int v2), some (.int r1)], [.int v2, .int r1, .ref (kb true 23)], 0, 0, kjS f I L)) rfl ?_
      by_cases hc4 : v2 < r1
      · rw [if_pos hc4] at h
        refine mv_G_br (tgt := 20) rfl rfl (by decide) (fun _ => ?_) (fun z => absurd hc4 z)
        refine mv_G_fg (lc' := [none, some (.int v1), none, some (.int r1)]) (And.intro rfl (And.intro rfl trivial)) ?_
        exact kf60_20_ok _ _ d _ _ _ _ _ h
      · rw [if_neg hc4] at h
        refine mv_G_br (tgt := 20) rfl rfl (by decide) (fun z => absurd z hc4) (fun _ => ?_)
        refine mv_G_run 2 (F' := (21, [some (.ref (kb true 23)), some (.int v1), some (.int v2), some (.int r1)], [.int (1 : Int32), .ref (kb true 23)], 0, 0, kjS f I L)) rfl ?_
        refine mv_G_fg (lc' := [none, some (.int v1), none, some (.int r1)]) (And.intro rfl (And.intro rfl trivial)) ?_
        exact kf60_21_ok _ _ d _ _ _ _ _ _ h
/-! KindJudge$Reader.goesOn()Z on ('b', 23) -/
def kf55 (b : Bool) (I : kjI) (L : kjL) : Option (Int32) :=
  if ¬ (I (kb b 23) 2) = 0 then (some (0 : Int32)) else (some (1 : Int32))
set_option maxRecDepth 100000 in
set_option maxHeartbeats 4000000 in
theorem kf55_ok (f : Bool) (b : Bool) (I : kjI) (L : kjL) (d : Nat) (r : Int32) (h : kf55 b I L = some r) : mv_C kjP kjSta (d + 1) 55 [.ref (kb b 23)] (kjS f I L) (kjQi f I L r) := by
  cases b
  · unfold kf55 at h
    refine mv_C_in kjM_55 (lc := [some (.ref (kb false 23))]) rfl rfl rfl ?_
    refine mv_G_run 2 (F' := (4, [some (.ref (kb false 23))], [.int (I (kb false 23) 2)], 0, 0, kjS f I L)) rfl ?_
    by_cases hc1 : ¬ (I (kb false 23) 2) = 0
    · rw [if_pos hc1] at h
      refine mv_G_br (tgt := 11) rfl rfl (by decide) (fun _ => ?_) (fun z => absurd hc1 z)
      refine mv_G_run 1 (F' := (12, [some (.ref (kb false 23))], [.int (0 : Int32)], 0, 0, kjS f I L)) rfl ?_
      obtain rfl := Option.some.inj h
      exact mv_G_ret rfl rfl rfl (Nat.le_refl _) (Or.inl rfl) ⟨rfl, rfl⟩
    · rw [if_neg hc1] at h
      refine mv_G_br (tgt := 11) rfl rfl (by decide) (fun z => absurd z hc1) (fun _ => ?_)
      refine mv_G_run 2 (F' := (12, [some (.ref (kb false 23))], [.int (1 : Int32)], 0, 0, kjS f I L)) rfl ?_
      obtain rfl := Option.some.inj h
      exact mv_G_ret rfl rfl rfl (Nat.le_refl _) (Or.inr rfl) ⟨rfl, rfl⟩
  · unfold kf55 at h
    refine mv_C_in kjM_55 (lc := [some (.ref (kb true 23))]) rfl rfl rfl ?_
    refine mv_G_run 2 (F' := (4, [some (.ref (kb true 23))], [.int (I (kb true 23) 2)], 0, 0, kjS f I L)) rfl ?_
    by_cases hc1 : ¬ (I (kb true 23) 2) = 0
    · rw [if_pos hc1] at h
      refine mv_G_br (tgt := 11) rfl rfl (by decide) (fun _ => ?_) (fun z => absurd hc1 z)
      refine mv_G_run 1 (F' := (12, [some (.ref (kb true 23))], [.int (0 : Int32)], 0, 0, kjS f I L)) rfl ?_
      obtain rfl := Option.some.inj h
      exact mv_G_ret rfl rfl rfl (Nat.le_refl _) (Or.inl rfl) ⟨rfl, rfl⟩
    · rw [if_neg hc1] at h
      refine mv_G_br (tgt := 11) rfl rfl (by decide) (fun z => absurd z hc1) (fun _ => ?_)
      refine mv_G_run 2 (F' := (12, [some (.ref (kb true 23))], [.int (1 : Int32)], 0, 0, kjS f I L)) rfl ?_
      obtain rfl := Option.some.inj h
      exact mv_G_ret rfl rfl rfl (Nat.le_refl _) (Or.inr rfl) ⟨rfl, rfl⟩
/-! KindJudge$Reader.typeAmong(IZ)I on ('b', 23) -/
def kf61_42 (b : Bool) (v3 : Int32) (s0 : Int32) (I : kjI) (L : kjL) : Option (Int32 × kjI × kjL) :=
  (kf59 b s0 I L).bind fun r1 => if r1.1 = 0 then (some ((1 : Int32), r1.2.1, r1.2.2)) else (some (v3, r1.2.1, r1.2.2))
set_option maxRecDepth 100000 in
set_option maxHeartbeats 4000000 in
theorem kf61_42_ok (f : Bool) (b : Bool) (d : Nat)  (v3 : Int32) (s0 : Int32) (I : kjI) (L : kjL) (r : Int32 × kjI × kjL) (h : kf61_42 b v3 s0 I L = some r) : mv_G kjP kjSta (mv_C kjP kjSta (d + 2)) kjM_61 (kjQwi f r) (42, [some (.ref (kb b 23)), none, none, some (.int v3), none], [.int s0], 0, 0, kjS f I L) := by
  cases b
  · unfold kf61_42 at h
    refine mv_G_run 3 (F' := (47, [some (.ref (kb false 23)), none, none, some (.int v3), some (.int s0)], [.int s0, .ref (kb false 23)], 0, 0, kjS f I L)) rfl ?_
    obtain ⟨r1, hc2, h⟩ := mv_bd h
    refine mv_G_call (r := []) (kf59_ok _ _ _ _ _ _ _ hc2) rfl rfl rfl rfl rfl (Nat.le_of_ble_eq_true rfl) (Nat.le_of_ble_eq_true rfl) (Nat.le_of_ble_eq_true rfl) ?_
    rintro _ _ ⟨rfl, rfl⟩
    by_cases hc3 : r1.1 = 0
    · rw [if_pos hc3] at h
      refine mv_G_br (tgt := 57) rfl rfl (by decide) (fun _ => ?_) (fun z => absurd hc3 z)
      refine mv_G_run 1 (F' := (58, [some (.ref (kb false 23)), none, none, some (.int v3), some (.int s0)], [.int (1 : Int32)], 0, 0, kjS f r1.2.1 r1.2.2)) rfl ?_
      obtain rfl := Option.some.inj h
      exact mv_G_ret rfl rfl rfl (Nat.le_refl _) trivial ⟨rfl, rfl⟩
    · rw [if_neg hc3] at h
      refine mv_G_br (tgt := 57) rfl rfl (by decide) (fun z => absurd z hc3) (fun _ => ?_)
      refine mv_G_run 2 (F' := (58, [some (.ref (kb false 23)), none, none, some (.int v3), some (.int s0)], [.int v3], 0, 0, kjS f r1.2.1 r1.2.2)) rfl ?_
      obtain rfl := Option.some.inj h
      exact mv_G_ret rfl rfl rfl (Nat.le_refl _) trivial ⟨rfl, rfl⟩
  · unfold kf61_42 at h
    refine mv_G_run 3 (F' := (47, [some (.ref (kb true 23)), none, none, some (.int v3), some (.int s0)], [.int s0, .ref (kb true 23)], 0, 0, kjS f I L)) rfl ?_
    obtain ⟨r1, hc2, h⟩ := mv_bd h
    refine mv_G_call (r := []) (kf59_ok _ _ _ _ _ _ _ hc2) rfl rfl rfl rfl rfl (Nat.le_of_ble_eq_true rfl) (Nat.le_of_ble_eq_true rfl) (Nat.le_of_ble_eq_true rfl) ?_
    rintro _ _ ⟨rfl, rfl⟩
    by_cases hc3 : r1.1 = 0
    · rw [if_pos hc3] at h
      refine mv_G_br (tgt := 57) rfl rfl (by decide) (fun _ => ?_) (fun z => absurd hc3 z)
      refine mv_G_run 1 (F' := (58, [some (.ref (kb true 23)), none, none, some (.int v3), some (.int s0)], [.int (1 : Int32)], 0, 0, kjS f r1.2.1 r1.2.2)) rfl ?_
      obtain rfl := Option.some.inj h
      exact mv_G_ret rfl rfl rfl (Nat.le_refl _) trivial ⟨rfl, rfl⟩
    · rw [if_neg hc3] at h
      refine mv_G_br (tgt := 57) rfl rfl (by decide) (fun z => absurd z hc3) (fun _ => ?_)
      refine mv_G_run 2 (F' := (58, [some (.ref (kb true 23)), none, none, some (.int v3), some (.int s0)], [.int v3], 0, 0, kjS f r1.2.1 r1.2.2)) rfl ?_
      obtain rfl := Option.some.inj h
      exact mv_G_ret rfl rfl rfl (Nat.le_refl _) trivial ⟨rfl, rfl⟩
def kf61_37 (b : Bool) (v3 : Int32) (I : kjI) (L : kjL) : Option (Int32 × kjI × kjL) :=
  kf61_42 b v3 (1 : Int32) I L
set_option maxRecDepth 100000 in
set_option maxHeartbeats 4000000 in
theorem kf61_37_ok (f : Bool) (b : Bool) (d : Nat)  (v3 : Int32) (I : kjI) (L : kjL) (r : Int32 × kjI × kjL) (h : kf61_37 b v3 I L = some r) : mv_G kjP kjSta (mv_C kjP kjSta (d + 2)) kjM_61 (kjQwi f r) (37, [some (.ref (kb b 23)), none, none, some (.int v3), none], [], 0, 0, kjS f I L) := by
  cases b
  · unfold kf61_37 at h
    refine mv_G_run 2 (F' := (42, [some (.ref (kb false 23)), none, none, some (.int v3), none], [.int (1 : Int32)], 0, 0, kjS f I L)) rfl ?_
    exact kf61_42_ok _ _ d _ _ _ _ _ h
  · unfold kf61_37 at h
    refine mv_G_run 2 (F' := (42, [some (.ref (kb true 23)), none, none, some (.int v3), none], [.int (1 : Int32)], 0, 0, kjS f I L)) rfl ?_
    exact kf61_42_ok _ _ d _ _ _ _ _ h
def kf61_41 (b : Bool) (v3 : Int32) (I : kjI) (L : kjL) : Option (Int32 × kjI × kjL) :=
  kf61_42 b v3 (0 : Int32) I L
set_option maxRecDepth 100000 in
set_option maxHeartbeats 4000000 in
theorem kf61_41_ok (f : Bool) (b : Bool) (d : Nat)  (v3 : Int32) (I : kjI) (L : kjL) (r : Int32 × kjI × kjL) (h : kf61_41 b v3 I L = some r) : mv_G kjP kjSta (mv_C kjP kjSta (d + 2)) kjM_61 (kjQwi f r) (41, [some (.ref (kb b 23)), none, none, some (.int v3), none], [], 0, 0, kjS f I L) := by
  cases b
  · unfold kf61_41 at h
    refine mv_G_run 1 (F' := (42, [some (.ref (kb false 23)), none, none, some (.int v3), none], [.int (0 : Int32)], 0, 0, kjS f I L)) rfl ?_
    exact kf61_42_ok _ _ d _ _ _ _ _ h
  · unfold kf61_41 at h
    refine mv_G_run 1 (F' := (42, [some (.ref (kb true 23)), none, none, some (.int v3), none], [.int (0 : Int32)], 0, 0, kjS f I L)) rfl ?_
    exact kf61_42_ok _ _ d _ _ _ _ _ h
def kf61_29 (b : Bool) (v2 : Int32) (v3 : Int32) (I : kjI) (L : kjL) : Option (Int32 × kjI × kjL) :=
  if v2 = 0 then (kf61_41 b v3 I L) else (if ¬ v3 = 0 then (kf61_41 b v3 I L) else (kf61_37 b v3 I L))
set_option maxRecDepth 100000 in
set_option maxHeartbeats 4000000 in
theorem kf61_29_ok (f : Bool) (b : Bool) (d : Nat)  (v2 : Int32) (v3 : Int32) (I : kjI) (L : kjL) (r : Int32 × kjI × kjL) (h : kf61_29 b v2 v3 I L = some r) : mv_G kjP kjSta (mv_C kjP kjSta (d + 2)) kjM_61 (kjQwi f r) (29, [some (.ref (kb b 23)), none, some (.int v2), some (.int v3), none], [], 0, 0, kjS f I L) := by
  cases b
  · unfold kf61_29 at h
    refine mv_G_run 1 (F' := (30, [some (.ref (kb false 23)), none, some (.int v2), some (.int v3), none], [.int v2], 0, 0, kjS f I L)) rfl ?_
    by_cases hc1 : v2 = 0
    · rw [if_pos hc1] at h
      refine mv_G_br (tgt := 41) rfl rfl (by decide) (fun _ => ?_) (fun z => absurd hc1 z)
      refine mv_G_fg (lc' := [some (.ref (kb false 23)), none, none, some (.int v3), none]) (And.intro rfl (And.intro rfl trivial)) ?_
      exact kf61_41_ok _ _ d _ _ _ _ h
    · rw [if_neg hc1] at h
      refine mv_G_br (tgt := 41) rfl rfl (by decide) (fun z => absurd z hc1) (fun _ => ?_)
      refine mv_G_run 1 (F' := (34, [some (.ref (kb false 23)), none, some (.int v2), some (.int v3), none], [.int v3], 0, 0, kjS f I L)) rfl ?_
      by_cases hc2 : ¬ v3 = 0
      · rw [if_pos hc2] at h
        refine mv_G_br (tgt := 41) rfl rfl (by decide) (fun _ => ?_) (fun z => absurd hc2 z)
        refine mv_G_fg (lc' := [some (.ref (kb false 23)), none, none, some (.int v3), none]) (And.intro rfl (And.intro rfl trivial)) ?_
        exact kf61_41_ok _ _ d _ _ _ _ h
      · rw [if_neg hc2] at h
        refine mv_G_br (tgt := 41) rfl rfl (by decide) (fun z => absurd z hc2) (fun _ => ?_)
        refine mv_G_fg (lc' := [some (.ref (kb false 23)), none, none, some (.int v3), none]) (And.intro rfl (And.intro rfl trivial)) ?_
        exact kf61_37_ok _ _ d _ _ _ _ h
  · unfold kf61_29 at h
    refine mv_G_run 1 (F' := (30, [some (.ref (kb true 23)), none, some (.int v2), some (.int v3), none], [.int v2], 0, 0, kjS f I L)) rfl ?_
    by_cases hc1 : v2 = 0
    · rw [if_pos hc1] at h
      refine mv_G_br (tgt := 41) rfl rfl (by decide) (fun _ => ?_) (fun z => absurd hc1 z)
      refine mv_G_fg (lc' := [some (.ref (kb true 23)), none, none, some (.int v3), none]) (And.intro rfl (And.intro rfl trivial)) ?_
      exact kf61_41_ok _ _ d _ _ _ _ h
    · rw [if_neg hc1] at h
      refine mv_G_br (tgt := 41) rfl rfl (by decide) (fun z => absurd z hc1) (fun _ => ?_)
      refine mv_G_run 1 (F' := (34, [some (.ref (kb true 23)), none, some (.int v2), some (.int v3), none], [.int v3], 0, 0, kjS f I L)) rfl ?_
      by_cases hc2 : ¬ v3 = 0
      · rw [if_pos hc2] at h
        refine mv_G_br (tgt := 41) rfl rfl (by decide) (fun _ => ?_) (fun z => absurd hc2 z)
        refine mv_G_fg (lc' := [some (.ref (kb true 23)), none, none, some (.int v3), none]) (And.intro rfl (And.intro rfl trivial)) ?_
        exact kf61_41_ok _ _ d _ _ _ _ h
      · rw [if_neg hc2] at h
        refine mv_G_br (tgt := 41) rfl rfl (by decide) (fun z => absurd z hc2) (fun _ => ?_)
        refine mv_G_fg (lc' := [some (.ref (kb true 23)), none, none, some (.int v3), none]) (And.intro rfl (And.intro rfl trivial)) ?_
        exact kf61_37_ok _ _ d _ _ _ _ h
def kf61 (b : Bool) (v1 : Int32) (v2 : Int32) (I : kjI) (L : kjL) : Option (Int32 × kjI × kjL) :=
  (kf58 b I L).bind fun r1 => if r1 = (1 : Int32) then (kf61_37 b r1 I L) else (if r1 = (2 : Int32) then (kf61_37 b r1 I L) else (if r1 < (16 : Int32) then (kf61_29 b v2 r1 I L) else (if r1 < ((16 : Int32) + v1) then (kf61_37 b r1 I L) else (kf61_29 b v2 r1 I L))))
set_option maxRecDepth 100000 in
set_option maxHeartbeats 4000000 in
theorem kf61_ok (f : Bool) (b : Bool) (v1 : Int32) (v2 : Int32) (I : kjI) (L : kjL) (d : Nat) (r : Int32 × kjI × kjL) (h : kf61 b v1 v2 I L = some r) : mv_C kjP kjSta (d + 3) 61 [.ref (kb b 23), .int v1, .int v2] (kjS f I L) (kjQwi f r) := by
  cases b
  · unfold kf61 at h
    refine mv_C_in kjM_61 (lc := [some (.ref (kb false 23)), some (.int v1), some (.int v2), none, none]) rfl rfl rfl ?_
    refine mv_G_run 1 (F' := (1, [some (.ref (kb false 23)), some (.int v1), some (.int v2), none, none], [.ref (kb false 23)], 0, 0, kjS f I L)) rfl ?_
    obtain ⟨r1, hc2, h⟩ := mv_bd h
    refine mv_G_call (r := []) (kf58_ok _ _ _ _ _ _ hc2) rfl rfl rfl rfl rfl (Nat.le_of_ble_eq_true rfl) (Nat.le_of_ble_eq_true rfl) (Nat.le_of_ble_eq_true rfl) ?_
    rintro _ _ ⟨rfl, rfl⟩
    refine mv_G_run 3 (F' := (7, [some (.ref (kb false 23)), some (.int v1), some (.int v2), some (.int r1), none], [.int (1 : Int32), .int r1], 0, 0, kjS f I L)) rfl ?_
    by_cases hc3 : r1 = (1 : Int32)
    · rw [if_pos hc3] at h
      refine mv_G_br (tgt := 37) rfl rfl (by decide) (fun _ => ?_) (fun z => absurd hc3 z)
      refine mv_G_fg (lc' := [some (.ref (kb false 23)), none, none, some (.int r1), none]) (And.intro rfl (And.intro rfl trivial)) ?_
      exact kf61_37_ok _ _ d _ _ _ _ h
    · rw [if_neg hc3] at h
      refine mv_G_br (tgt := 37) rfl rfl (by decide) (fun z => absurd z hc3) (fun _ => ?_)
      refine mv_G_run 2 (F' := (12, [some (.ref (kb false 23)), some (.int v1), some (.int v2), some (.int r1), none], [.int (2 : Int32), .int r1], 0, 0, kjS f I L)) rfl ?_
      by_cases hc4 : r1 = (2 : Int32)
      · rw [if_pos hc4] at h
        refine mv_G_br (tgt := 37) rfl rfl (by decide) (fun _ => ?_) (fun z => absurd hc4 z)
        refine mv_G_fg (lc' := [some (.ref (kb false 23)), none, none, some (.int r1), none]) (And.intro rfl (And.intro rfl trivial)) ?_
        exact kf61_37_ok _ _ d _ _ _ _ h
      · rw [if_neg hc4] at h
        refine mv_G_br (tgt := 37) rfl rfl (by decide) (fun z => absurd z hc4) (fun _ => ?_)
        refine mv_G_run 2 (F' := (18, [some (.ref (kb false 23)), some (.int v1), some (.int v2), some (.int r1), none], [.int (16 : Int32), .int r1], 0, 0, kjS f I L)) rfl ?_
        by_cases hc5 : r1 < (16 : Int32)
        · rw [if_pos hc5] at h
          refine mv_G_br (tgt := 29) rfl rfl (by decide) (fun _ => ?_) (fun z => absurd hc5 z)
          refine mv_G_fg (lc' := [some (.ref (kb false 23)), none, some (.int v2), some (.int r1), none]) (And.intro rfl (And.intro rfl (And.intro rfl trivial))) ?_
          exact kf61_29_ok _ _ d _ _ _ _ _ h
        · rw [if_neg hc5] at h
          refine mv_G_br (tgt := 29) rfl rfl (by decide) (fun z => absurd z hc5) (fun _ => ?_)
          refine mv_G_run 4 (F' := (26, [some (.ref (kb false 23)), some (.int v1), some (.int v2), some (.int r1), none], [.int ((16 : Int32) + v1), .int r1], 0, 0, kjS f I L)) rfl ?_
          by_cases hc6 : r1 < ((16 : Int32) + v1)
          · rw [if_pos hc6] at h
            refine mv_G_br (tgt := 37) rfl rfl (by decide) (fun _ => ?_) (fun z => absurd hc6 z)
            refine mv_G_fg (lc' := [some (.ref (kb false 23)), none, none, some (.int r1), none]) (And.intro rfl (And.intro rfl trivial)) ?_
            exact kf61_37_ok _ _ d _ _ _ _ h
          · rw [if_neg hc6] at h
            refine mv_G_br (tgt := 37) rfl rfl (by decide) (fun z => absurd z hc6) (fun _ => ?_)
            refine mv_G_fg (lc' := [some (.ref (kb false 23)), none, some (.int v2), some (.int r1), none]) (And.intro rfl (And.intro rfl (And.intro rfl trivial))) ?_
            exact kf61_29_ok _ _ d _ _ _ _ _ h
  · unfold kf61 at h
    refine mv_C_in kjM_61 (lc := [some (.ref (kb true 23)), some (.int v1), some (.int v2), none, none]) rfl rfl rfl ?_
    refine mv_G_run 1 (F' := (1, [some (.ref (kb true 23)), some (.int v1), some (.int v2), none, none], [.ref (kb true 23)], 0, 0, kjS f I L)) rfl ?_
    obtain ⟨r1, hc2, h⟩ := mv_bd h
    refine mv_G_call (r := []) (kf58_ok _ _ _ _ _ _ hc2) rfl rfl rfl rfl rfl (Nat.le_of_ble_eq_true rfl) (Nat.le_of_ble_eq_true rfl) (Nat.le_of_ble_eq_true rfl) ?_
    rintro _ _ ⟨rfl, rfl⟩
    refine mv_G_run 3 (F' := (7, [some (.ref (kb true 23)), some (.int v1), some (.int v2), some (.int r1), none], [.int (1 : Int32), .int r1], 0, 0, kjS f I L)) rfl ?_
    by_cases hc3 : r1 = (1 : Int32)
    · rw [if_pos hc3] at h
      refine mv_G_br (tgt := 37) rfl rfl (by decide) (fun _ => ?_) (fun z => absurd hc3 z)
      refine mv_G_fg (lc' := [some (.ref (kb true 23)), none, none, some (.int r1), none]) (And.intro rfl (And.intro rfl trivial)) ?_
      exact kf61_37_ok _ _ d _ _ _ _ h
    · rw [if_neg hc3] at h
      refine mv_G_br (tgt := 37) rfl rfl (by decide) (fun z => absurd z hc3) (fun _ => ?_)
      refine mv_G_run 2 (F' := (12, [some (.ref (kb true 23)), some (.int v1), some (.int v2), some (.int r1), none], [.int (2 : Int32), .int r1], 0, 0, kjS f I L)) rfl ?_
      by_cases hc4 : r1 = (2 : Int32)
      · rw [if_pos hc4] at h
        refine mv_G_br (tgt := 37) rfl rfl (by decide) (fun _ => ?_) (fun z => absurd hc4 z)
        refine mv_G_fg (lc' := [some (.ref (kb true 23)), none, none, some (.int r1), none]) (And.intro rfl (And.intro rfl trivial)) ?_
        exact kf61_37_ok _ _ d _ _ _ _ h
      · rw [if_neg hc4] at h
        refine mv_G_br (tgt := 37) rfl rfl (by decide) (fun z => absurd z hc4) (fun _ => ?_)
        refine mv_G_run 2 (F' := (18, [some (.ref (kb true 23)), some (.int v1), some (.int v2), some (.int r1), none], [.int (16 : Int32), .int r1], 0, 0, kjS f I L)) rfl ?_
        by_cases hc5 : r1 < (16 : Int32)
        · rw [if_pos hc5] at h
          refine mv_G_br (tgt := 29) rfl rfl (by decide) (fun _ => ?_) (fun z => absurd hc5 z)
          refine mv_G_fg (lc' := [some (.ref (kb true 23)), none, some (.int v2), some (.int r1), none]) (And.intro rfl (And.intro rfl (And.intro rfl trivial))) ?_
          exact kf61_29_ok _ _ d _ _ _ _ _ h
        · rw [if_neg hc5] at h
          refine mv_G_br (tgt := 29) rfl rfl (by decide) (fun z => absurd z hc5) (fun _ => ?_)
          refine mv_G_run 4 (F' := (26, [some (.ref (kb true 23)), some (.int v1), some (.int v2), some (.int r1), none], [.int ((16 : Int32) + v1), .int r1], 0, 0, kjS f I L)) rfl ?_
          by_cases hc6 : r1 < ((16 : Int32) + v1)
          · rw [if_pos hc6] at h
            refine mv_G_br (tgt := 37) rfl rfl (by decide) (fun _ => ?_) (fun z => absurd hc6 z)
            refine mv_G_fg (lc' := [some (.ref (kb true 23)), none, none, some (.int r1), none]) (And.intro rfl (And.intro rfl trivial)) ?_
            exact kf61_37_ok _ _ d _ _ _ _ h
          · rw [if_neg hc6] at h
            refine mv_G_br (tgt := 37) rfl rfl (by decide) (fun z => absurd z hc6) (fun _ => ?_)
            refine mv_G_fg (lc' := [some (.ref (kb true 23)), none, some (.int v2), some (.int r1), none]) (And.intro rfl (And.intro rfl (And.intro rfl trivial))) ?_
            exact kf61_29_ok _ _ d _ _ _ _ _ h
/-! KindJudge$Classes.readOne(LKindJudge$Reader;I)V on ('b', 5) -/
def kf36_131 (b : Bool) (N : Nat) : Nat → Int32 → Int32 → Int32 → Int32 → kjI → kjL → Option (kjI × kjL)
  | 0, _, _, _, _, _, _ => none
  | n + 1, v2, v4, v5, v6, I, L => if (v4 + v5) ≤ v6 then (some (I, L)) else ((kf61 b (I (kb b 5) 4) (0 : Int32) I L).bind fun r2 => bif mv_in ((v2 * (8 : Int32)) + v6) 64 then ((fun v2 v4 v5 v6 I L => kf36_131 b N n v2 v4 v5 v6 I L) v2 v4 v5 (v6 + (1 : Int32)) (mv_up r2.2.1 (kb b 8) (Int32.toNatClampNeg ((v2 * (8 : Int32)) + v6)) r2.1) r2.2.2) else none)
set_option maxRecDepth 100000 in
set_option maxHeartbeats 4000000 in
theorem kf36_131_ok (f : Bool) (b : Bool) (N : Nat) (d : Nat)  : ∀ (n : Nat) (v2 : Int32) (v4 : Int32) (v5 : Int32) (v6 : Int32) (I : kjI) (L : kjL) (r : kjI × kjL), kf36_131 b N n v2 v4 v5 v6 I L = some r → mv_G kjP kjSta (mv_C kjP kjSta (d + 3)) kjM_36 (kjQwv f r) (131, [some (.ref (kb b 5)), some (.ref (kb b 23)), some (.int v2), none, some (.int v4), some (.int v5), some (.int v6)], [], 0, 0, kjS f I L) := by
  cases b
  · intro n
    induction n with
    | zero => intro v2 v4 v5 v6 I L r h; cases h
    | succ n ih =>
      have hk131 := ih
      intro v2 v4 v5 v6 I L r h
      unfold kf36_131 at h
      refine mv_G_run 4 (F' := (138, [some (.ref (kb false 5)), some (.ref (kb false 23)), some (.int v2), none, some (.int v4), some (.int v5), some (.int v6)], [.int (v4 + v5), .int v6], 0, 0, kjS f I L)) rfl ?_
      by_cases hc1 : (v4 + v5) ≤ v6
      · rw [if_pos hc1] at h
        refine mv_G_br (tgt := 168) rfl rfl (by decide) (fun _ => ?_) (fun z => absurd hc1 z)
        obtain rfl := Option.some.inj h
        exact mv_G_ret rfl rfl rfl (Nat.le_refl _) trivial ⟨rfl, rfl⟩
      · rw [if_neg hc1] at h
        refine mv_G_br (tgt := 168) rfl rfl (by decide) (fun z => absurd z hc1) (fun _ => ?_)
        refine mv_G_run 11 (F' := (158, [some (.ref (kb false 5)), some (.ref (kb false 23)), some (.int v2), none, some (.int v4), some (.int v5), some (.int v6)], [.int (0 : Int32), .int (I (kb false 5) 4), .ref (kb false 23), .int ((v2 * (8 : Int32)) + v6), .ref (kb false 8)], 0, 0, kjS f I L)) rfl ?_
        obtain ⟨r2, hc3, h⟩ := mv_bd h
        refine mv_G_call (r := [.int ((v2 * (8 : Int32)) + v6), .ref (kb false 8)]) (kf61_ok _ _ _ _ _ _ _ _ hc3) rfl rfl rfl rfl rfl (Nat.le_of_ble_eq_true rfl) (Nat.le_of_ble_eq_true rfl) (Nat.le_of_ble_eq_true rfl) ?_
        rintro _ _ ⟨rfl, rfl⟩
        obtain ⟨hi4, h⟩ := mv_bifs h
        refine mv_G_ast rfl rfl (mv_in_ok hi4) ?_
        refine mv_G_run 2 (F' := (131, [some (.ref (kb false 5)), some (.ref (kb false 23)), some (.int v2), none, some (.int v4), some (.int v5), some (.int (v6 + (1 : Int32)))], [], 0, 0, kjS f (mv_up r2.2.1 (kb false 8) (Int32.toNatClampNeg ((v2 * (8 : Int32)) + v6)) r2.1) r2.2.2)) rfl ?_
        exact hk131 v2 v4 v5 (v6 + (1 : Int32)) (mv_up r2.2.1 (kb false 8) (Int32.toNatClampNeg ((v2 * (8 : Int32)) + v6)) r2.1) r2.2.2 _ h
  · intro n
    induction n with
    | zero => intro v2 v4 v5 v6 I L r h; cases h
    | succ n ih =>
      have hk131 := ih
      intro v2 v4 v5 v6 I L r h
      unfold kf36_131 at h
      refine mv_G_run 4 (F' := (138, [some (.ref (kb true 5)), some (.ref (kb true 23)), some (.int v2), none, some (.int v4), some (.int v5), some (.int v6)], [.int (v4 + v5), .int v6], 0, 0, kjS f I L)) rfl ?_
      by_cases hc1 : (v4 + v5) ≤ v6
      · rw [if_pos hc1] at h
        refine mv_G_br (tgt := 168) rfl rfl (by decide) (fun _ => ?_) (fun z => absurd hc1 z)
        obtain rfl := Option.some.inj h
        exact mv_G_ret rfl rfl rfl (Nat.le_refl _) trivial ⟨rfl, rfl⟩
      · rw [if_neg hc1] at h
        refine mv_G_br (tgt := 168) rfl rfl (by decide) (fun z => absurd z hc1) (fun _ => ?_)
        refine mv_G_run 11 (F' := (158, [some (.ref (kb true 5)), some (.ref (kb true 23)), some (.int v2), none, some (.int v4), some (.int v5), some (.int v6)], [.int (0 : Int32), .int (I (kb true 5) 4), .ref (kb true 23), .int ((v2 * (8 : Int32)) + v6), .ref (kb true 8)], 0, 0, kjS f I L)) rfl ?_
        obtain ⟨r2, hc3, h⟩ := mv_bd h
        refine mv_G_call (r := [.int ((v2 * (8 : Int32)) + v6), .ref (kb true 8)]) (kf61_ok _ _ _ _ _ _ _ _ hc3) rfl rfl rfl rfl rfl (Nat.le_of_ble_eq_true rfl) (Nat.le_of_ble_eq_true rfl) (Nat.le_of_ble_eq_true rfl) ?_
        rintro _ _ ⟨rfl, rfl⟩
        obtain ⟨hi4, h⟩ := mv_bifs h
        refine mv_G_ast rfl rfl (mv_in_ok hi4) ?_
        refine mv_G_run 2 (F' := (131, [some (.ref (kb true 5)), some (.ref (kb true 23)), some (.int v2), none, some (.int v4), some (.int v5), some (.int (v6 + (1 : Int32)))], [], 0, 0, kjS f (mv_up r2.2.1 (kb true 8) (Int32.toNatClampNeg ((v2 * (8 : Int32)) + v6)) r2.1) r2.2.2)) rfl ?_
        exact hk131 v2 v4 v5 (v6 + (1 : Int32)) (mv_up r2.2.1 (kb true 8) (Int32.toNatClampNeg ((v2 * (8 : Int32)) + v6)) r2.1) r2.2.2 _ h
def kf36_90 (b : Bool) (N : Nat) : Nat → Int32 → Int32 → Int32 → Int32 → Int32 → kjI → kjL → Option (kjI × kjL)
  | 0, _, _, _, _, _, _, _ => none
  | n + 1, v2, v3, v4, v5, v6, I, L => if v4 ≤ v6 then (kf36_131 b N N v2 v4 v5 v4 I L) else (bif mv_in ((v3 * (8 : Int32)) + v6) 64 then (bif mv_in ((v2 * (8 : Int32)) + v6) 64 then ((fun v2 v3 v4 v5 v6 I L => kf36_90 b N n v2 v3 v4 v5 v6 I L) v2 v3 v4 v5 (v6 + (1 : Int32)) (mv_up I (kb b 8) (Int32.toNatClampNeg ((v2 * (8 : Int32)) + v6)) (I (kb b 8) (Int32.toNatClampNeg ((v3 * (8 : Int32)) + v6)))) L) else none) else none)
set_option maxRecDepth 100000 in
set_option maxHeartbeats 4000000 in
theorem kf36_90_ok (f : Bool) (b : Bool) (N : Nat) (d : Nat)  : ∀ (n : Nat) (v2 : Int32) (v3 : Int32) (v4 : Int32) (v5 : Int32) (v6 : Int32) (I : kjI) (L : kjL) (r : kjI × kjL), kf36_90 b N n v2 v3 v4 v5 v6 I L = some r → mv_G kjP kjSta (mv_C kjP kjSta (d + 3)) kjM_36 (kjQwv f r) (90, [some (.ref (kb b 5)), some (.ref (kb b 23)), some (.int v2), some (.int v3), some (.int v4), some (.int v5), some (.int v6)], [], 0, 0, kjS f I L) := by
  cases b
  · intro n
    induction n with
    | zero => intro v2 v3 v4 v5 v6 I L r h; cases h
    | succ n ih =>
      have hk90 := ih
      intro v2 v3 v4 v5 v6 I L r h
      unfold kf36_90 at h
      refine mv_G_run 2 (F' := (94, [some (.ref (kb false 5)), some (.ref (kb false 23)), some (.int v2), some (.int v3), some (.int v4), some (.int v5), some (.int v6)], [.int v4, .int v6], 0, 0, kjS f I L)) rfl ?_
      by_cases hc1 : v4 ≤ v6
      · rw [if_pos hc1] at h
        refine mv_G_br (tgt := 127) rfl rfl (by decide) (fun _ => ?_) (fun z => absurd hc1 z)
        refine mv_G_run 2 (F' := (131, [some (.ref (kb false 5)), some (.ref (kb false 23)), some (.int v2), some (.int v3), some (.int v4), some (.int v5), some (.int v4)], [], 0, 0, kjS f I L)) rfl ?_
        refine mv_G_fg (lc' := [some (.ref (kb false 5)), some (.ref (kb false 23)), some (.int v2), none, some (.int v4), some (.int v5), some (.int v4)]) (And.intro rfl (And.intro rfl (And.intro rfl (And.intro rfl (And.intro rfl (And.intro rfl trivial)))))) ?_
        exact kf36_131_ok _ _ _ d _ _ _ _ _ _ _ _ h
      · rw [if_neg hc1] at h
        refine mv_G_br (tgt := 127) rfl rfl (by decide) (fun z => absurd z hc1) (fun _ => ?_)
        refine mv_G_run 14 (F' := (119, [some (.ref (kb false 5)), some (.ref (kb false 23)), some (.int v2), some (.int v3), some (.int v4), some (.int v5), some (.int v6)], [.int ((v3 * (8 : Int32)) + v6), .ref (kb false 8), .int ((v2 * (8 : Int32)) + v6), .ref (kb false 8)], 0, 0, kjS f I L)) rfl ?_
        obtain ⟨hi2, h⟩ := mv_bifs h
        refine mv_G_ald rfl rfl (mv_in_ok hi2) ?_
        obtain ⟨hi3, h⟩ := mv_bifs h
        refine mv_G_ast rfl rfl (mv_in_ok hi3) ?_
        refine mv_G_run 2 (F' := (90, [some (.ref (kb false 5)), some (.ref (kb false 23)), some (.int v2), some (.int v3), some (.int v4), some (.int v5), some (.int (v6 + (1 : Int32)))], [], 0, 0, kjS f (mv_up I (kb false 8) (Int32.toNatClampNeg ((v2 * (8 : Int32)) + v6)) (I (kb false 8) (Int32.toNatClampNeg ((v3 * (8 : Int32)) + v6)))) L)) rfl ?_
        exact hk90 v2 v3 v4 v5 (v6 + (1 : Int32)) (mv_up I (kb false 8) (Int32.toNatClampNeg ((v2 * (8 : Int32)) + v6)) (I (kb false 8) (Int32.toNatClampNeg ((v3 * (8 : Int32)) + v6)))) L _ h
  · intro n
    induction n with
    | zero => intro v2 v3 v4 v5 v6 I L r h; cases h
    | succ n ih =>
      have hk90 := ih
      intro v2 v3 v4 v5 v6 I L r h
      unfold kf36_90 at h
      refine mv_G_run 2 (F' := (94, [some (.ref (kb true 5)), some (.ref (kb true 23)), some (.int v2), some (.int v3), some (.int v4), some (.int v5), some (.int v6)], [.int v4, .int v6], 0, 0, kjS f I L)) rfl ?_
      by_cases hc1 : v4 ≤ v6
      · rw [if_pos hc1] at h
        refine mv_G_br (tgt := 127) rfl rfl (by decide) (fun _ => ?_) (fun z => absurd hc1 z)
        refine mv_G_run 2 (F' := (131, [some (.ref (kb true 5)), some (.ref (kb true 23)), some (.int v2), some (.int v3), some (.int v4), some (.int v5), some (.int v4)], [], 0, 0, kjS f I L)) rfl ?_
        refine mv_G_fg (lc' := [some (.ref (kb true 5)), some (.ref (kb true 23)), some (.int v2), none, some (.int v4), some (.int v5), some (.int v4)]) (And.intro rfl (And.intro rfl (And.intro rfl (And.intro rfl (And.intro rfl (And.intro rfl trivial)))))) ?_
        exact kf36_131_ok _ _ _ d _ _ _ _ _ _ _ _ h
      · rw [if_neg hc1] at h
        refine mv_G_br (tgt := 127) rfl rfl (by decide) (fun z => absurd z hc1) (fun _ => ?_)
        refine mv_G_run 14 (F' := (119, [some (.ref (kb true 5)), some (.ref (kb true 23)), some (.int v2), some (.int v3), some (.int v4), some (.int v5), some (.int v6)], [.int ((v3 * (8 : Int32)) + v6), .ref (kb true 8), .int ((v2 * (8 : Int32)) + v6), .ref (kb true 8)], 0, 0, kjS f I L)) rfl ?_
        obtain ⟨hi2, h⟩ := mv_bifs h
        refine mv_G_ald rfl rfl (mv_in_ok hi2) ?_
        obtain ⟨hi3, h⟩ := mv_bifs h
        refine mv_G_ast rfl rfl (mv_in_ok hi3) ?_
        refine mv_G_run 2 (F' := (90, [some (.ref (kb true 5)), some (.ref (kb true 23)), some (.int v2), some (.int v3), some (.int v4), some (.int v5), some (.int (v6 + (1 : Int32)))], [], 0, 0, kjS f (mv_up I (kb true 8) (Int32.toNatClampNeg ((v2 * (8 : Int32)) + v6)) (I (kb true 8) (Int32.toNatClampNeg ((v3 * (8 : Int32)) + v6)))) L)) rfl ?_
        exact hk90 v2 v3 v4 v5 (v6 + (1 : Int32)) (mv_up I (kb true 8) (Int32.toNatClampNeg ((v2 * (8 : Int32)) + v6)) (I (kb true 8) (Int32.toNatClampNeg ((v3 * (8 : Int32)) + v6)))) L _ h
def kf36_87 (b : Bool) (N : Nat) (v2 : Int32) (v3 : Int32) (v4 : Int32) (v5 : Int32) (I : kjI) (L : kjL) : Option (kjI × kjL) :=
  kf36_90 b N N v2 v3 v4 v5 (0 : Int32) I L
set_option maxRecDepth 100000 in
set_option maxHeartbeats 4000000 in
theorem kf36_87_ok (f : Bool) (b : Bool) (N : Nat) (d : Nat)  (v2 : Int32) (v3 : Int32) (v4 : Int32) (v5 : Int32) (I : kjI) (L : kjL) (r : kjI × kjL) (h : kf36_87 b N v2 v3 v4 v5 I L = some r) : mv_G kjP kjSta (mv_C kjP kjSta (d + 3)) kjM_36 (kjQwv f r) (87, [some (.ref (kb b 5)), some (.ref (kb b 23)), some (.int v2), some (.int v3), some (.int v4), some (.int v5), none], [], 0, 0, kjS f I L) := by
  cases b
  · unfold kf36_87 at h
    refine mv_G_run 2 (F' := (90, [some (.ref (kb false 5)), some (.ref (kb false 23)), some (.int v2), some (.int v3), some (.int v4), some (.int v5), some (.int (0 : Int32))], [], 0, 0, kjS f I L)) rfl ?_
    exact kf36_90_ok _ _ _ d _ _ _ _ _ _ _ _ _ h
  · unfold kf36_87 at h
    refine mv_G_run 2 (F' := (90, [some (.ref (kb true 5)), some (.ref (kb true 23)), some (.int v2), some (.int v3), some (.int v4), some (.int v5), some (.int (0 : Int32))], [], 0, 0, kjS f I L)) rfl ?_
    exact kf36_90_ok _ _ _ d _ _ _ _ _ _ _ _ _ h
def kf36_23 (b : Bool) (N : Nat) (v2 : Int32) (v3 : Int32) (s0 : Int32) (I : kjI) (L : kjL) : Option (kjI × kjL) :=
  (kf60 b (0 : Int32) (if ((8 : Int32) - s0) < (4 : Int32) then ((8 : Int32) - s0) else (4 : Int32)) I L).bind fun r1 => bif mv_in v2 8 then (bif mv_in v2 8 then (bif mv_in v2 8 then (if v3 < 0 then (kf36_87 b N v2 v3 s0 r1.1 (mv_up (mv_up (mv_up r1.2.1 (kb b 6) (Int32.toNatClampNeg v2) v3) (kb b 7) (Int32.toNatClampNeg v2) (s0 + r1.1)) (kb b 9) (Int32.toNatClampNeg v2) ((1 : Int32) <<< (v2 &&& 31))) r1.2.2) else (bif mv_in v2 8 then (bif mv_in v3 8 then (bif mv_in v2 8 then (kf36_87 b N v2 v3 s0 r1.1 (mv_up (mv_up (mv_up (mv_up r1.2.1 (kb b 6) (Int32.toNatClampNeg v2) v3) (kb b 7) (Int32.toNatClampNeg v2) (s0 + r1.1)) (kb b 9) (Int32.toNatClampNeg v2) ((1 : Int32) <<< (v2 &&& 31))) (kb b 9) (Int32.toNatClampNeg v2) (((mv_up (mv_up (mv_up r1.2.1 (kb b 6) (Int32.toNatClampNeg v2) v3) (kb b 7) (Int32.toNatClampNeg v2) (s0 + r1.1)) (kb b 9) (Int32.toNatClampNeg v2) ((1 : Int32) <<< (v2 &&& 31))) (kb b 9) (Int32.toNatClampNeg v2)) ||| ((mv_up (mv_up (mv_up r1.2.1 (kb b 6) (Int32.toNatClampNeg v2) v3) (kb b 7) (Int32.toNatClampNeg v2) (s0 + r1.1)) (kb b 9) (Int32.toNatClampNeg v2) ((1 : Int32) <<< (v2 &&& 31))) (kb b 9) (Int32.toNatClampNeg v3)))) r1.2.2) else none) else none) else none)) else none) else none) else none
set_option maxRecDepth 100000 in
set_option maxHeartbeats 4000000 in
theorem kf36_23_ok (f : Bool) (b : Bool) (N : Nat) (d : Nat)  (v2 : Int32) (v3 : Int32) (s0 : Int32) (I : kjI) (L : kjL) (r : kjI × kjL) (h : kf36_23 b N v2 v3 s0 I L = some r) : mv_G kjP kjSta (mv_C kjP kjSta (d + 3)) kjM_36 (kjQwv f r) (23, [some (.ref (kb b 5)), some (.ref (kb b 23)), some (.int v2), some (.int v3), none, none, none], [.int s0], 0, 0, kjS f I L) := by
  cases b
  · unfold kf36_23 at h
    refine mv_G_run 8 (F' := (36, [some (.ref (kb false 5)), some (.ref (kb false 23)), some (.int v2), some (.int v3), some (.int s0), none, none], [.int (if ((8 : Int32) - s0) < (4 : Int32) then ((8 : Int32) - s0) else (4 : Int32)), .int (0 : Int32), .ref (kb false 23)], 0, 0, kjS f I L)) rfl ?_
    obtain ⟨r1, hc2, h⟩ := mv_bd h
    refine mv_G_call (r := []) (kf60_ok _ _ _ _ _ _ _ _ hc2) rfl rfl rfl rfl rfl (Nat.le_of_ble_eq_true rfl) (Nat.le_of_ble_eq_true rfl) (Nat.le_of_ble_eq_true rfl) ?_
    rintro _ _ ⟨rfl, rfl⟩
    refine mv_G_run 5 (F' := (47, [some (.ref (kb false 5)), some (.ref (kb false 23)), some (.int v2), some (.int v3), some (.int s0), some (.int r1.1), none], [.int v3, .int v2, .ref (kb false 6)], 0, 0, kjS f r1.2.1 r1.2.2)) rfl ?_
    obtain ⟨hi3, h⟩ := mv_bifs h
    refine mv_G_ast rfl rfl (mv_in_ok hi3) ?_
    refine mv_G_run 6 (F' := (58, [some (.ref (kb false 5)), some (.ref (kb false 23)), some (.int v2), some (.int v3), some (.int s0), some (.int r1.1), none], [.int (s0 + r1.1), .int v2, .ref (kb false 7)], 0, 0, kjS f (mv_up r1.2.1 (kb false 6) (Int32.toNatClampNeg v2) v3) r1.2.2)) rfl ?_
    obtain ⟨hi4, h⟩ := mv_bifs h
    refine mv_G_ast rfl rfl (mv_in_ok hi4) ?_
    refine mv_G_run 6 (F' := (67, [some (.ref (kb false 5)), some (.ref (kb false 23)), some (.int v2), some (.int v3), some (.int s0), some (.int r1.1), none], [.int ((1 : Int32) <<< (v2 &&& 31)), .int v2, .ref (kb false 9)], 0, 0, kjS f (mv_up (mv_up r1.2.1 (kb false 6) (Int32.toNatClampNeg v2) v3) (kb false 7) (Int32.toNatClampNeg v2) (s0 + r1.1)) r1.2.2)) rfl ?_
    obtain ⟨hi5, h⟩ := mv_bifs h
    refine mv_G_ast rfl rfl (mv_in_ok hi5) ?_
    refine mv_G_run 1 (F' := (69, [some (.ref (kb false 5)), some (.ref (kb false 23)), some (.int v2), some (.int v3), some (.int s0), some (.int r1.1), none], [.int v3], 0, 0, kjS f (mv_up (mv_up (mv_up r1.2.1 (kb false 6) (Int32.toNatClampNeg v2) v3) (kb false 7) (Int32.toNatClampNeg v2) (s0 + r1.1)) (kb false 9) (Int32.toNatClampNeg v2) ((1 : Int32) <<< (v2 &&& 31))) r1.2.2)) rfl ?_
    by_cases hc6 : v3 < 0
    · rw [if_pos hc6] at h
      refine mv_G_br (tgt := 87) rfl rfl (by decide) (fun _ => ?_) (fun z => absurd hc6 z)
      exact kf36_87_ok _ _ _ d _ _ _ _ _ _ _ h
    · rw [if_neg hc6] at h
      refine mv_G_br (tgt := 87) rfl rfl (by decide) (fun z => absurd z hc6) (fun _ => ?_)
      refine mv_G_run 4 (F' := (78, [some (.ref (kb false 5)), some (.ref (kb false 23)), some (.int v2), some (.int v3), some (.int s0), some (.int r1.1), none], [.int v2, .ref (kb false 9), .int v2, .ref (kb false 9)], 0, 0, kjS f (mv_up (mv_up (mv_up r1.2.1 (kb false 6) (Int32.toNatClampNeg v2) v3) (kb false 7) (Int32.toNatClampNeg v2) (s0 + r1.1)) (kb false 9) (Int32.toNatClampNeg v2) ((1 : Int32) <<< (v2 &&& 31))) r1.2.2)) rfl ?_
      obtain ⟨hi7, h⟩ := mv_bifs h
      refine mv_G_ald rfl rfl (mv_in_ok hi7) ?_
      refine mv_G_run 3 (F' := (84, [some (.ref (kb false 5)), some (.ref (kb false 23)), some (.int v2), some (.int v3), some (.int s0), some (.int r1.1), none], [.int v3, .ref (kb false 9), .int ((mv_up (mv_up (mv_up r1.2.1 (kb false 6) (Int32.toNatClampNeg v2) v3) (kb false 7) (Int32.toNatClampNeg v2) (s0 + r1.1)) (kb false 9) (Int32.toNatClampNeg v2) ((1 : Int32) <<< (v2 &&& 31))) (kb false 9) (Int32.toNatClampNeg v2)), .int v2, .ref (kb false 9)], 0, 0, kjS f (mv_up (mv_up (mv_up r1.2.1 (kb false 6) (Int32.toNatClampNeg v2) v3) (kb false 7) (Int32.toNatClampNeg v2) (s0 + r1.1)) (kb false 9) (Int32.toNatClampNeg v2) ((1 : Int32) <<< (v2 &&& 31))) r1.2.2)) rfl ?_
      obtain ⟨hi8, h⟩ := mv_bifs h
      refine mv_G_ald rfl rfl (mv_in_ok hi8) ?_
      refine mv_G_run 1 (F' := (86, [some (.ref (kb false 5)), some (.ref (kb false 23)), some (.int v2), some (.int v3), some (.int s0), some (.int r1.1), none], [.int (((mv_up (mv_up (mv_up r1.2.1 (kb false 6) (Int32.toNatClampNeg v2) v3) (kb false 7) (Int32.toNatClampNeg v2) (s0 + r1.1)) (kb false 9) (Int32.toNatClampNeg v2) ((1 : Int32) <<< (v2 &&& 31))) (kb false 9) (Int32.toNatClampNeg v2)) ||| ((mv_up (mv_up (mv_up r1.2.1 (kb false 6) (Int32.toNatClampNeg v2) v3) (kb false 7) (Int32.toNatClampNeg v2) (s0 + r1.1)) (kb false 9) (Int32.toNatClampNeg v2) ((1 : Int32) <<< (v2 &&& 31))) (kb false 9) (Int32.toNatClampNeg v3))), .int v2, .ref (kb false 9)], 0, 0, kjS f (mv_up (mv_up (mv_up r1.2.1 (kb false 6) (Int32.toNatClampNeg v2) v3) (kb false 7) (Int32.toNatClampNeg v2) (s0 + r1.1)) (kb false 9) (Int32.toNatClampNeg v2) ((1 : Int32) <<< (v2 &&& 31))) r1.2.2)) rfl ?_
      obtain ⟨hi9, h⟩ := mv_bifs h
      refine mv_G_ast rfl rfl (mv_in_ok hi9) ?_
      exact kf36_87_ok _ _ _ d _ _ _ _ _ _ _ h
  · unfold kf36_23 at h
    refine mv_G_run 8 (F' := (36, [some (.ref (kb true 5)), some (.ref (kb true 23)), some (.int v2), some (.int v3), some (.int s0), none, none], [.int (if ((8 : Int32) - s0) < (4 : Int32) then ((8 : Int32) - s0) else (4 : Int32)), .int (0 : Int32), .ref (kb true 23)], 0, 0, kjS f I L)) rfl ?_
    obtain ⟨r1, hc2, h⟩ := mv_bd h
    refine mv_G_call (r := []) (kf60_ok _ _ _ _ _ _ _ _ hc2) rfl rfl rfl rfl rfl (Nat.le_of_ble_eq_true rfl) (Nat.le_of_ble_eq_true rfl) (Nat.le_of_ble_eq_true rfl) ?_
    rintro _ _ ⟨rfl, rfl⟩
    refine mv_G_run 5 (F' := (47, [some (.ref (kb true 5)), some (.ref (kb true 23)), some (.int v2), some (.int v3), some (.int s0), some (.int r1.1), none], [.int v3, .int v2, .ref (kb true 6)], 0, 0, kjS f r1.2.1 r1.2.2)) rfl ?_
    obtain ⟨hi3, h⟩ := mv_bifs h
    refine mv_G_ast rfl rfl (mv_in_ok hi3) ?_
    refine mv_G_run 6 (F' := (58, [some (.ref (kb true 5)), some (.ref (kb true 23)), some (.int v2), some (.int v3), some (.int s0), some (.int r1.1), none], [.int (s0 + r1.1), .int v2, .ref (kb true 7)], 0, 0, kjS f (mv_up r1.2.1 (kb true 6) (Int32.toNatClampNeg v2) v3) r1.2.2)) rfl ?_
    obtain ⟨hi4, h⟩ := mv_bifs h
    refine mv_G_ast rfl rfl (mv_in_ok hi4) ?_
    refine mv_G_run 6 (F' := (67, [some (.ref (kb true 5)), some (.ref (kb true 23)), some (.int v2), some (.int v3), some (.int s0), some (.int r1.1), none], [.int ((1 : Int32) <<< (v2 &&& 31)), .int v2, .ref (kb true 9)], 0, 0, kjS f (mv_up (mv_up r1.2.1 (kb true 6) (Int32.toNatClampNeg v2) v3) (kb true 7) (Int32.toNatClampNeg v2) (s0 + r1.1)) r1.2.2)) rfl ?_
    obtain ⟨hi5, h⟩ := mv_bifs h
    refine mv_G_ast rfl rfl (mv_in_ok hi5) ?_
    refine mv_G_run 1 (F' := (69, [some (.ref (kb true 5)), some (.ref (kb true 23)), some (.int v2), some (.int v3), some (.int s0), some (.int r1.1), none], [.int v3], 0, 0, kjS f (mv_up (mv_up (mv_up r1.2.1 (kb true 6) (Int32.toNatClampNeg v2) v3) (kb true 7) (Int32.toNatClampNeg v2) (s0 + r1.1)) (kb true 9) (Int32.toNatClampNeg v2) ((1 : Int32) <<< (v2 &&& 31))) r1.2.2)) rfl ?_
    by_cases hc6 : v3 < 0
    · rw [if_pos hc6] at h
      refine mv_G_br (tgt := 87) rfl rfl (by decide) (fun _ => ?_) (fun z => absurd hc6 z)
      exact kf36_87_ok _ _ _ d _ _ _ _ _ _ _ h
    · rw [if_neg hc6] at h
      refine mv_G_br (tgt := 87) rfl rfl (by decide) (fun z => absurd z hc6) (fun _ => ?_)
      refine mv_G_run 4 (F' := (78, [some (.ref (kb true 5)), some (.ref (kb true 23)), some (.int v2), some (.int v3), some (.int s0), some (.int r1.1), none], [.int v2, .ref (kb true 9), .int v2, .ref (kb true 9)], 0, 0, kjS f (mv_up (mv_up (mv_up r1.2.1 (kb true 6) (Int32.toNatClampNeg v2) v3) (kb true 7) (Int32.toNatClampNeg v2) (s0 + r1.1)) (kb true 9) (Int32.toNatClampNeg v2) ((1 : Int32) <<< (v2 &&& 31))) r1.2.2)) rfl ?_
      obtain ⟨hi7, h⟩ := mv_bifs h
      refine mv_G_ald rfl rfl (mv_in_ok hi7) ?_
      refine mv_G_run 3 (F' := (84, [some (.ref (kb true 5)), some (.ref (kb true 23)), some (.int v2), some (.int v3), some (.int s0), some (.int r1.1), none], [.int v3, .ref (kb true 9), .int ((mv_up (mv_up (mv_up r1.2.1 (kb true 6) (Int32.toNatClampNeg v2) v3) (kb true 7) (Int32.toNatClampNeg v2) (s0 + r1.1)) (kb true 9) (Int32.toNatClampNeg v2) ((1 : Int32) <<< (v2 &&& 31))) (kb true 9) (Int32.toNatClampNeg v2)), .int v2, .ref (kb true 9)], 0, 0, kjS f (mv_up (mv_up (mv_up r1.2.1 (kb true 6) (Int32.toNatClampNeg v2) v3) (kb true 7) (Int32.toNatClampNeg v2) (s0 + r1.1)) (kb true 9) (Int32.toNatClampNeg v2) ((1 : Int32) <<< (v2 &&& 31))) r1.2.2)) rfl ?_
      obtain ⟨hi8, h⟩ := mv_bifs h
      refine mv_G_ald rfl rfl (mv_in_ok hi8) ?_
      refine mv_G_run 1 (F' := (86, [some (.ref (kb true 5)), some (.ref (kb true 23)), some (.int v2), some (.int v3), some (.int s0), some (.int r1.1), none], [.int (((mv_up (mv_up (mv_up r1.2.1 (kb true 6) (Int32.toNatClampNeg v2) v3) (kb true 7) (Int32.toNatClampNeg v2) (s0 + r1.1)) (kb true 9) (Int32.toNatClampNeg v2) ((1 : Int32) <<< (v2 &&& 31))) (kb true 9) (Int32.toNatClampNeg v2)) ||| ((mv_up (mv_up (mv_up r1.2.1 (kb true 6) (Int32.toNatClampNeg v2) v3) (kb true 7) (Int32.toNatClampNeg v2) (s0 + r1.1)) (kb true 9) (Int32.toNatClampNeg v2) ((1 : Int32) <<< (v2 &&& 31))) (kb true 9) (Int32.toNatClampNeg v3))), .int v2, .ref (kb true 9)], 0, 0, kjS f (mv_up (mv_up (mv_up r1.2.1 (kb true 6) (Int32.toNatClampNeg v2) v3) (kb true 7) (Int32.toNatClampNeg v2) (s0 + r1.1)) (kb true 9) (Int32.toNatClampNeg v2) ((1 : Int32) <<< (v2 &&& 31))) r1.2.2)) rfl ?_
      obtain ⟨hi9, h⟩ := mv_bifs h
      refine mv_G_ast rfl rfl (mv_in_ok hi9) ?_
      exact kf36_87_ok _ _ _ d _ _ _ _ _ _ _ h
def kf36 (b : Bool) (N : Nat) (v2 : Int32) (I : kjI) (L : kjL) : Option (kjI × kjL) :=
  (kf60 b (0 : Int32) v2 I L).bind fun r1 => if (r1.1 - (1 : Int32)) < 0 then (kf36_23 b N v2 (r1.1 - (1 : Int32)) (0 : Int32) r1.2.1 r1.2.2) else (bif mv_in (r1.1 - (1 : Int32)) 8 then (kf36_23 b N v2 (r1.1 - (1 : Int32)) (r1.2.1 (kb b 7) (Int32.toNatClampNeg (r1.1 - (1 : Int32)))) r1.2.1 r1.2.2) else none)
set_option maxRecDepth 100000 in
set_option maxHeartbeats 4000000 in
theorem kf36_ok (f : Bool) (b : Bool) (N : Nat) (v2 : Int32) (I : kjI) (L : kjL) (d : Nat) (r : kjI × kjL) (h : kf36 b N v2 I L = some r) : mv_C kjP kjSta (d + 4) 36 [.ref (kb b 5), .ref (kb b 23), .int v2] (kjS f I L) (kjQwv f r) := by
  cases b
  · unfold kf36 at h
    refine mv_C_in kjM_36 (lc := [some (.ref (kb false 5)), some (.ref (kb false 23)), some (.int v2), none, none, none, none]) rfl rfl rfl ?_
    refine mv_G_run 3 (F' := (3, [some (.ref (kb false 5)), some (.ref (kb false 23)), some (.int v2), none, none, none, none], [.int v2, .int (0 : Int32), .ref (kb false 23)], 0, 0, kjS f I L)) rfl ?_
    obtain ⟨r1, hc2, h⟩ := mv_bd h
    refine mv_G_call (r := []) (kf60_ok _ _ _ _ _ _ _ _ hc2) rfl rfl rfl rfl rfl (Nat.le_of_ble_eq_true rfl) (Nat.le_of_ble_eq_true rfl) (Nat.le_of_ble_eq_true rfl) ?_
    rintro _ _ ⟨rfl, rfl⟩
    refine mv_G_run 4 (F' := (10, [some (.ref (kb false 5)), some (.ref (kb false 23)), some (.int v2), some (.int (r1.1 - (1 : Int32))), none, none, none], [.int (r1.1 - (1 : Int32))], 0, 0, kjS f r1.2.1 r1.2.2)) rfl ?_
    by_cases hc3 : (r1.1 - (1 : Int32)) < 0
    · rw [if_pos hc3] at h
      refine mv_G_br (tgt := 22) rfl rfl (by decide) (fun _ => ?_) (fun z => absurd hc3 z)
      refine mv_G_run 1 (F' := (23, [some (.ref (kb false 5)), some (.ref (kb false 23)), some (.int v2), some (.int (r1.1 - (1 : Int32))), none, none, none], [.int (0 : Int32)], 0, 0, kjS f r1.2.1 r1.2.2)) rfl ?_
      exact kf36_23_ok _ _ _ d _ _ _ _ _ _ h
    · rw [if_neg hc3] at h
      refine mv_G_br (tgt := 22) rfl rfl (by decide) (fun z => absurd z hc3) (fun _ => ?_)
      refine mv_G_run 3 (F' := (18, [some (.ref (kb false 5)), some (.ref (kb false 23)), some (.int v2), some (.int (r1.1 - (1 : Int32))), none, none, none], [.int (r1.1 - (1 : Int32)), .ref (kb false 7)], 0, 0, kjS f r1.2.1 r1.2.2)) rfl ?_
      obtain ⟨hi4, h⟩ := mv_bifs h
      refine mv_G_ald rfl rfl (mv_in_ok hi4) ?_
      refine mv_G_run 1 (F' := (23, [some (.ref (kb false 5)), some (.ref (kb false 23)), some (.int v2), some (.int (r1.1 - (1 : Int32))), none, none, none], [.int (r1.2.1 (kb false 7) (Int32.toNatClampNeg (r1.1 - (1 : Int32))))], 0, 0, kjS f r1.2.1 r1.2.2)) rfl ?_
      exact kf36_23_ok _ _ _ d _ _ _ _ _ _ h
  · unfold kf36 at h
    refine mv_C_in kjM_36 (lc := [some (.ref (kb true 5)), some (.ref (kb true 23)), some (.int v2), none, none, none, none]) rfl rfl rfl ?_
    refine mv_G_run 3 (F' := (3, [some (.ref (kb true 5)), some (.ref (kb true 23)), some (.int v2), none, none, none, none], [.int v2, .int (0 : Int32), .ref (kb true 23)], 0, 0, kjS f I L)) rfl ?_
    obtain ⟨r1, hc2, h⟩ := mv_bd h
    refine mv_G_call (r := []) (kf60_ok _ _ _ _ _ _ _ _ hc2) rfl rfl rfl rfl rfl (Nat.le_of_ble_eq_true rfl) (Nat.le_of_ble_eq_true rfl) (Nat.le_of_ble_eq_true rfl) ?_
    rintro _ _ ⟨rfl, rfl⟩
    refine mv_G_run 4 (F' := (10, [some (.ref (kb true 5)), some (.ref (kb true 23)), some (.int v2), some (.int (r1.1 - (1 : Int32))), none, none, none], [.int (r1.1 - (1 : Int32))], 0, 0, kjS f r1.2.1 r1.2.2)) rfl ?_
    by_cases hc3 : (r1.1 - (1 : Int32)) < 0
    · rw [if_pos hc3] at h
      refine mv_G_br (tgt := 22) rfl rfl (by decide) (fun _ => ?_) (fun z => absurd hc3 z)
      refine mv_G_run 1 (F' := (23, [some (.ref (kb true 5)), some (.ref (kb true 23)), some (.int v2), some (.int (r1.1 - (1 : Int32))), none, none, none], [.int (0 : Int32)], 0, 0, kjS f r1.2.1 r1.2.2)) rfl ?_
      exact kf36_23_ok _ _ _ d _ _ _ _ _ _ h
    · rw [if_neg hc3] at h
      refine mv_G_br (tgt := 22) rfl rfl (by decide) (fun z => absurd z hc3) (fun _ => ?_)
      refine mv_G_run 3 (F' := (18, [some (.ref (kb true 5)), some (.ref (kb true 23)), some (.int v2), some (.int (r1.1 - (1 : Int32))), none, none, none], [.int (r1.1 - (1 : Int32)), .ref (kb true 7)], 0, 0, kjS f r1.2.1 r1.2.2)) rfl ?_
      obtain ⟨hi4, h⟩ := mv_bifs h
      refine mv_G_ald rfl rfl (mv_in_ok hi4) ?_
      refine mv_G_run 1 (F' := (23, [some (.ref (kb true 5)), some (.ref (kb true 23)), some (.int v2), some (.int (r1.1 - (1 : Int32))), none, none, none], [.int (r1.2.1 (kb true 7) (Int32.toNatClampNeg (r1.1 - (1 : Int32))))], 0, 0, kjS f r1.2.1 r1.2.2)) rfl ?_
      exact kf36_23_ok _ _ _ d _ _ _ _ _ _ h
/-! KindJudge$Classes.read(LKindJudge$Reader;)V on ('b', 5) -/
def kf35_13 (b : Bool) (N : Nat) : Nat → Int32 → kjI → kjL → Option (kjI × kjL)
  | 0, _, _, _ => none
  | n + 1, v2, I, L => if (I (kb b 5) 4) ≤ v2 then (some (I, L)) else ((kf55 b I L).bind fun r2 => if r2 = 0 then (some (I, L)) else ((kf36 b N v2 I L).bind fun r5 => (fun v2 I L => kf35_13 b N n v2 I L) (v2 + (1 : Int32)) r5.1 r5.2))
set_option maxRecDepth 100000 in
set_option maxHeartbeats 4000000 in
theorem kf35_13_ok (f : Bool) (b : Bool) (N : Nat) (d : Nat)  : ∀ (n : Nat) (v2 : Int32) (I : kjI) (L : kjL) (r : kjI × kjL), kf35_13 b N n v2 I L = some r → mv_G kjP kjSta (mv_C kjP kjSta (d + 4)) kjM_35 (kjQwv f r) (13, [some (.ref (kb b 5)), some (.ref (kb b 23)), some (.int v2)], [], 0, 0, kjS f I L) := by
  cases b
  · intro n
    induction n with
    | zero => intro v2 I L r h; cases h
    | succ n ih =>
      have hk13 := ih
      intro v2 I L r h
      unfold kf35_13 at h
      refine mv_G_run 3 (F' := (18, [some (.ref (kb false 5)), some (.ref (kb false 23)), some (.int v2)], [.int (I (kb false 5) 4), .int v2], 0, 0, kjS f I L)) rfl ?_
      by_cases hc1 : (I (kb false 5) 4) ≤ v2
      · rw [if_pos hc1] at h
        refine mv_G_br (tgt := 40) rfl rfl (by decide) (fun _ => ?_) (fun z => absurd hc1 z)
        obtain rfl := Option.some.inj h
        exact mv_G_ret rfl rfl rfl (Nat.le_refl _) trivial ⟨rfl, rfl⟩
      · rw [if_neg hc1] at h
        refine mv_G_br (tgt := 40) rfl rfl (by decide) (fun z => absurd z hc1) (fun _ => ?_)
        refine mv_G_run 1 (F' := (22, [some (.ref (kb false 5)), some (.ref (kb false 23)), some (.int v2)], [.ref (kb false 23)], 0, 0, kjS f I L)) rfl ?_
        obtain ⟨r2, hc3, h⟩ := mv_bd h
        refine mv_G_call (r := []) (kf55_ok _ _ _ _ _ _ hc3) rfl rfl rfl rfl rfl (Nat.le_of_ble_eq_true rfl) (Nat.le_of_ble_eq_true rfl) (Nat.le_of_ble_eq_true rfl) ?_
        rintro _ _ ⟨rfl, rfl⟩
        by_cases hc4 : r2 = 0
        · rw [if_pos hc4] at h
          refine mv_G_br (tgt := 40) rfl rfl (by decide) (fun _ => ?_) (fun z => absurd hc4 z)
          obtain rfl := Option.some.inj h
          exact mv_G_ret rfl rfl rfl (Nat.le_refl _) trivial ⟨rfl, rfl⟩
        · rw [if_neg hc4] at h
          refine mv_G_br (tgt := 40) rfl rfl (by decide) (fun z => absurd z hc4) (fun _ => ?_)
          refine mv_G_run 3 (F' := (31, [some (.ref (kb false 5)), some (.ref (kb false 23)), some (.int v2)], [.int v2, .ref (kb false 23), .ref (kb false 5)], 0, 0, kjS f I L)) rfl ?_
          obtain ⟨r5, hc6, h⟩ := mv_bd h
          refine mv_G_call (r := []) (kf36_ok _ _ _ _ _ _ _ _ hc6) rfl rfl rfl rfl rfl (Nat.le_of_ble_eq_true rfl) (Nat.le_of_ble_eq_true rfl) (Nat.le_of_ble_eq_true rfl) ?_
          rintro _ _ ⟨rfl, rfl⟩
          refine mv_G_run 2 (F' := (13, [some (.ref (kb false 5)), some (.ref (kb false 23)), some (.int (v2 + (1 : Int32)))], [], 0, 0, kjS f r5.1 r5.2)) rfl ?_
          exact hk13 (v2 + (1 : Int32)) r5.1 r5.2 _ h
  · intro n
    induction n with
    | zero => intro v2 I L r h; cases h
    | succ n ih =>
      have hk13 := ih
      intro v2 I L r h
      unfold kf35_13 at h
      refine mv_G_run 3 (F' := (18, [some (.ref (kb true 5)), some (.ref (kb true 23)), some (.int v2)], [.int (I (kb true 5) 4), .int v2], 0, 0, kjS f I L)) rfl ?_
      by_cases hc1 : (I (kb true 5) 4) ≤ v2
      · rw [if_pos hc1] at h
        refine mv_G_br (tgt := 40) rfl rfl (by decide) (fun _ => ?_) (fun z => absurd hc1 z)
        obtain rfl := Option.some.inj h
        exact mv_G_ret rfl rfl rfl (Nat.le_refl _) trivial ⟨rfl, rfl⟩
      · rw [if_neg hc1] at h
        refine mv_G_br (tgt := 40) rfl rfl (by decide) (fun z => absurd z hc1) (fun _ => ?_)
        refine mv_G_run 1 (F' := (22, [some (.ref (kb true 5)), some (.ref (kb true 23)), some (.int v2)], [.ref (kb true 23)], 0, 0, kjS f I L)) rfl ?_
        obtain ⟨r2, hc3, h⟩ := mv_bd h
        refine mv_G_call (r := []) (kf55_ok _ _ _ _ _ _ hc3) rfl rfl rfl rfl rfl (Nat.le_of_ble_eq_true rfl) (Nat.le_of_ble_eq_true rfl) (Nat.le_of_ble_eq_true rfl) ?_
        rintro _ _ ⟨rfl, rfl⟩
        by_cases hc4 : r2 = 0
        · rw [if_pos hc4] at h
          refine mv_G_br (tgt := 40) rfl rfl (by decide) (fun _ => ?_) (fun z => absurd hc4 z)
          obtain rfl := Option.some.inj h
          exact mv_G_ret rfl rfl rfl (Nat.le_refl _) trivial ⟨rfl, rfl⟩
        · rw [if_neg hc4] at h
          refine mv_G_br (tgt := 40) rfl rfl (by decide) (fun z => absurd z hc4) (fun _ => ?_)
          refine mv_G_run 3 (F' := (31, [some (.ref (kb true 5)), some (.ref (kb true 23)), some (.int v2)], [.int v2, .ref (kb true 23), .ref (kb true 5)], 0, 0, kjS f I L)) rfl ?_
          obtain ⟨r5, hc6, h⟩ := mv_bd h
          refine mv_G_call (r := []) (kf36_ok _ _ _ _ _ _ _ _ hc6) rfl rfl rfl rfl rfl (Nat.le_of_ble_eq_true rfl) (Nat.le_of_ble_eq_true rfl) (Nat.le_of_ble_eq_true rfl) ?_
          rintro _ _ ⟨rfl, rfl⟩
          refine mv_G_run 2 (F' := (13, [some (.ref (kb true 5)), some (.ref (kb true 23)), some (.int (v2 + (1 : Int32)))], [], 0, 0, kjS f r5.1 r5.2)) rfl ?_
          exact hk13 (v2 + (1 : Int32)) r5.1 r5.2 _ h
def kf35 (b : Bool) (N : Nat) (I : kjI) (L : kjL) : Option (kjI × kjL) :=
  (kf60 b (0 : Int32) (8 : Int32) I L).bind fun r1 => kf35_13 b N N (0 : Int32) (mv_up r1.2.1 (kb b 5) 4 r1.1) r1.2.2
set_option maxRecDepth 100000 in
set_option maxHeartbeats 4000000 in
theorem kf35_ok (f : Bool) (b : Bool) (N : Nat) (I : kjI) (L : kjL) (d : Nat) (r : kjI × kjL) (h : kf35 b N I L = some r) : mv_C kjP kjSta (d + 5) 35 [.ref (kb b 5), .ref (kb b 23)] (kjS f I L) (kjQwv f r) := by
  cases b
  · unfold kf35 at h
    refine mv_C_in kjM_35 (lc := [some (.ref (kb false 5)), some (.ref (kb false 23)), none]) rfl rfl rfl ?_
    refine mv_G_run 4 (F' := (5, [some (.ref (kb false 5)), some (.ref (kb false 23)), none], [.int (8 : Int32), .int (0 : Int32), .ref (kb false 23), .ref (kb false 5)], 0, 0, kjS f I L)) rfl ?_
    obtain ⟨r1, hc2, h⟩ := mv_bd h
    refine mv_G_call (r := [.ref (kb false 5)]) (kf60_ok _ _ _ _ _ _ _ _ hc2) rfl rfl rfl rfl rfl (Nat.le_of_ble_eq_true rfl) (Nat.le_of_ble_eq_true rfl) (Nat.le_of_ble_eq_true rfl) ?_
    rintro _ _ ⟨rfl, rfl⟩
    refine mv_G_run 3 (F' := (13, [some (.ref (kb false 5)), some (.ref (kb false 23)), some (.int (0 : Int32))], [], 0, 0, kjS f (mv_up r1.2.1 (kb false 5) 4 r1.1) r1.2.2)) rfl ?_
    exact kf35_13_ok _ _ _ d _ _ _ _ _ h
  · unfold kf35 at h
    refine mv_C_in kjM_35 (lc := [some (.ref (kb true 5)), some (.ref (kb true 23)), none]) rfl rfl rfl ?_
    refine mv_G_run 4 (F' := (5, [some (.ref (kb true 5)), some (.ref (kb true 23)), none], [.int (8 : Int32), .int (0 : Int32), .ref (kb true 23), .ref (kb true 5)], 0, 0, kjS f I L)) rfl ?_
    obtain ⟨r1, hc2, h⟩ := mv_bd h
    refine mv_G_call (r := [.ref (kb true 5)]) (kf60_ok _ _ _ _ _ _ _ _ hc2) rfl rfl rfl rfl rfl (Nat.le_of_ble_eq_true rfl) (Nat.le_of_ble_eq_true rfl) (Nat.le_of_ble_eq_true rfl) ?_
    rintro _ _ ⟨rfl, rfl⟩
    refine mv_G_run 3 (F' := (13, [some (.ref (kb true 5)), some (.ref (kb true 23)), some (.int (0 : Int32))], [], 0, 0, kjS f (mv_up r1.2.1 (kb true 5) 4 r1.1) r1.2.2)) rfl ?_
    exact kf35_13_ok _ _ _ d _ _ _ _ _ h
/-! KindJudge$Signatures.readNumber(LKindJudge$Reader;II)V on ('b', 10) -/
def kf47 (b : Bool) (v2 : Int32) (v3 : Int32) (I : kjI) (L : kjL) : Option (kjI × kjL) :=
  (kf60 b v2 (if (16 : Int32) < v3 then (16 : Int32) else v3) I L).bind fun r1 => some ((mv_up r1.2.1 (kb b 10) 3 r1.1), r1.2.2)
set_option maxRecDepth 100000 in
set_option maxHeartbeats 4000000 in
theorem kf47_ok (f : Bool) (b : Bool) (v2 : Int32) (v3 : Int32) (I : kjI) (L : kjL) (d : Nat) (r : kjI × kjL) (h : kf47 b v2 v3 I L = some r) : mv_C kjP kjSta (d + 4) 47 [.ref (kb b 10), .ref (kb b 23), .int v2, .int v3] (kjS f I L) (kjQwv f r) := by
  cases b
  · unfold kf47 at h
    refine mv_C_in kjM_47 (lc := [some (.ref (kb false 10)), some (.ref (kb false 23)), some (.int v2), some (.int v3)]) rfl rfl rfl ?_
    refine mv_G_run 6 (F' := (9, [some (.ref (kb false 10)), some (.ref (kb false 23)), some (.int v2), some (.int v3)], [.int (if (16 : Int32) < v3 then (16 : Int32) else v3), .int v2, .ref (kb false 23), .ref (kb false 10)], 0, 0, kjS f I L)) rfl ?_
    obtain ⟨r1, hc2, h⟩ := mv_bd h
    refine mv_G_call (r := [.ref (kb false 10)]) (kf60_ok _ _ _ _ _ _ _ _ hc2) rfl rfl rfl rfl rfl (Nat.le_of_ble_eq_true rfl) (Nat.le_of_ble_eq_true rfl) (Nat.le_of_ble_eq_true rfl) ?_
    rintro _ _ ⟨rfl, rfl⟩
    refine mv_G_run 1 (F' := (15, [some (.ref (kb false 10)), some (.ref (kb false 23)), some (.int v2), some (.int v3)], [], 0, 0, kjS f (mv_up r1.2.1 (kb false 10) 3 r1.1) r1.2.2)) rfl ?_
    obtain rfl := Option.some.inj h
    exact mv_G_ret rfl rfl rfl (Nat.le_refl _) trivial ⟨rfl, rfl⟩
  · unfold kf47 at h
    refine mv_C_in kjM_47 (lc := [some (.ref (kb true 10)), some (.ref (kb true 23)), some (.int v2), some (.int v3)]) rfl rfl rfl ?_
    refine mv_G_run 6 (F' := (9, [some (.ref (kb true 10)), some (.ref (kb true 23)), some (.int v2), some (.int v3)], [.int (if (16 : Int32) < v3 then (16 : Int32) else v3), .int v2, .ref (kb true 23), .ref (kb true 10)], 0, 0, kjS f I L)) rfl ?_
    obtain ⟨r1, hc2, h⟩ := mv_bd h
    refine mv_G_call (r := [.ref (kb true 10)]) (kf60_ok _ _ _ _ _ _ _ _ hc2) rfl rfl rfl rfl rfl (Nat.le_of_ble_eq_true rfl) (Nat.le_of_ble_eq_true rfl) (Nat.le_of_ble_eq_true rfl) ?_
    rintro _ _ ⟨rfl, rfl⟩
    refine mv_G_run 1 (F' := (15, [some (.ref (kb true 10)), some (.ref (kb true 23)), some (.int v2), some (.int v3)], [], 0, 0, kjS f (mv_up r1.2.1 (kb true 10) 3 r1.1) r1.2.2)) rfl ?_
    obtain rfl := Option.some.inj h
    exact mv_G_ret rfl rfl rfl (Nat.le_refl _) trivial ⟨rfl, rfl⟩
/-! KindJudge$Signatures.readOne(LKindJudge$Reader;III)V on ('b', 10) -/
def kf48_30 (b : Bool) (N : Nat) : Nat → Int32 → Int32 → Int32 → kjI → kjL → Option (kjI × kjL)
  | 0, _, _, _, _, _ => none
  | n + 1, v2, v4, v5, I, L => bif mv_in v2 16 then (if (I (kb b 11) (Int32.toNatClampNeg v2)) ≤ v5 then ((kf61 b v4 (1 : Int32) I L).bind fun r3 => bif mv_in v2 16 then (some ((mv_up r3.2.1 (kb b 13) (Int32.toNatClampNeg v2) r3.1), r3.2.2)) else none) else ((kf61 b v4 (0 : Int32) I L).bind fun r6 => bif mv_in ((v2 * (4 : Int32)) + v5) 64 then ((fun v2 v4 v5 I L => kf48_30 b N n v2 v4 v5 I L) v2 v4 (v5 + (1 : Int32)) (mv_up r6.2.1 (kb b 12) (Int32.toNatClampNeg ((v2 * (4 : Int32)) + v5)) r6.1) r6.2.2) else none)) else none
set_option maxRecDepth 100000 in
set_option maxHeartbeats 4000000 in
theorem kf48_30_ok (f : Bool) (b : Bool) (N : Nat) (d : Nat)  : ∀ (n : Nat) (v2 : Int32) (v4 : Int32) (v5 : Int32) (I : kjI) (L : kjL) (r : kjI × kjL), kf48_30 b N n v2 v4 v5 I L = some r → mv_G kjP kjSta (mv_C kjP kjSta (d + 3)) kjM_48 (kjQwv f r) (30, [some (.ref (kb b 10)), some (.ref (kb b 23)), some (.int v2), none, some (.int v4), some (.int v5)], [], 0, 0, kjS f I L) := by
  cases b
  · intro n
    induction n with
    | zero => intro v2 v4 v5 I L r h; cases h
    | succ n ih =>
      have hk30 := ih
      intro v2 v4 v5 I L r h
      unfold kf48_30 at h
      refine mv_G_run 4 (F' := (37, [some (.ref (kb false 10)), some (.ref (kb false 23)), some (.int v2), none, some (.int v4), some (.int v5)], [.int v2, .ref (kb false 11), .int v5], 0, 0, kjS f I L)) rfl ?_
      obtain ⟨hi1, h⟩ := mv_bifs h
      refine mv_G_ald rfl rfl (mv_in_ok hi1) ?_
      by_cases hc2 : (I (kb false 11) (Int32.toNatClampNeg v2)) ≤ v5
      · rw [if_pos hc2] at h
        refine mv_G_br (tgt := 65) rfl rfl (by decide) (fun _ => ?_) (fun z => absurd hc2 z)
        refine mv_G_run 6 (F' := (74, [some (.ref (kb false 10)), some (.ref (kb false 23)), some (.int v2), none, some (.int v4), some (.int v5)], [.int (1 : Int32), .int v4, .ref (kb false 23), .int v2, .ref (kb false 13)], 0, 0, kjS f I L)) rfl ?_
        obtain ⟨r3, hc4, h⟩ := mv_bd h
        refine mv_G_call (r := [.int v2, .ref (kb false 13)]) (kf61_ok _ _ _ _ _ _ _ _ hc4) rfl rfl rfl rfl rfl (Nat.le_of_ble_eq_true rfl) (Nat.le_of_ble_eq_true rfl) (Nat.le_of_ble_eq_true rfl) ?_
        rintro _ _ ⟨rfl, rfl⟩
        obtain ⟨hi5, h⟩ := mv_bifs h
        refine mv_G_ast rfl rfl (mv_in_ok hi5) ?_
        obtain rfl := Option.some.inj h
        exact mv_G_ret rfl rfl rfl (Nat.le_refl _) trivial ⟨rfl, rfl⟩
      · rw [if_neg hc2] at h
        refine mv_G_br (tgt := 65) rfl rfl (by decide) (fun z => absurd z hc2) (fun _ => ?_)
        refine mv_G_run 10 (F' := (55, [some (.ref (kb false 10)), some (.ref (kb false 23)), some (.int v2), none, some (.int v4), some (.int v5)], [.int (0 : Int32), .int v4, .ref (kb false 23), .int ((v2 * (4 : Int32)) + v5), .ref (kb false 12)], 0, 0, kjS f I L)) rfl ?_
        obtain ⟨r6, hc7, h⟩ := mv_bd h
        refine mv_G_call (r := [.int ((v2 * (4 : Int32)) + v5), .ref (kb false 12)]) (kf61_ok _ _ _ _ _ _ _ _ hc7) rfl rfl rfl rfl rfl (Nat.le_of_ble_eq_true rfl) (Nat.le_of_ble_eq_true rfl) (Nat.le_of_ble_eq_true rfl) ?_
        rintro _ _ ⟨rfl, rfl⟩
        obtain ⟨hi8, h⟩ := mv_bifs h
        refine mv_G_ast rfl rfl (mv_in_ok hi8) ?_
        refine mv_G_run 2 (F' := (30, [some (.ref (kb false 10)), some (.ref (kb false 23)), some (.int v2), none, some (.int v4), some (.int (v5 + (1 : Int32)))], [], 0, 0, kjS f (mv_up r6.2.1 (kb false 12) (Int32.toNatClampNeg ((v2 * (4 : Int32)) + v5)) r6.1) r6.2.2)) rfl ?_
        exact hk30 v2 v4 (v5 + (1 : Int32)) (mv_up r6.2.1 (kb false 12) (Int32.toNatClampNeg ((v2 * (4 : Int32)) + v5)) r6.1) r6.2.2 _ h
  · intro n
    induction n with
    | zero => intro v2 v4 v5 I L r h; cases h
    | succ n ih =>
      have hk30 := ih
      intro v2 v4 v5 I L r h
      unfold kf48_30 at h
      refine mv_G_run 4 (F' := (37, [some (.ref (kb true 10)), some (.ref (kb true 23)), some (.int v2), none, some (.int v4), some (.int v5)], [.int v2, .ref (kb true 11), .int v5], 0, 0, kjS f I L)) rfl ?_
      obtain ⟨hi1, h⟩ := mv_bifs h
      refine mv_G_ald rfl rfl (mv_in_ok hi1) ?_
      by_cases hc2 : (I (kb true 11) (Int32.toNatClampNeg v2)) ≤ v5
      · rw [if_pos hc2] at h
        refine mv_G_br (tgt := 65) rfl rfl (by decide) (fun _ => ?_) (fun z => absurd hc2 z)
        refine mv_G_run 6 (F' := (74, [some (.ref (kb true 10)), some (.ref (kb true 23)), some (.int v2), none, some (.int v4), some (.int v5)], [.int (1 : Int32), .int v4, .ref (kb true 23), .int v2, .ref (kb true 13)], 0, 0, kjS f I L)) rfl ?_
        obtain ⟨r3, hc4, h⟩ := mv_bd h
        refine mv_G_call (r := [.int v2, .ref (kb true 13)]) (kf61_ok _ _ _ _ _ _ _ _ hc4) rfl rfl rfl rfl rfl (Nat.le_of_ble_eq_true rfl) (Nat.le_of_ble_eq_true rfl) (Nat.le_of_ble_eq_true rfl) ?_
        rintro _ _ ⟨rfl, rfl⟩
        obtain ⟨hi5, h⟩ := mv_bifs h
        refine mv_G_ast rfl rfl (mv_in_ok hi5) ?_
        obtain rfl := Option.some.inj h
        exact mv_G_ret rfl rfl rfl (Nat.le_refl _) trivial ⟨rfl, rfl⟩
      · rw [if_neg hc2] at h
        refine mv_G_br (tgt := 65) rfl rfl (by decide) (fun z => absurd z hc2) (fun _ => ?_)
        refine mv_G_run 10 (F' := (55, [some (.ref (kb true 10)), some (.ref (kb true 23)), some (.int v2), none, some (.int v4), some (.int v5)], [.int (0 : Int32), .int v4, .ref (kb true 23), .int ((v2 * (4 : Int32)) + v5), .ref (kb true 12)], 0, 0, kjS f I L)) rfl ?_
        obtain ⟨r6, hc7, h⟩ := mv_bd h
        refine mv_G_call (r := [.int ((v2 * (4 : Int32)) + v5), .ref (kb true 12)]) (kf61_ok _ _ _ _ _ _ _ _ hc7) rfl rfl rfl rfl rfl (Nat.le_of_ble_eq_true rfl) (Nat.le_of_ble_eq_true rfl) (Nat.le_of_ble_eq_true rfl) ?_
        rintro _ _ ⟨rfl, rfl⟩
        obtain ⟨hi8, h⟩ := mv_bifs h
        refine mv_G_ast rfl rfl (mv_in_ok hi8) ?_
        refine mv_G_run 2 (F' := (30, [some (.ref (kb true 10)), some (.ref (kb true 23)), some (.int v2), none, some (.int v4), some (.int (v5 + (1 : Int32)))], [], 0, 0, kjS f (mv_up r6.2.1 (kb true 12) (Int32.toNatClampNeg ((v2 * (4 : Int32)) + v5)) r6.1) r6.2.2)) rfl ?_
        exact hk30 v2 v4 (v5 + (1 : Int32)) (mv_up r6.2.1 (kb true 12) (Int32.toNatClampNeg ((v2 * (4 : Int32)) + v5)) r6.1) r6.2.2 _ h
def kf48 (b : Bool) (N : Nat) (v2 : Int32) (v3 : Int32) (v4 : Int32) (I : kjI) (L : kjL) : Option (kjI × kjL) :=
  if v2 < 0 then (some (I, L)) else (if v2 < (16 : Int32) then ((kf60 b (0 : Int32) (if (4 : Int32) < v3 then (4 : Int32) else v3) I L).bind fun r3 => bif mv_in v2 16 then (kf48_30 b N N v2 v4 (0 : Int32) (mv_up r3.2.1 (kb b 11) (Int32.toNatClampNeg v2) r3.1) r3.2.2) else none) else (some (I, L)))
set_option maxRecDepth 100000 in
set_option maxHeartbeats 4000000 in
theorem kf48_ok (f : Bool) (b : Bool) (N : Nat) (v2 : Int32) (v3 : Int32) (v4 : Int32) (I : kjI) (L : kjL) (d : Nat) (r : kjI × kjL) (h : kf48 b N v2 v3 v4 I L = some r) : mv_C kjP kjSta (d + 4) 48 [.ref (kb b 10), .ref (kb b 23), .int v2, .int v3, .int v4] (kjS f I L) (kjQwv f r) := by
  cases b
  · unfold kf48 at h
    refine mv_C_in kjM_48 (lc := [some (.ref (kb false 10)), some (.ref (kb false 23)), some (.int v2), some (.int v3), some (.int v4), none]) rfl rfl rfl ?_
    refine mv_G_run 1 (F' := (1, [some (.ref (kb false 10)), some (.ref (kb false 23)), some (.int v2), some (.int v3), some (.int v4), none], [.int v2], 0, 0, kjS f I L)) rfl ?_
    by_cases hc1 : v2 < 0
    · rw [if_pos hc1] at h
      refine mv_G_br (tgt := 10) rfl rfl (by decide) (fun _ => ?_) (fun z => absurd hc1 z)
      obtain rfl := Option.some.inj h
      exact mv_G_ret rfl rfl rfl (Nat.le_refl _) trivial ⟨rfl, rfl⟩
    · rw [if_neg hc1] at h
      refine mv_G_br (tgt := 10) rfl rfl (by decide) (fun z => absurd z hc1) (fun _ => ?_)
      refine mv_G_run 2 (F' := (7, [some (.ref (kb false 10)), some (.ref (kb false 23)), some (.int v2), some (.int v3), some (.int v4), none], [.int (16 : Int32), .int v2], 0, 0, kjS f I L)) rfl ?_
      by_cases hc2 : v2 < (16 : Int32)
      · rw [if_pos hc2] at h
        refine mv_G_br (tgt := 11) rfl rfl (by decide) (fun _ => ?_) (fun z => absurd hc2 z)
        refine mv_G_run 8 (F' := (23, [some (.ref (kb false 10)), some (.ref (kb false 23)), some (.int v2), some (.int v3), some (.int v4), none], [.int (if (4 : Int32) < v3 then (4 : Int32) else v3), .int (0 : Int32), .ref (kb false 23), .int v2, .ref (kb false 11)], 0, 0, kjS f I L)) rfl ?_
        obtain ⟨r3, hc4, h⟩ := mv_bd h
        refine mv_G_call (r := [.int v2, .ref (kb false 11)]) (kf60_ok _ _ _ _ _ _ _ _ hc4) rfl rfl rfl rfl rfl (Nat.le_of_ble_eq_true rfl) (Nat.le_of_ble_eq_true rfl) (Nat.le_of_ble_eq_true rfl) ?_
        rintro _ _ ⟨rfl, rfl⟩
        obtain ⟨hi5, h⟩ := mv_bifs h
        refine mv_G_ast rfl rfl (mv_in_ok hi5) ?_
        refine mv_G_run 2 (F' := (30, [some (.ref (kb false 10)), some (.ref (kb false 23)), some (.int v2), some (.int v3), some (.int v4), some (.int (0 : Int32))], [], 0, 0, kjS f (mv_up r3.2.1 (kb false 11) (Int32.toNatClampNeg v2) r3.1) r3.2.2)) rfl ?_
        refine mv_G_fg (lc' := [some (.ref (kb false 10)), some (.ref (kb false 23)), some (.int v2), none, some (.int v4), some (.int (0 : Int32))]) (And.intro rfl (And.intro rfl (And.intro rfl (And.intro rfl (And.intro rfl trivial))))) ?_
        exact kf48_30_ok _ _ _ d _ _ _ _ _ _ _ h
      · rw [if_neg hc2] at h
        refine mv_G_br (tgt := 11) rfl rfl (by decide) (fun z => absurd z hc2) (fun _ => ?_)
        obtain rfl := Option.some.inj h
        exact mv_G_ret rfl rfl rfl (Nat.le_refl _) trivial ⟨rfl, rfl⟩
  · unfold kf48 at h
    refine mv_C_in kjM_48 (lc := [some (.ref (kb true 10)), some (.ref (kb true 23)), some (.int v2), some (.int v3), some (.int v4), none]) rfl rfl rfl ?_
    refine mv_G_run 1 (F' := (1, [some (.ref (kb true 10)), some (.ref (kb true 23)), some (.int v2), some (.int v3), some (.int v4), none], [.int v2], 0, 0, kjS f I L)) rfl ?_
    by_cases hc1 : v2 < 0
    · rw [if_pos hc1] at h
      refine mv_G_br (tgt := 10) rfl rfl (by decide) (fun _ => ?_) (fun z => absurd hc1 z)
      obtain rfl := Option.some.inj h
      exact mv_G_ret rfl rfl rfl (Nat.le_refl _) trivial ⟨rfl, rfl⟩
    · rw [if_neg hc1] at h
      refine mv_G_br (tgt := 10) rfl rfl (by decide) (fun z => absurd z hc1) (fun _ => ?_)
      refine mv_G_run 2 (F' := (7, [some (.ref (kb true 10)), some (.ref (kb true 23)), some (.int v2), some (.int v3), some (.int v4), none], [.int (16 : Int32), .int v2], 0, 0, kjS f I L)) rfl ?_
      by_cases hc2 : v2 < (16 : Int32)
      · rw [if_pos hc2] at h
        refine mv_G_br (tgt := 11) rfl rfl (by decide) (fun _ => ?_) (fun z => absurd hc2 z)
        refine mv_G_run 8 (F' := (23, [some (.ref (kb true 10)), some (.ref (kb true 23)), some (.int v2), some (.int v3), some (.int v4), none], [.int (if (4 : Int32) < v3 then (4 : Int32) else v3), .int (0 : Int32), .ref (kb true 23), .int v2, .ref (kb true 11)], 0, 0, kjS f I L)) rfl ?_
        obtain ⟨r3, hc4, h⟩ := mv_bd h
        refine mv_G_call (r := [.int v2, .ref (kb true 11)]) (kf60_ok _ _ _ _ _ _ _ _ hc4) rfl rfl rfl rfl rfl (Nat.le_of_ble_eq_true rfl) (Nat.le_of_ble_eq_true rfl) (Nat.le_of_ble_eq_true rfl) ?_
        rintro _ _ ⟨rfl, rfl⟩
        obtain ⟨hi5, h⟩ := mv_bifs h
        refine mv_G_ast rfl rfl (mv_in_ok hi5) ?_
        refine mv_G_run 2 (F' := (30, [some (.ref (kb true 10)), some (.ref (kb true 23)), some (.int v2), some (.int v3), some (.int v4), some (.int (0 : Int32))], [], 0, 0, kjS f (mv_up r3.2.1 (kb true 11) (Int32.toNatClampNeg v2) r3.1) r3.2.2)) rfl ?_
        refine mv_G_fg (lc' := [some (.ref (kb true 10)), some (.ref (kb true 23)), some (.int v2), none, some (.int v4), some (.int (0 : Int32))]) (And.intro rfl (And.intro rfl (And.intro rfl (And.intro rfl (And.intro rfl trivial))))) ?_
        exact kf48_30_ok _ _ _ d _ _ _ _ _ _ _ h
      · rw [if_neg hc2] at h
        refine mv_G_br (tgt := 11) rfl rfl (by decide) (fun z => absurd z hc2) (fun _ => ?_)
        obtain rfl := Option.some.inj h
        exact mv_G_ret rfl rfl rfl (Nat.le_refl _) trivial ⟨rfl, rfl⟩
/-! KindJudge$Signatures.readNumber(LKindJudge$Reader;II)V on ('b', 14) -/
def kf47a (b : Bool) (v2 : Int32) (v3 : Int32) (I : kjI) (L : kjL) : Option (kjI × kjL) :=
  (kf60 b v2 (if (16 : Int32) < v3 then (16 : Int32) else v3) I L).bind fun r1 => some ((mv_up r1.2.1 (kb b 14) 3 r1.1), r1.2.2)
set_option maxRecDepth 100000 in
set_option maxHeartbeats 4000000 in
theorem kf47a_ok (f : Bool) (b : Bool) (v2 : Int32) (v3 : Int32) (I : kjI) (L : kjL) (d : Nat) (r : kjI × kjL) (h : kf47a b v2 v3 I L = some r) : mv_C kjP kjSta (d + 4) 47 [.ref (kb b 14), .ref (kb b 23), .int v2, .int v3] (kjS f I L) (kjQwv f r) := by
  cases b
  · unfold kf47a at h
    refine mv_C_in kjM_47 (lc := [some (.ref (kb false 14)), some (.ref (kb false 23)), some (.int v2), some (.int v3)]) rfl rfl rfl ?_
    refine mv_G_run 6 (F' := (9, [some (.ref (kb false 14)), some (.ref (kb false 23)), some (.int v2), some (.int v3)], [.int (if (16 : Int32) < v3 then (16 : Int32) else v3), .int v2, .ref (kb false 23), .ref (kb false 14)], 0, 0, kjS f I L)) rfl ?_
    obtain ⟨r1, hc2, h⟩ := mv_bd h
    refine mv_G_call (r := [.ref (kb false 14)]) (kf60_ok _ _ _ _ _ _ _ _ hc2) rfl rfl rfl rfl rfl (Nat.le_of_ble_eq_true rfl) (Nat.le_of_ble_eq_true rfl) (Nat.le_of_ble_eq_true rfl) ?_
    rintro _ _ ⟨rfl, rfl⟩
    refine mv_G_run 1 (F' := (15, [some (.ref (kb false 14)), some (.ref (kb false 23)), some (.int v2), some (.int v3)], [], 0, 0, kjS f (mv_up r1.2.1 (kb false 14) 3 r1.1) r1.2.2)) rfl ?_
    obtain rfl := Option.some.inj h
    exact mv_G_ret rfl rfl rfl (Nat.le_refl _) trivial ⟨rfl, rfl⟩
  · unfold kf47a at h
    refine mv_C_in kjM_47 (lc := [some (.ref (kb true 14)), some (.ref (kb true 23)), some (.int v2), some (.int v3)]) rfl rfl rfl ?_
    refine mv_G_run 6 (F' := (9, [some (.ref (kb true 14)), some (.ref (kb true 23)), some (.int v2), some (.int v3)], [.int (if (16 : Int32) < v3 then (16 : Int32) else v3), .int v2, .ref (kb true 23), .ref (kb true 14)], 0, 0, kjS f I L)) rfl ?_
    obtain ⟨r1, hc2, h⟩ := mv_bd h
    refine mv_G_call (r := [.ref (kb true 14)]) (kf60_ok _ _ _ _ _ _ _ _ hc2) rfl rfl rfl rfl rfl (Nat.le_of_ble_eq_true rfl) (Nat.le_of_ble_eq_true rfl) (Nat.le_of_ble_eq_true rfl) ?_
    rintro _ _ ⟨rfl, rfl⟩
    refine mv_G_run 1 (F' := (15, [some (.ref (kb true 14)), some (.ref (kb true 23)), some (.int v2), some (.int v3)], [], 0, 0, kjS f (mv_up r1.2.1 (kb true 14) 3 r1.1) r1.2.2)) rfl ?_
    obtain rfl := Option.some.inj h
    exact mv_G_ret rfl rfl rfl (Nat.le_refl _) trivial ⟨rfl, rfl⟩
/-! KindJudge$Signatures.readOne(LKindJudge$Reader;III)V on ('b', 14) -/
def kf48a_30 (b : Bool) (N : Nat) : Nat → Int32 → Int32 → Int32 → kjI → kjL → Option (kjI × kjL)
  | 0, _, _, _, _, _ => none
  | n + 1, v2, v4, v5, I, L => bif mv_in v2 16 then (if (I (kb b 15) (Int32.toNatClampNeg v2)) ≤ v5 then ((kf61 b v4 (1 : Int32) I L).bind fun r3 => bif mv_in v2 16 then (some ((mv_up r3.2.1 (kb b 17) (Int32.toNatClampNeg v2) r3.1), r3.2.2)) else none) else ((kf61 b v4 (0 : Int32) I L).bind fun r6 => bif mv_in ((v2 * (4 : Int32)) + v5) 64 then ((fun v2 v4 v5 I L => kf48a_30 b N n v2 v4 v5 I L) v2 v4 (v5 + (1 : Int32)) (mv_up r6.2.1 (kb b 16) (Int32.toNatClampNeg ((v2 * (4 : Int32)) + v5)) r6.1) r6.2.2) else none)) else none
set_option maxRecDepth 100000 in
set_option maxHeartbeats 4000000 in
theorem kf48a_30_ok (f : Bool) (b : Bool) (N : Nat) (d : Nat)  : ∀ (n : Nat) (v2 : Int32) (v4 : Int32) (v5 : Int32) (I : kjI) (L : kjL) (r : kjI × kjL), kf48a_30 b N n v2 v4 v5 I L = some r → mv_G kjP kjSta (mv_C kjP kjSta (d + 3)) kjM_48 (kjQwv f r) (30, [some (.ref (kb b 14)), some (.ref (kb b 23)), some (.int v2), none, some (.int v4), some (.int v5)], [], 0, 0, kjS f I L) := by
  cases b
  · intro n
    induction n with
    | zero => intro v2 v4 v5 I L r h; cases h
    | succ n ih =>
      have hk30 := ih
      intro v2 v4 v5 I L r h
      unfold kf48a_30 at h
      refine mv_G_run 4 (F' := (37, [some (.ref (kb false 14)), some (.ref (kb false 23)), some (.int v2), none, some (.int v4), some (.int v5)], [.int v2, .ref (kb false 15), .int v5], 0, 0, kjS f I L)) rfl ?_
      obtain ⟨hi1, h⟩ := mv_bifs h
      refine mv_G_ald rfl rfl (mv_in_ok hi1) ?_
      by_cases hc2 : (I (kb false 15) (Int32.toNatClampNeg v2)) ≤ v5
      · rw [if_pos hc2] at h
        refine mv_G_br (tgt := 65) rfl rfl (by decide) (fun _ => ?_) (fun z => absurd hc2 z)
        refine mv_G_run 6 (F' := (74, [some (.ref (kb false 14)), some (.ref (kb false 23)), some (.int v2), none, some (.int v4), some (.int v5)], [.int (1 : Int32), .int v4, .ref (kb false 23), .int v2, .ref (kb false 17)], 0, 0, kjS f I L)) rfl ?_
        obtain ⟨r3, hc4, h⟩ := mv_bd h
        refine mv_G_call (r := [.int v2, .ref (kb false 17)]) (kf61_ok _ _ _ _ _ _ _ _ hc4) rfl rfl rfl rfl rfl (Nat.le_of_ble_eq_true rfl) (Nat.le_of_ble_eq_true rfl) (Nat.le_of_ble_eq_true rfl) ?_
        rintro _ _ ⟨rfl, rfl⟩
        obtain ⟨hi5, h⟩ := mv_bifs h
        refine mv_G_ast rfl rfl (mv_in_ok hi5) ?_
        obtain rfl := Option.some.inj h
        exact mv_G_ret rfl rfl rfl (Nat.le_refl _) trivial ⟨rfl, rfl⟩
      · rw [if_neg hc2] at h
        refine mv_G_br (tgt := 65) rfl rfl (by decide) (fun z => absurd z hc2) (fun _ => ?_)
        refine mv_G_run 10 (F' := (55, [some (.ref (kb false 14)), some (.ref (kb false 23)), some (.int v2), none, some (.int v4), some (.int v5)], [.int (0 : Int32), .int v4, .ref (kb false 23), .int ((v2 * (4 : Int32)) + v5), .ref (kb false 16)], 0, 0, kjS f I L)) rfl ?_
        obtain ⟨r6, hc7, h⟩ := mv_bd h
        refine mv_G_call (r := [.int ((v2 * (4 : Int32)) + v5), .ref (kb false 16)]) (kf61_ok _ _ _ _ _ _ _ _ hc7) rfl rfl rfl rfl rfl (Nat.le_of_ble_eq_true rfl) (Nat.le_of_ble_eq_true rfl) (Nat.le_of_ble_eq_true rfl) ?_
        rintro _ _ ⟨rfl, rfl⟩
        obtain ⟨hi8, h⟩ := mv_bifs h
        refine mv_G_ast rfl rfl (mv_in_ok hi8) ?_
        refine mv_G_run 2 (F' := (30, [some (.ref (kb false 14)), some (.ref (kb false 23)), some (.int v2), none, some (.int v4), some (.int (v5 + (1 : Int32)))], [], 0, 0, kjS f (mv_up r6.2.1 (kb false 16) (Int32.toNatClampNeg ((v2 * (4 : Int32)) + v5)) r6.1) r6.2.2)) rfl ?_
        exact hk30 v2 v4 (v5 + (1 : Int32)) (mv_up r6.2.1 (kb false 16) (Int32.toNatClampNeg ((v2 * (4 : Int32)) + v5)) r6.1) r6.2.2 _ h
  · intro n
    induction n with
    | zero => intro v2 v4 v5 I L r h; cases h
    | succ n ih =>
      have hk30 := ih
      intro v2 v4 v5 I L r h
      unfold kf48a_30 at h
      refine mv_G_run 4 (F' := (37, [some (.ref (kb true 14)), some (.ref (kb true 23)), some (.int v2), none, some (.int v4), some (.int v5)], [.int v2, .ref (kb true 15), .int v5], 0, 0, kjS f I L)) rfl ?_
      obtain ⟨hi1, h⟩ := mv_bifs h
      refine mv_G_ald rfl rfl (mv_in_ok hi1) ?_
      by_cases hc2 : (I (kb true 15) (Int32.toNatClampNeg v2)) ≤ v5
      · rw [if_pos hc2] at h
        refine mv_G_br (tgt := 65) rfl rfl (by decide) (fun _ => ?_) (fun z => absurd hc2 z)
        refine mv_G_run 6 (F' := (74, [some (.ref (kb true 14)), some (.ref (kb true 23)), some (.int v2), none, some (.int v4), some (.int v5)], [.int (1 : Int32), .int v4, .ref (kb true 23), .int v2, .ref (kb true 17)], 0, 0, kjS f I L)) rfl ?_
        obtain ⟨r3, hc4, h⟩ := mv_bd h
        refine mv_G_call (r := [.int v2, .ref (kb true 17)]) (kf61_ok _ _ _ _ _ _ _ _ hc4) rfl rfl rfl rfl rfl (Nat.le_of_ble_eq_true rfl) (Nat.le_of_ble_eq_true rfl) (Nat.le_of_ble_eq_true rfl) ?_
        rintro _ _ ⟨rfl, rfl⟩
        obtain ⟨hi5, h⟩ := mv_bifs h
        refine mv_G_ast rfl rfl (mv_in_ok hi5) ?_
        obtain rfl := Option.some.inj h
        exact mv_G_ret rfl rfl rfl (Nat.le_refl _) trivial ⟨rfl, rfl⟩
      · rw [if_neg hc2] at h
        refine mv_G_br (tgt := 65) rfl rfl (by decide) (fun z => absurd z hc2) (fun _ => ?_)
        refine mv_G_run 10 (F' := (55, [some (.ref (kb true 14)), some (.ref (kb true 23)), some (.int v2), none, some (.int v4), some (.int v5)], [.int (0 : Int32), .int v4, .ref (kb true 23), .int ((v2 * (4 : Int32)) + v5), .ref (kb true 16)], 0, 0, kjS f I L)) rfl ?_
        obtain ⟨r6, hc7, h⟩ := mv_bd h
        refine mv_G_call (r := [.int ((v2 * (4 : Int32)) + v5), .ref (kb true 16)]) (kf61_ok _ _ _ _ _ _ _ _ hc7) rfl rfl rfl rfl rfl (Nat.le_of_ble_eq_true rfl) (Nat.le_of_ble_eq_true rfl) (Nat.le_of_ble_eq_true rfl) ?_
        rintro _ _ ⟨rfl, rfl⟩
        obtain ⟨hi8, h⟩ := mv_bifs h
        refine mv_G_ast rfl rfl (mv_in_ok hi8) ?_
        refine mv_G_run 2 (F' := (30, [some (.ref (kb true 14)), some (.ref (kb true 23)), some (.int v2), none, some (.int v4), some (.int (v5 + (1 : Int32)))], [], 0, 0, kjS f (mv_up r6.2.1 (kb true 16) (Int32.toNatClampNeg ((v2 * (4 : Int32)) + v5)) r6.1) r6.2.2)) rfl ?_
        exact hk30 v2 v4 (v5 + (1 : Int32)) (mv_up r6.2.1 (kb true 16) (Int32.toNatClampNeg ((v2 * (4 : Int32)) + v5)) r6.1) r6.2.2 _ h
def kf48a (b : Bool) (N : Nat) (v2 : Int32) (v3 : Int32) (v4 : Int32) (I : kjI) (L : kjL) : Option (kjI × kjL) :=
  if v2 < 0 then (some (I, L)) else (if v2 < (16 : Int32) then ((kf60 b (0 : Int32) (if (4 : Int32) < v3 then (4 : Int32) else v3) I L).bind fun r3 => bif mv_in v2 16 then (kf48a_30 b N N v2 v4 (0 : Int32) (mv_up r3.2.1 (kb b 15) (Int32.toNatClampNeg v2) r3.1) r3.2.2) else none) else (some (I, L)))
set_option maxRecDepth 100000 in
set_option maxHeartbeats 4000000 in
theorem kf48a_ok (f : Bool) (b : Bool) (N : Nat) (v2 : Int32) (v3 : Int32) (v4 : Int32) (I : kjI) (L : kjL) (d : Nat) (r : kjI × kjL) (h : kf48a b N v2 v3 v4 I L = some r) : mv_C kjP kjSta (d + 4) 48 [.ref (kb b 14), .ref (kb b 23), .int v2, .int v3, .int v4] (kjS f I L) (kjQwv f r) := by
  cases b
  · unfold kf48a at h
    refine mv_C_in kjM_48 (lc := [some (.ref (kb false 14)), some (.ref (kb false 23)), some (.int v2), some (.int v3), some (.int v4), none]) rfl rfl rfl ?_
    refine mv_G_run 1 (F' := (1, [some (.ref (kb false 14)), some (.ref (kb false 23)), some (.int v2), some (.int v3), some (.int v4), none], [.int v2], 0, 0, kjS f I L)) rfl ?_
    by_cases hc1 : v2 < 0
    · rw [if_pos hc1] at h
      refine mv_G_br (tgt := 10) rfl rfl (by decide) (fun _ => ?_) (fun z => absurd hc1 z)
      obtain rfl := Option.some.inj h
      exact mv_G_ret rfl rfl rfl (Nat.le_refl _) trivial ⟨rfl, rfl⟩
    · rw [if_neg hc1] at h
      refine mv_G_br (tgt := 10) rfl rfl (by decide) (fun z => absurd z hc1) (fun _ => ?_)
      refine mv_G_run 2 (F' := (7, [some (.ref (kb false 14)), some (.ref (kb false 23)), some (.int v2), some (.int v3), some (.int v4), none], [.int (16 : Int32), .int v2], 0, 0, kjS f I L)) rfl ?_
      by_cases hc2 : v2 < (16 : Int32)
      · rw [if_pos hc2] at h
        refine mv_G_br (tgt := 11) rfl rfl (by decide) (fun _ => ?_) (fun z => absurd hc2 z)
        refine mv_G_run 8 (F' := (23, [some (.ref (kb false 14)), some (.ref (kb false 23)), some (.int v2), some (.int v3), some (.int v4), none], [.int (if (4 : Int32) < v3 then (4 : Int32) else v3), .int (0 : Int32), .ref (kb false 23), .int v2, .ref (kb false 15)], 0, 0, kjS f I L)) rfl ?_
        obtain ⟨r3, hc4, h⟩ := mv_bd h
        refine mv_G_call (r := [.int v2, .ref (kb false 15)]) (kf60_ok _ _ _ _ _ _ _ _ hc4) rfl rfl rfl rfl rfl (Nat.le_of_ble_eq_true rfl) (Nat.le_of_ble_eq_true rfl) (Nat.le_of_ble_eq_true rfl) ?_
        rintro _ _ ⟨rfl, rfl⟩
        obtain ⟨hi5, h⟩ := mv_bifs h
        refine mv_G_ast rfl rfl (mv_in_ok hi5) ?_
        refine mv_G_run 2 (F' := (30, [some (.ref (kb false 14)), some (.ref (kb false 23)), some (.int v2), some (.int v3), some (.int v4), some (.int (0 : Int32))], [], 0, 0, kjS f (mv_up r3.2.1 (kb false 15) (Int32.toNatClampNeg v2) r3.1) r3.2.2)) rfl ?_
        refine mv_G_fg (lc' := [some (.ref (kb false 14)), some (.ref (kb false 23)), some (.int v2), none, some (.int v4), some (.int (0 : Int32))]) (And.intro rfl (And.intro rfl (And.intro rfl (And.intro rfl (And.intro rfl trivial))))) ?_
        exact kf48a_30_ok _ _ _ d _ _ _ _ _ _ _ h
      · rw [if_neg hc2] at h
        refine mv_G_br (tgt := 11) rfl rfl (by decide) (fun z => absurd z hc2) (fun _ => ?_)
        obtain rfl := Option.some.inj h
        exact mv_G_ret rfl rfl rfl (Nat.le_refl _) trivial ⟨rfl, rfl⟩
  · unfold kf48a at h
    refine mv_C_in kjM_48 (lc := [some (.ref (kb true 14)), some (.ref (kb true 23)), some (.int v2), some (.int v3), some (.int v4), none]) rfl rfl rfl ?_
    refine mv_G_run 1 (F' := (1, [some (.ref (kb true 14)), some (.ref (kb true 23)), some (.int v2), some (.int v3), some (.int v4), none], [.int v2], 0, 0, kjS f I L)) rfl ?_
    by_cases hc1 : v2 < 0
    · rw [if_pos hc1] at h
      refine mv_G_br (tgt := 10) rfl rfl (by decide) (fun _ => ?_) (fun z => absurd hc1 z)
      obtain rfl := Option.some.inj h
      exact mv_G_ret rfl rfl rfl (Nat.le_refl _) trivial ⟨rfl, rfl⟩
    · rw [if_neg hc1] at h
      refine mv_G_br (tgt := 10) rfl rfl (by decide) (fun z => absurd z hc1) (fun _ => ?_)
      refine mv_G_run 2 (F' := (7, [some (.ref (kb true 14)), some (.ref (kb true 23)), some (.int v2), some (.int v3), some (.int v4), none], [.int (16 : Int32), .int v2], 0, 0, kjS f I L)) rfl ?_
      by_cases hc2 : v2 < (16 : Int32)
      · rw [if_pos hc2] at h
        refine mv_G_br (tgt := 11) rfl rfl (by decide) (fun _ => ?_) (fun z => absurd hc2 z)
        refine mv_G_run 8 (F' := (23, [some (.ref (kb true 14)), some (.ref (kb true 23)), some (.int v2), some (.int v3), some (.int v4), none], [.int (if (4 : Int32) < v3 then (4 : Int32) else v3), .int (0 : Int32), .ref (kb true 23), .int v2, .ref (kb true 15)], 0, 0, kjS f I L)) rfl ?_
        obtain ⟨r3, hc4, h⟩ := mv_bd h
        refine mv_G_call (r := [.int v2, .ref (kb true 15)]) (kf60_ok _ _ _ _ _ _ _ _ hc4) rfl rfl rfl rfl rfl (Nat.le_of_ble_eq_true rfl) (Nat.le_of_ble_eq_true rfl) (Nat.le_of_ble_eq_true rfl) ?_
        rintro _ _ ⟨rfl, rfl⟩
        obtain ⟨hi5, h⟩ := mv_bifs h
        refine mv_G_ast rfl rfl (mv_in_ok hi5) ?_
        refine mv_G_run 2 (F' := (30, [some (.ref (kb true 14)), some (.ref (kb true 23)), some (.int v2), some (.int v3), some (.int v4), some (.int (0 : Int32))], [], 0, 0, kjS f (mv_up r3.2.1 (kb true 15) (Int32.toNatClampNeg v2) r3.1) r3.2.2)) rfl ?_
        refine mv_G_fg (lc' := [some (.ref (kb true 14)), some (.ref (kb true 23)), some (.int v2), none, some (.int v4), some (.int (0 : Int32))]) (And.intro rfl (And.intro rfl (And.intro rfl (And.intro rfl (And.intro rfl trivial))))) ?_
        exact kf48a_30_ok _ _ _ d _ _ _ _ _ _ _ h
      · rw [if_neg hc2] at h
        refine mv_G_br (tgt := 11) rfl rfl (by decide) (fun z => absurd z hc2) (fun _ => ?_)
        obtain rfl := Option.some.inj h
        exact mv_G_ret rfl rfl rfl (Nat.le_refl _) trivial ⟨rfl, rfl⟩
/-! KindJudge$Reader.place()I on ('b', 23) -/
def kf57 (b : Bool) (I : kjI) (L : kjL) : Option (Int32) :=
  some (I (kb b 23) 1)
set_option maxRecDepth 100000 in
set_option maxHeartbeats 4000000 in
theorem kf57_ok (f : Bool) (b : Bool) (I : kjI) (L : kjL) (d : Nat) (r : Int32) (h : kf57 b I L = some r) : mv_C kjP kjSta (d + 1) 57 [.ref (kb b 23)] (kjS f I L) (kjQi f I L r) := by
  cases b
  · unfold kf57 at h
    refine mv_C_in kjM_57 (lc := [some (.ref (kb false 23))]) rfl rfl rfl ?_
    refine mv_G_run 2 (F' := (4, [some (.ref (kb false 23))], [.int (I (kb false 23) 1)], 0, 0, kjS f I L)) rfl ?_
    obtain rfl := Option.some.inj h
    exact mv_G_ret rfl rfl rfl (Nat.le_refl _) trivial ⟨rfl, rfl⟩
  · unfold kf57 at h
    refine mv_C_in kjM_57 (lc := [some (.ref (kb true 23))]) rfl rfl rfl ?_
    refine mv_G_run 2 (F' := (4, [some (.ref (kb true 23))], [.int (I (kb true 23) 1)], 0, 0, kjS f I L)) rfl ?_
    obtain rfl := Option.some.inj h
    exact mv_G_ret rfl rfl rfl (Nat.le_refl _) trivial ⟨rfl, rfl⟩
/-! KindJudge$Reader.skip(I)V on ('b', 23) -/
def kf62_45 (b : Bool) (s1 : Int32) (I : kjI) (L : kjL) : Option (kjI × kjL) :=
  some ((mv_up (mv_up I (kb b 23) 1 s1) (kb b 23) 2 (1 : Int32)), L)
set_option maxRecDepth 100000 in
set_option maxHeartbeats 4000000 in
theorem kf62_45_ok (f : Bool) (b : Bool) (d : Nat)  (s1 : Int32) (I : kjI) (L : kjL) (r : kjI × kjL) (h : kf62_45 b s1 I L = some r) : mv_G kjP kjSta (mv_C kjP kjSta (d + 0)) kjM_62 (kjQwv f r) (45, [some (.ref (kb b 23)), none], [.int s1, .ref (kb b 23)], 0, 0, kjS f I L) := by
  cases b
  · unfold kf62_45 at h
    refine mv_G_run 5 (F' := (66, [some (.ref (kb false 23)), none], [], 0, 0, kjS f (mv_up (mv_up I (kb false 23) 1 s1) (kb false 23) 2 (1 : Int32)) L)) rfl ?_
    obtain rfl := Option.some.inj h
    exact mv_G_ret rfl rfl rfl (Nat.le_refl _) trivial ⟨rfl, rfl⟩
  · unfold kf62_45 at h
    refine mv_G_run 5 (F' := (66, [some (.ref (kb true 23)), none], [], 0, 0, kjS f (mv_up (mv_up I (kb true 23) 1 s1) (kb true 23) 2 (1 : Int32)) L)) rfl ?_
    obtain rfl := Option.some.inj h
    exact mv_G_ret rfl rfl rfl (Nat.le_refl _) trivial ⟨rfl, rfl⟩
def kf62_23 (b : Bool) (I : kjI) (L : kjL) : Option (kjI × kjL) :=
  if (I (kb b 23) 2) = 0 then (kf62_45 b (I (kb b 2) 1) I L) else (kf62_45 b (I (kb b 23) 1) I L)
set_option maxRecDepth 100000 in
set_option maxHeartbeats 4000000 in
theorem kf62_23_ok (f : Bool) (b : Bool) (d : Nat)  (I : kjI) (L : kjL) (r : kjI × kjL) (h : kf62_23 b I L = some r) : mv_G kjP kjSta (mv_C kjP kjSta (d + 0)) kjM_62 (kjQwv f r) (23, [some (.ref (kb b 23)), none], [], 0, 0, kjS f I L) := by
  cases b
  · unfold kf62_23 at h
    refine mv_G_run 3 (F' := (28, [some (.ref (kb false 23)), none], [.int (I (kb false 23) 2), .ref (kb false 23)], 0, 0, kjS f I L)) rfl ?_
    by_cases hc1 : (I (kb false 23) 2) = 0
    · rw [if_pos hc1] at h
      refine mv_G_br (tgt := 38) rfl rfl (by decide) (fun _ => ?_) (fun z => absurd hc1 z)
      refine mv_G_run 3 (F' := (45, [some (.ref (kb false 23)), none], [.int (I (kb false 2) 1), .ref (kb false 23)], 0, 0, kjS f I L)) rfl ?_
      exact kf62_45_ok _ _ d _ _ _ _ h
    · rw [if_neg hc1] at h
      refine mv_G_br (tgt := 38) rfl rfl (by decide) (fun z => absurd z hc1) (fun _ => ?_)
      refine mv_G_run 3 (F' := (45, [some (.ref (kb false 23)), none], [.int (I (kb false 23) 1), .ref (kb false 23)], 0, 0, kjS f I L)) rfl ?_
      exact kf62_45_ok _ _ d _ _ _ _ h
  · unfold kf62_23 at h
    refine mv_G_run 3 (F' := (28, [some (.ref (kb true 23)), none], [.int (I (kb true 23) 2), .ref (kb true 23)], 0, 0, kjS f I L)) rfl ?_
    by_cases hc1 : (I (kb true 23) 2) = 0
    · rw [if_pos hc1] at h
      refine mv_G_br (tgt := 38) rfl rfl (by decide) (fun _ => ?_) (fun z => absurd hc1 z)
      refine mv_G_run 3 (F' := (45, [some (.ref (kb true 23)), none], [.int (I (kb true 2) 1), .ref (kb true 23)], 0, 0, kjS f I L)) rfl ?_
      exact kf62_45_ok _ _ d _ _ _ _ h
    · rw [if_neg hc1] at h
      refine mv_G_br (tgt := 38) rfl rfl (by decide) (fun z => absurd z hc1) (fun _ => ?_)
      refine mv_G_run 3 (F' := (45, [some (.ref (kb true 23)), none], [.int (I (kb true 23) 1), .ref (kb true 23)], 0, 0, kjS f I L)) rfl ?_
      exact kf62_45_ok _ _ d _ _ _ _ h
def kf62 (b : Bool) (v1 : Int32) (I : kjI) (L : kjL) : Option (kjI × kjL) :=
  if ¬ (I (kb b 23) 2) = 0 then (kf62_23 b I L) else (if v1 ≤ ((I (kb b 2) 1) - (I (kb b 23) 1)) then (some ((mv_up I (kb b 23) 1 ((I (kb b 23) 1) + v1)), L)) else (kf62_23 b I L))
set_option maxRecDepth 100000 in
set_option maxHeartbeats 4000000 in
theorem kf62_ok (f : Bool) (b : Bool) (v1 : Int32) (I : kjI) (L : kjL) (d : Nat) (r : kjI × kjL) (h : kf62 b v1 I L = some r) : mv_C kjP kjSta (d + 1) 62 [.ref (kb b 23), .int v1] (kjS f I L) (kjQwv f r) := by
  cases b
  · unfold kf62 at h
    refine mv_C_in kjM_62 (lc := [some (.ref (kb false 23)), some (.int v1)]) rfl rfl rfl ?_
    refine mv_G_run 2 (F' := (4, [some (.ref (kb false 23)), some (.int v1)], [.int (I (kb false 23) 2)], 0, 0, kjS f I L)) rfl ?_
    by_cases hc1 : ¬ (I (kb false 23) 2) = 0
    · rw [if_pos hc1] at h
      refine mv_G_br (tgt := 23) rfl rfl (by decide) (fun _ => ?_) (fun z => absurd hc1 z)
      refine mv_G_fg (lc' := [some (.ref (kb false 23)), none]) (And.intro rfl trivial) ?_
      exact kf62_23_ok _ _ d _ _ _ h
    · rw [if_neg hc1] at h
      refine mv_G_br (tgt := 23) rfl rfl (by decide) (fun z => absurd z hc1) (fun _ => ?_)
      refine mv_G_run 7 (F' := (20, [some (.ref (kb false 23)), some (.int v1)], [.int ((I (kb false 2) 1) - (I (kb false 23) 1)), .int v1], 0, 0, kjS f I L)) rfl ?_
      by_cases hc2 : v1 ≤ ((I (kb false 2) 1) - (I (kb false 23) 1))
      · rw [if_pos hc2] at h
        refine mv_G_br (tgt := 56) rfl rfl (by decide) (fun _ => ?_) (fun z => absurd hc2 z)
        refine mv_G_run 6 (F' := (66, [some (.ref (kb false 23)), some (.int v1)], [], 0, 0, kjS f (mv_up I (kb false 23) 1 ((I (kb false 23) 1) + v1)) L)) rfl ?_
        obtain rfl := Option.some.inj h
        exact mv_G_ret rfl rfl rfl (Nat.le_refl _) trivial ⟨rfl, rfl⟩
      · rw [if_neg hc2] at h
        refine mv_G_br (tgt := 56) rfl rfl (by decide) (fun z => absurd z hc2) (fun _ => ?_)
        refine mv_G_fg (lc' := [some (.ref (kb false 23)), none]) (And.intro rfl trivial) ?_
        exact kf62_23_ok _ _ d _ _ _ h
  · unfold kf62 at h
    refine mv_C_in kjM_62 (lc := [some (.ref (kb true 23)), some (.int v1)]) rfl rfl rfl ?_
    refine mv_G_run 2 (F' := (4, [some (.ref (kb true 23)), some (.int v1)], [.int (I (kb true 23) 2)], 0, 0, kjS f I L)) rfl ?_
    by_cases hc1 : ¬ (I (kb true 23) 2) = 0
    · rw [if_pos hc1] at h
      refine mv_G_br (tgt := 23) rfl rfl (by decide) (fun _ => ?_) (fun z => absurd hc1 z)
      refine mv_G_fg (lc' := [some (.ref (kb true 23)), none]) (And.intro rfl trivial) ?_
      exact kf62_23_ok _ _ d _ _ _ h
    · rw [if_neg hc1] at h
      refine mv_G_br (tgt := 23) rfl rfl (by decide) (fun z => absurd z hc1) (fun _ => ?_)
      refine mv_G_run 7 (F' := (20, [some (.ref (kb true 23)), some (.int v1)], [.int ((I (kb true 2) 1) - (I (kb true 23) 1)), .int v1], 0, 0, kjS f I L)) rfl ?_
      by_cases hc2 : v1 ≤ ((I (kb true 2) 1) - (I (kb true 23) 1))
      · rw [if_pos hc2] at h
        refine mv_G_br (tgt := 56) rfl rfl (by decide) (fun _ => ?_) (fun z => absurd hc2 z)
        refine mv_G_run 6 (F' := (66, [some (.ref (kb true 23)), some (.int v1)], [], 0, 0, kjS f (mv_up I (kb true 23) 1 ((I (kb true 23) 1) + v1)) L)) rfl ?_
        obtain rfl := Option.some.inj h
        exact mv_G_ret rfl rfl rfl (Nat.le_refl _) trivial ⟨rfl, rfl⟩
      · rw [if_neg hc2] at h
        refine mv_G_br (tgt := 56) rfl rfl (by decide) (fun z => absurd z hc2) (fun _ => ?_)
        refine mv_G_fg (lc' := [some (.ref (kb true 23)), none]) (And.intro rfl trivial) ?_
        exact kf62_23_ok _ _ d _ _ _ h
/-! KindJudge$Layout.readMethod(I)V on ('b', 4) -/
def kf26 (b : Bool) (N : Nat) (v1 : Int32) (I : kjI) (L : kjL) : Option (kjI × kjL) :=
  (kf48a b N v1 (4 : Int32) (I (kb b 5) 4) I L).bind fun r1 => (kf49 b r1.1 r1.2 v1).bind fun r3 => if ¬ r3 = 0 then ((kf50 b r1.1 r1.2 v1).bind fun r6 => (kf60 b r6 (8 : Int32) r1.1 r1.2).bind fun r8 => bif mv_in v1 16 then ((kf60 b (0 : Int32) (8 : Int32) (mv_up r8.2.1 (kb b 18) (Int32.toNatClampNeg v1) r8.1) r8.2.2).bind fun r11 => bif mv_in v1 16 then ((kf60 b (1 : Int32) (120 : Int32) (mv_up r11.2.1 (kb b 19) (Int32.toNatClampNeg v1) r11.1) r11.2.2).bind fun r14 => bif mv_in v1 16 then ((kf57 b (mv_up r14.2.1 (kb b 21) (Int32.toNatClampNeg v1) r14.1) r14.2.2).bind fun r17 => bif mv_in v1 16 then (bif mv_in v1 16 then ((kf62 b ((mv_up (mv_up r14.2.1 (kb b 21) (Int32.toNatClampNeg v1) r14.1) (kb b 20) (Int32.toNatClampNeg v1) r17) (kb b 21) (Int32.toNatClampNeg v1)) (mv_up (mv_up r14.2.1 (kb b 21) (Int32.toNatClampNeg v1) r14.1) (kb b 20) (Int32.toNatClampNeg v1) r17) r14.2.2).bind fun r21 => some (r21.1, r21.2)) else none) else none) else none) else none) else none) else (some (r1.1, r1.2))
set_option maxRecDepth 100000 in
set_option maxHeartbeats 4000000 in
theorem kf26_ok (f : Bool) (b : Bool) (N : Nat) (v1 : Int32) (I : kjI) (L : kjL) (d : Nat) (r : kjI × kjL) (h : kf26 b N v1 I L = some r) : mv_C kjP kjSta (d + 5) 26 [.ref (kb b 4), .int v1] (kjS f I L) (kjQwv f r) := by
  cases b
  · unfold kf26 at h
    refine mv_C_in kjM_26 (lc := [some (.ref (kb false 4)), some (.int v1)]) rfl rfl rfl ?_
    refine mv_G_run 9 (F' := (17, [some (.ref (kb false 4)), some (.int v1)], [.int (I (kb false 5) 4), .int (4 : Int32), .int v1, .ref (kb false 23), .ref (kb false 14)], 0, 0, kjS f I L)) rfl ?_
    obtain ⟨r1, hc2, h⟩ := mv_bd h
    refine mv_G_call (r := []) (kf48a_ok _ _ _ _ _ _ _ _ _ _ hc2) rfl rfl rfl rfl rfl (Nat.le_of_ble_eq_true rfl) (Nat.le_of_ble_eq_true rfl) (Nat.le_of_ble_eq_true rfl) ?_
    rintro _ _ ⟨rfl, rfl⟩
    refine mv_G_run 3 (F' := (25, [some (.ref (kb false 4)), some (.int v1)], [.int v1, .ref (kb false 14)], 0, 0, kjS f r1.1 r1.2)) rfl ?_
    obtain ⟨r3, hc4, h⟩ := mv_bd h
    refine mv_G_call (r := []) (kf49_ok _ _ _ _ _ _ _ hc4) rfl rfl rfl rfl rfl (Nat.le_of_ble_eq_true rfl) (Nat.le_of_ble_eq_true rfl) (Nat.le_of_ble_eq_true rfl) ?_
    rintro _ _ ⟨rfl, rfl⟩
    by_cases hc5 : ¬ r3 = 0
    · rw [if_pos hc5] at h
      refine mv_G_br (tgt := 32) rfl rfl (by decide) (fun _ => ?_) (fun z => absurd hc5 z)
      refine mv_G_run 8 (F' := (46, [some (.ref (kb false 4)), some (.int v1)], [.int v1, .ref (kb false 14), .ref (kb false 23), .int v1, .ref (kb false 18)], 0, 0, kjS f r1.1 r1.2)) rfl ?_
      obtain ⟨r6, hc7, h⟩ := mv_bd h
      refine mv_G_call (r := [.ref (kb false 23), .int v1, .ref (kb false 18)]) (kf50_ok _ _ _ _ _ _ _ hc7) rfl rfl rfl rfl rfl (Nat.le_of_ble_eq_true rfl) (Nat.le_of_ble_eq_true rfl) (Nat.le_of_ble_eq_true rfl) ?_
      rintro _ _ ⟨rfl, rfl⟩
      refine mv_G_run 1 (F' := (51, [some (.ref (kb false 4)), some (.int v1)], [.int (8 : Int32), .int r6, .ref (kb false 23), .int v1, .ref (kb false 18)], 0, 0, kjS f r1.1 r1.2)) rfl ?_
      obtain ⟨r8, hc9, h⟩ := mv_bd h
      refine mv_G_call (r := [.int v1, .ref (kb false 18)]) (kf60_ok _ _ _ _ _ _ _ _ hc9) rfl rfl rfl rfl rfl (Nat.le_of_ble_eq_true rfl) (Nat.le_of_ble_eq_true rfl) (Nat.le_of_ble_eq_true rfl) ?_
      rintro _ _ ⟨rfl, rfl⟩
      obtain ⟨hi10, h⟩ := mv_bifs h
      refine mv_G_ast rfl rfl (mv_in_ok hi10) ?_
      refine mv_G_run 7 (F' := (67, [some (.ref (kb false 4)), some (.int v1)], [.int (8 : Int32), .int (0 : Int32), .ref (kb false 23), .int v1, .ref (kb false 19)], 0, 0, kjS f (mv_up r8.2.1 (kb false 18) (Int32.toNatClampNeg v1) r8.1) r8.2.2)) rfl ?_
      obtain ⟨r11, hc12, h⟩ := mv_bd h
      refine mv_G_call (r := [.int v1, .ref (kb false 19)]) (kf60_ok _ _ _ _ _ _ _ _ hc12) rfl rfl rfl rfl rfl (Nat.le_of_ble_eq_true rfl) (Nat.le_of_ble_eq_true rfl) (Nat.le_of_ble_eq_true rfl) ?_
      rintro _ _ ⟨rfl, rfl⟩
      obtain ⟨hi13, h⟩ := mv_bifs h
      refine mv_G_ast rfl rfl (mv_in_ok hi13) ?_
      refine mv_G_run 7 (F' := (83, [some (.ref (kb false 4)), some (.int v1)], [.int (120 : Int32), .int (1 : Int32), .ref (kb false 23), .int v1, .ref (kb false 21)], 0, 0, kjS f (mv_up r11.2.1 (kb false 19) (Int32.toNatClampNeg v1) r11.1) r11.2.2)) rfl ?_
      obtain ⟨r14, hc15, h⟩ := mv_bd h
      refine mv_G_call (r := [.int v1, .ref (kb false 21)]) (kf60_ok _ _ _ _ _ _ _ _ hc15) rfl rfl rfl rfl rfl (Nat.le_of_ble_eq_true rfl) (Nat.le_of_ble_eq_true rfl) (Nat.le_of_ble_eq_true rfl) ?_
      rintro _ _ ⟨rfl, rfl⟩
      obtain ⟨hi16, h⟩ := mv_bifs h
      refine mv_G_ast rfl rfl (mv_in_ok hi16) ?_
      refine mv_G_run 5 (F' := (96, [some (.ref (kb false 4)), some (.int v1)], [.ref (kb false 23), .int v1, .ref (kb false 20)], 0, 0, kjS f (mv_up r14.2.1 (kb false 21) (Int32.toNatClampNeg v1) r14.1) r14.2.2)) rfl ?_
      obtain ⟨r17, hc18, h⟩ := mv_bd h
      refine mv_G_call (r := [.int v1, .ref (kb false 20)]) (kf57_ok _ _ _ _ _ _ hc18) rfl rfl rfl rfl rfl (Nat.le_of_ble_eq_true rfl) (Nat.le_of_ble_eq_true rfl) (Nat.le_of_ble_eq_true rfl) ?_
      rintro _ _ ⟨rfl, rfl⟩
      obtain ⟨hi19, h⟩ := mv_bifs h
      refine mv_G_ast rfl rfl (mv_in_ok hi19) ?_
      refine mv_G_run 5 (F' := (109, [some (.ref (kb false 4)), some (.int v1)], [.int v1, .ref (kb false 21), .ref (kb false 23)], 0, 0, kjS f (mv_up (mv_up r14.2.1 (kb false 21) (Int32.toNatClampNeg v1) r14.1) (kb false 20) (Int32.toNatClampNeg v1) r17) r14.2.2)) rfl ?_
      obtain ⟨hi20, h⟩ := mv_bifs h
      refine mv_G_ald rfl rfl (mv_in_ok hi20) ?_
      obtain ⟨r21, hc22, h⟩ := mv_bd h
      refine mv_G_call (r := []) (kf62_ok _ _ _ _ _ _ _ hc22) rfl rfl rfl rfl rfl (Nat.le_of_ble_eq_true rfl) (Nat.le_of_ble_eq_true rfl) (Nat.le_of_ble_eq_true rfl) ?_
      rintro _ _ ⟨rfl, rfl⟩
      obtain rfl := Option.some.inj h
      exact mv_G_ret rfl rfl rfl (Nat.le_refl _) trivial ⟨rfl, rfl⟩
    · rw [if_neg hc5] at h
      refine mv_G_br (tgt := 32) rfl rfl (by decide) (fun z => absurd z hc5) (fun _ => ?_)
      obtain rfl := Option.some.inj h
      exact mv_G_ret rfl rfl rfl (Nat.le_refl _) trivial ⟨rfl, rfl⟩
  · unfold kf26 at h
    refine mv_C_in kjM_26 (lc := [some (.ref (kb true 4)), some (.int v1)]) rfl rfl rfl ?_
    refine mv_G_run 9 (F' := (17, [some (.ref (kb true 4)), some (.int v1)], [.int (I (kb true 5) 4), .int (4 : Int32), .int v1, .ref (kb true 23), .ref (kb true 14)], 0, 0, kjS f I L)) rfl ?_
    obtain ⟨r1, hc2, h⟩ := mv_bd h
    refine mv_G_call (r := []) (kf48a_ok _ _ _ _ _ _ _ _ _ _ hc2) rfl rfl rfl rfl rfl (Nat.le_of_ble_eq_true rfl) (Nat.le_of_ble_eq_true rfl) (Nat.le_of_ble_eq_true rfl) ?_
    rintro _ _ ⟨rfl, rfl⟩
    refine mv_G_run 3 (F' := (25, [some (.ref (kb true 4)), some (.int v1)], [.int v1, .ref (kb true 14)], 0, 0, kjS f r1.1 r1.2)) rfl ?_
    obtain ⟨r3, hc4, h⟩ := mv_bd h
    refine mv_G_call (r := []) (kf49_ok _ _ _ _ _ _ _ hc4) rfl rfl rfl rfl rfl (Nat.le_of_ble_eq_true rfl) (Nat.le_of_ble_eq_true rfl) (Nat.le_of_ble_eq_true rfl) ?_
    rintro _ _ ⟨rfl, rfl⟩
    by_cases hc5 : ¬ r3 = 0
    · rw [if_pos hc5] at h
      refine mv_G_br (tgt := 32) rfl rfl (by decide) (fun _ => ?_) (fun z => absurd hc5 z)
      refine mv_G_run 8 (F' := (46, [some (.ref (kb true 4)), some (.int v1)], [.int v1, .ref (kb true 14), .ref (kb true 23), .int v1, .ref (kb true 18)], 0, 0, kjS f r1.1 r1.2)) rfl ?_
      obtain ⟨r6, hc7, h⟩ := mv_bd h
      refine mv_G_call (r := [.ref (kb true 23), .int v1, .ref (kb true 18)]) (kf50_ok _ _ _ _ _ _ _ hc7) rfl rfl rfl rfl rfl (Nat.le_of_ble_eq_true rfl) (Nat.le_of_ble_eq_true rfl) (Nat.le_of_ble_eq_true rfl) ?_
      rintro _ _ ⟨rfl, rfl⟩
      refine mv_G_run 1 (F' := (51, [some (.ref (kb true 4)), some (.int v1)], [.int (8 : Int32), .int r6, .ref (kb true 23), .int v1, .ref (kb true 18)], 0, 0, kjS f r1.1 r1.2)) rfl ?_
      obtain ⟨r8, hc9, h⟩ := mv_bd h
      refine mv_G_call (r := [.int v1, .ref (kb true 18)]) (kf60_ok _ _ _ _ _ _ _ _ hc9) rfl rfl rfl rfl rfl (Nat.le_of_ble_eq_true rfl) (Nat.le_of_ble_eq_true rfl) (Nat.le_of_ble_eq_true rfl) ?_
      rintro _ _ ⟨rfl, rfl⟩
      obtain ⟨hi10, h⟩ := mv_bifs h
      refine mv_G_ast rfl rfl (mv_in_ok hi10) ?_
      refine mv_G_run 7 (F' := (67, [some (.ref (kb true 4)), some (.int v1)], [.int (8 : Int32), .int (0 : Int32), .ref (kb true 23), .int v1, .ref (kb true 19)], 0, 0, kjS f (mv_up r8.2.1 (kb true 18) (Int32.toNatClampNeg v1) r8.1) r8.2.2)) rfl ?_
      obtain ⟨r11, hc12, h⟩ := mv_bd h
      refine mv_G_call (r := [.int v1, .ref (kb true 19)]) (kf60_ok _ _ _ _ _ _ _ _ hc12) rfl rfl rfl rfl rfl (Nat.le_of_ble_eq_true rfl) (Nat.le_of_ble_eq_true rfl) (Nat.le_of_ble_eq_true rfl) ?_
      rintro _ _ ⟨rfl, rfl⟩
      obtain ⟨hi13, h⟩ := mv_bifs h
      refine mv_G_ast rfl rfl (mv_in_ok hi13) ?_
      refine mv_G_run 7 (F' := (83, [some (.ref (kb true 4)), some (.int v1)], [.int (120 : Int32), .int (1 : Int32), .ref (kb true 23), .int v1, .ref (kb true 21)], 0, 0, kjS f (mv_up r11.2.1 (kb true 19) (Int32.toNatClampNeg v1) r11.1) r11.2.2)) rfl ?_
      obtain ⟨r14, hc15, h⟩ := mv_bd h
      refine mv_G_call (r := [.int v1, .ref (kb true 21)]) (kf60_ok _ _ _ _ _ _ _ _ hc15) rfl rfl rfl rfl rfl (Nat.le_of_ble_eq_true rfl) (Nat.le_of_ble_eq_true rfl) (Nat.le_of_ble_eq_true rfl) ?_
      rintro _ _ ⟨rfl, rfl⟩
      obtain ⟨hi16, h⟩ := mv_bifs h
      refine mv_G_ast rfl rfl (mv_in_ok hi16) ?_
      refine mv_G_run 5 (F' := (96, [some (.ref (kb true 4)), some (.int v1)], [.ref (kb true 23), .int v1, .ref (kb true 20)], 0, 0, kjS f (mv_up r14.2.1 (kb true 21) (Int32.toNatClampNeg v1) r14.1) r14.2.2)) rfl ?_
      obtain ⟨r17, hc18, h⟩ := mv_bd h
      refine mv_G_call (r := [.int v1, .ref (kb true 20)]) (kf57_ok _ _ _ _ _ _ hc18) rfl rfl rfl rfl rfl (Nat.le_of_ble_eq_true rfl) (Nat.le_of_ble_eq_true rfl) (Nat.le_of_ble_eq_true rfl) ?_
      rintro _ _ ⟨rfl, rfl⟩
      obtain ⟨hi19, h⟩ := mv_bifs h
      refine mv_G_ast rfl rfl (mv_in_ok hi19) ?_
      refine mv_G_run 5 (F' := (109, [some (.ref (kb true 4)), some (.int v1)], [.int v1, .ref (kb true 21), .ref (kb true 23)], 0, 0, kjS f (mv_up (mv_up r14.2.1 (kb true 21) (Int32.toNatClampNeg v1) r14.1) (kb true 20) (Int32.toNatClampNeg v1) r17) r14.2.2)) rfl ?_
      obtain ⟨hi20, h⟩ := mv_bifs h
      refine mv_G_ald rfl rfl (mv_in_ok hi20) ?_
      obtain ⟨r21, hc22, h⟩ := mv_bd h
      refine mv_G_call (r := []) (kf62_ok _ _ _ _ _ _ _ hc22) rfl rfl rfl rfl rfl (Nat.le_of_ble_eq_true rfl) (Nat.le_of_ble_eq_true rfl) (Nat.le_of_ble_eq_true rfl) ?_
      rintro _ _ ⟨rfl, rfl⟩
      obtain rfl := Option.some.inj h
      exact mv_G_ret rfl rfl rfl (Nat.le_refl _) trivial ⟨rfl, rfl⟩
    · rw [if_neg hc5] at h
      refine mv_G_br (tgt := 32) rfl rfl (by decide) (fun z => absurd z hc5) (fun _ => ?_)
      obtain rfl := Option.some.inj h
      exact mv_G_ret rfl rfl rfl (Nat.le_refl _) trivial ⟨rfl, rfl⟩
/-! KindJudge$Signatures.parameter(II)I on ('b', 14) -/
def kf51 (b : Bool) (I : kjI) (L : kjL) (v1 : Int32) (v2 : Int32) : Option (Int32) :=
  if v2 < 0 then (some (-1 : Int32)) else ((kf50 b I L v1).bind fun r2 => if r2 ≤ v2 then (some (-1 : Int32)) else (bif mv_in ((v1 * (4 : Int32)) + v2) 64 then (some (I (kb b 16) (Int32.toNatClampNeg ((v1 * (4 : Int32)) + v2)))) else none))
set_option maxRecDepth 100000 in
set_option maxHeartbeats 4000000 in
theorem kf51_ok (f : Bool) (b : Bool) (I : kjI) (L : kjL) (v1 : Int32) (v2 : Int32) (d : Nat) (r : Int32) (h : kf51 b I L v1 v2 = some r) : mv_C kjP kjSta (d + 2) 51 [.ref (kb b 14), .int v1, .int v2] (kjS f I L) (kjQi f I L r) := by
  cases b
  · unfold kf51 at h
    refine mv_C_in kjM_51 (lc := [some (.ref (kb false 14)), some (.int v1), some (.int v2)]) rfl rfl rfl ?_
    refine mv_G_run 1 (F' := (1, [some (.ref (kb false 14)), some (.int v1), some (.int v2)], [.int v2], 0, 0, kjS f I L)) rfl ?_
    by_cases hc1 : v2 < 0
    · rw [if_pos hc1] at h
      refine mv_G_br (tgt := 26) rfl rfl (by decide) (fun _ => ?_) (fun z => absurd hc1 z)
      refine mv_G_run 1 (F' := (27, [some (.ref (kb false 14)), some (.int v1), some (.int v2)], [.int (-1 : Int32)], 0, 0, kjS f I L)) rfl ?_
      obtain rfl := Option.some.inj h
      exact mv_G_ret rfl rfl rfl (Nat.le_refl _) trivial ⟨rfl, rfl⟩
    · rw [if_neg hc1] at h
      refine mv_G_br (tgt := 26) rfl rfl (by decide) (fun z => absurd z hc1) (fun _ => ?_)
      refine mv_G_run 3 (F' := (7, [some (.ref (kb false 14)), some (.int v1), some (.int v2)], [.int v1, .ref (kb false 14), .int v2], 0, 0, kjS f I L)) rfl ?_
      obtain ⟨r2, hc3, h⟩ := mv_bd h
      refine mv_G_call (r := [.int v2]) (kf50_ok _ _ _ _ _ _ _ hc3) rfl rfl rfl rfl rfl (Nat.le_of_ble_eq_true rfl) (Nat.le_of_ble_eq_true rfl) (Nat.le_of_ble_eq_true rfl) ?_
      rintro _ _ ⟨rfl, rfl⟩
      by_cases hc4 : r2 ≤ v2
      · rw [if_pos hc4] at h
        refine mv_G_br (tgt := 26) rfl rfl (by decide) (fun _ => ?_) (fun z => absurd hc4 z)
        refine mv_G_run 1 (F' := (27, [some (.ref (kb false 14)), some (.int v1), some (.int v2)], [.int (-1 : Int32)], 0, 0, kjS f I L)) rfl ?_
        obtain rfl := Option.some.inj h
        exact mv_G_ret rfl rfl rfl (Nat.le_refl _) trivial ⟨rfl, rfl⟩
      · rw [if_neg hc4] at h
        refine mv_G_br (tgt := 26) rfl rfl (by decide) (fun z => absurd z hc4) (fun _ => ?_)
        refine mv_G_run 7 (F' := (22, [some (.ref (kb false 14)), some (.int v1), some (.int v2)], [.int ((v1 * (4 : Int32)) + v2), .ref (kb false 16)], 0, 0, kjS f I L)) rfl ?_
        obtain ⟨hi5, h⟩ := mv_bifs h
        refine mv_G_ald rfl rfl (mv_in_ok hi5) ?_
        refine mv_G_run 1 (F' := (27, [some (.ref (kb false 14)), some (.int v1), some (.int v2)], [.int (I (kb false 16) (Int32.toNatClampNeg ((v1 * (4 : Int32)) + v2)))], 0, 0, kjS f I L)) rfl ?_
        obtain rfl := Option.some.inj h
        exact mv_G_ret rfl rfl rfl (Nat.le_refl _) trivial ⟨rfl, rfl⟩
  · unfold kf51 at h
    refine mv_C_in kjM_51 (lc := [some (.ref (kb true 14)), some (.int v1), some (.int v2)]) rfl rfl rfl ?_
    refine mv_G_run 1 (F' := (1, [some (.ref (kb true 14)), some (.int v1), some (.int v2)], [.int v2], 0, 0, kjS f I L)) rfl ?_
    by_cases hc1 : v2 < 0
    · rw [if_pos hc1] at h
      refine mv_G_br (tgt := 26) rfl rfl (by decide) (fun _ => ?_) (fun z => absurd hc1 z)
      refine mv_G_run 1 (F' := (27, [some (.ref (kb true 14)), some (.int v1), some (.int v2)], [.int (-1 : Int32)], 0, 0, kjS f I L)) rfl ?_
      obtain rfl := Option.some.inj h
      exact mv_G_ret rfl rfl rfl (Nat.le_refl _) trivial ⟨rfl, rfl⟩
    · rw [if_neg hc1] at h
      refine mv_G_br (tgt := 26) rfl rfl (by decide) (fun z => absurd z hc1) (fun _ => ?_)
      refine mv_G_run 3 (F' := (7, [some (.ref (kb true 14)), some (.int v1), some (.int v2)], [.int v1, .ref (kb true 14), .int v2], 0, 0, kjS f I L)) rfl ?_
      obtain ⟨r2, hc3, h⟩ := mv_bd h
      refine mv_G_call (r := [.int v2]) (kf50_ok _ _ _ _ _ _ _ hc3) rfl rfl rfl rfl rfl (Nat.le_of_ble_eq_true rfl) (Nat.le_of_ble_eq_true rfl) (Nat.le_of_ble_eq_true rfl) ?_
      rintro _ _ ⟨rfl, rfl⟩
      by_cases hc4 : r2 ≤ v2
      · rw [if_pos hc4] at h
        refine mv_G_br (tgt := 26) rfl rfl (by decide) (fun _ => ?_) (fun z => absurd hc4 z)
        refine mv_G_run 1 (F' := (27, [some (.ref (kb true 14)), some (.int v1), some (.int v2)], [.int (-1 : Int32)], 0, 0, kjS f I L)) rfl ?_
        obtain rfl := Option.some.inj h
        exact mv_G_ret rfl rfl rfl (Nat.le_refl _) trivial ⟨rfl, rfl⟩
      · rw [if_neg hc4] at h
        refine mv_G_br (tgt := 26) rfl rfl (by decide) (fun z => absurd z hc4) (fun _ => ?_)
        refine mv_G_run 7 (F' := (22, [some (.ref (kb true 14)), some (.int v1), some (.int v2)], [.int ((v1 * (4 : Int32)) + v2), .ref (kb true 16)], 0, 0, kjS f I L)) rfl ?_
        obtain ⟨hi5, h⟩ := mv_bifs h
        refine mv_G_ald rfl rfl (mv_in_ok hi5) ?_
        refine mv_G_run 1 (F' := (27, [some (.ref (kb true 14)), some (.int v1), some (.int v2)], [.int (I (kb true 16) (Int32.toNatClampNeg ((v1 * (4 : Int32)) + v2)))], 0, 0, kjS f I L)) rfl ?_
        obtain rfl := Option.some.inj h
        exact mv_G_ret rfl rfl rfl (Nat.le_refl _) trivial ⟨rfl, rfl⟩
/-! KindJudge$Signatures.parameter(II)I on ('b', 10) -/
def kf51a (b : Bool) (I : kjI) (L : kjL) (v1 : Int32) (v2 : Int32) : Option (Int32) :=
  if v2 < 0 then (some (-1 : Int32)) else ((kf50a b I L v1).bind fun r2 => if r2 ≤ v2 then (some (-1 : Int32)) else (bif mv_in ((v1 * (4 : Int32)) + v2) 64 then (some (I (kb b 12) (Int32.toNatClampNeg ((v1 * (4 : Int32)) + v2)))) else none))
set_option maxRecDepth 100000 in
set_option maxHeartbeats 4000000 in
theorem kf51a_ok (f : Bool) (b : Bool) (I : kjI) (L : kjL) (v1 : Int32) (v2 : Int32) (d : Nat) (r : Int32) (h : kf51a b I L v1 v2 = some r) : mv_C kjP kjSta (d + 2) 51 [.ref (kb b 10), .int v1, .int v2] (kjS f I L) (kjQi f I L r) := by
  cases b
  · unfold kf51a at h
    refine mv_C_in kjM_51 (lc := [some (.ref (kb false 10)), some (.int v1), some (.int v2)]) rfl rfl rfl ?_
    refine mv_G_run 1 (F' := (1, [some (.ref (kb false 10)), some (.int v1), some (.int v2)], [.int v2], 0, 0, kjS f I L)) rfl ?_
    by_cases hc1 : v2 < 0
    · rw [if_pos hc1] at h
      refine mv_G_br (tgt := 26) rfl rfl (by decide) (fun _ => ?_) (fun z => absurd hc1 z)
      refine mv_G_run 1 (F' := (27, [some (.ref (kb false 10)), some (.int v1), some (.int v2)], [.int (-1 : Int32)], 0, 0, kjS f I L)) rfl ?_
      obtain rfl := Option.some.inj h
      exact mv_G_ret rfl rfl rfl (Nat.le_refl _) trivial ⟨rfl, rfl⟩
    · rw [if_neg hc1] at h
      refine mv_G_br (tgt := 26) rfl rfl (by decide) (fun z => absurd z hc1) (fun _ => ?_)
      refine mv_G_run 3 (F' := (7, [some (.ref (kb false 10)), some (.int v1), some (.int v2)], [.int v1, .ref (kb false 10), .int v2], 0, 0, kjS f I L)) rfl ?_
      obtain ⟨r2, hc3, h⟩ := mv_bd h
      refine mv_G_call (r := [.int v2]) (kf50a_ok _ _ _ _ _ _ _ hc3) rfl rfl rfl rfl rfl (Nat.le_of_ble_eq_true rfl) (Nat.le_of_ble_eq_true rfl) (Nat.le_of_ble_eq_true rfl) ?_
      rintro _ _ ⟨rfl, rfl⟩
      by_cases hc4 : r2 ≤ v2
      · rw [if_pos hc4] at h
        refine mv_G_br (tgt := 26) rfl rfl (by decide) (fun _ => ?_) (fun z => absurd hc4 z)
        refine mv_G_run 1 (F' := (27, [some (.ref (kb false 10)), some (.int v1), some (.int v2)], [.int (-1 : Int32)], 0, 0, kjS f I L)) rfl ?_
        obtain rfl := Option.some.inj h
        exact mv_G_ret rfl rfl rfl (Nat.le_refl _) trivial ⟨rfl, rfl⟩
      · rw [if_neg hc4] at h
        refine mv_G_br (tgt := 26) rfl rfl (by decide) (fun z => absurd z hc4) (fun _ => ?_)
        refine mv_G_run 7 (F' := (22, [some (.ref (kb false 10)), some (.int v1), some (.int v2)], [.int ((v1 * (4 : Int32)) + v2), .ref (kb false 12)], 0, 0, kjS f I L)) rfl ?_
        obtain ⟨hi5, h⟩ := mv_bifs h
        refine mv_G_ald rfl rfl (mv_in_ok hi5) ?_
        refine mv_G_run 1 (F' := (27, [some (.ref (kb false 10)), some (.int v1), some (.int v2)], [.int (I (kb false 12) (Int32.toNatClampNeg ((v1 * (4 : Int32)) + v2)))], 0, 0, kjS f I L)) rfl ?_
        obtain rfl := Option.some.inj h
        exact mv_G_ret rfl rfl rfl (Nat.le_refl _) trivial ⟨rfl, rfl⟩
  · unfold kf51a at h
    refine mv_C_in kjM_51 (lc := [some (.ref (kb true 10)), some (.int v1), some (.int v2)]) rfl rfl rfl ?_
    refine mv_G_run 1 (F' := (1, [some (.ref (kb true 10)), some (.int v1), some (.int v2)], [.int v2], 0, 0, kjS f I L)) rfl ?_
    by_cases hc1 : v2 < 0
    · rw [if_pos hc1] at h
      refine mv_G_br (tgt := 26) rfl rfl (by decide) (fun _ => ?_) (fun z => absurd hc1 z)
      refine mv_G_run 1 (F' := (27, [some (.ref (kb true 10)), some (.int v1), some (.int v2)], [.int (-1 : Int32)], 0, 0, kjS f I L)) rfl ?_
      obtain rfl := Option.some.inj h
      exact mv_G_ret rfl rfl rfl (Nat.le_refl _) trivial ⟨rfl, rfl⟩
    · rw [if_neg hc1] at h
      refine mv_G_br (tgt := 26) rfl rfl (by decide) (fun z => absurd z hc1) (fun _ => ?_)
      refine mv_G_run 3 (F' := (7, [some (.ref (kb true 10)), some (.int v1), some (.int v2)], [.int v1, .ref (kb true 10), .int v2], 0, 0, kjS f I L)) rfl ?_
      obtain ⟨r2, hc3, h⟩ := mv_bd h
      refine mv_G_call (r := [.int v2]) (kf50a_ok _ _ _ _ _ _ _ hc3) rfl rfl rfl rfl rfl (Nat.le_of_ble_eq_true rfl) (Nat.le_of_ble_eq_true rfl) (Nat.le_of_ble_eq_true rfl) ?_
      rintro _ _ ⟨rfl, rfl⟩
      by_cases hc4 : r2 ≤ v2
      · rw [if_pos hc4] at h
        refine mv_G_br (tgt := 26) rfl rfl (by decide) (fun _ => ?_) (fun z => absurd hc4 z)
        refine mv_G_run 1 (F' := (27, [some (.ref (kb true 10)), some (.int v1), some (.int v2)], [.int (-1 : Int32)], 0, 0, kjS f I L)) rfl ?_
        obtain rfl := Option.some.inj h
        exact mv_G_ret rfl rfl rfl (Nat.le_refl _) trivial ⟨rfl, rfl⟩
      · rw [if_neg hc4] at h
        refine mv_G_br (tgt := 26) rfl rfl (by decide) (fun z => absurd z hc4) (fun _ => ?_)
        refine mv_G_run 7 (F' := (22, [some (.ref (kb true 10)), some (.int v1), some (.int v2)], [.int ((v1 * (4 : Int32)) + v2), .ref (kb true 12)], 0, 0, kjS f I L)) rfl ?_
        obtain ⟨hi5, h⟩ := mv_bifs h
        refine mv_G_ald rfl rfl (mv_in_ok hi5) ?_
        refine mv_G_run 1 (F' := (27, [some (.ref (kb true 10)), some (.int v1), some (.int v2)], [.int (I (kb true 12) (Int32.toNatClampNeg ((v1 * (4 : Int32)) + v2)))], 0, 0, kjS f I L)) rfl ?_
        obtain rfl := Option.some.inj h
        exact mv_G_ret rfl rfl rfl (Nat.le_refl _) trivial ⟨rfl, rfl⟩
/-! KindJudge$Layout.isGoodFor(III)Z on ('b', 4) -/
def kf28_62 (b : Bool) (N : Nat) (I : kjI) (L : kjL) : Nat → Int32 → Int32 → Int32 → Int32 → Int32 → Option (Int32)
  | 0, _, _, _, _, _ => none
  | n + 1, v1, v2, v3, v4, v5 => if v4 ≤ v5 then ((kf51 b I L v1 (0 : Int32)).bind fun r2 => (kf41 b I L v2 (r2 - (16 : Int32))).bind fun r4 => if r4 = 0 ∨ r4 = 1 then some r4 else none) else ((kf51 b I L v1 (v5 + (1 : Int32))).bind fun r7 => (kf51a b I L v3 v5).bind fun r9 => if r7 = r9 then ((fun v1 v2 v3 v4 v5 => kf28_62 b N I L n v1 v2 v3 v4 v5) v1 v2 v3 v4 (v5 + (1 : Int32))) else (some (0 : Int32)))
set_option maxRecDepth 100000 in
set_option maxHeartbeats 4000000 in
theorem kf28_62_ok (f : Bool) (b : Bool) (N : Nat) (I : kjI) (L : kjL) (d : Nat)  : ∀ (n : Nat) (v1 : Int32) (v2 : Int32) (v3 : Int32) (v4 : Int32) (v5 : Int32) (r : Int32), kf28_62 b N I L n v1 v2 v3 v4 v5 = some r → mv_G kjP kjSta (mv_C kjP kjSta (d + 2)) kjM_28 (kjQi f I L r) (62, [some (.ref (kb b 4)), some (.int v1), some (.int v2), some (.int v3), some (.int v4), some (.int v5)], [], 0, 0, kjS f I L) := by
  cases b
  · intro n
    induction n with
    | zero => intro v1 v2 v3 v4 v5 r h; cases h
    | succ n ih =>
      have hk62 := ih
      intro v1 v2 v3 v4 v5 r h
      unfold kf28_62 at h
      refine mv_G_run 2 (F' := (66, [some (.ref (kb false 4)), some (.int v1), some (.int v2), some (.int v3), some (.int v4), some (.int v5)], [.int v4, .int v5], 0, 0, kjS f I L)) rfl ?_
      by_cases hc1 : v4 ≤ v5
      · rw [if_pos hc1] at h
        refine mv_G_br (tgt := 102) rfl rfl (by decide) (fun _ => ?_) (fun z => absurd hc1 z)
        refine mv_G_run 7 (F' := (113, [some (.ref (kb false 4)), some (.int v1), some (.int v2), some (.int v3), some (.int v4), some (.int v5)], [.int (0 : Int32), .int v1, .ref (kb false 14), .int v2, .ref (kb false 5)], 0, 0, kjS f I L)) rfl ?_
        obtain ⟨r2, hc3, h⟩ := mv_bd h
        refine mv_G_call (r := [.int v2, .ref (kb false 5)]) (kf51_ok _ _ _ _ _ _ _ _ hc3) rfl rfl rfl rfl rfl (Nat.le_of_ble_eq_true rfl) (Nat.le_of_ble_eq_true rfl) (Nat.le_of_ble_eq_true rfl) ?_
        rintro _ _ ⟨rfl, rfl⟩
        refine mv_G_run 2 (F' := (119, [some (.ref (kb false 4)), some (.int v1), some (.int v2), some (.int v3), some (.int v4), some (.int v5)], [.int (r2 - (16 : Int32)), .int v2, .ref (kb false 5)], 0, 0, kjS f I L)) rfl ?_
        obtain ⟨r4, hc5, h⟩ := mv_bd h
        refine mv_G_call (r := []) (kf41_ok _ _ _ _ _ _ _ _ hc5) rfl rfl rfl rfl rfl (Nat.le_of_ble_eq_true rfl) (Nat.le_of_ble_eq_true rfl) (Nat.le_of_ble_eq_true rfl) ?_
        rintro _ _ ⟨rfl, rfl⟩
        obtain ⟨hb6, h⟩ := mv_ifs h
        obtain rfl := Option.some.inj h
        exact mv_G_ret rfl rfl rfl (Nat.le_refl _) hb6 ⟨rfl, rfl⟩
      · rw [if_neg hc1] at h
        refine mv_G_br (tgt := 102) rfl rfl (by decide) (fun z => absurd z hc1) (fun _ => ?_)
        refine mv_G_run 6 (F' := (78, [some (.ref (kb false 4)), some (.int v1), some (.int v2), some (.int v3), some (.int v4), some (.int v5)], [.int (v5 + (1 : Int32)), .int v1, .ref (kb false 14)], 0, 0, kjS f I L)) rfl ?_
        obtain ⟨r7, hc8, h⟩ := mv_bd h
        refine mv_G_call (r := []) (kf51_ok _ _ _ _ _ _ _ _ hc8) rfl rfl rfl rfl rfl (Nat.le_of_ble_eq_true rfl) (Nat.le_of_ble_eq_true rfl) (Nat.le_of_ble_eq_true rfl) ?_
        rintro _ _ ⟨rfl, rfl⟩
        refine mv_G_run 4 (F' := (88, [some (.ref (kb false 4)), some (.int v1), some (.int v2), some (.int v3), some (.int v4), some (.int v5)], [.int v5, .int v3, .ref (kb false 10), .int r7], 0, 0, kjS f I L)) rfl ?_
        obtain ⟨r9, hc10, h⟩ := mv_bd h
        refine mv_G_call (r := [.int r7]) (kf51a_ok _ _ _ _ _ _ _ _ hc10) rfl rfl rfl rfl rfl (Nat.le_of_ble_eq_true rfl) (Nat.le_of_ble_eq_true rfl) (Nat.le_of_ble_eq_true rfl) ?_
        rintro _ _ ⟨rfl, rfl⟩
        by_cases hc11 : r7 = r9
        · rw [if_pos hc11] at h
          refine mv_G_br (tgt := 96) rfl rfl (by decide) (fun _ => ?_) (fun z => absurd hc11 z)
          refine mv_G_run 2 (F' := (62, [some (.ref (kb false 4)), some (.int v1), some (.int v2), some (.int v3), some (.int v4), some (.int (v5 + (1 : Int32)))], [], 0, 0, kjS f I L)) rfl ?_
          exact hk62 v1 v2 v3 v4 (v5 + (1 : Int32)) _ h
        · rw [if_neg hc11] at h
          refine mv_G_br (tgt := 96) rfl rfl (by decide) (fun z => absurd z hc11) (fun _ => ?_)
          refine mv_G_run 1 (F' := (95, [some (.ref (kb false 4)), some (.int v1), some (.int v2), some (.int v3), some (.int v4), some (.int v5)], [.int (0 : Int32)], 0, 0, kjS f I L)) rfl ?_
          obtain rfl := Option.some.inj h
          exact mv_G_ret rfl rfl rfl (Nat.le_refl _) (Or.inl rfl) ⟨rfl, rfl⟩
  · intro n
    induction n with
    | zero => intro v1 v2 v3 v4 v5 r h; cases h
    | succ n ih =>
      have hk62 := ih
      intro v1 v2 v3 v4 v5 r h
      unfold kf28_62 at h
      refine mv_G_run 2 (F' := (66, [some (.ref (kb true 4)), some (.int v1), some (.int v2), some (.int v3), some (.int v4), some (.int v5)], [.int v4, .int v5], 0, 0, kjS f I L)) rfl ?_
      by_cases hc1 : v4 ≤ v5
      · rw [if_pos hc1] at h
        refine mv_G_br (tgt := 102) rfl rfl (by decide) (fun _ => ?_) (fun z => absurd hc1 z)
        refine mv_G_run 7 (F' := (113, [some (.ref (kb true 4)), some (.int v1), some (.int v2), some (.int v3), some (.int v4), some (.int v5)], [.int (0 : Int32), .int v1, .ref (kb true 14), .int v2, .ref (kb true 5)], 0, 0, kjS f I L)) rfl ?_
        obtain ⟨r2, hc3, h⟩ := mv_bd h
        refine mv_G_call (r := [.int v2, .ref (kb true 5)]) (kf51_ok _ _ _ _ _ _ _ _ hc3) rfl rfl rfl rfl rfl (Nat.le_of_ble_eq_true rfl) (Nat.le_of_ble_eq_true rfl) (Nat.le_of_ble_eq_true rfl) ?_
        rintro _ _ ⟨rfl, rfl⟩
        refine mv_G_run 2 (F' := (119, [some (.ref (kb true 4)), some (.int v1), some (.int v2), some (.int v3), some (.int v4), some (.int v5)], [.int (r2 - (16 : Int32)), .int v2, .ref (kb true 5)], 0, 0, kjS f I L)) rfl ?_
        obtain ⟨r4, hc5, h⟩ := mv_bd h
        refine mv_G_call (r := []) (kf41_ok _ _ _ _ _ _ _ _ hc5) rfl rfl rfl rfl rfl (Nat.le_of_ble_eq_true rfl) (Nat.le_of_ble_eq_true rfl) (Nat.le_of_ble_eq_true rfl) ?_
        rintro _ _ ⟨rfl, rfl⟩
        obtain ⟨hb6, h⟩ := mv_ifs h
        obtain rfl := Option.some.inj h
        exact mv_G_ret rfl rfl rfl (Nat.le_refl _) hb6 ⟨rfl, rfl⟩
      · rw [if_neg hc1] at h
        refine mv_G_br (tgt := 102) rfl rfl (by decide) (fun z => absurd z hc1) (fun _ => ?_)
        refine mv_G_run 6 (F' := (78, [some (.ref (kb true 4)), some (.int v1), some (.int v2), some (.int v3), some (.int v4), some (.int v5)], [.int (v5 + (1 : Int32)), .int v1, .ref (kb true 14)], 0, 0, kjS f I L)) rfl ?_
        obtain ⟨r7, hc8, h⟩ := mv_bd h
        refine mv_G_call (r := []) (kf51_ok _ _ _ _ _ _ _ _ hc8) rfl rfl rfl rfl rfl (Nat.le_of_ble_eq_true rfl) (Nat.le_of_ble_eq_true rfl) (Nat.le_of_ble_eq_true rfl) ?_
        rintro _ _ ⟨rfl, rfl⟩
        refine mv_G_run 4 (F' := (88, [some (.ref (kb true 4)), some (.int v1), some (.int v2), some (.int v3), some (.int v4), some (.int v5)], [.int v5, .int v3, .ref (kb true 10), .int r7], 0, 0, kjS f I L)) rfl ?_
        obtain ⟨r9, hc10, h⟩ := mv_bd h
        refine mv_G_call (r := [.int r7]) (kf51a_ok _ _ _ _ _ _ _ _ hc10) rfl rfl rfl rfl rfl (Nat.le_of_ble_eq_true rfl) (Nat.le_of_ble_eq_true rfl) (Nat.le_of_ble_eq_true rfl) ?_
        rintro _ _ ⟨rfl, rfl⟩
        by_cases hc11 : r7 = r9
        · rw [if_pos hc11] at h
          refine mv_G_br (tgt := 96) rfl rfl (by decide) (fun _ => ?_) (fun z => absurd hc11 z)
          refine mv_G_run 2 (F' := (62, [some (.ref (kb true 4)), some (.int v1), some (.int v2), some (.int v3), some (.int v4), some (.int (v5 + (1 : Int32)))], [], 0, 0, kjS f I L)) rfl ?_
          exact hk62 v1 v2 v3 v4 (v5 + (1 : Int32)) _ h
        · rw [if_neg hc11] at h
          refine mv_G_br (tgt := 96) rfl rfl (by decide) (fun z => absurd z hc11) (fun _ => ?_)
          refine mv_G_run 1 (F' := (95, [some (.ref (kb true 4)), some (.int v1), some (.int v2), some (.int v3), some (.int v4), some (.int v5)], [.int (0 : Int32)], 0, 0, kjS f I L)) rfl ?_
          obtain rfl := Option.some.inj h
          exact mv_G_ret rfl rfl rfl (Nat.le_refl _) (Or.inl rfl) ⟨rfl, rfl⟩
def kf28 (b : Bool) (N : Nat) (I : kjI) (L : kjL) (v1 : Int32) (v2 : Int32) (v3 : Int32) : Option (Int32) :=
  (kf50a b I L v3).bind fun r1 => (kf49 b I L v1).bind fun r3 => if r3 = 0 then (some (0 : Int32)) else ((kf50 b I L v1).bind fun r6 => if r6 = (r1 + (1 : Int32)) then ((kf52 b I L v1).bind fun r9 => (kf52a b I L v3).bind fun r11 => if r9 = r11 then (kf28_62 b N I L N v1 v2 v3 r1 (0 : Int32)) else (some (0 : Int32))) else (some (0 : Int32)))
set_option maxRecDepth 100000 in
set_option maxHeartbeats 4000000 in
theorem kf28_ok (f : Bool) (b : Bool) (N : Nat) (I : kjI) (L : kjL) (v1 : Int32) (v2 : Int32) (v3 : Int32) (d : Nat) (r : Int32) (h : kf28 b N I L v1 v2 v3 = some r) : mv_C kjP kjSta (d + 3) 28 [.ref (kb b 4), .int v1, .int v2, .int v3] (kjS f I L) (kjQi f I L r) := by
  cases b
  · unfold kf28 at h
    refine mv_C_in kjM_28 (lc := [some (.ref (kb false 4)), some (.int v1), some (.int v2), some (.int v3), none, none]) rfl rfl rfl ?_
    refine mv_G_run 3 (F' := (5, [some (.ref (kb false 4)), some (.int v1), some (.int v2), some (.int v3), none, none], [.int v3, .ref (kb false 10)], 0, 0, kjS f I L)) rfl ?_
    obtain ⟨r1, hc2, h⟩ := mv_bd h
    refine mv_G_call (r := []) (kf50a_ok _ _ _ _ _ _ _ hc2) rfl rfl rfl rfl rfl (Nat.le_of_ble_eq_true rfl) (Nat.le_of_ble_eq_true rfl) (Nat.le_of_ble_eq_true rfl) ?_
    rintro _ _ ⟨rfl, rfl⟩
    refine mv_G_run 4 (F' := (15, [some (.ref (kb false 4)), some (.int v1), some (.int v2), some (.int v3), some (.int r1), none], [.int v1, .ref (kb false 14)], 0, 0, kjS f I L)) rfl ?_
    obtain ⟨r3, hc4, h⟩ := mv_bd h
    refine mv_G_call (r := []) (kf49_ok _ _ _ _ _ _ _ hc4) rfl rfl rfl rfl rfl (Nat.le_of_ble_eq_true rfl) (Nat.le_of_ble_eq_true rfl) (Nat.le_of_ble_eq_true rfl) ?_
    rintro _ _ ⟨rfl, rfl⟩
    by_cases hc5 : r3 = 0
    · rw [if_pos hc5] at h
      refine mv_G_br (tgt := 36) rfl rfl (by decide) (fun _ => ?_) (fun z => absurd hc5 z)
      refine mv_G_run 1 (F' := (37, [some (.ref (kb false 4)), some (.int v1), some (.int v2), some (.int v3), some (.int r1), none], [.int (0 : Int32)], 0, 0, kjS f I L)) rfl ?_
      obtain rfl := Option.some.inj h
      exact mv_G_ret rfl rfl rfl (Nat.le_refl _) (Or.inl rfl) ⟨rfl, rfl⟩
    · rw [if_neg hc5] at h
      refine mv_G_br (tgt := 36) rfl rfl (by decide) (fun z => absurd z hc5) (fun _ => ?_)
      refine mv_G_run 3 (F' := (26, [some (.ref (kb false 4)), some (.int v1), some (.int v2), some (.int v3), some (.int r1), none], [.int v1, .ref (kb false 14)], 0, 0, kjS f I L)) rfl ?_
      obtain ⟨r6, hc7, h⟩ := mv_bd h
      refine mv_G_call (r := []) (kf50_ok _ _ _ _ _ _ _ hc7) rfl rfl rfl rfl rfl (Nat.le_of_ble_eq_true rfl) (Nat.le_of_ble_eq_true rfl) (Nat.le_of_ble_eq_true rfl) ?_
      rintro _ _ ⟨rfl, rfl⟩
      refine mv_G_run 3 (F' := (33, [some (.ref (kb false 4)), some (.int v1), some (.int v2), some (.int v3), some (.int r1), none], [.int (r1 + (1 : Int32)), .int r6], 0, 0, kjS f I L)) rfl ?_
      by_cases hc8 : r6 = (r1 + (1 : Int32))
      · rw [if_pos hc8] at h
        refine mv_G_br (tgt := 38) rfl rfl (by decide) (fun _ => ?_) (fun z => absurd hc8 z)
        refine mv_G_run 3 (F' := (43, [some (.ref (kb false 4)), some (.int v1), some (.int v2), some (.int v3), some (.int r1), none], [.int v1, .ref (kb false 14)], 0, 0, kjS f I L)) rfl ?_
        obtain ⟨r9, hc10, h⟩ := mv_bd h
        refine mv_G_call (r := []) (kf52_ok _ _ _ _ _ _ _ hc10) rfl rfl rfl rfl rfl (Nat.le_of_ble_eq_true rfl) (Nat.le_of_ble_eq_true rfl) (Nat.le_of_ble_eq_true rfl) ?_
        rintro _ _ ⟨rfl, rfl⟩
        refine mv_G_run 3 (F' := (51, [some (.ref (kb false 4)), some (.int v1), some (.int v2), some (.int v3), some (.int r1), none], [.int v3, .ref (kb false 10), .int r9], 0, 0, kjS f I L)) rfl ?_
        obtain ⟨r11, hc12, h⟩ := mv_bd h
        refine mv_G_call (r := [.int r9]) (kf52a_ok _ _ _ _ _ _ _ hc12) rfl rfl rfl rfl rfl (Nat.le_of_ble_eq_true rfl) (Nat.le_of_ble_eq_true rfl) (Nat.le_of_ble_eq_true rfl) ?_
        rintro _ _ ⟨rfl, rfl⟩
        by_cases hc13 : r9 = r11
        · rw [if_pos hc13] at h
          refine mv_G_br (tgt := 59) rfl rfl (by decide) (fun _ => ?_) (fun z => absurd hc13 z)
          refine mv_G_run 2 (F' := (62, [some (.ref (kb false 4)), some (.int v1), some (.int v2), some (.int v3), some (.int r1), some (.int (0 : Int32))], [], 0, 0, kjS f I L)) rfl ?_
          exact kf28_62_ok _ _ _ _ _ d _ _ _ _ _ _ _ h
        · rw [if_neg hc13] at h
          refine mv_G_br (tgt := 59) rfl rfl (by decide) (fun z => absurd z hc13) (fun _ => ?_)
          refine mv_G_run 1 (F' := (58, [some (.ref (kb false 4)), some (.int v1), some (.int v2), some (.int v3), some (.int r1), none], [.int (0 : Int32)], 0, 0, kjS f I L)) rfl ?_
          obtain rfl := Option.some.inj h
          exact mv_G_ret rfl rfl rfl (Nat.le_refl _) (Or.inl rfl) ⟨rfl, rfl⟩
      · rw [if_neg hc8] at h
        refine mv_G_br (tgt := 38) rfl rfl (by decide) (fun z => absurd z hc8) (fun _ => ?_)
        refine mv_G_run 1 (F' := (37, [some (.ref (kb false 4)), some (.int v1), some (.int v2), some (.int v3), some (.int r1), none], [.int (0 : Int32)], 0, 0, kjS f I L)) rfl ?_
        obtain rfl := Option.some.inj h
        exact mv_G_ret rfl rfl rfl (Nat.le_refl _) (Or.inl rfl) ⟨rfl, rfl⟩
  · unfold kf28 at h
    refine mv_C_in kjM_28 (lc := [some (.ref (kb true 4)), some (.int v1), some (.int v2), some (.int v3), none, none]) rfl rfl rfl ?_
    refine mv_G_run 3 (F' := (5, [some (.ref (kb true 4)), some (.int v1), some (.int v2), some (.int v3), none, none], [.int v3, .ref (kb true 10)], 0, 0, kjS f I L)) rfl ?_
    obtain ⟨r1, hc2, h⟩ := mv_bd h
    refine mv_G_call (r := []) (kf50a_ok _ _ _ _ _ _ _ hc2) rfl rfl rfl rfl rfl (Nat.le_of_ble_eq_true rfl) (Nat.le_of_ble_eq_true rfl) (Nat.le_of_ble_eq_true rfl) ?_
    rintro _ _ ⟨rfl, rfl⟩
    refine mv_G_run 4 (F' := (15, [some (.ref (kb true 4)), some (.int v1), some (.int v2), some (.int v3), some (.int r1), none], [.int v1, .ref (kb true 14)], 0, 0, kjS f I L)) rfl ?_
    obtain ⟨r3, hc4, h⟩ := mv_bd h
    refine mv_G_call (r := []) (kf49_ok _ _ _ _ _ _ _ hc4) rfl rfl rfl rfl rfl (Nat.le_of_ble_eq_true rfl) (Nat.le_of_ble_eq_true rfl) (Nat.le_of_ble_eq_true rfl) ?_
    rintro _ _ ⟨rfl, rfl⟩
    by_cases hc5 : r3 = 0
    · rw [if_pos hc5] at h
      refine mv_G_br (tgt := 36) rfl rfl (by decide) (fun _ => ?_) (fun z => absurd hc5 z)
      refine mv_G_run 1 (F' := (37, [some (.ref (kb true 4)), some (.int v1), some (.int v2), some (.int v3), some (.int r1), none], [.int (0 : Int32)], 0, 0, kjS f I L)) rfl ?_
      obtain rfl := Option.some.inj h
      exact mv_G_ret rfl rfl rfl (Nat.le_refl _) (Or.inl rfl) ⟨rfl, rfl⟩
    · rw [if_neg hc5] at h
      refine mv_G_br (tgt := 36) rfl rfl (by decide) (fun z => absurd z hc5) (fun _ => ?_)
      refine mv_G_run 3 (F' := (26, [some (.ref (kb true 4)), some (.int v1), some (.int v2), some (.int v3), some (.int r1), none], [.int v1, .ref (kb true 14)], 0, 0, kjS f I L)) rfl ?_
      obtain ⟨r6, hc7, h⟩ := mv_bd h
      refine mv_G_call (r := []) (kf50_ok _ _ _ _ _ _ _ hc7) rfl rfl rfl rfl rfl (Nat.le_of_ble_eq_true rfl) (Nat.le_of_ble_eq_true rfl) (Nat.le_of_ble_eq_true rfl) ?_
      rintro _ _ ⟨rfl, rfl⟩
      refine mv_G_run 3 (F' := (33, [some (.ref (kb true 4)), some (.int v1), some (.int v2), some (.int v3), some (.int r1), none], [.int (r1 + (1 : Int32)), .int r6], 0, 0, kjS f I L)) rfl ?_
      by_cases hc8 : r6 = (r1 + (1 : Int32))
      · rw [if_pos hc8] at h
        refine mv_G_br (tgt := 38) rfl rfl (by decide) (fun _ => ?_) (fun z => absurd hc8 z)
        refine mv_G_run 3 (F' := (43, [some (.ref (kb true 4)), some (.int v1), some (.int v2), some (.int v3), some (.int r1), none], [.int v1, .ref (kb true 14)], 0, 0, kjS f I L)) rfl ?_
        obtain ⟨r9, hc10, h⟩ := mv_bd h
        refine mv_G_call (r := []) (kf52_ok _ _ _ _ _ _ _ hc10) rfl rfl rfl rfl rfl (Nat.le_of_ble_eq_true rfl) (Nat.le_of_ble_eq_true rfl) (Nat.le_of_ble_eq_true rfl) ?_
        rintro _ _ ⟨rfl, rfl⟩
        refine mv_G_run 3 (F' := (51, [some (.ref (kb true 4)), some (.int v1), some (.int v2), some (.int v3), some (.int r1), none], [.int v3, .ref (kb true 10), .int r9], 0, 0, kjS f I L)) rfl ?_
        obtain ⟨r11, hc12, h⟩ := mv_bd h
        refine mv_G_call (r := [.int r9]) (kf52a_ok _ _ _ _ _ _ _ hc12) rfl rfl rfl rfl rfl (Nat.le_of_ble_eq_true rfl) (Nat.le_of_ble_eq_true rfl) (Nat.le_of_ble_eq_true rfl) ?_
        rintro _ _ ⟨rfl, rfl⟩
        by_cases hc13 : r9 = r11
        · rw [if_pos hc13] at h
          refine mv_G_br (tgt := 59) rfl rfl (by decide) (fun _ => ?_) (fun z => absurd hc13 z)
          refine mv_G_run 2 (F' := (62, [some (.ref (kb true 4)), some (.int v1), some (.int v2), some (.int v3), some (.int r1), some (.int (0 : Int32))], [], 0, 0, kjS f I L)) rfl ?_
          exact kf28_62_ok _ _ _ _ _ d _ _ _ _ _ _ _ h
        · rw [if_neg hc13] at h
          refine mv_G_br (tgt := 59) rfl rfl (by decide) (fun z => absurd z hc13) (fun _ => ?_)
          refine mv_G_run 1 (F' := (58, [some (.ref (kb true 4)), some (.int v1), some (.int v2), some (.int v3), some (.int r1), none], [.int (0 : Int32)], 0, 0, kjS f I L)) rfl ?_
          obtain rfl := Option.some.inj h
          exact mv_G_ret rfl rfl rfl (Nat.le_refl _) (Or.inl rfl) ⟨rfl, rfl⟩
      · rw [if_neg hc8] at h
        refine mv_G_br (tgt := 38) rfl rfl (by decide) (fun z => absurd z hc8) (fun _ => ?_)
        refine mv_G_run 1 (F' := (37, [some (.ref (kb true 4)), some (.int v1), some (.int v2), some (.int v3), some (.int r1), none], [.int (0 : Int32)], 0, 0, kjS f I L)) rfl ?_
        obtain rfl := Option.some.inj h
        exact mv_G_ret rfl rfl rfl (Nat.le_refl _) (Or.inl rfl) ⟨rfl, rfl⟩
/-! KindJudge$Layout.readTableOf(I)V on ('b', 4) -/
def kf27_136 (b : Bool) (N : Nat) (k11 : Int32 → Int32 → Int32 → kjI → kjL → Option (kjI × kjL)) (v1 : Int32) (v2 : Int32) (v3 : Int32) (I : kjI) (L : kjL) : Option (kjI × kjL) :=
  k11 v1 v2 (v3 + (1 : Int32)) I L
set_option maxRecDepth 100000 in
set_option maxHeartbeats 4000000 in
theorem kf27_136_ok (f : Bool) (b : Bool) (N : Nat) (k11 : Int32 → Int32 → Int32 → kjI → kjL → Option (kjI × kjL)) (d : Nat) (hk11 : ∀ (v1 : Int32) (v2 : Int32) (v3 : Int32) (I : kjI) (L : kjL) (r : kjI × kjL), k11 v1 v2 v3 I L = some r → mv_G kjP kjSta (mv_C kjP kjSta (d + 3)) kjM_27 (kjQwv f r) (11, [some (.ref (kb b 4)), some (.int v1), some (.int v2), some (.int v3), none, none], [], 0, 0, kjS f I L)) (v1 : Int32) (v2 : Int32) (v3 : Int32) (I : kjI) (L : kjL) (r : kjI × kjL) (h : kf27_136 b N k11 v1 v2 v3 I L = some r) : mv_G kjP kjSta (mv_C kjP kjSta (d + 3)) kjM_27 (kjQwv f r) (136, [some (.ref (kb b 4)), some (.int v1), some (.int v2), some (.int v3), none, none], [], 0, 0, kjS f I L) := by
  cases b
  · unfold kf27_136 at h
    refine mv_G_run 2 (F' := (11, [some (.ref (kb false 4)), some (.int v1), some (.int v2), some (.int (v3 + (1 : Int32))), none, none], [], 0, 0, kjS f I L)) rfl ?_
    exact hk11 v1 v2 (v3 + (1 : Int32)) I L _ h
  · unfold kf27_136 at h
    refine mv_G_run 2 (F' := (11, [some (.ref (kb true 4)), some (.int v1), some (.int v2), some (.int (v3 + (1 : Int32))), none, none], [], 0, 0, kjS f I L)) rfl ?_
    exact hk11 v1 v2 (v3 + (1 : Int32)) I L _ h
def kf27_135 (b : Bool) (N : Nat) (k11 : Int32 → Int32 → Int32 → kjI → kjL → Option (kjI × kjL)) (v1 : Int32) (v2 : Int32) (v3 : Int32) (s1 : Int32) (s2 : Int32) (I : kjI) (L : kjL) : Option (kjI × kjL) :=
  bif mv_in s1 64 then (kf27_136 b N k11 v1 v2 v3 (mv_up I (kb b 22) (Int32.toNatClampNeg s1) s2) L) else none
set_option maxRecDepth 100000 in
set_option maxHeartbeats 4000000 in
theorem kf27_135_ok (f : Bool) (b : Bool) (N : Nat) (k11 : Int32 → Int32 → Int32 → kjI → kjL → Option (kjI × kjL)) (d : Nat) (hk11 : ∀ (v1 : Int32) (v2 : Int32) (v3 : Int32) (I : kjI) (L : kjL) (r : kjI × kjL), k11 v1 v2 v3 I L = some r → mv_G kjP kjSta (mv_C kjP kjSta (d + 3)) kjM_27 (kjQwv f r) (11, [some (.ref (kb b 4)), some (.int v1), some (.int v2), some (.int v3), none, none], [], 0, 0, kjS f I L)) (v1 : Int32) (v2 : Int32) (v3 : Int32) (s1 : Int32) (s2 : Int32) (I : kjI) (L : kjL) (r : kjI × kjL) (h : kf27_135 b N k11 v1 v2 v3 s1 s2 I L = some r) : mv_G kjP kjSta (mv_C kjP kjSta (d + 3)) kjM_27 (kjQwv f r) (135, [some (.ref (kb b 4)), some (.int v1), some (.int v2), some (.int v3), none, none], [.int s2, .int s1, .ref (kb b 22)], 0, 0, kjS f I L) := by
  cases b
  · unfold kf27_135 at h
    obtain ⟨hi1, h⟩ := mv_bifs h
    refine mv_G_ast rfl rfl (mv_in_ok hi1) ?_
    exact kf27_136_ok _ _ _ _ d hk11 _ _ _ _ _ _ h
  · unfold kf27_135 at h
    obtain ⟨hi1, h⟩ := mv_bifs h
    refine mv_G_ast rfl rfl (mv_in_ok hi1) ?_
    exact kf27_136_ok _ _ _ _ d hk11 _ _ _ _ _ _ h
def kf27_106 (b : Bool) (N : Nat) (k11 : Int32 → Int32 → Int32 → kjI → kjL → Option (kjI × kjL)) (v1 : Int32) (v2 : Int32) (v3 : Int32) (I : kjI) (L : kjL) : Option (kjI × kjL) :=
  if 0 ≤ v2 then (bif mv_in ((v2 * (8 : Int32)) + v3) 64 then (kf27_135 b N k11 v1 v2 v3 ((v1 * (8 : Int32)) + v3) (I (kb b 22) (Int32.toNatClampNeg ((v2 * (8 : Int32)) + v3))) I L) else none) else (kf27_135 b N k11 v1 v2 v3 ((v1 * (8 : Int32)) + v3) (-1 : Int32) I L)
set_option maxRecDepth 100000 in
set_option maxHeartbeats 4000000 in
theorem kf27_106_ok (f : Bool) (b : Bool) (N : Nat) (k11 : Int32 → Int32 → Int32 → kjI → kjL → Option (kjI × kjL)) (d : Nat) (hk11 : ∀ (v1 : Int32) (v2 : Int32) (v3 : Int32) (I : kjI) (L : kjL) (r : kjI × kjL), k11 v1 v2 v3 I L = some r → mv_G kjP kjSta (mv_C kjP kjSta (d + 3)) kjM_27 (kjQwv f r) (11, [some (.ref (kb b 4)), some (.int v1), some (.int v2), some (.int v3), none, none], [], 0, 0, kjS f I L)) (v1 : Int32) (v2 : Int32) (v3 : Int32) (I : kjI) (L : kjL) (r : kjI × kjL) (h : kf27_106 b N k11 v1 v2 v3 I L = some r) : mv_G kjP kjSta (mv_C kjP kjSta (d + 3)) kjM_27 (kjQwv f r) (106, [some (.ref (kb b 4)), some (.int v1), some (.int v2), some (.int v3), none, none], [], 0, 0, kjS f I L) := by
  cases b
  · unfold kf27_106 at h
    refine mv_G_run 8 (F' := (117, [some (.ref (kb false 4)), some (.int v1), some (.int v2), some (.int v3), none, none], [.int v2, .int ((v1 * (8 : Int32)) + v3), .ref (kb false 22)], 0, 0, kjS f I L)) rfl ?_
    by_cases hc1 : 0 ≤ v2
    · rw [if_pos hc1] at h
      refine mv_G_br (tgt := 124) rfl rfl (by decide) (fun _ => ?_) (fun z => absurd hc1 z)
      refine mv_G_run 7 (F' := (134, [some (.ref (kb false 4)), some (.int v1), some (.int v2), some (.int v3), none, none], [.int ((v2 * (8 : Int32)) + v3), .ref (kb false 22), .int ((v1 * (8 : Int32)) + v3), .ref (kb false 22)], 0, 0, kjS f I L)) rfl ?_
      obtain ⟨hi2, h⟩ := mv_bifs h
      refine mv_G_ald rfl rfl (mv_in_ok hi2) ?_
      exact kf27_135_ok _ _ _ _ d hk11 _ _ _ _ _ _ _ _ h
    · rw [if_neg hc1] at h
      refine mv_G_br (tgt := 124) rfl rfl (by decide) (fun z => absurd z hc1) (fun _ => ?_)
      refine mv_G_run 2 (F' := (135, [some (.ref (kb false 4)), some (.int v1), some (.int v2), some (.int v3), none, none], [.int (-1 : Int32), .int ((v1 * (8 : Int32)) + v3), .ref (kb false 22)], 0, 0, kjS f I L)) rfl ?_
      exact kf27_135_ok _ _ _ _ d hk11 _ _ _ _ _ _ _ _ h
  · unfold kf27_106 at h
    refine mv_G_run 8 (F' := (117, [some (.ref (kb true 4)), some (.int v1), some (.int v2), some (.int v3), none, none], [.int v2, .int ((v1 * (8 : Int32)) + v3), .ref (kb true 22)], 0, 0, kjS f I L)) rfl ?_
    by_cases hc1 : 0 ≤ v2
    · rw [if_pos hc1] at h
      refine mv_G_br (tgt := 124) rfl rfl (by decide) (fun _ => ?_) (fun z => absurd hc1 z)
      refine mv_G_run 7 (F' := (134, [some (.ref (kb true 4)), some (.int v1), some (.int v2), some (.int v3), none, none], [.int ((v2 * (8 : Int32)) + v3), .ref (kb true 22), .int ((v1 * (8 : Int32)) + v3), .ref (kb true 22)], 0, 0, kjS f I L)) rfl ?_
      obtain ⟨hi2, h⟩ := mv_bifs h
      refine mv_G_ald rfl rfl (mv_in_ok hi2) ?_
      exact kf27_135_ok _ _ _ _ d hk11 _ _ _ _ _ _ _ _ h
    · rw [if_neg hc1] at h
      refine mv_G_br (tgt := 124) rfl rfl (by decide) (fun z => absurd z hc1) (fun _ => ?_)
      refine mv_G_run 2 (F' := (135, [some (.ref (kb true 4)), some (.int v1), some (.int v2), some (.int v3), none, none], [.int (-1 : Int32), .int ((v1 * (8 : Int32)) + v3), .ref (kb true 22)], 0, 0, kjS f I L)) rfl ?_
      exact kf27_135_ok _ _ _ _ d hk11 _ _ _ _ _ _ _ _ h
def kf27_73 (b : Bool) (N : Nat) (k11 : Int32 → Int32 → Int32 → kjI → kjL → Option (kjI × kjL)) (v1 : Int32) (v2 : Int32) (v3 : Int32) (v4 : Int32) (s1 : Int32) (I : kjI) (L : kjL) : Option (kjI × kjL) :=
  (kf59 b s1 I L).bind fun r1 => if r1.1 = 0 then (kf27_106 b N k11 v1 v2 v3 r1.2.1 r1.2.2) else (if v4 ≤ 0 then (kf27_106 b N k11 v1 v2 v3 r1.2.1 r1.2.2) else (bif mv_in ((v1 * (8 : Int32)) + v3) 64 then (kf27_136 b N k11 v1 v2 v3 (mv_up r1.2.1 (kb b 22) (Int32.toNatClampNeg ((v1 * (8 : Int32)) + v3)) (v4 - (1 : Int32))) r1.2.2) else none))
set_option maxRecDepth 100000 in
set_option maxHeartbeats 4000000 in
theorem kf27_73_ok (f : Bool) (b : Bool) (N : Nat) (k11 : Int32 → Int32 → Int32 → kjI → kjL → Option (kjI × kjL)) (d : Nat) (hk11 : ∀ (v1 : Int32) (v2 : Int32) (v3 : Int32) (I : kjI) (L : kjL) (r : kjI × kjL), k11 v1 v2 v3 I L = some r → mv_G kjP kjSta (mv_C kjP kjSta (d + 3)) kjM_27 (kjQwv f r) (11, [some (.ref (kb b 4)), some (.int v1), some (.int v2), some (.int v3), none, none], [], 0, 0, kjS f I L)) (v1 : Int32) (v2 : Int32) (v3 : Int32) (v4 : Int32) (s1 : Int32) (I : kjI) (L : kjL) (r : kjI × kjL) (h : kf27_73 b N k11 v1 v2 v3 v4 s1 I L = some r) : mv_G kjP kjSta (mv_C kjP kjSta (d + 3)) kjM_27 (kjQwv f r) (73, [some (.ref (kb b 4)), some (.int v1), some (.int v2), some (.int v3), some (.int v4), none], [.int s1, .ref (kb b 23)], 0, 0, kjS f I L) := by
  cases b
  · unfold kf27_73 at h
    obtain ⟨r1, hc2, h⟩ := mv_bd h
    refine mv_G_call (r := []) (kf59_ok _ _ _ _ _ _ _ hc2) rfl rfl rfl rfl rfl (Nat.le_of_ble_eq_true rfl) (Nat.le_of_ble_eq_true rfl) (Nat.le_of_ble_eq_true rfl) ?_
    rintro _ _ ⟨rfl, rfl⟩
    refine mv_G_run 2 (F' := (80, [some (.ref (kb false 4)), some (.int v1), some (.int v2), some (.int v3), some (.int v4), some (.int r1.1)], [.int r1.1], 0, 0, kjS f r1.2.1 r1.2.2)) rfl ?_
    by_cases hc3 : r1.1 = 0
    · rw [if_pos hc3] at h
      refine mv_G_br (tgt := 106) rfl rfl (by decide) (fun _ => ?_) (fun z => absurd hc3 z)
      refine mv_G_fg (lc' := [some (.ref (kb false 4)), some (.int v1), some (.int v2), some (.int v3), none, none]) (And.intro rfl (And.intro rfl (And.intro rfl (And.intro rfl trivial)))) ?_
      exact kf27_106_ok _ _ _ _ d hk11 _ _ _ _ _ _ h
    · rw [if_neg hc3] at h
      refine mv_G_br (tgt := 106) rfl rfl (by decide) (fun z => absurd z hc3) (fun _ => ?_)
      refine mv_G_run 1 (F' := (85, [some (.ref (kb false 4)), some (.int v1), some (.int v2), some (.int v3), some (.int v4), some (.int r1.1)], [.int v4], 0, 0, kjS f r1.2.1 r1.2.2)) rfl ?_
      by_cases hc4 : v4 ≤ 0
      · rw [if_pos hc4] at h
        refine mv_G_br (tgt := 106) rfl rfl (by decide) (fun _ => ?_) (fun z => absurd hc4 z)
        refine mv_G_fg (lc' := [some (.ref (kb false 4)), some (.int v1), some (.int v2), some (.int v3), none, none]) (And.intro rfl (And.intro rfl (And.intro rfl (And.intro rfl trivial)))) ?_
        exact kf27_106_ok _ _ _ _ d hk11 _ _ _ _ _ _ h
      · rw [if_neg hc4] at h
        refine mv_G_br (tgt := 106) rfl rfl (by decide) (fun z => absurd z hc4) (fun _ => ?_)
        refine mv_G_run 10 (F' := (102, [some (.ref (kb false 4)), some (.int v1), some (.int v2), some (.int v3), some (.int v4), some (.int r1.1)], [.int (v4 - (1 : Int32)), .int ((v1 * (8 : Int32)) + v3), .ref (kb false 22)], 0, 0, kjS f r1.2.1 r1.2.2)) rfl ?_
        obtain ⟨hi5, h⟩ := mv_bifs h
        refine mv_G_ast rfl rfl (mv_in_ok hi5) ?_
        refine mv_G_run 1 (F' := (136, [some (.ref (kb false 4)), some (.int v1), some (.int v2), some (.int v3), some (.int v4), some (.int r1.1)], [], 0, 0, kjS f (mv_up r1.2.1 (kb false 22) (Int32.toNatClampNeg ((v1 * (8 : Int32)) + v3)) (v4 - (1 : Int32))) r1.2.2)) rfl ?_
        refine mv_G_fg (lc' := [some (.ref (kb false 4)), some (.int v1), some (.int v2), some (.int v3), none, none]) (And.intro rfl (And.intro rfl (And.intro rfl (And.intro rfl trivial)))) ?_
        exact kf27_136_ok _ _ _ _ d hk11 _ _ _ _ _ _ h
  · unfold kf27_73 at h
    obtain ⟨r1, hc2, h⟩ := mv_bd h
    refine mv_G_call (r := []) (kf59_ok _ _ _ _ _ _ _ hc2) rfl rfl rfl rfl rfl (Nat.le_of_ble_eq_true rfl) (Nat.le_of_ble_eq_true rfl) (Nat.le_of_ble_eq_true rfl) ?_
    rintro _ _ ⟨rfl, rfl⟩
    refine mv_G_run 2 (F' := (80, [some (.ref (kb true 4)), some (.int v1), some (.int v2), some (.int v3), some (.int v4), some (.int r1.1)], [.int r1.1], 0, 0, kjS f r1.2.1 r1.2.2)) rfl ?_
    by_cases hc3 : r1.1 = 0
    · rw [if_pos hc3] at h
      refine mv_G_br (tgt := 106) rfl rfl (by decide) (fun _ => ?_) (fun z => absurd hc3 z)
      refine mv_G_fg (lc' := [some (.ref (kb true 4)), some (.int v1), some (.int v2), some (.int v3), none, none]) (And.intro rfl (And.intro rfl (And.intro rfl (And.intro rfl trivial)))) ?_
      exact kf27_106_ok _ _ _ _ d hk11 _ _ _ _ _ _ h
    · rw [if_neg hc3] at h
      refine mv_G_br (tgt := 106) rfl rfl (by decide) (fun z => absurd z hc3) (fun _ => ?_)
      refine mv_G_run 1 (F' := (85, [some (.ref (kb true 4)), some (.int v1), some (.int v2), some (.int v3), some (.int v4), some (.int r1.1)], [.int v4], 0, 0, kjS f r1.2.1 r1.2.2)) rfl ?_
      by_cases hc4 : v4 ≤ 0
      · rw [if_pos hc4] at h
        refine mv_G_br (tgt := 106) rfl rfl (by decide) (fun _ => ?_) (fun z => absurd hc4 z)
        refine mv_G_fg (lc' := [some (.ref (kb true 4)), some (.int v1), some (.int v2), some (.int v3), none, none]) (And.intro rfl (And.intro rfl (And.intro rfl (And.intro rfl trivial)))) ?_
        exact kf27_106_ok _ _ _ _ d hk11 _ _ _ _ _ _ h
      · rw [if_neg hc4] at h
        refine mv_G_br (tgt := 106) rfl rfl (by decide) (fun z => absurd z hc4) (fun _ => ?_)
        refine mv_G_run 10 (F' := (102, [some (.ref (kb true 4)), some (.int v1), some (.int v2), some (.int v3), some (.int v4), some (.int r1.1)], [.int (v4 - (1 : Int32)), .int ((v1 * (8 : Int32)) + v3), .ref (kb true 22)], 0, 0, kjS f r1.2.1 r1.2.2)) rfl ?_
        obtain ⟨hi5, h⟩ := mv_bifs h
        refine mv_G_ast rfl rfl (mv_in_ok hi5) ?_
        refine mv_G_run 1 (F' := (136, [some (.ref (kb true 4)), some (.int v1), some (.int v2), some (.int v3), some (.int v4), some (.int r1.1)], [], 0, 0, kjS f (mv_up r1.2.1 (kb true 22) (Int32.toNatClampNeg ((v1 * (8 : Int32)) + v3)) (v4 - (1 : Int32))) r1.2.2)) rfl ?_
        refine mv_G_fg (lc' := [some (.ref (kb true 4)), some (.int v1), some (.int v2), some (.int v3), none, none]) (And.intro rfl (And.intro rfl (And.intro rfl (And.intro rfl trivial)))) ?_
        exact kf27_136_ok _ _ _ _ d hk11 _ _ _ _ _ _ h
def kf27_68 (b : Bool) (N : Nat) (k11 : Int32 → Int32 → Int32 → kjI → kjL → Option (kjI × kjL)) (v1 : Int32) (v2 : Int32) (v3 : Int32) (v4 : Int32) (I : kjI) (L : kjL) : Option (kjI × kjL) :=
  kf27_73 b N k11 v1 v2 v3 v4 (1 : Int32) I L
set_option maxRecDepth 100000 in
set_option maxHeartbeats 4000000 in
theorem kf27_68_ok (f : Bool) (b : Bool) (N : Nat) (k11 : Int32 → Int32 → Int32 → kjI → kjL → Option (kjI × kjL)) (d : Nat) (hk11 : ∀ (v1 : Int32) (v2 : Int32) (v3 : Int32) (I : kjI) (L : kjL) (r : kjI × kjL), k11 v1 v2 v3 I L = some r → mv_G kjP kjSta (mv_C kjP kjSta (d + 3)) kjM_27 (kjQwv f r) (11, [some (.ref (kb b 4)), some (.int v1), some (.int v2), some (.int v3), none, none], [], 0, 0, kjS f I L)) (v1 : Int32) (v2 : Int32) (v3 : Int32) (v4 : Int32) (I : kjI) (L : kjL) (r : kjI × kjL) (h : kf27_68 b N k11 v1 v2 v3 v4 I L = some r) : mv_G kjP kjSta (mv_C kjP kjSta (d + 3)) kjM_27 (kjQwv f r) (68, [some (.ref (kb b 4)), some (.int v1), some (.int v2), some (.int v3), some (.int v4), none], [.ref (kb b 23)], 0, 0, kjS f I L) := by
  cases b
  · unfold kf27_68 at h
    refine mv_G_run 2 (F' := (73, [some (.ref (kb false 4)), some (.int v1), some (.int v2), some (.int v3), some (.int v4), none], [.int (1 : Int32), .ref (kb false 23)], 0, 0, kjS f I L)) rfl ?_
    exact kf27_73_ok _ _ _ _ d hk11 _ _ _ _ _ _ _ _ h
  · unfold kf27_68 at h
    refine mv_G_run 2 (F' := (73, [some (.ref (kb true 4)), some (.int v1), some (.int v2), some (.int v3), some (.int v4), none], [.int (1 : Int32), .ref (kb true 23)], 0, 0, kjS f I L)) rfl ?_
    exact kf27_73_ok _ _ _ _ d hk11 _ _ _ _ _ _ _ _ h
def kf27_72 (b : Bool) (N : Nat) (k11 : Int32 → Int32 → Int32 → kjI → kjL → Option (kjI × kjL)) (v1 : Int32) (v2 : Int32) (v3 : Int32) (v4 : Int32) (I : kjI) (L : kjL) : Option (kjI × kjL) :=
  kf27_73 b N k11 v1 v2 v3 v4 (0 : Int32) I L
set_option maxRecDepth 100000 in
set_option maxHeartbeats 4000000 in
theorem kf27_72_ok (f : Bool) (b : Bool) (N : Nat) (k11 : Int32 → Int32 → Int32 → kjI → kjL → Option (kjI × kjL)) (d : Nat) (hk11 : ∀ (v1 : Int32) (v2 : Int32) (v3 : Int32) (I : kjI) (L : kjL) (r : kjI × kjL), k11 v1 v2 v3 I L = some r → mv_G kjP kjSta (mv_C kjP kjSta (d + 3)) kjM_27 (kjQwv f r) (11, [some (.ref (kb b 4)), some (.int v1), some (.int v2), some (.int v3), none, none], [], 0, 0, kjS f I L)) (v1 : Int32) (v2 : Int32) (v3 : Int32) (v4 : Int32) (I : kjI) (L : kjL) (r : kjI × kjL) (h : kf27_72 b N k11 v1 v2 v3 v4 I L = some r) : mv_G kjP kjSta (mv_C kjP kjSta (d + 3)) kjM_27 (kjQwv f r) (72, [some (.ref (kb b 4)), some (.int v1), some (.int v2), some (.int v3), some (.int v4), none], [.ref (kb b 23)], 0, 0, kjS f I L) := by
  cases b
  · unfold kf27_72 at h
    refine mv_G_run 1 (F' := (73, [some (.ref (kb false 4)), some (.int v1), some (.int v2), some (.int v3), some (.int v4), none], [.int (0 : Int32), .ref (kb false 23)], 0, 0, kjS f I L)) rfl ?_
    exact kf27_73_ok _ _ _ _ d hk11 _ _ _ _ _ _ _ _ h
  · unfold kf27_72 at h
    refine mv_G_run 1 (F' := (73, [some (.ref (kb true 4)), some (.int v1), some (.int v2), some (.int v3), some (.int v4), none], [.int (0 : Int32), .ref (kb true 23)], 0, 0, kjS f I L)) rfl ?_
    exact kf27_73_ok _ _ _ _ d hk11 _ _ _ _ _ _ _ _ h
def kf27_11 (b : Bool) (N : Nat) : Nat → Int32 → Int32 → Int32 → kjI → kjL → Option (kjI × kjL)
  | 0, _, _, _, _, _ => none
  | n + 1, v1, v2, v3, I, L => if (I (kb b 10) 3) ≤ v3 then (some (I, L)) else ((kf55 b I L).bind fun r2 => if r2 = 0 then (some (I, L)) else ((kf58 b I L).bind fun r5 => if r5 = 0 then (kf27_68 b N (fun v1 v2 v3 I L => kf27_11 b N n v1 v2 v3 I L) v1 v2 v3 r5 I L) else (if r5 ≤ 0 then (kf27_72 b N (fun v1 v2 v3 I L => kf27_11 b N n v1 v2 v3 I L) v1 v2 v3 r5 I L) else ((kf28 b N I L (r5 - (1 : Int32)) v1 v3).bind fun r9 => if r9 = 0 then (kf27_72 b N (fun v1 v2 v3 I L => kf27_11 b N n v1 v2 v3 I L) v1 v2 v3 r5 I L) else (kf27_68 b N (fun v1 v2 v3 I L => kf27_11 b N n v1 v2 v3 I L) v1 v2 v3 r5 I L)))))
set_option maxRecDepth 100000 in
set_option maxHeartbeats 4000000 in
theorem kf27_11_ok (f : Bool) (b : Bool) (N : Nat) (d : Nat)  : ∀ (n : Nat) (v1 : Int32) (v2 : Int32) (v3 : Int32) (I : kjI) (L : kjL) (r : kjI × kjL), kf27_11 b N n v1 v2 v3 I L = some r → mv_G kjP kjSta (mv_C kjP kjSta (d + 3)) kjM_27 (kjQwv f r) (11, [some (.ref (kb b 4)), some (.int v1), some (.int v2), some (.int v3), none, none], [], 0, 0, kjS f I L) := by
  cases b
  · intro n
    induction n with
    | zero => intro v1 v2 v3 I L r h; cases h
    | succ n ih =>
      have hk11 := ih
      intro v1 v2 v3 I L r h
      unfold kf27_11 at h
      refine mv_G_run 4 (F' := (19, [some (.ref (kb false 4)), some (.int v1), some (.int v2), some (.int v3), none, none], [.int (I (kb false 10) 3), .int v3], 0, 0, kjS f I L)) rfl ?_
      by_cases hc1 : (I (kb false 10) 3) ≤ v3
      · rw [if_pos hc1] at h
        refine mv_G_br (tgt := 142) rfl rfl (by decide) (fun _ => ?_) (fun z => absurd hc1 z)
        obtain rfl := Option.some.inj h
        exact mv_G_ret rfl rfl rfl (Nat.le_refl _) trivial ⟨rfl, rfl⟩
      · rw [if_neg hc1] at h
        refine mv_G_br (tgt := 142) rfl rfl (by decide) (fun z => absurd z hc1) (fun _ => ?_)
        refine mv_G_run 2 (F' := (26, [some (.ref (kb false 4)), some (.int v1), some (.int v2), some (.int v3), none, none], [.ref (kb false 23)], 0, 0, kjS f I L)) rfl ?_
        obtain ⟨r2, hc3, h⟩ := mv_bd h
        refine mv_G_call (r := []) (kf55_ok _ _ _ _ _ _ hc3) rfl rfl rfl rfl rfl (Nat.le_of_ble_eq_true rfl) (Nat.le_of_ble_eq_true rfl) (Nat.le_of_ble_eq_true rfl) ?_
        rintro _ _ ⟨rfl, rfl⟩
        by_cases hc4 : r2 = 0
        · rw [if_pos hc4] at h
          refine mv_G_br (tgt := 142) rfl rfl (by decide) (fun _ => ?_) (fun z => absurd hc4 z)
          obtain rfl := Option.some.inj h
          exact mv_G_ret rfl rfl rfl (Nat.le_refl _) trivial ⟨rfl, rfl⟩
        · rw [if_neg hc4] at h
          refine mv_G_br (tgt := 142) rfl rfl (by decide) (fun z => absurd z hc4) (fun _ => ?_)
          refine mv_G_run 2 (F' := (36, [some (.ref (kb false 4)), some (.int v1), some (.int v2), some (.int v3), none, none], [.ref (kb false 23)], 0, 0, kjS f I L)) rfl ?_
          obtain ⟨r5, hc6, h⟩ := mv_bd h
          refine mv_G_call (r := []) (kf58_ok _ _ _ _ _ _ hc6) rfl rfl rfl rfl rfl (Nat.le_of_ble_eq_true rfl) (Nat.le_of_ble_eq_true rfl) (Nat.le_of_ble_eq_true rfl) ?_
          rintro _ _ ⟨rfl, rfl⟩
          refine mv_G_run 4 (F' := (47, [some (.ref (kb false 4)), some (.int v1), some (.int v2), some (.int v3), some (.int r5), none], [.int r5, .ref (kb false 23)], 0, 0, kjS f I L)) rfl ?_
          by_cases hc7 : r5 = 0
          · rw [if_pos hc7] at h
            refine mv_G_br (tgt := 68) rfl rfl (by decide) (fun _ => ?_) (fun z => absurd hc7 z)
            exact kf27_68_ok _ _ _ _ d hk11 _ _ _ _ _ _ _ h
          · rw [if_neg hc7] at h
            refine mv_G_br (tgt := 68) rfl rfl (by decide) (fun z => absurd z hc7) (fun _ => ?_)
            refine mv_G_run 1 (F' := (52, [some (.ref (kb false 4)), some (.int v1), some (.int v2), some (.int v3), some (.int r5), none], [.int r5, .ref (kb false 23)], 0, 0, kjS f I L)) rfl ?_
            by_cases hc8 : r5 ≤ 0
            · rw [if_pos hc8] at h
              refine mv_G_br (tgt := 72) rfl rfl (by decide) (fun _ => ?_) (fun z => absurd hc8 z)
              exact kf27_72_ok _ _ _ _ d hk11 _ _ _ _ _ _ _ h
            · rw [if_neg hc8] at h
              refine mv_G_br (tgt := 72) rfl rfl (by decide) (fun z => absurd z hc8) (fun _ => ?_)
              refine mv_G_run 6 (F' := (62, [some (.ref (kb false 4)), some (.int v1), some (.int v2), some (.int v3), some (.int r5), none], [.int v3, .int v1, .int (r5 - (1 : Int32)), .ref (kb false 4), .ref (kb false 23)], 0, 0, kjS f I L)) rfl ?_
              obtain ⟨r9, hc10, h⟩ := mv_bd h
              refine mv_G_call (r := [.ref (kb false 23)]) (kf28_ok _ _ _ _ _ _ _ _ _ _ hc10) rfl rfl rfl rfl rfl (Nat.le_of_ble_eq_true rfl) (Nat.le_of_ble_eq_true rfl) (Nat.le_of_ble_eq_true rfl) ?_
              rintro _ _ ⟨rfl, rfl⟩
              by_cases hc11 : r9 = 0
              · rw [if_pos hc11] at h
                refine mv_G_br (tgt := 72) rfl rfl (by decide) (fun _ => ?_) (fun z => absurd hc11 z)
                exact kf27_72_ok _ _ _ _ d hk11 _ _ _ _ _ _ _ h
              · rw [if_neg hc11] at h
                refine mv_G_br (tgt := 72) rfl rfl (by decide) (fun z => absurd z hc11) (fun _ => ?_)
                exact kf27_68_ok _ _ _ _ d hk11 _ _ _ _ _ _ _ h
  · intro n
    induction n with
    | zero => intro v1 v2 v3 I L r h; cases h
    | succ n ih =>
      have hk11 := ih
      intro v1 v2 v3 I L r h
      unfold kf27_11 at h
      refine mv_G_run 4 (F' := (19, [some (.ref (kb true 4)), some (.int v1), some (.int v2), some (.int v3), none, none], [.int (I (kb true 10) 3), .int v3], 0, 0, kjS f I L)) rfl ?_
      by_cases hc1 : (I (kb true 10) 3) ≤ v3
      · rw [if_pos hc1] at h
        refine mv_G_br (tgt := 142) rfl rfl (by decide) (fun _ => ?_) (fun z => absurd hc1 z)
        obtain rfl := Option.some.inj h
        exact mv_G_ret rfl rfl rfl (Nat.le_refl _) trivial ⟨rfl, rfl⟩
      · rw [if_neg hc1] at h
        refine mv_G_br (tgt := 142) rfl rfl (by decide) (fun z => absurd z hc1) (fun _ => ?_)
        refine mv_G_run 2 (F' := (26, [some (.ref (kb true 4)), some (.int v1), some (.int v2), some (.int v3), none, none], [.ref (kb true 23)], 0, 0, kjS f I L)) rfl ?_
        obtain ⟨r2, hc3, h⟩ := mv_bd h
        refine mv_G_call (r := []) (kf55_ok _ _ _ _ _ _ hc3) rfl rfl rfl rfl rfl (Nat.le_of_ble_eq_true rfl) (Nat.le_of_ble_eq_true rfl) (Nat.le_of_ble_eq_true rfl) ?_
        rintro _ _ ⟨rfl, rfl⟩
        by_cases hc4 : r2 = 0
        · rw [if_pos hc4] at h
          refine mv_G_br (tgt := 142) rfl rfl (by decide) (fun _ => ?_) (fun z => absurd hc4 z)
          obtain rfl := Option.some.inj h
          exact mv_G_ret rfl rfl rfl (Nat.le_refl _) trivial ⟨rfl, rfl⟩
        · rw [if_neg hc4] at h
          refine mv_G_br (tgt := 142) rfl rfl (by decide) (fun z => absurd z hc4) (fun _ => ?_)
          refine mv_G_run 2 (F' := (36, [some (.ref (kb true 4)), some (.int v1), some (.int v2), some (.int v3), none, none], [.ref (kb true 23)], 0, 0, kjS f I L)) rfl ?_
          obtain ⟨r5, hc6, h⟩ := mv_bd h
          refine mv_G_call (r := []) (kf58_ok _ _ _ _ _ _ hc6) rfl rfl rfl rfl rfl (Nat.le_of_ble_eq_true rfl) (Nat.le_of_ble_eq_true rfl) (Nat.le_of_ble_eq_true rfl) ?_
          rintro _ _ ⟨rfl, rfl⟩
          refine mv_G_run 4 (F' := (47, [some (.ref (kb true 4)), some (.int v1), some (.int v2), some (.int v3), some (.int r5), none], [.int r5, .ref (kb true 23)], 0, 0, kjS f I L)) rfl ?_
          by_cases hc7 : r5 = 0
          · rw [if_pos hc7] at h
            refine mv_G_br (tgt := 68) rfl rfl (by decide) (fun _ => ?_) (fun z => absurd hc7 z)
            exact kf27_68_ok _ _ _ _ d hk11 _ _ _ _ _ _ _ h
          · rw [if_neg hc7] at h
            refine mv_G_br (tgt := 68) rfl rfl (by decide) (fun z => absurd z hc7) (fun _ => ?_)
            refine mv_G_run 1 (F' := (52, [some (.ref (kb true 4)), some (.int v1), some (.int v2), some (.int v3), some (.int r5), none], [.int r5, .ref (kb true 23)], 0, 0, kjS f I L)) rfl ?_
            by_cases hc8 : r5 ≤ 0
            · rw [if_pos hc8] at h
              refine mv_G_br (tgt := 72) rfl rfl (by decide) (fun _ => ?_) (fun z => absurd hc8 z)
              exact kf27_72_ok _ _ _ _ d hk11 _ _ _ _ _ _ _ h
            · rw [if_neg hc8] at h
              refine mv_G_br (tgt := 72) rfl rfl (by decide) (fun z => absurd z hc8) (fun _ => ?_)
              refine mv_G_run 6 (F' := (62, [some (.ref (kb true 4)), some (.int v1), some (.int v2), some (.int v3), some (.int r5), none], [.int v3, .int v1, .int (r5 - (1 : Int32)), .ref (kb true 4), .ref (kb true 23)], 0, 0, kjS f I L)) rfl ?_
              obtain ⟨r9, hc10, h⟩ := mv_bd h
              refine mv_G_call (r := [.ref (kb true 23)]) (kf28_ok _ _ _ _ _ _ _ _ _ _ hc10) rfl rfl rfl rfl rfl (Nat.le_of_ble_eq_true rfl) (Nat.le_of_ble_eq_true rfl) (Nat.le_of_ble_eq_true rfl) ?_
              rintro _ _ ⟨rfl, rfl⟩
              by_cases hc11 : r9 = 0
              · rw [if_pos hc11] at h
                refine mv_G_br (tgt := 72) rfl rfl (by decide) (fun _ => ?_) (fun z => absurd hc11 z)
                exact kf27_72_ok _ _ _ _ d hk11 _ _ _ _ _ _ _ h
              · rw [if_neg hc11] at h
                refine mv_G_br (tgt := 72) rfl rfl (by decide) (fun z => absurd z hc11) (fun _ => ?_)
                exact kf27_68_ok _ _ _ _ d hk11 _ _ _ _ _ _ _ h
def kf27 (b : Bool) (N : Nat) (v1 : Int32) (I : kjI) (L : kjL) : Option (kjI × kjL) :=
  (kf38 b I L v1).bind fun r1 => kf27_11 b N N v1 r1 (0 : Int32) I L
set_option maxRecDepth 100000 in
set_option maxHeartbeats 4000000 in
theorem kf27_ok (f : Bool) (b : Bool) (N : Nat) (v1 : Int32) (I : kjI) (L : kjL) (d : Nat) (r : kjI × kjL) (h : kf27 b N v1 I L = some r) : mv_C kjP kjSta (d + 4) 27 [.ref (kb b 4), .int v1] (kjS f I L) (kjQwv f r) := by
  cases b
  · unfold kf27 at h
    refine mv_C_in kjM_27 (lc := [some (.ref (kb false 4)), some (.int v1), none, none, none, none]) rfl rfl rfl ?_
    refine mv_G_run 3 (F' := (5, [some (.ref (kb false 4)), some (.int v1), none, none, none, none], [.int v1, .ref (kb false 5)], 0, 0, kjS f I L)) rfl ?_
    obtain ⟨r1, hc2, h⟩ := mv_bd h
    refine mv_G_call (r := []) (kf38_ok _ _ _ _ _ _ _ hc2) rfl rfl rfl rfl rfl (Nat.le_of_ble_eq_true rfl) (Nat.le_of_ble_eq_true rfl) (Nat.le_of_ble_eq_true rfl) ?_
    rintro _ _ ⟨rfl, rfl⟩
    refine mv_G_run 3 (F' := (11, [some (.ref (kb false 4)), some (.int v1), some (.int r1), some (.int (0 : Int32)), none, none], [], 0, 0, kjS f I L)) rfl ?_
    exact kf27_11_ok _ _ _ d _ _ _ _ _ _ _ h
  · unfold kf27 at h
    refine mv_C_in kjM_27 (lc := [some (.ref (kb true 4)), some (.int v1), none, none, none, none]) rfl rfl rfl ?_
    refine mv_G_run 3 (F' := (5, [some (.ref (kb true 4)), some (.int v1), none, none, none, none], [.int v1, .ref (kb true 5)], 0, 0, kjS f I L)) rfl ?_
    obtain ⟨r1, hc2, h⟩ := mv_bd h
    refine mv_G_call (r := []) (kf38_ok _ _ _ _ _ _ _ hc2) rfl rfl rfl rfl rfl (Nat.le_of_ble_eq_true rfl) (Nat.le_of_ble_eq_true rfl) (Nat.le_of_ble_eq_true rfl) ?_
    rintro _ _ ⟨rfl, rfl⟩
    refine mv_G_run 3 (F' := (11, [some (.ref (kb true 4)), some (.int v1), some (.int r1), some (.int (0 : Int32)), none, none], [], 0, 0, kjS f I L)) rfl ?_
    exact kf27_11_ok _ _ _ d _ _ _ _ _ _ _ h
/-! KindJudge$Reader.isAtEnd()Z on ('b', 23) -/
def kf56 (b : Bool) (I : kjI) (L : kjL) : Option (Int32) :=
  if ¬ (I (kb b 23) 2) = 0 then (some (0 : Int32)) else (if ¬ (I (kb b 23) 1) = (I (kb b 2) 1) then (some (0 : Int32)) else (some (1 : Int32)))
set_option maxRecDepth 100000 in
set_option maxHeartbeats 4000000 in
theorem kf56_ok (f : Bool) (b : Bool) (I : kjI) (L : kjL) (d : Nat) (r : Int32) (h : kf56 b I L = some r) : mv_C kjP kjSta (d + 1) 56 [.ref (kb b 23)] (kjS f I L) (kjQi f I L r) := by
  cases b
  · unfold kf56 at h
    refine mv_C_in kjM_56 (lc := [some (.ref (kb false 23))]) rfl rfl rfl ?_
    refine mv_G_run 2 (F' := (4, [some (.ref (kb false 23))], [.int (I (kb false 23) 2)], 0, 0, kjS f I L)) rfl ?_
    by_cases hc1 : ¬ (I (kb false 23) 2) = 0
    · rw [if_pos hc1] at h
      refine mv_G_br (tgt := 25) rfl rfl (by decide) (fun _ => ?_) (fun z => absurd hc1 z)
      refine mv_G_run 1 (F' := (26, [some (.ref (kb false 23))], [.int (0 : Int32)], 0, 0, kjS f I L)) rfl ?_
      obtain rfl := Option.some.inj h
      exact mv_G_ret rfl rfl rfl (Nat.le_refl _) (Or.inl rfl) ⟨rfl, rfl⟩
    · rw [if_neg hc1] at h
      refine mv_G_br (tgt := 25) rfl rfl (by decide) (fun z => absurd z hc1) (fun _ => ?_)
      refine mv_G_run 5 (F' := (18, [some (.ref (kb false 23))], [.int (I (kb false 2) 1), .int (I (kb false 23) 1)], 0, 0, kjS f I L)) rfl ?_
      by_cases hc2 : ¬ (I (kb false 23) 1) = (I (kb false 2) 1)
      · rw [if_pos hc2] at h
        refine mv_G_br (tgt := 25) rfl rfl (by decide) (fun _ => ?_) (fun z => absurd hc2 z)
        refine mv_G_run 1 (F' := (26, [some (.ref (kb false 23))], [.int (0 : Int32)], 0, 0, kjS f I L)) rfl ?_
        obtain rfl := Option.some.inj h
        exact mv_G_ret rfl rfl rfl (Nat.le_refl _) (Or.inl rfl) ⟨rfl, rfl⟩
      · rw [if_neg hc2] at h
        refine mv_G_br (tgt := 25) rfl rfl (by decide) (fun z => absurd z hc2) (fun _ => ?_)
        refine mv_G_run 2 (F' := (26, [some (.ref (kb false 23))], [.int (1 : Int32)], 0, 0, kjS f I L)) rfl ?_
        obtain rfl := Option.some.inj h
        exact mv_G_ret rfl rfl rfl (Nat.le_refl _) (Or.inr rfl) ⟨rfl, rfl⟩
  · unfold kf56 at h
    refine mv_C_in kjM_56 (lc := [some (.ref (kb true 23))]) rfl rfl rfl ?_
    refine mv_G_run 2 (F' := (4, [some (.ref (kb true 23))], [.int (I (kb true 23) 2)], 0, 0, kjS f I L)) rfl ?_
    by_cases hc1 : ¬ (I (kb true 23) 2) = 0
    · rw [if_pos hc1] at h
      refine mv_G_br (tgt := 25) rfl rfl (by decide) (fun _ => ?_) (fun z => absurd hc1 z)
      refine mv_G_run 1 (F' := (26, [some (.ref (kb true 23))], [.int (0 : Int32)], 0, 0, kjS f I L)) rfl ?_
      obtain rfl := Option.some.inj h
      exact mv_G_ret rfl rfl rfl (Nat.le_refl _) (Or.inl rfl) ⟨rfl, rfl⟩
    · rw [if_neg hc1] at h
      refine mv_G_br (tgt := 25) rfl rfl (by decide) (fun z => absurd z hc1) (fun _ => ?_)
      refine mv_G_run 5 (F' := (18, [some (.ref (kb true 23))], [.int (I (kb true 2) 1), .int (I (kb true 23) 1)], 0, 0, kjS f I L)) rfl ?_
      by_cases hc2 : ¬ (I (kb true 23) 1) = (I (kb true 2) 1)
      · rw [if_pos hc2] at h
        refine mv_G_br (tgt := 25) rfl rfl (by decide) (fun _ => ?_) (fun z => absurd hc2 z)
        refine mv_G_run 1 (F' := (26, [some (.ref (kb true 23))], [.int (0 : Int32)], 0, 0, kjS f I L)) rfl ?_
        obtain rfl := Option.some.inj h
        exact mv_G_ret rfl rfl rfl (Nat.le_refl _) (Or.inl rfl) ⟨rfl, rfl⟩
      · rw [if_neg hc2] at h
        refine mv_G_br (tgt := 25) rfl rfl (by decide) (fun z => absurd z hc2) (fun _ => ?_)
        refine mv_G_run 2 (F' := (26, [some (.ref (kb true 23))], [.int (1 : Int32)], 0, 0, kjS f I L)) rfl ?_
        obtain rfl := Option.some.inj h
        exact mv_G_ret rfl rfl rfl (Nat.le_refl _) (Or.inr rfl) ⟨rfl, rfl⟩
/-! KindJudge$Layout.read()Z on ('b', 4) -/
def kf24_163 (b : Bool) (N : Nat) (I : kjI) (L : kjL) : Option (Int32 × kjI × kjL) :=
  (kf56 b I L).bind fun r1 => if r1 = 0 ∨ r1 = 1 then some (r1, I, L) else none
set_option maxRecDepth 100000 in
set_option maxHeartbeats 4000000 in
theorem kf24_163_ok (f : Bool) (b : Bool) (N : Nat) (d : Nat)  (I : kjI) (L : kjL) (r : Int32 × kjI × kjL) (h : kf24_163 b N I L = some r) : mv_G kjP kjSta (mv_C kjP kjSta (d + 5)) kjM_24 (kjQwi f r) (163, [some (.ref (kb b 4)), none], [], 0, 0, kjS f I L) := by
  cases b
  · unfold kf24_163 at h
    refine mv_G_run 2 (F' := (167, [some (.ref (kb false 4)), none], [.ref (kb false 23)], 0, 0, kjS f I L)) rfl ?_
    obtain ⟨r1, hc2, h⟩ := mv_bd h
    refine mv_G_call (r := []) (kf56_ok _ _ _ _ _ _ hc2) rfl rfl rfl rfl rfl (Nat.le_of_ble_eq_true rfl) (Nat.le_of_ble_eq_true rfl) (Nat.le_of_ble_eq_true rfl) ?_
    rintro _ _ ⟨rfl, rfl⟩
    obtain ⟨hb3, h⟩ := mv_ifs h
    obtain rfl := Option.some.inj h
    exact mv_G_ret rfl rfl rfl (Nat.le_refl _) hb3 ⟨rfl, rfl⟩
  · unfold kf24_163 at h
    refine mv_G_run 2 (F' := (167, [some (.ref (kb true 4)), none], [.ref (kb true 23)], 0, 0, kjS f I L)) rfl ?_
    obtain ⟨r1, hc2, h⟩ := mv_bd h
    refine mv_G_call (r := []) (kf56_ok _ _ _ _ _ _ hc2) rfl rfl rfl rfl rfl (Nat.le_of_ble_eq_true rfl) (Nat.le_of_ble_eq_true rfl) (Nat.le_of_ble_eq_true rfl) ?_
    rintro _ _ ⟨rfl, rfl⟩
    obtain ⟨hb3, h⟩ := mv_ifs h
    obtain rfl := Option.some.inj h
    exact mv_G_ret rfl rfl rfl (Nat.le_refl _) hb3 ⟨rfl, rfl⟩
def kf24_131 (b : Bool) (N : Nat) : Nat → Int32 → kjI → kjL → Option (Int32 × kjI × kjL)
  | 0, _, _, _ => none
  | n + 1, v1, I, L => if (I (kb b 5) 4) ≤ v1 then (kf24_163 b N I L) else ((kf55 b I L).bind fun r2 => if r2 = 0 then (kf24_163 b N I L) else ((kf27 b N v1 I L).bind fun r5 => (fun v1 I L => kf24_131 b N n v1 I L) (v1 + (1 : Int32)) r5.1 r5.2))
set_option maxRecDepth 100000 in
set_option maxHeartbeats 4000000 in
theorem kf24_131_ok (f : Bool) (b : Bool) (N : Nat) (d : Nat)  : ∀ (n : Nat) (v1 : Int32) (I : kjI) (L : kjL) (r : Int32 × kjI × kjL), kf24_131 b N n v1 I L = some r → mv_G kjP kjSta (mv_C kjP kjSta (d + 5)) kjM_24 (kjQwi f r) (131, [some (.ref (kb b 4)), some (.int v1)], [], 0, 0, kjS f I L) := by
  cases b
  · intro n
    induction n with
    | zero => intro v1 I L r h; cases h
    | succ n ih =>
      have hk131 := ih
      intro v1 I L r h
      unfold kf24_131 at h
      refine mv_G_run 4 (F' := (139, [some (.ref (kb false 4)), some (.int v1)], [.int (I (kb false 5) 4), .int v1], 0, 0, kjS f I L)) rfl ?_
      by_cases hc1 : (I (kb false 5) 4) ≤ v1
      · rw [if_pos hc1] at h
        refine mv_G_br (tgt := 163) rfl rfl (by decide) (fun _ => ?_) (fun z => absurd hc1 z)
        refine mv_G_fg (lc' := [some (.ref (kb false 4)), none]) (And.intro rfl trivial) ?_
        exact kf24_163_ok _ _ _ d _ _ _ h
      · rw [if_neg hc1] at h
        refine mv_G_br (tgt := 163) rfl rfl (by decide) (fun z => absurd z hc1) (fun _ => ?_)
        refine mv_G_run 2 (F' := (146, [some (.ref (kb false 4)), some (.int v1)], [.ref (kb false 23)], 0, 0, kjS f I L)) rfl ?_
        obtain ⟨r2, hc3, h⟩ := mv_bd h
        refine mv_G_call (r := []) (kf55_ok _ _ _ _ _ _ hc3) rfl rfl rfl rfl rfl (Nat.le_of_ble_eq_true rfl) (Nat.le_of_ble_eq_true rfl) (Nat.le_of_ble_eq_true rfl) ?_
        rintro _ _ ⟨rfl, rfl⟩
        by_cases hc4 : r2 = 0
        · rw [if_pos hc4] at h
          refine mv_G_br (tgt := 163) rfl rfl (by decide) (fun _ => ?_) (fun z => absurd hc4 z)
          refine mv_G_fg (lc' := [some (.ref (kb false 4)), none]) (And.intro rfl trivial) ?_
          exact kf24_163_ok _ _ _ d _ _ _ h
        · rw [if_neg hc4] at h
          refine mv_G_br (tgt := 163) rfl rfl (by decide) (fun z => absurd z hc4) (fun _ => ?_)
          refine mv_G_run 2 (F' := (154, [some (.ref (kb false 4)), some (.int v1)], [.int v1, .ref (kb false 4)], 0, 0, kjS f I L)) rfl ?_
          obtain ⟨r5, hc6, h⟩ := mv_bd h
          refine mv_G_call (r := []) (kf27_ok _ _ _ _ _ _ _ _ hc6) rfl rfl rfl rfl rfl (Nat.le_of_ble_eq_true rfl) (Nat.le_of_ble_eq_true rfl) (Nat.le_of_ble_eq_true rfl) ?_
          rintro _ _ ⟨rfl, rfl⟩
          refine mv_G_run 2 (F' := (131, [some (.ref (kb false 4)), some (.int (v1 + (1 : Int32)))], [], 0, 0, kjS f r5.1 r5.2)) rfl ?_
          exact hk131 (v1 + (1 : Int32)) r5.1 r5.2 _ h
  · intro n
    induction n with
    | zero => intro v1 I L r h; cases h
    | succ n ih =>
      have hk131 := ih
      intro v1 I L r h
      unfold kf24_131 at h
      refine mv_G_run 4 (F' := (139, [some (.ref (kb true 4)), some (.int v1)], [.int (I (kb true 5) 4), .int v1], 0, 0, kjS f I L)) rfl ?_
      by_cases hc1 : (I (kb true 5) 4) ≤ v1
      · rw [if_pos hc1] at h
        refine mv_G_br (tgt := 163) rfl rfl (by decide) (fun _ => ?_) (fun z => absurd hc1 z)
        refine mv_G_fg (lc' := [some (.ref (kb true 4)), none]) (And.intro rfl trivial) ?_
        exact kf24_163_ok _ _ _ d _ _ _ h
      · rw [if_neg hc1] at h
        refine mv_G_br (tgt := 163) rfl rfl (by decide) (fun z => absurd z hc1) (fun _ => ?_)
        refine mv_G_run 2 (F' := (146, [some (.ref (kb true 4)), some (.int v1)], [.ref (kb true 23)], 0, 0, kjS f I L)) rfl ?_
        obtain ⟨r2, hc3, h⟩ := mv_bd h
        refine mv_G_call (r := []) (kf55_ok _ _ _ _ _ _ hc3) rfl rfl rfl rfl rfl (Nat.le_of_ble_eq_true rfl) (Nat.le_of_ble_eq_true rfl) (Nat.le_of_ble_eq_true rfl) ?_
        rintro _ _ ⟨rfl, rfl⟩
        by_cases hc4 : r2 = 0
        · rw [if_pos hc4] at h
          refine mv_G_br (tgt := 163) rfl rfl (by decide) (fun _ => ?_) (fun z => absurd hc4 z)
          refine mv_G_fg (lc' := [some (.ref (kb true 4)), none]) (And.intro rfl trivial) ?_
          exact kf24_163_ok _ _ _ d _ _ _ h
        · rw [if_neg hc4] at h
          refine mv_G_br (tgt := 163) rfl rfl (by decide) (fun z => absurd z hc4) (fun _ => ?_)
          refine mv_G_run 2 (F' := (154, [some (.ref (kb true 4)), some (.int v1)], [.int v1, .ref (kb true 4)], 0, 0, kjS f I L)) rfl ?_
          obtain ⟨r5, hc6, h⟩ := mv_bd h
          refine mv_G_call (r := []) (kf27_ok _ _ _ _ _ _ _ _ hc6) rfl rfl rfl rfl rfl (Nat.le_of_ble_eq_true rfl) (Nat.le_of_ble_eq_true rfl) (Nat.le_of_ble_eq_true rfl) ?_
          rintro _ _ ⟨rfl, rfl⟩
          refine mv_G_run 2 (F' := (131, [some (.ref (kb true 4)), some (.int (v1 + (1 : Int32)))], [], 0, 0, kjS f r5.1 r5.2)) rfl ?_
          exact hk131 (v1 + (1 : Int32)) r5.1 r5.2 _ h
def kf24_129 (b : Bool) (N : Nat) (I : kjI) (L : kjL) : Option (Int32 × kjI × kjL) :=
  kf24_131 b N N (0 : Int32) I L
set_option maxRecDepth 100000 in
set_option maxHeartbeats 4000000 in
theorem kf24_129_ok (f : Bool) (b : Bool) (N : Nat) (d : Nat)  (I : kjI) (L : kjL) (r : Int32 × kjI × kjL) (h : kf24_129 b N I L = some r) : mv_G kjP kjSta (mv_C kjP kjSta (d + 5)) kjM_24 (kjQwi f r) (129, [some (.ref (kb b 4)), none], [], 0, 0, kjS f I L) := by
  cases b
  · unfold kf24_129 at h
    refine mv_G_run 2 (F' := (131, [some (.ref (kb false 4)), some (.int (0 : Int32))], [], 0, 0, kjS f I L)) rfl ?_
    exact kf24_131_ok _ _ _ d _ _ _ _ _ h
  · unfold kf24_129 at h
    refine mv_G_run 2 (F' := (131, [some (.ref (kb true 4)), some (.int (0 : Int32))], [], 0, 0, kjS f I L)) rfl ?_
    exact kf24_131_ok _ _ _ d _ _ _ _ _ h
def kf24_97 (b : Bool) (N : Nat) : Nat → Int32 → kjI → kjL → Option (Int32 × kjI × kjL)
  | 0, _, _, _ => none
  | n + 1, v1, I, L => if (I (kb b 14) 3) ≤ v1 then (kf24_129 b N I L) else ((kf55 b I L).bind fun r2 => if r2 = 0 then (kf24_129 b N I L) else ((kf26 b N v1 I L).bind fun r5 => (fun v1 I L => kf24_97 b N n v1 I L) (v1 + (1 : Int32)) r5.1 r5.2))
set_option maxRecDepth 100000 in
set_option maxHeartbeats 4000000 in
theorem kf24_97_ok (f : Bool) (b : Bool) (N : Nat) (d : Nat)  : ∀ (n : Nat) (v1 : Int32) (I : kjI) (L : kjL) (r : Int32 × kjI × kjL), kf24_97 b N n v1 I L = some r → mv_G kjP kjSta (mv_C kjP kjSta (d + 5)) kjM_24 (kjQwi f r) (97, [some (.ref (kb b 4)), some (.int v1)], [], 0, 0, kjS f I L) := by
  cases b
  · intro n
    induction n with
    | zero => intro v1 I L r h; cases h
    | succ n ih =>
      have hk97 := ih
      intro v1 I L r h
      unfold kf24_97 at h
      refine mv_G_run 4 (F' := (105, [some (.ref (kb false 4)), some (.int v1)], [.int (I (kb false 14) 3), .int v1], 0, 0, kjS f I L)) rfl ?_
      by_cases hc1 : (I (kb false 14) 3) ≤ v1
      · rw [if_pos hc1] at h
        refine mv_G_br (tgt := 129) rfl rfl (by decide) (fun _ => ?_) (fun z => absurd hc1 z)
        refine mv_G_fg (lc' := [some (.ref (kb false 4)), none]) (And.intro rfl trivial) ?_
        exact kf24_129_ok _ _ _ d _ _ _ h
      · rw [if_neg hc1] at h
        refine mv_G_br (tgt := 129) rfl rfl (by decide) (fun z => absurd z hc1) (fun _ => ?_)
        refine mv_G_run 2 (F' := (112, [some (.ref (kb false 4)), some (.int v1)], [.ref (kb false 23)], 0, 0, kjS f I L)) rfl ?_
        obtain ⟨r2, hc3, h⟩ := mv_bd h
        refine mv_G_call (r := []) (kf55_ok _ _ _ _ _ _ hc3) rfl rfl rfl rfl rfl (Nat.le_of_ble_eq_true rfl) (Nat.le_of_ble_eq_true rfl) (Nat.le_of_ble_eq_true rfl) ?_
        rintro _ _ ⟨rfl, rfl⟩
        by_cases hc4 : r2 = 0
        · rw [if_pos hc4] at h
          refine mv_G_br (tgt := 129) rfl rfl (by decide) (fun _ => ?_) (fun z => absurd hc4 z)
          refine mv_G_fg (lc' := [some (.ref (kb false 4)), none]) (And.intro rfl trivial) ?_
          exact kf24_129_ok _ _ _ d _ _ _ h
        · rw [if_neg hc4] at h
          refine mv_G_br (tgt := 129) rfl rfl (by decide) (fun z => absurd z hc4) (fun _ => ?_)
          refine mv_G_run 2 (F' := (120, [some (.ref (kb false 4)), some (.int v1)], [.int v1, .ref (kb false 4)], 0, 0, kjS f I L)) rfl ?_
          obtain ⟨r5, hc6, h⟩ := mv_bd h
          refine mv_G_call (r := []) (kf26_ok _ _ _ _ _ _ _ _ hc6) rfl rfl rfl rfl rfl (Nat.le_of_ble_eq_true rfl) (Nat.le_of_ble_eq_true rfl) (Nat.le_of_ble_eq_true rfl) ?_
          rintro _ _ ⟨rfl, rfl⟩
          refine mv_G_run 2 (F' := (97, [some (.ref (kb false 4)), some (.int (v1 + (1 : Int32)))], [], 0, 0, kjS f r5.1 r5.2)) rfl ?_
          exact hk97 (v1 + (1 : Int32)) r5.1 r5.2 _ h
  · intro n
    induction n with
    | zero => intro v1 I L r h; cases h
    | succ n ih =>
      have hk97 := ih
      intro v1 I L r h
      unfold kf24_97 at h
      refine mv_G_run 4 (F' := (105, [some (.ref (kb true 4)), some (.int v1)], [.int (I (kb true 14) 3), .int v1], 0, 0, kjS f I L)) rfl ?_
      by_cases hc1 : (I (kb true 14) 3) ≤ v1
      · rw [if_pos hc1] at h
        refine mv_G_br (tgt := 129) rfl rfl (by decide) (fun _ => ?_) (fun z => absurd hc1 z)
        refine mv_G_fg (lc' := [some (.ref (kb true 4)), none]) (And.intro rfl trivial) ?_
        exact kf24_129_ok _ _ _ d _ _ _ h
      · rw [if_neg hc1] at h
        refine mv_G_br (tgt := 129) rfl rfl (by decide) (fun z => absurd z hc1) (fun _ => ?_)
        refine mv_G_run 2 (F' := (112, [some (.ref (kb true 4)), some (.int v1)], [.ref (kb true 23)], 0, 0, kjS f I L)) rfl ?_
        obtain ⟨r2, hc3, h⟩ := mv_bd h
        refine mv_G_call (r := []) (kf55_ok _ _ _ _ _ _ hc3) rfl rfl rfl rfl rfl (Nat.le_of_ble_eq_true rfl) (Nat.le_of_ble_eq_true rfl) (Nat.le_of_ble_eq_true rfl) ?_
        rintro _ _ ⟨rfl, rfl⟩
        by_cases hc4 : r2 = 0
        · rw [if_pos hc4] at h
          refine mv_G_br (tgt := 129) rfl rfl (by decide) (fun _ => ?_) (fun z => absurd hc4 z)
          refine mv_G_fg (lc' := [some (.ref (kb true 4)), none]) (And.intro rfl trivial) ?_
          exact kf24_129_ok _ _ _ d _ _ _ h
        · rw [if_neg hc4] at h
          refine mv_G_br (tgt := 129) rfl rfl (by decide) (fun z => absurd z hc4) (fun _ => ?_)
          refine mv_G_run 2 (F' := (120, [some (.ref (kb true 4)), some (.int v1)], [.int v1, .ref (kb true 4)], 0, 0, kjS f I L)) rfl ?_
          obtain ⟨r5, hc6, h⟩ := mv_bd h
          refine mv_G_call (r := []) (kf26_ok _ _ _ _ _ _ _ _ hc6) rfl rfl rfl rfl rfl (Nat.le_of_ble_eq_true rfl) (Nat.le_of_ble_eq_true rfl) (Nat.le_of_ble_eq_true rfl) ?_
          rintro _ _ ⟨rfl, rfl⟩
          refine mv_G_run 2 (F' := (97, [some (.ref (kb true 4)), some (.int (v1 + (1 : Int32)))], [], 0, 0, kjS f r5.1 r5.2)) rfl ?_
          exact hk97 (v1 + (1 : Int32)) r5.1 r5.2 _ h
def kf24_81 (b : Bool) (N : Nat) (I : kjI) (L : kjL) : Option (Int32 × kjI × kjL) :=
  (kf47a b (1 : Int32) (16 : Int32) I L).bind fun r1 => kf24_97 b N N (0 : Int32) r1.1 r1.2
set_option maxRecDepth 100000 in
set_option maxHeartbeats 4000000 in
theorem kf24_81_ok (f : Bool) (b : Bool) (N : Nat) (d : Nat)  (I : kjI) (L : kjL) (r : Int32 × kjI × kjL) (h : kf24_81 b N I L = some r) : mv_G kjP kjSta (mv_C kjP kjSta (d + 5)) kjM_24 (kjQwi f r) (81, [some (.ref (kb b 4)), none], [], 0, 0, kjS f I L) := by
  cases b
  · unfold kf24_81 at h
    refine mv_G_run 6 (F' := (92, [some (.ref (kb false 4)), none], [.int (16 : Int32), .int (1 : Int32), .ref (kb false 23), .ref (kb false 14)], 0, 0, kjS f I L)) rfl ?_
    obtain ⟨r1, hc2, h⟩ := mv_bd h
    refine mv_G_call (r := []) (kf47a_ok _ _ _ _ _ _ _ _ hc2) rfl rfl rfl rfl rfl (Nat.le_of_ble_eq_true rfl) (Nat.le_of_ble_eq_true rfl) (Nat.le_of_ble_eq_true rfl) ?_
    rintro _ _ ⟨rfl, rfl⟩
    refine mv_G_run 2 (F' := (97, [some (.ref (kb false 4)), some (.int (0 : Int32))], [], 0, 0, kjS f r1.1 r1.2)) rfl ?_
    exact kf24_97_ok _ _ _ d _ _ _ _ _ h
  · unfold kf24_81 at h
    refine mv_G_run 6 (F' := (92, [some (.ref (kb true 4)), none], [.int (16 : Int32), .int (1 : Int32), .ref (kb true 23), .ref (kb true 14)], 0, 0, kjS f I L)) rfl ?_
    obtain ⟨r1, hc2, h⟩ := mv_bd h
    refine mv_G_call (r := []) (kf47a_ok _ _ _ _ _ _ _ _ hc2) rfl rfl rfl rfl rfl (Nat.le_of_ble_eq_true rfl) (Nat.le_of_ble_eq_true rfl) (Nat.le_of_ble_eq_true rfl) ?_
    rintro _ _ ⟨rfl, rfl⟩
    refine mv_G_run 2 (F' := (97, [some (.ref (kb true 4)), some (.int (0 : Int32))], [], 0, 0, kjS f r1.1 r1.2)) rfl ?_
    exact kf24_97_ok _ _ _ d _ _ _ _ _ h
def kf24_34 (b : Bool) (N : Nat) : Nat → Int32 → kjI → kjL → Option (Int32 × kjI × kjL)
  | 0, _, _, _ => none
  | n + 1, v1, I, L => if (I (kb b 10) 3) ≤ v1 then (kf24_81 b N I L) else ((kf55 b I L).bind fun r2 => if r2 = 0 then (kf24_81 b N I L) else ((kf48 b N v1 (3 : Int32) (I (kb b 5) 4) I L).bind fun r5 => (fun v1 I L => kf24_34 b N n v1 I L) (v1 + (1 : Int32)) r5.1 r5.2))
set_option maxRecDepth 100000 in
set_option maxHeartbeats 4000000 in
theorem kf24_34_ok (f : Bool) (b : Bool) (N : Nat) (d : Nat)  : ∀ (n : Nat) (v1 : Int32) (I : kjI) (L : kjL) (r : Int32 × kjI × kjL), kf24_34 b N n v1 I L = some r → mv_G kjP kjSta (mv_C kjP kjSta (d + 5)) kjM_24 (kjQwi f r) (34, [some (.ref (kb b 4)), some (.int v1)], [], 0, 0, kjS f I L) := by
  cases b
  · intro n
    induction n with
    | zero => intro v1 I L r h; cases h
    | succ n ih =>
      have hk34 := ih
      intro v1 I L r h
      unfold kf24_34 at h
      refine mv_G_run 4 (F' := (42, [some (.ref (kb false 4)), some (.int v1)], [.int (I (kb false 10) 3), .int v1], 0, 0, kjS f I L)) rfl ?_
      by_cases hc1 : (I (kb false 10) 3) ≤ v1
      · rw [if_pos hc1] at h
        refine mv_G_br (tgt := 81) rfl rfl (by decide) (fun _ => ?_) (fun z => absurd hc1 z)
        refine mv_G_fg (lc' := [some (.ref (kb false 4)), none]) (And.intro rfl trivial) ?_
        exact kf24_81_ok _ _ _ d _ _ _ h
      · rw [if_neg hc1] at h
        refine mv_G_br (tgt := 81) rfl rfl (by decide) (fun z => absurd z hc1) (fun _ => ?_)
        refine mv_G_run 2 (F' := (49, [some (.ref (kb false 4)), some (.int v1)], [.ref (kb false 23)], 0, 0, kjS f I L)) rfl ?_
        obtain ⟨r2, hc3, h⟩ := mv_bd h
        refine mv_G_call (r := []) (kf55_ok _ _ _ _ _ _ hc3) rfl rfl rfl rfl rfl (Nat.le_of_ble_eq_true rfl) (Nat.le_of_ble_eq_true rfl) (Nat.le_of_ble_eq_true rfl) ?_
        rintro _ _ ⟨rfl, rfl⟩
        by_cases hc4 : r2 = 0
        · rw [if_pos hc4] at h
          refine mv_G_br (tgt := 81) rfl rfl (by decide) (fun _ => ?_) (fun z => absurd hc4 z)
          refine mv_G_fg (lc' := [some (.ref (kb false 4)), none]) (And.intro rfl trivial) ?_
          exact kf24_81_ok _ _ _ d _ _ _ h
        · rw [if_neg hc4] at h
          refine mv_G_br (tgt := 81) rfl rfl (by decide) (fun z => absurd z hc4) (fun _ => ?_)
          refine mv_G_run 9 (F' := (72, [some (.ref (kb false 4)), some (.int v1)], [.int (I (kb false 5) 4), .int (3 : Int32), .int v1, .ref (kb false 23), .ref (kb false 10)], 0, 0, kjS f I L)) rfl ?_
          obtain ⟨r5, hc6, h⟩ := mv_bd h
          refine mv_G_call (r := []) (kf48_ok _ _ _ _ _ _ _ _ _ _ hc6) rfl rfl rfl rfl rfl (Nat.le_of_ble_eq_true rfl) (Nat.le_of_ble_eq_true rfl) (Nat.le_of_ble_eq_true rfl) ?_
          rintro _ _ ⟨rfl, rfl⟩
          refine mv_G_run 2 (F' := (34, [some (.ref (kb false 4)), some (.int (v1 + (1 : Int32)))], [], 0, 0, kjS f r5.1 r5.2)) rfl ?_
          exact hk34 (v1 + (1 : Int32)) r5.1 r5.2 _ h
  · intro n
    induction n with
    | zero => intro v1 I L r h; cases h
    | succ n ih =>
      have hk34 := ih
      intro v1 I L r h
      unfold kf24_34 at h
      refine mv_G_run 4 (F' := (42, [some (.ref (kb true 4)), some (.int v1)], [.int (I (kb true 10) 3), .int v1], 0, 0, kjS f I L)) rfl ?_
      by_cases hc1 : (I (kb true 10) 3) ≤ v1
      · rw [if_pos hc1] at h
        refine mv_G_br (tgt := 81) rfl rfl (by decide) (fun _ => ?_) (fun z => absurd hc1 z)
        refine mv_G_fg (lc' := [some (.ref (kb true 4)), none]) (And.intro rfl trivial) ?_
        exact kf24_81_ok _ _ _ d _ _ _ h
      · rw [if_neg hc1] at h
        refine mv_G_br (tgt := 81) rfl rfl (by decide) (fun z => absurd z hc1) (fun _ => ?_)
        refine mv_G_run 2 (F' := (49, [some (.ref (kb true 4)), some (.int v1)], [.ref (kb true 23)], 0, 0, kjS f I L)) rfl ?_
        obtain ⟨r2, hc3, h⟩ := mv_bd h
        refine mv_G_call (r := []) (kf55_ok _ _ _ _ _ _ hc3) rfl rfl rfl rfl rfl (Nat.le_of_ble_eq_true rfl) (Nat.le_of_ble_eq_true rfl) (Nat.le_of_ble_eq_true rfl) ?_
        rintro _ _ ⟨rfl, rfl⟩
        by_cases hc4 : r2 = 0
        · rw [if_pos hc4] at h
          refine mv_G_br (tgt := 81) rfl rfl (by decide) (fun _ => ?_) (fun z => absurd hc4 z)
          refine mv_G_fg (lc' := [some (.ref (kb true 4)), none]) (And.intro rfl trivial) ?_
          exact kf24_81_ok _ _ _ d _ _ _ h
        · rw [if_neg hc4] at h
          refine mv_G_br (tgt := 81) rfl rfl (by decide) (fun z => absurd z hc4) (fun _ => ?_)
          refine mv_G_run 9 (F' := (72, [some (.ref (kb true 4)), some (.int v1)], [.int (I (kb true 5) 4), .int (3 : Int32), .int v1, .ref (kb true 23), .ref (kb true 10)], 0, 0, kjS f I L)) rfl ?_
          obtain ⟨r5, hc6, h⟩ := mv_bd h
          refine mv_G_call (r := []) (kf48_ok _ _ _ _ _ _ _ _ _ _ hc6) rfl rfl rfl rfl rfl (Nat.le_of_ble_eq_true rfl) (Nat.le_of_ble_eq_true rfl) (Nat.le_of_ble_eq_true rfl) ?_
          rintro _ _ ⟨rfl, rfl⟩
          refine mv_G_run 2 (F' := (34, [some (.ref (kb true 4)), some (.int (v1 + (1 : Int32)))], [], 0, 0, kjS f r5.1 r5.2)) rfl ?_
          exact hk34 (v1 + (1 : Int32)) r5.1 r5.2 _ h
def kf24 (b : Bool) (N : Nat) (I : kjI) (L : kjL) : Option (Int32 × kjI × kjL) :=
  (kf54 b I L).bind fun r1 => (kf35 b N r1.1 r1.2).bind fun r3 => (kf47 b (0 : Int32) (8 : Int32) r3.1 r3.2).bind fun r5 => kf24_34 b N N (0 : Int32) r5.1 r5.2
set_option maxRecDepth 100000 in
set_option maxHeartbeats 4000000 in
theorem kf24_ok (f : Bool) (b : Bool) (N : Nat) (I : kjI) (L : kjL) (d : Nat) (r : Int32 × kjI × kjL) (h : kf24 b N I L = some r) : mv_C kjP kjSta (d + 6) 24 [.ref (kb b 4)] (kjS f I L) (kjQwi f r) := by
  cases b
  · unfold kf24 at h
    refine mv_C_in kjM_24 (lc := [some (.ref (kb false 4)), none]) rfl rfl rfl ?_
    refine mv_G_run 2 (F' := (4, [some (.ref (kb false 4)), none], [.ref (kb false 23)], 0, 0, kjS f I L)) rfl ?_
    obtain ⟨r1, hc2, h⟩ := mv_bd h
    refine mv_G_call (r := []) (kf54_ok _ _ _ _ _ _ hc2) rfl rfl rfl rfl rfl (Nat.le_of_ble_eq_true rfl) (Nat.le_of_ble_eq_true rfl) (Nat.le_of_ble_eq_true rfl) ?_
    rintro _ _ ⟨rfl, rfl⟩
    refine mv_G_run 4 (F' := (15, [some (.ref (kb false 4)), none], [.ref (kb false 23), .ref (kb false 5)], 0, 0, kjS f r1.1 r1.2)) rfl ?_
    obtain ⟨r3, hc4, h⟩ := mv_bd h
    refine mv_G_call (r := []) (kf35_ok _ _ _ _ _ _ _ hc4) rfl rfl rfl rfl rfl (Nat.le_of_ble_eq_true rfl) (Nat.le_of_ble_eq_true rfl) (Nat.le_of_ble_eq_true rfl) ?_
    rintro _ _ ⟨rfl, rfl⟩
    refine mv_G_run 6 (F' := (29, [some (.ref (kb false 4)), none], [.int (8 : Int32), .int (0 : Int32), .ref (kb false 23), .ref (kb false 10)], 0, 0, kjS f r3.1 r3.2)) rfl ?_
    obtain ⟨r5, hc6, h⟩ := mv_bd h
    refine mv_G_call (r := []) (kf47_ok _ _ _ _ _ _ _ _ hc6) rfl rfl rfl rfl rfl (Nat.le_of_ble_eq_true rfl) (Nat.le_of_ble_eq_true rfl) (Nat.le_of_ble_eq_true rfl) ?_
    rintro _ _ ⟨rfl, rfl⟩
    refine mv_G_run 2 (F' := (34, [some (.ref (kb false 4)), some (.int (0 : Int32))], [], 0, 0, kjS f r5.1 r5.2)) rfl ?_
    exact kf24_34_ok _ _ _ d _ _ _ _ _ h
  · unfold kf24 at h
    refine mv_C_in kjM_24 (lc := [some (.ref (kb true 4)), none]) rfl rfl rfl ?_
    refine mv_G_run 2 (F' := (4, [some (.ref (kb true 4)), none], [.ref (kb true 23)], 0, 0, kjS f I L)) rfl ?_
    obtain ⟨r1, hc2, h⟩ := mv_bd h
    refine mv_G_call (r := []) (kf54_ok _ _ _ _ _ _ hc2) rfl rfl rfl rfl rfl (Nat.le_of_ble_eq_true rfl) (Nat.le_of_ble_eq_true rfl) (Nat.le_of_ble_eq_true rfl) ?_
    rintro _ _ ⟨rfl, rfl⟩
    refine mv_G_run 4 (F' := (15, [some (.ref (kb true 4)), none], [.ref (kb true 23), .ref (kb true 5)], 0, 0, kjS f r1.1 r1.2)) rfl ?_
    obtain ⟨r3, hc4, h⟩ := mv_bd h
    refine mv_G_call (r := []) (kf35_ok _ _ _ _ _ _ _ hc4) rfl rfl rfl rfl rfl (Nat.le_of_ble_eq_true rfl) (Nat.le_of_ble_eq_true rfl) (Nat.le_of_ble_eq_true rfl) ?_
    rintro _ _ ⟨rfl, rfl⟩
    refine mv_G_run 6 (F' := (29, [some (.ref (kb true 4)), none], [.int (8 : Int32), .int (0 : Int32), .ref (kb true 23), .ref (kb true 10)], 0, 0, kjS f r3.1 r3.2)) rfl ?_
    obtain ⟨r5, hc6, h⟩ := mv_bd h
    refine mv_G_call (r := []) (kf47_ok _ _ _ _ _ _ _ _ hc6) rfl rfl rfl rfl rfl (Nat.le_of_ble_eq_true rfl) (Nat.le_of_ble_eq_true rfl) (Nat.le_of_ble_eq_true rfl) ?_
    rintro _ _ ⟨rfl, rfl⟩
    refine mv_G_run 2 (F' := (34, [some (.ref (kb true 4)), some (.int (0 : Int32))], [], 0, 0, kjS f r5.1 r5.2)) rfl ?_
    exact kf24_34_ok _ _ _ d _ _ _ _ _ h
/-! KindJudge$Layout.faultPlace()I on ('b', 4) -/
def kf25 (b : Bool) (I : kjI) (L : kjL) : Option (Int32) :=
  (kf57 b I L).bind fun r1 => some r1
set_option maxRecDepth 100000 in
set_option maxHeartbeats 4000000 in
theorem kf25_ok (f : Bool) (b : Bool) (I : kjI) (L : kjL) (d : Nat) (r : Int32) (h : kf25 b I L = some r) : mv_C kjP kjSta (d + 2) 25 [.ref (kb b 4)] (kjS f I L) (kjQi f I L r) := by
  cases b
  · unfold kf25 at h
    refine mv_C_in kjM_25 (lc := [some (.ref (kb false 4))]) rfl rfl rfl ?_
    refine mv_G_run 2 (F' := (4, [some (.ref (kb false 4))], [.ref (kb false 23)], 0, 0, kjS f I L)) rfl ?_
    obtain ⟨r1, hc2, h⟩ := mv_bd h
    refine mv_G_call (r := []) (kf57_ok _ _ _ _ _ _ hc2) rfl rfl rfl rfl rfl (Nat.le_of_ble_eq_true rfl) (Nat.le_of_ble_eq_true rfl) (Nat.le_of_ble_eq_true rfl) ?_
    rintro _ _ ⟨rfl, rfl⟩
    obtain rfl := Option.some.inj h
    exact mv_G_ret rfl rfl rfl (Nat.le_refl _) trivial ⟨rfl, rfl⟩
  · unfold kf25 at h
    refine mv_C_in kjM_25 (lc := [some (.ref (kb true 4))]) rfl rfl rfl ?_
    refine mv_G_run 2 (F' := (4, [some (.ref (kb true 4))], [.ref (kb true 23)], 0, 0, kjS f I L)) rfl ?_
    obtain ⟨r1, hc2, h⟩ := mv_bd h
    refine mv_G_call (r := []) (kf57_ok _ _ _ _ _ _ hc2) rfl rfl rfl rfl rfl (Nat.le_of_ble_eq_true rfl) (Nat.le_of_ble_eq_true rfl) (Nat.le_of_ble_eq_true rfl) ?_
    rintro _ _ ⟨rfl, rfl⟩
    obtain rfl := Option.some.inj h
    exact mv_G_ret rfl rfl rfl (Nat.le_refl _) trivial ⟨rfl, rfl⟩
/-! KindJudge$Code.markBeginnings(I)V on ('b', 24) -/
def kf65_81 (b : Bool) (N : Nat) (k14 : Int32 → Int32 → Int32 → Int32 → kjI → kjL → Option (kjI × kjL)) (v1 : Int32) (v2 : Int32) (v3 : Int32) (v4 : Int32) (I : kjI) (L : kjL) : Option (kjI × kjL) :=
  k14 v1 v2 v3 (v4 + (1 : Int32)) I L
set_option maxRecDepth 100000 in
set_option maxHeartbeats 4000000 in
theorem kf65_81_ok (f : Bool) (b : Bool) (N : Nat) (k14 : Int32 → Int32 → Int32 → Int32 → kjI → kjL → Option (kjI × kjL)) (d : Nat) (hk14 : ∀ (v1 : Int32) (v2 : Int32) (v3 : Int32) (v4 : Int32) (I : kjI) (L : kjL) (r : kjI × kjL), k14 v1 v2 v3 v4 I L = some r → mv_G kjP kjSta (mv_C kjP kjSta (d + 4)) kjM_65 (kjQwv f r) (14, [some (.ref (kb b 24)), some (.int v1), some (.int v2), some (.int v3), some (.int v4), none], [], 0, 0, kjS f I L)) (v1 : Int32) (v2 : Int32) (v3 : Int32) (v4 : Int32) (I : kjI) (L : kjL) (r : kjI × kjL) (h : kf65_81 b N k14 v1 v2 v3 v4 I L = some r) : mv_G kjP kjSta (mv_C kjP kjSta (d + 4)) kjM_65 (kjQwv f r) (81, [some (.ref (kb b 24)), some (.int v1), some (.int v2), some (.int v3), some (.int v4), none], [], 0, 0, kjS f I L) := by
  cases b
  · unfold kf65_81 at h
    refine mv_G_run 2 (F' := (14, [some (.ref (kb false 24)), some (.int v1), some (.int v2), some (.int v3), some (.int (v4 + (1 : Int32))), none], [], 0, 0, kjS f I L)) rfl ?_
    exact hk14 v1 v2 v3 (v4 + (1 : Int32)) I L _ h
  · unfold kf65_81 at h
    refine mv_G_run 2 (F' := (14, [some (.ref (kb true 24)), some (.int v1), some (.int v2), some (.int v3), some (.int (v4 + (1 : Int32))), none], [], 0, 0, kjS f I L)) rfl ?_
    exact hk14 v1 v2 v3 (v4 + (1 : Int32)) I L _ h
def kf65_65 (b : Bool) (N : Nat) (k14 : Int32 → Int32 → Int32 → Int32 → kjI → kjL → Option (kjI × kjL)) (v1 : Int32) (v2 : Int32) (v3 : Int32) (v4 : Int32) (I : kjI) (L : kjL) : Option (kjI × kjL) :=
  if ¬ v4 = v3 then (kf65_81 b N k14 v1 v2 v3 v4 I L) else ((kf68 b I L v1 v4).bind fun r2 => kf65_81 b N k14 v1 v2 (v3 + r2) v4 I L)
set_option maxRecDepth 100000 in
set_option maxHeartbeats 4000000 in
theorem kf65_65_ok (f : Bool) (b : Bool) (N : Nat) (k14 : Int32 → Int32 → Int32 → Int32 → kjI → kjL → Option (kjI × kjL)) (d : Nat) (hk14 : ∀ (v1 : Int32) (v2 : Int32) (v3 : Int32) (v4 : Int32) (I : kjI) (L : kjL) (r : kjI × kjL), k14 v1 v2 v3 v4 I L = some r → mv_G kjP kjSta (mv_C kjP kjSta (d + 4)) kjM_65 (kjQwv f r) (14, [some (.ref (kb b 24)), some (.int v1), some (.int v2), some (.int v3), some (.int v4), none], [], 0, 0, kjS f I L)) (v1 : Int32) (v2 : Int32) (v3 : Int32) (v4 : Int32) (I : kjI) (L : kjL) (r : kjI × kjL) (h : kf65_65 b N k14 v1 v2 v3 v4 I L = some r) : mv_G kjP kjSta (mv_C kjP kjSta (d + 4)) kjM_65 (kjQwv f r) (65, [some (.ref (kb b 24)), some (.int v1), some (.int v2), some (.int v3), some (.int v4), none], [], 0, 0, kjS f I L) := by
  cases b
  · unfold kf65_65 at h
    refine mv_G_run 2 (F' := (68, [some (.ref (kb false 24)), some (.int v1), some (.int v2), some (.int v3), some (.int v4), none], [.int v3, .int v4], 0, 0, kjS f I L)) rfl ?_
    by_cases hc1 : ¬ v4 = v3
    · rw [if_pos hc1] at h
      refine mv_G_br (tgt := 81) rfl rfl (by decide) (fun _ => ?_) (fun z => absurd hc1 z)
      exact kf65_81_ok _ _ _ _ d hk14 _ _ _ _ _ _ _ h
    · rw [if_neg hc1] at h
      refine mv_G_br (tgt := 81) rfl rfl (by decide) (fun z => absurd z hc1) (fun _ => ?_)
      refine mv_G_run 4 (F' := (76, [some (.ref (kb false 24)), some (.int v1), some (.int v2), some (.int v3), some (.int v4), none], [.int v4, .int v1, .ref (kb false 24), .int v3], 0, 0, kjS f I L)) rfl ?_
      obtain ⟨r2, hc3, h⟩ := mv_bd h
      refine mv_G_call (r := [.int v3]) (kf68_ok _ _ _ _ _ _ _ _ hc3) rfl rfl rfl rfl rfl (Nat.le_of_ble_eq_true rfl) (Nat.le_of_ble_eq_true rfl) (Nat.le_of_ble_eq_true rfl) ?_
      rintro _ _ ⟨rfl, rfl⟩
      refine mv_G_run 2 (F' := (81, [some (.ref (kb false 24)), some (.int v1), some (.int v2), some (.int (v3 + r2)), some (.int v4), none], [], 0, 0, kjS f I L)) rfl ?_
      exact kf65_81_ok _ _ _ _ d hk14 _ _ _ _ _ _ _ h
  · unfold kf65_65 at h
    refine mv_G_run 2 (F' := (68, [some (.ref (kb true 24)), some (.int v1), some (.int v2), some (.int v3), some (.int v4), none], [.int v3, .int v4], 0, 0, kjS f I L)) rfl ?_
    by_cases hc1 : ¬ v4 = v3
    · rw [if_pos hc1] at h
      refine mv_G_br (tgt := 81) rfl rfl (by decide) (fun _ => ?_) (fun z => absurd hc1 z)
      exact kf65_81_ok _ _ _ _ d hk14 _ _ _ _ _ _ _ h
    · rw [if_neg hc1] at h
      refine mv_G_br (tgt := 81) rfl rfl (by decide) (fun z => absurd z hc1) (fun _ => ?_)
      refine mv_G_run 4 (F' := (76, [some (.ref (kb true 24)), some (.int v1), some (.int v2), some (.int v3), some (.int v4), none], [.int v4, .int v1, .ref (kb true 24), .int v3], 0, 0, kjS f I L)) rfl ?_
      obtain ⟨r2, hc3, h⟩ := mv_bd h
      refine mv_G_call (r := [.int v3]) (kf68_ok _ _ _ _ _ _ _ _ hc3) rfl rfl rfl rfl rfl (Nat.le_of_ble_eq_true rfl) (Nat.le_of_ble_eq_true rfl) (Nat.le_of_ble_eq_true rfl) ?_
      rintro _ _ ⟨rfl, rfl⟩
      refine mv_G_run 2 (F' := (81, [some (.ref (kb true 24)), some (.int v1), some (.int v2), some (.int (v3 + r2)), some (.int v4), none], [], 0, 0, kjS f I L)) rfl ?_
      exact kf65_81_ok _ _ _ _ d hk14 _ _ _ _ _ _ _ h
def kf65_64 (b : Bool) (N : Nat) (k14 : Int32 → Int32 → Int32 → Int32 → kjI → kjL → Option (kjI × kjL)) (v1 : Int32) (v2 : Int32) (v3 : Int32) (v4 : Int32) (s1 : Int32) (s2 : Int32) (I : kjI) (L : kjL) : Option (kjI × kjL) :=
  bif mv_in s1 1500 then (kf65_65 b N k14 v1 v2 v3 v4 (mv_up I (kb b 25) (Int32.toNatClampNeg s1) (s2 &&& 1)) L) else none
set_option maxRecDepth 100000 in
set_option maxHeartbeats 4000000 in
theorem kf65_64_ok (f : Bool) (b : Bool) (N : Nat) (k14 : Int32 → Int32 → Int32 → Int32 → kjI → kjL → Option (kjI × kjL)) (d : Nat) (hk14 : ∀ (v1 : Int32) (v2 : Int32) (v3 : Int32) (v4 : Int32) (I : kjI) (L : kjL) (r : kjI × kjL), k14 v1 v2 v3 v4 I L = some r → mv_G kjP kjSta (mv_C kjP kjSta (d + 4)) kjM_65 (kjQwv f r) (14, [some (.ref (kb b 24)), some (.int v1), some (.int v2), some (.int v3), some (.int v4), none], [], 0, 0, kjS f I L)) (v1 : Int32) (v2 : Int32) (v3 : Int32) (v4 : Int32) (s1 : Int32) (s2 : Int32) (I : kjI) (L : kjL) (r : kjI × kjL) (h : kf65_64 b N k14 v1 v2 v3 v4 s1 s2 I L = some r) : mv_G kjP kjSta (mv_C kjP kjSta (d + 4)) kjM_65 (kjQwv f r) (64, [some (.ref (kb b 24)), some (.int v1), some (.int v2), some (.int v3), some (.int v4), none], [.int s2, .int s1, .ref (kb b 25)], 0, 0, kjS f I L) := by
  cases b
  · unfold kf65_64 at h
    obtain ⟨hi1, h⟩ := mv_bifs h
    refine mv_G_ast rfl rfl (mv_in_ok hi1) ?_
    exact kf65_65_ok _ _ _ _ d hk14 _ _ _ _ _ _ _ h
  · unfold kf65_64 at h
    obtain ⟨hi1, h⟩ := mv_bifs h
    refine mv_G_ast rfl rfl (mv_in_ok hi1) ?_
    exact kf65_65_ok _ _ _ _ d hk14 _ _ _ _ _ _ _ h
def kf65_14 (b : Bool) (N : Nat) : Nat → Int32 → Int32 → Int32 → Int32 → kjI → kjL → Option (kjI × kjL)
  | 0, _, _, _, _, _, _ => none
  | n + 1, v1, v2, v3, v4, I, L => if v2 ≤ v4 then (some (I, L)) else ((kf33 b I L v1 v4).bind fun r2 => if r2 < 0 then (kf65_65 b N (fun v1 v2 v3 v4 I L => kf65_14 b N n v1 v2 v3 v4 I L) v1 v2 v3 v4 I L) else (if (1500 : Int32) ≤ r2 then (kf65_65 b N (fun v1 v2 v3 v4 I L => kf65_14 b N n v1 v2 v3 v4 I L) v1 v2 v3 v4 I L) else (if ¬ v4 = v3 then (kf65_64 b N (fun v1 v2 v3 v4 I L => kf65_14 b N n v1 v2 v3 v4 I L) v1 v2 v3 v4 r2 (0 : Int32) I L) else (kf65_64 b N (fun v1 v2 v3 v4 I L => kf65_14 b N n v1 v2 v3 v4 I L) v1 v2 v3 v4 r2 (1 : Int32) I L))))
set_option maxRecDepth 100000 in
set_option maxHeartbeats 4000000 in
theorem kf65_14_ok (f : Bool) (b : Bool) (N : Nat) (d : Nat)  : ∀ (n : Nat) (v1 : Int32) (v2 : Int32) (v3 : Int32) (v4 : Int32) (I : kjI) (L : kjL) (r : kjI × kjL), kf65_14 b N n v1 v2 v3 v4 I L = some r → mv_G kjP kjSta (mv_C kjP kjSta (d + 4)) kjM_65 (kjQwv f r) (14, [some (.ref (kb b 24)), some (.int v1), some (.int v2), some (.int v3), some (.int v4), none], [], 0, 0, kjS f I L) := by
  cases b
  · intro n
    induction n with
    | zero => intro v1 v2 v3 v4 I L r h; cases h
    | succ n ih =>
      have hk14 := ih
      intro v1 v2 v3 v4 I L r h
      unfold kf65_14 at h
      refine mv_G_run 2 (F' := (17, [some (.ref (kb false 24)), some (.int v1), some (.int v2), some (.int v3), some (.int v4), none], [.int v2, .int v4], 0, 0, kjS f I L)) rfl ?_
      by_cases hc1 : v2 ≤ v4
      · rw [if_pos hc1] at h
        refine mv_G_br (tgt := 87) rfl rfl (by decide) (fun _ => ?_) (fun z => absurd hc1 z)
        obtain rfl := Option.some.inj h
        exact mv_G_ret rfl rfl rfl (Nat.le_refl _) trivial ⟨rfl, rfl⟩
      · rw [if_neg hc1] at h
        refine mv_G_br (tgt := 87) rfl rfl (by decide) (fun z => absurd z hc1) (fun _ => ?_)
        refine mv_G_run 4 (F' := (27, [some (.ref (kb false 24)), some (.int v1), some (.int v2), some (.int v3), some (.int v4), none], [.int v4, .int v1, .ref (kb false 4)], 0, 0, kjS f I L)) rfl ?_
        obtain ⟨r2, hc3, h⟩ := mv_bd h
        refine mv_G_call (r := []) (kf33_ok _ _ _ _ _ _ _ _ hc3) rfl rfl rfl rfl rfl (Nat.le_of_ble_eq_true rfl) (Nat.le_of_ble_eq_true rfl) (Nat.le_of_ble_eq_true rfl) ?_
        rintro _ _ ⟨rfl, rfl⟩
        refine mv_G_run 2 (F' := (34, [some (.ref (kb false 24)), some (.int v1), some (.int v2), some (.int v3), some (.int v4), some (.int r2)], [.int r2], 0, 0, kjS f I L)) rfl ?_
        by_cases hc4 : r2 < 0
        · rw [if_pos hc4] at h
          refine mv_G_br (tgt := 65) rfl rfl (by decide) (fun _ => ?_) (fun z => absurd hc4 z)
          refine mv_G_fg (lc' := [some (.ref (kb false 24)), some (.int v1), some (.int v2), some (.int v3), some (.int v4), none]) (And.intro rfl (And.intro rfl (And.intro rfl (And.intro rfl (And.intro rfl trivial))))) ?_
          exact kf65_65_ok _ _ _ _ d hk14 _ _ _ _ _ _ _ h
        · rw [if_neg hc4] at h
          refine mv_G_br (tgt := 65) rfl rfl (by decide) (fun z => absurd z hc4) (fun _ => ?_)
          refine mv_G_run 4 (F' := (44, [some (.ref (kb false 24)), some (.int v1), some (.int v2), some (.int v3), some (.int v4), some (.int r2)], [.int (1500 : Int32), .int r2], 0, 0, kjS f I L)) rfl ?_
          by_cases hc5 : (1500 : Int32) ≤ r2
          · rw [if_pos hc5] at h
            refine mv_G_br (tgt := 65) rfl rfl (by decide) (fun _ => ?_) (fun z => absurd hc5 z)
            refine mv_G_fg (lc' := [some (.ref (kb false 24)), some (.int v1), some (.int v2), some (.int v3), some (.int v4), none]) (And.intro rfl (And.intro rfl (And.intro rfl (And.intro rfl (And.intro rfl trivial))))) ?_
            exact kf65_65_ok _ _ _ _ d hk14 _ _ _ _ _ _ _ h
          · rw [if_neg hc5] at h
            refine mv_G_br (tgt := 65) rfl rfl (by decide) (fun z => absurd z hc5) (fun _ => ?_)
            refine mv_G_run 5 (F' := (56, [some (.ref (kb false 24)), some (.int v1), some (.int v2), some (.int v3), some (.int v4), some (.int r2)], [.int v3, .int v4, .int r2, .ref (kb false 25)], 0, 0, kjS f I L)) rfl ?_
            by_cases hc6 : ¬ v4 = v3
            · rw [if_pos hc6] at h
              refine mv_G_br (tgt := 63) rfl rfl (by decide) (fun _ => ?_) (fun z => absurd hc6 z)
              refine mv_G_run 1 (F' := (64, [some (.ref (kb false 24)), some (.int v1), some (.int v2), some (.int v3), some (.int v4), some (.int r2)], [.int (0 : Int32), .int r2, .ref (kb false 25)], 0, 0, kjS f I L)) rfl ?_
              refine mv_G_fg (lc' := [some (.ref (kb false 24)), some (.int v1), some (.int v2), some (.int v3), some (.int v4), none]) (And.intro rfl (And.intro rfl (And.intro rfl (And.intro rfl (And.intro rfl trivial))))) ?_
              exact kf65_64_ok _ _ _ _ d hk14 _ _ _ _ _ _ _ _ _ h
            · rw [if_neg hc6] at h
              refine mv_G_br (tgt := 63) rfl rfl (by decide) (fun z => absurd z hc6) (fun _ => ?_)
              refine mv_G_run 2 (F' := (64, [some (.ref (kb false 24)), some (.int v1), some (.int v2), some (.int v3), some (.int v4), some (.int r2)], [.int (1 : Int32), .int r2, .ref (kb false 25)], 0, 0, kjS f I L)) rfl ?_
              refine mv_G_fg (lc' := [some (.ref (kb false 24)), some (.int v1), some (.int v2), some (.int v3), some (.int v4), none]) (And.intro rfl (And.intro rfl (And.intro rfl (And.intro rfl (And.intro rfl trivial))))) ?_
              exact kf65_64_ok _ _ _ _ d hk14 _ _ _ _ _ _ _ _ _ h
  · intro n
    induction n with
    | zero => intro v1 v2 v3 v4 I L r h; cases h
    | succ n ih =>
      have hk14 := ih
      intro v1 v2 v3 v4 I L r h
      unfold kf65_14 at h
      refine mv_G_run 2 (F' := (17, [some (.ref (kb true 24)), some (.int v1), some (.int v2), some (.int v3), some (.int v4), none], [.int v2, .int v4], 0, 0, kjS f I L)) rfl ?_
      by_cases hc1 : v2 ≤ v4
      · rw [if_pos hc1] at h
        refine mv_G_br (tgt := 87) rfl rfl (by decide) (fun _ => ?_) (fun z => absurd hc1 z)
        obtain rfl := Option.some.inj h
        exact mv_G_ret rfl rfl rfl (Nat.le_refl _) trivial ⟨rfl, rfl⟩
      · rw [if_neg hc1] at h
        refine mv_G_br (tgt := 87) rfl rfl (by decide) (fun z => absurd z hc1) (fun _ => ?_)
        refine mv_G_run 4 (F' := (27, [some (.ref (kb true 24)), some (.int v1), some (.int v2), some (.int v3), some (.int v4), none], [.int v4, .int v1, .ref (kb true 4)], 0, 0, kjS f I L)) rfl ?_
        obtain ⟨r2, hc3, h⟩ := mv_bd h
        refine mv_G_call (r := []) (kf33_ok _ _ _ _ _ _ _ _ hc3) rfl rfl rfl rfl rfl (Nat.le_of_ble_eq_true rfl) (Nat.le_of_ble_eq_true rfl) (Nat.le_of_ble_eq_true rfl) ?_
        rintro _ _ ⟨rfl, rfl⟩
        refine mv_G_run 2 (F' := (34, [some (.ref (kb true 24)), some (.int v1), some (.int v2), some (.int v3), some (.int v4), some (.int r2)], [.int r2], 0, 0, kjS f I L)) rfl ?_
        by_cases hc4 : r2 < 0
        · rw [if_pos hc4] at h
          refine mv_G_br (tgt := 65) rfl rfl (by decide) (fun _ => ?_) (fun z => absurd hc4 z)
          refine mv_G_fg (lc' := [some (.ref (kb true 24)), some (.int v1), some (.int v2), some (.int v3), some (.int v4), none]) (And.intro rfl (And.intro rfl (And.intro rfl (And.intro rfl (And.intro rfl trivial))))) ?_
          exact kf65_65_ok _ _ _ _ d hk14 _ _ _ _ _ _ _ h
        · rw [if_neg hc4] at h
          refine mv_G_br (tgt := 65) rfl rfl (by decide) (fun z => absurd z hc4) (fun _ => ?_)
          refine mv_G_run 4 (F' := (44, [some (.ref (kb true 24)), some (.int v1), some (.int v2), some (.int v3), some (.int v4), some (.int r2)], [.int (1500 : Int32), .int r2], 0, 0, kjS f I L)) rfl ?_
          by_cases hc5 : (1500 : Int32) ≤ r2
          · rw [if_pos hc5] at h
            refine mv_G_br (tgt := 65) rfl rfl (by decide) (fun _ => ?_) (fun z => absurd hc5 z)
            refine mv_G_fg (lc' := [some (.ref (kb true 24)), some (.int v1), some (.int v2), some (.int v3), some (.int v4), none]) (And.intro rfl (And.intro rfl (And.intro rfl (And.intro rfl (And.intro rfl trivial))))) ?_
            exact kf65_65_ok _ _ _ _ d hk14 _ _ _ _ _ _ _ h
          · rw [if_neg hc5] at h
            refine mv_G_br (tgt := 65) rfl rfl (by decide) (fun z => absurd z hc5) (fun _ => ?_)
            refine mv_G_run 5 (F' := (56, [some (.ref (kb true 24)), some (.int v1), some (.int v2), some (.int v3), some (.int v4), some (.int r2)], [.int v3, .int v4, .int r2, .ref (kb true 25)], 0, 0, kjS f I L)) rfl ?_
            by_cases hc6 : ¬ v4 = v3
            · rw [if_pos hc6] at h
              refine mv_G_br (tgt := 63) rfl rfl (by decide) (fun _ => ?_) (fun z => absurd hc6 z)
              refine mv_G_run 1 (F' := (64, [some (.ref (kb true 24)), some (.int v1), some (.int v2), some (.int v3), some (.int v4), some (.int r2)], [.int (0 : Int32), .int r2, .ref (kb true 25)], 0, 0, kjS f I L)) rfl ?_
              refine mv_G_fg (lc' := [some (.ref (kb true 24)), some (.int v1), some (.int v2), some (.int v3), some (.int v4), none]) (And.intro rfl (And.intro rfl (And.intro rfl (And.intro rfl (And.intro rfl trivial))))) ?_
              exact kf65_64_ok _ _ _ _ d hk14 _ _ _ _ _ _ _ _ _ h
            · rw [if_neg hc6] at h
              refine mv_G_br (tgt := 63) rfl rfl (by decide) (fun z => absurd z hc6) (fun _ => ?_)
              refine mv_G_run 2 (F' := (64, [some (.ref (kb true 24)), some (.int v1), some (.int v2), some (.int v3), some (.int v4), some (.int r2)], [.int (1 : Int32), .int r2, .ref (kb true 25)], 0, 0, kjS f I L)) rfl ?_
              refine mv_G_fg (lc' := [some (.ref (kb true 24)), some (.int v1), some (.int v2), some (.int v3), some (.int v4), none]) (And.intro rfl (And.intro rfl (And.intro rfl (And.intro rfl (And.intro rfl trivial))))) ?_
              exact kf65_64_ok _ _ _ _ d hk14 _ _ _ _ _ _ _ _ _ h
def kf65 (b : Bool) (N : Nat) (v1 : Int32) (I : kjI) (L : kjL) : Option (kjI × kjL) :=
  (kf32 b I L v1).bind fun r1 => kf65_14 b N N v1 r1 (0 : Int32) (0 : Int32) I L
set_option maxRecDepth 100000 in
set_option maxHeartbeats 4000000 in
theorem kf65_ok (f : Bool) (b : Bool) (N : Nat) (v1 : Int32) (I : kjI) (L : kjL) (d : Nat) (r : kjI × kjL) (h : kf65 b N v1 I L = some r) : mv_C kjP kjSta (d + 5) 65 [.ref (kb b 24), .int v1] (kjS f I L) (kjQwv f r) := by
  cases b
  · unfold kf65 at h
    refine mv_C_in kjM_65 (lc := [some (.ref (kb false 24)), some (.int v1), none, none, none, none]) rfl rfl rfl ?_
    refine mv_G_run 3 (F' := (5, [some (.ref (kb false 24)), some (.int v1), none, none, none, none], [.int v1, .ref (kb false 4)], 0, 0, kjS f I L)) rfl ?_
    obtain ⟨r1, hc2, h⟩ := mv_bd h
    refine mv_G_call (r := []) (kf32_ok _ _ _ _ _ _ _ hc2) rfl rfl rfl rfl rfl (Nat.le_of_ble_eq_true rfl) (Nat.le_of_ble_eq_true rfl) (Nat.le_of_ble_eq_true rfl) ?_
    rintro _ _ ⟨rfl, rfl⟩
    refine mv_G_run 5 (F' := (14, [some (.ref (kb false 24)), some (.int v1), some (.int r1), some (.int (0 : Int32)), some (.int (0 : Int32)), none], [], 0, 0, kjS f I L)) rfl ?_
    exact kf65_14_ok _ _ _ d _ _ _ _ _ _ _ _ h
  · unfold kf65 at h
    refine mv_C_in kjM_65 (lc := [some (.ref (kb true 24)), some (.int v1), none, none, none, none]) rfl rfl rfl ?_
    refine mv_G_run 3 (F' := (5, [some (.ref (kb true 24)), some (.int v1), none, none, none, none], [.int v1, .ref (kb true 4)], 0, 0, kjS f I L)) rfl ?_
    obtain ⟨r1, hc2, h⟩ := mv_bd h
    refine mv_G_call (r := []) (kf32_ok _ _ _ _ _ _ _ hc2) rfl rfl rfl rfl rfl (Nat.le_of_ble_eq_true rfl) (Nat.le_of_ble_eq_true rfl) (Nat.le_of_ble_eq_true rfl) ?_
    rintro _ _ ⟨rfl, rfl⟩
    refine mv_G_run 5 (F' := (14, [some (.ref (kb true 24)), some (.int v1), some (.int r1), some (.int (0 : Int32)), some (.int (0 : Int32)), none], [], 0, 0, kjS f I L)) rfl ?_
    exact kf65_14_ok _ _ _ d _ _ _ _ _ _ _ _ h
/-! KindJudge$Code.namesNothing(II)Z on ('b', 24) -/
def kf72 (b : Bool) (I : kjI) (L : kjL) (v1 : Int32) (v2 : Int32) : Option (Int32) :=
  (kf67 b I L v1 v2 (1 : Int32)).bind fun r1 => (kf67 b I L v1 v2 (0 : Int32)).bind fun r3 => if (r3).toInt = 3 ∨ (r3).toInt = 4 ∨ (r3).toInt = 20 then ((kf30 b I L v1).bind fun r6 => if r1 < r6 then (some (0 : Int32)) else (some (1 : Int32))) else (if (r3).toInt = 38 ∨ (r3).toInt = 45 ∨ (r3).toInt = 46 then ((kf37 b I L r1).bind fun r10 => if ¬ r10 = 0 then (some (0 : Int32)) else (some (1 : Int32))) else (if (r3).toInt = 39 ∨ (r3).toInt = 40 then ((kf67 b I L v1 v2 (2 : Int32)).bind fun r14 => (kf39 b I L r1).bind fun r16 => if r14 < r16 then (some (0 : Int32)) else (some (1 : Int32))) else (if (r3).toInt = 47 then ((kf49 b I L r1).bind fun r20 => if ¬ r20 = 0 then (some (0 : Int32)) else (some (1 : Int32))) else (if (r3).toInt = 48 then ((kf49a b I L r1).bind fun r24 => if ¬ r24 = 0 then (some (0 : Int32)) else (some (1 : Int32))) else (if (r3).toInt = 53 then (if r1 < (1 : Int32) then (some (1 : Int32)) else (if r1 ≤ (8 : Int32) then (some (0 : Int32)) else (some (1 : Int32)))) else (some (0 : Int32)))))))
set_option maxRecDepth 100000 in
set_option maxHeartbeats 4000000 in
theorem kf72_ok (f : Bool) (b : Bool) (I : kjI) (L : kjL) (v1 : Int32) (v2 : Int32) (d : Nat) (r : Int32) (h : kf72 b I L v1 v2 = some r) : mv_C kjP kjSta (d + 4) 72 [.ref (kb b 24), .int v1, .int v2] (kjS f I L) (kjQi f I L r) := by
  cases b
  · unfold kf72 at h
    refine mv_C_in kjM_72 (lc := [some (.ref (kb false 24)), some (.int v1), some (.int v2), none]) rfl rfl rfl ?_
    refine mv_G_run 4 (F' := (4, [some (.ref (kb false 24)), some (.int v1), some (.int v2), none], [.int (1 : Int32), .int v2, .int v1, .ref (kb false 24)], 0, 0, kjS f I L)) rfl ?_
    obtain ⟨r1, hc2, h⟩ := mv_bd h
    refine mv_G_call (r := []) (kf67_ok _ _ _ _ _ _ _ _ _ hc2) rfl rfl rfl rfl rfl (Nat.le_of_ble_eq_true rfl) (Nat.le_of_ble_eq_true rfl) (Nat.le_of_ble_eq_true rfl) ?_
    rintro _ _ ⟨rfl, rfl⟩
    refine mv_G_run 5 (F' := (12, [some (.ref (kb false 24)), some (.int v1), some (.int v2), some (.int r1)], [.int (0 : Int32), .int v2, .int v1, .ref (kb false 24)], 0, 0, kjS f I L)) rfl ?_
    obtain ⟨r3, hc4, h⟩ := mv_bd h
    refine mv_G_call (r := []) (kf67_ok _ _ _ _ _ _ _ _ _ hc4) rfl rfl rfl rfl rfl (Nat.le_of_ble_eq_true rfl) (Nat.le_of_ble_eq_true rfl) (Nat.le_of_ble_eq_true rfl) ?_
    rintro _ _ ⟨rfl, rfl⟩
    by_cases hw5 : (r3).toInt = 3 ∨ (r3).toInt = 4 ∨ (r3).toInt = 20
    · rw [if_pos hw5] at h
      refine mv_G_sw (tgt := 112) (off := 97) rfl (by rcases hw5 with hw5 | hw5 | hw5 <;> (simp only [mv_sw, hw5]; rfl)) (by decide) ?_
      refine mv_G_run 4 (F' := (118, [some (.ref (kb false 24)), some (.int v1), some (.int v2), some (.int r1)], [.int v1, .ref (kb false 4), .int r1], 0, 0, kjS f I L)) rfl ?_
      obtain ⟨r6, hc7, h⟩ := mv_bd h
      refine mv_G_call (r := [.int r1]) (kf30_ok _ _ _ _ _ _ _ hc7) rfl rfl rfl rfl rfl (Nat.le_of_ble_eq_true rfl) (Nat.le_of_ble_eq_true rfl) (Nat.le_of_ble_eq_true rfl) ?_
      rintro _ _ ⟨rfl, rfl⟩
      by_cases hc8 : r1 < r6
      · rw [if_pos hc8] at h
        refine mv_G_br (tgt := 128) rfl rfl (by decide) (fun _ => ?_) (fun z => absurd hc8 z)
        refine mv_G_run 1 (F' := (129, [some (.ref (kb false 24)), some (.int v1), some (.int v2), some (.int r1)], [.int (0 : Int32)], 0, 0, kjS f I L)) rfl ?_
        obtain rfl := Option.some.inj h
        exact mv_G_ret rfl rfl rfl (Nat.le_refl _) (Or.inl rfl) ⟨rfl, rfl⟩
      · rw [if_neg hc8] at h
        refine mv_G_br (tgt := 128) rfl rfl (by decide) (fun z => absurd z hc8) (fun _ => ?_)
        refine mv_G_run 2 (F' := (129, [some (.ref (kb false 24)), some (.int v1), some (.int v2), some (.int r1)], [.int (1 : Int32)], 0, 0, kjS f I L)) rfl ?_
        obtain rfl := Option.some.inj h
        exact mv_G_ret rfl rfl rfl (Nat.le_refl _) (Or.inr rfl) ⟨rfl, rfl⟩
    rw [if_neg hw5] at h
    by_cases hw9 : (r3).toInt = 38 ∨ (r3).toInt = 45 ∨ (r3).toInt = 46
    · rw [if_pos hw9] at h
      refine mv_G_sw (tgt := 130) (off := 115) rfl (by rcases hw9 with hw9 | hw9 | hw9 <;> (simp only [mv_sw, hw9]; rfl)) (by decide) ?_
      refine mv_G_run 4 (F' := (138, [some (.ref (kb false 24)), some (.int v1), some (.int v2), some (.int r1)], [.int r1, .ref (kb false 5)], 0, 0, kjS f I L)) rfl ?_
      obtain ⟨r10, hc11, h⟩ := mv_bd h
      refine mv_G_call (r := []) (kf37_ok _ _ _ _ _ _ _ hc11) rfl rfl rfl rfl rfl (Nat.le_of_ble_eq_true rfl) (Nat.le_of_ble_eq_true rfl) (Nat.le_of_ble_eq_true rfl) ?_
      rintro _ _ ⟨rfl, rfl⟩
      by_cases hc12 : ¬ r10 = 0
      · rw [if_pos hc12] at h
        refine mv_G_br (tgt := 148) rfl rfl (by decide) (fun _ => ?_) (fun z => absurd hc12 z)
        refine mv_G_run 1 (F' := (149, [some (.ref (kb false 24)), some (.int v1), some (.int v2), some (.int r1)], [.int (0 : Int32)], 0, 0, kjS f I L)) rfl ?_
        obtain rfl := Option.some.inj h
        exact mv_G_ret rfl rfl rfl (Nat.le_refl _) (Or.inl rfl) ⟨rfl, rfl⟩
      · rw [if_neg hc12] at h
        refine mv_G_br (tgt := 148) rfl rfl (by decide) (fun z => absurd z hc12) (fun _ => ?_)
        refine mv_G_run 2 (F' := (149, [some (.ref (kb false 24)), some (.int v1), some (.int v2), some (.int r1)], [.int (1 : Int32)], 0, 0, kjS f I L)) rfl ?_
        obtain rfl := Option.some.inj h
        exact mv_G_ret rfl rfl rfl (Nat.le_refl _) (Or.inr rfl) ⟨rfl, rfl⟩
    rw [if_neg hw9] at h
    by_cases hw13 : (r3).toInt = 39 ∨ (r3).toInt = 40
    · rw [if_pos hw13] at h
      refine mv_G_sw (tgt := 150) (off := 135) rfl (by rcases hw13 with hw13 | hw13 <;> (simp only [mv_sw, hw13]; rfl)) (by decide) ?_
      refine mv_G_run 4 (F' := (154, [some (.ref (kb false 24)), some (.int v1), some (.int v2), some (.int r1)], [.int (2 : Int32), .int v2, .int v1, .ref (kb false 24)], 0, 0, kjS f I L)) rfl ?_
      obtain ⟨r14, hc15, h⟩ := mv_bd h
      refine mv_G_call (r := []) (kf67_ok _ _ _ _ _ _ _ _ _ hc15) rfl rfl rfl rfl rfl (Nat.le_of_ble_eq_true rfl) (Nat.le_of_ble_eq_true rfl) (Nat.le_of_ble_eq_true rfl) ?_
      rintro _ _ ⟨rfl, rfl⟩
      refine mv_G_run 4 (F' := (165, [some (.ref (kb false 24)), some (.int v1), some (.int v2), some (.int r1)], [.int r1, .ref (kb false 5), .int r14], 0, 0, kjS f I L)) rfl ?_
      obtain ⟨r16, hc17, h⟩ := mv_bd h
      refine mv_G_call (r := [.int r14]) (kf39_ok _ _ _ _ _ _ _ hc17) rfl rfl rfl rfl rfl (Nat.le_of_ble_eq_true rfl) (Nat.le_of_ble_eq_true rfl) (Nat.le_of_ble_eq_true rfl) ?_
      rintro _ _ ⟨rfl, rfl⟩
      by_cases hc18 : r14 < r16
      · rw [if_pos hc18] at h
        refine mv_G_br (tgt := 175) rfl rfl (by decide) (fun _ => ?_) (fun z => absurd hc18 z)
        refine mv_G_run 1 (F' := (176, [some (.ref (kb false 24)), some (.int v1), some (.int v2), some (.int r1)], [.int (0 : Int32)], 0, 0, kjS f I L)) rfl ?_
        obtain rfl := Option.some.inj h
        exact mv_G_ret rfl rfl rfl (Nat.le_refl _) (Or.inl rfl) ⟨rfl, rfl⟩
      · rw [if_neg hc18] at h
        refine mv_G_br (tgt := 175) rfl rfl (by decide) (fun z => absurd z hc18) (fun _ => ?_)
        refine mv_G_run 2 (F' := (176, [some (.ref (kb false 24)), some (.int v1), some (.int v2), some (.int r1)], [.int (1 : Int32)], 0, 0, kjS f I L)) rfl ?_
        obtain rfl := Option.some.inj h
        exact mv_G_ret rfl rfl rfl (Nat.le_refl _) (Or.inr rfl) ⟨rfl, rfl⟩
    rw [if_neg hw13] at h
    by_cases hw19 : (r3).toInt = 47
    · rw [if_pos hw19] at h
      refine mv_G_sw (tgt := 177) (off := 162) rfl (by simp only [mv_sw, hw19]; rfl) (by decide) ?_
      refine mv_G_run 4 (F' := (185, [some (.ref (kb false 24)), some (.int v1), some (.int v2), some (.int r1)], [.int r1, .ref (kb false 14)], 0, 0, kjS f I L)) rfl ?_
      obtain ⟨r20, hc21, h⟩ := mv_bd h
      refine mv_G_call (r := []) (kf49_ok _ _ _ _ _ _ _ hc21) rfl rfl rfl rfl rfl (Nat.le_of_ble_eq_true rfl) (Nat.le_of_ble_eq_true rfl) (Nat.le_of_ble_eq_true rfl) ?_
      rintro _ _ ⟨rfl, rfl⟩
      by_cases hc22 : ¬ r20 = 0
      · rw [if_pos hc22] at h
        refine mv_G_br (tgt := 195) rfl rfl (by decide) (fun _ => ?_) (fun z => absurd hc22 z)
        refine mv_G_run 1 (F' := (196, [some (.ref (kb false 24)), some (.int v1), some (.int v2), some (.int r1)], [.int (0 : Int32)], 0, 0, kjS f I L)) rfl ?_
        obtain rfl := Option.some.inj h
        exact mv_G_ret rfl rfl rfl (Nat.le_refl _) (Or.inl rfl) ⟨rfl, rfl⟩
      · rw [if_neg hc22] at h
        refine mv_G_br (tgt := 195) rfl rfl (by decide) (fun z => absurd z hc22) (fun _ => ?_)
        refine mv_G_run 2 (F' := (196, [some (.ref (kb false 24)), some (.int v1), some (.int v2), some (.int r1)], [.int (1 : Int32)], 0, 0, kjS f I L)) rfl ?_
        obtain rfl := Option.some.inj h
        exact mv_G_ret rfl rfl rfl (Nat.le_refl _) (Or.inr rfl) ⟨rfl, rfl⟩
    rw [if_neg hw19] at h
    by_cases hw23 : (r3).toInt = 48
    · rw [if_pos hw23] at h
      refine mv_G_sw (tgt := 197) (off := 182) rfl (by simp only [mv_sw, hw23]; rfl) (by decide) ?_
      refine mv_G_run 4 (F' := (205, [some (.ref (kb false 24)), some (.int v1), some (.int v2), some (.int r1)], [.int r1, .ref (kb false 10)], 0, 0, kjS f I L)) rfl ?_
      obtain ⟨r24, hc25, h⟩ := mv_bd h
      refine mv_G_call (r := []) (kf49a_ok _ _ _ _ _ _ _ hc25) rfl rfl rfl rfl rfl (Nat.le_of_ble_eq_true rfl) (Nat.le_of_ble_eq_true rfl) (Nat.le_of_ble_eq_true rfl) ?_
      rintro _ _ ⟨rfl, rfl⟩
      by_cases hc26 : ¬ r24 = 0
      · rw [if_pos hc26] at h
        refine mv_G_br (tgt := 215) rfl rfl (by decide) (fun _ => ?_) (fun z => absurd hc26 z)
        refine mv_G_run 1 (F' := (216, [some (.ref (kb false 24)), some (.int v1), some (.int v2), some (.int r1)], [.int (0 : Int32)], 0, 0, kjS f I L)) rfl ?_
        obtain rfl := Option.some.inj h
        exact mv_G_ret rfl rfl rfl (Nat.le_refl _) (Or.inl rfl) ⟨rfl, rfl⟩
      · rw [if_neg hc26] at h
        refine mv_G_br (tgt := 215) rfl rfl (by decide) (fun z => absurd z hc26) (fun _ => ?_)
        refine mv_G_run 2 (F' := (216, [some (.ref (kb false 24)), some (.int v1), some (.int v2), some (.int r1)], [.int (1 : Int32)], 0, 0, kjS f I L)) rfl ?_
        obtain rfl := Option.some.inj h
        exact mv_G_ret rfl rfl rfl (Nat.le_refl _) (Or.inr rfl) ⟨rfl, rfl⟩
    rw [if_neg hw23] at h
    by_cases hw27 : (r3).toInt = 53
    · rw [if_pos hw27] at h
      refine mv_G_sw (tgt := 217) (off := 202) rfl (by simp only [mv_sw, hw27]; rfl) (by decide) ?_
      refine mv_G_run 2 (F' := (219, [some (.ref (kb false 24)), some (.int v1), some (.int v2), some (.int r1)], [.int (1 : Int32), .int r1], 0, 0, kjS f I L)) rfl ?_
      by_cases hc28 : r1 < (1 : Int32)
      · rw [if_pos hc28] at h
        refine mv_G_br (tgt := 228) rfl rfl (by decide) (fun _ => ?_) (fun z => absurd hc28 z)
        refine mv_G_run 2 (F' := (233, [some (.ref (kb false 24)), some (.int v1), some (.int v2), some (.int r1)], [.int (1 : Int32)], 0, 0, kjS f I L)) rfl ?_
        obtain rfl := Option.some.inj h
        exact mv_G_ret rfl rfl rfl (Nat.le_refl _) (Or.inr rfl) ⟨rfl, rfl⟩
      · rw [if_neg hc28] at h
        refine mv_G_br (tgt := 228) rfl rfl (by decide) (fun z => absurd z hc28) (fun _ => ?_)
        refine mv_G_run 2 (F' := (225, [some (.ref (kb false 24)), some (.int v1), some (.int v2), some (.int r1)], [.int (8 : Int32), .int r1], 0, 0, kjS f I L)) rfl ?_
        by_cases hc29 : r1 ≤ (8 : Int32)
        · rw [if_pos hc29] at h
          refine mv_G_br (tgt := 232) rfl rfl (by decide) (fun _ => ?_) (fun z => absurd hc29 z)
          refine mv_G_run 1 (F' := (233, [some (.ref (kb false 24)), some (.int v1), some (.int v2), some (.int r1)], [.int (0 : Int32)], 0, 0, kjS f I L)) rfl ?_
          obtain rfl := Option.some.inj h
          exact mv_G_ret rfl rfl rfl (Nat.le_refl _) (Or.inl rfl) ⟨rfl, rfl⟩
        · rw [if_neg hc29] at h
          refine mv_G_br (tgt := 232) rfl rfl (by decide) (fun z => absurd z hc29) (fun _ => ?_)
          refine mv_G_run 2 (F' := (233, [some (.ref (kb false 24)), some (.int v1), some (.int v2), some (.int r1)], [.int (1 : Int32)], 0, 0, kjS f I L)) rfl ?_
          obtain rfl := Option.some.inj h
          exact mv_G_ret rfl rfl rfl (Nat.le_refl _) (Or.inr rfl) ⟨rfl, rfl⟩
    rw [if_neg hw27] at h
    refine mv_G_sw (tgt := 234) (off := 219) rfl (by simp only [not_or] at hw5 hw9 hw13 hw19 hw23 hw27; simp [mv_sw, Op.lookupswitch.offset, eq_comm, hw5, hw9, hw13, hw19, hw23, hw27] <;> (repeat' split) <;> omega) (by decide) ?_
    refine mv_G_run 1 (F' := (235, [some (.ref (kb false 24)), some (.int v1), some (.int v2), some (.int r1)], [.int (0 : Int32)], 0, 0, kjS f I L)) rfl ?_
    obtain rfl := Option.some.inj h
    exact mv_G_ret rfl rfl rfl (Nat.le_refl _) (Or.inl rfl) ⟨rfl, rfl⟩
  · unfold kf72 at h
    refine mv_C_in kjM_72 (lc := [some (.ref (kb true 24)), some (.int v1), some (.int v2), none]) rfl rfl rfl ?_
    refine mv_G_run 4 (F' := (4, [some (.ref (kb true 24)), some (.int v1), some (.int v2), none], [.int (1 : Int32), .int v2, .int v1, .ref (kb true 24)], 0, 0, kjS f I L)) rfl ?_
    obtain ⟨r1, hc2, h⟩ := mv_bd h
    refine mv_G_call (r := []) (kf67_ok _ _ _ _ _ _ _ _ _ hc2) rfl rfl rfl rfl rfl (Nat.le_of_ble_eq_true rfl) (Nat.le_of_ble_eq_true rfl) (Nat.le_of_ble_eq_true rfl) ?_
    rintro _ _ ⟨rfl, rfl⟩
    refine mv_G_run 5 (F' := (12, [some (.ref (kb true 24)), some (.int v1), some (.int v2), some (.int r1)], [.int (0 : Int32), .int v2, .int v1, .ref (kb true 24)], 0, 0, kjS f I L)) rfl ?_
    obtain ⟨r3, hc4, h⟩ := mv_bd h
    refine mv_G_call (r := []) (kf67_ok _ _ _ _ _ _ _ _ _ hc4) rfl rfl rfl rfl rfl (Nat.le_of_ble_eq_true rfl) (Nat.le_of_ble_eq_true rfl) (Nat.le_of_ble_eq_true rfl) ?_
    rintro _ _ ⟨rfl, rfl⟩
    by_cases hw5 : (r3).toInt = 3 ∨ (r3).toInt = 4 ∨ (r3).toInt = 20
    · rw [if_pos hw5] at h
      refine mv_G_sw (tgt := 112) (off := 97) rfl (by rcases hw5 with hw5 | hw5 | hw5 <;> (simp only [mv_sw, hw5]; rfl)) (by decide) ?_
      refine mv_G_run 4 (F' := (118, [some (.ref (kb true 24)), some (.int v1), some (.int v2), some (.int r1)], [.int v1, .ref (kb true 4), .int r1], 0, 0, kjS f I L)) rfl ?_
      obtain ⟨r6, hc7, h⟩ := mv_bd h
      refine mv_G_call (r := [.int r1]) (kf30_ok _ _ _ _ _ _ _ hc7) rfl rfl rfl rfl rfl (Nat.le_of_ble_eq_true rfl) (Nat.le_of_ble_eq_true rfl) (Nat.le_of_ble_eq_true rfl) ?_
      rintro _ _ ⟨rfl, rfl⟩
      by_cases hc8 : r1 < r6
      · rw [if_pos hc8] at h
        refine mv_G_br (tgt := 128) rfl rfl (by decide) (fun _ => ?_) (fun z => absurd hc8 z)
        refine mv_G_run 1 (F' := (129, [some (.ref (kb true 24)), some (.int v1), some (.int v2), some (.int r1)], [.int (0 : Int32)], 0, 0, kjS f I L)) rfl ?_
        obtain rfl := Option.some.inj h
        exact mv_G_ret rfl rfl rfl (Nat.le_refl _) (Or.inl rfl) ⟨rfl, rfl⟩
      · rw [if_neg hc8] at h
        refine mv_G_br (tgt := 128) rfl rfl (by decide) (fun z => absurd z hc8) (fun _ => ?_)
        refine mv_G_run 2 (F' := (129, [some (.ref (kb true 24)), some (.int v1), some (.int v2), some (.int r1)], [.int (1 : Int32)], 0, 0, kjS f I L)) rfl ?_
        obtain rfl := Option.some.inj h
        exact mv_G_ret rfl rfl rfl (Nat.le_refl _) (Or.inr rfl) ⟨rfl, rfl⟩
    rw [if_neg hw5] at h
    by_cases hw9 : (r3).toInt = 38 ∨ (r3).toInt = 45 ∨ (r3).toInt = 46
    · rw [if_pos hw9] at h
      refine mv_G_sw (tgt := 130) (off := 115) rfl (by rcases hw9 with hw9 | hw9 | hw9 <;> (simp only [mv_sw, hw9]; rfl)) (by decide) ?_
      refine mv_G_run 4 (F' := (138, [some (.ref (kb true 24)), some (.int v1), some (.int v2), some (.int r1)], [.int r1, .ref (kb true 5)], 0, 0, kjS f I L)) rfl ?_
      obtain ⟨r10, hc11, h⟩ := mv_bd h
      refine mv_G_call (r := []) (kf37_ok _ _ _ _ _ _ _ hc11) rfl rfl rfl rfl rfl (Nat.le_of_ble_eq_true rfl) (Nat.le_of_ble_eq_true rfl) (Nat.le_of_ble_eq_true rfl) ?_
      rintro _ _ ⟨rfl, rfl⟩
      by_cases hc12 : ¬ r10 = 0
      · rw [if_pos hc12] at h
        refine mv_G_br (tgt := 148) rfl rfl (by decide) (fun _ => ?_) (fun z => absurd hc12 z)
        refine mv_G_run 1 (F' := (149, [some (.ref (kb true 24)), some (.int v1), some (.int v2), some (.int r1)], [.int (0 : Int32)], 0, 0, kjS f I L)) rfl ?_
        obtain rfl := Option.some.inj h
        exact mv_G_ret rfl rfl rfl (Nat.le_refl _) (Or.inl rfl) ⟨rfl, rfl⟩
      · rw [if_neg hc12] at h
        refine mv_G_br (tgt := 148) rfl rfl (by decide) (fun z => absurd z hc12) (fun _ => ?_)
        refine mv_G_run 2 (F' := (149, [some (.ref (kb true 24)), some (.int v1), some (.int v2), some (.int r1)], [.int (1 : Int32)], 0, 0, kjS f I L)) rfl ?_
        obtain rfl := Option.some.inj h
        exact mv_G_ret rfl rfl rfl (Nat.le_refl _) (Or.inr rfl) ⟨rfl, rfl⟩
    rw [if_neg hw9] at h
    by_cases hw13 : (r3).toInt = 39 ∨ (r3).toInt = 40
    · rw [if_pos hw13] at h
      refine mv_G_sw (tgt := 150) (off := 135) rfl (by rcases hw13 with hw13 | hw13 <;> (simp only [mv_sw, hw13]; rfl)) (by decide) ?_
      refine mv_G_run 4 (F' := (154, [some (.ref (kb true 24)), some (.int v1), some (.int v2), some (.int r1)], [.int (2 : Int32), .int v2, .int v1, .ref (kb true 24)], 0, 0, kjS f I L)) rfl ?_
      obtain ⟨r14, hc15, h⟩ := mv_bd h
      refine mv_G_call (r := []) (kf67_ok _ _ _ _ _ _ _ _ _ hc15) rfl rfl rfl rfl rfl (Nat.le_of_ble_eq_true rfl) (Nat.le_of_ble_eq_true rfl) (Nat.le_of_ble_eq_true rfl) ?_
      rintro _ _ ⟨rfl, rfl⟩
      refine mv_G_run 4 (F' := (165, [some (.ref (kb true 24)), some (.int v1), some (.int v2), some (.int r1)], [.int r1, .ref (kb true 5), .int r14], 0, 0, kjS f I L)) rfl ?_
      obtain ⟨r16, hc17, h⟩ := mv_bd h
      refine mv_G_call (r := [.int r14]) (kf39_ok _ _ _ _ _ _ _ hc17) rfl rfl rfl rfl rfl (Nat.le_of_ble_eq_true rfl) (Nat.le_of_ble_eq_true rfl) (Nat.le_of_ble_eq_true rfl) ?_
      rintro _ _ ⟨rfl, rfl⟩
      by_cases hc18 : r14 < r16
      · rw [if_pos hc18] at h
        refine mv_G_br (tgt := 175) rfl rfl (by decide) (fun _ => ?_) (fun z => absurd hc18 z)
        refine mv_G_run 1 (F' := (176, [some (.ref (kb true 24)), some (.int v1), some (.int v2), some (.int r1)], [.int (0 : Int32)], 0, 0, kjS f I L)) rfl ?_
        obtain rfl := Option.some.inj h
        exact mv_G_ret rfl rfl rfl (Nat.le_refl _) (Or.inl rfl) ⟨rfl, rfl⟩
      · rw [if_neg hc18] at h
        refine mv_G_br (tgt := 175) rfl rfl (by decide) (fun z => absurd z hc18) (fun _ => ?_)
        refine mv_G_run 2 (F' := (176, [some (.ref (kb true 24)), some (.int v1), some (.int v2), some (.int r1)], [.int (1 : Int32)], 0, 0, kjS f I L)) rfl ?_
        obtain rfl := Option.some.inj h
        exact mv_G_ret rfl rfl rfl (Nat.le_refl _) (Or.inr rfl) ⟨rfl, rfl⟩
    rw [if_neg hw13] at h
    by_cases hw19 : (r3).toInt = 47
    · rw [if_pos hw19] at h
      refine mv_G_sw (tgt := 177) (off := 162) rfl (by simp only [mv_sw, hw19]; rfl) (by decide) ?_
      refine mv_G_run 4 (F' := (185, [some (.ref (kb true 24)), some (.int v1), some (.int v2), some (.int r1)], [.int r1, .ref (kb true 14)], 0, 0, kjS f I L)) rfl ?_
      obtain ⟨r20, hc21, h⟩ := mv_bd h
      refine mv_G_call (r := []) (kf49_ok _ _ _ _ _ _ _ hc21) rfl rfl rfl rfl rfl (Nat.le_of_ble_eq_true rfl) (Nat.le_of_ble_eq_true rfl) (Nat.le_of_ble_eq_true rfl) ?_
      rintro _ _ ⟨rfl, rfl⟩
      by_cases hc22 : ¬ r20 = 0
      · rw [if_pos hc22] at h
        refine mv_G_br (tgt := 195) rfl rfl (by decide) (fun _ => ?_) (fun z => absurd hc22 z)
        refine mv_G_run 1 (F' := (196, [some (.ref (kb true 24)), some (.int v1), some (.int v2), some (.int r1)], [.int (0 : Int32)], 0, 0, kjS f I L)) rfl ?_
        obtain rfl := Option.some.inj h
        exact mv_G_ret rfl rfl rfl (Nat.le_refl _) (Or.inl rfl) ⟨rfl, rfl⟩
      · rw [if_neg hc22] at h
        refine mv_G_br (tgt := 195) rfl rfl (by decide) (fun z => absurd z hc22) (fun _ => ?_)
        refine mv_G_run 2 (F' := (196, [some (.ref (kb true 24)), some (.int v1), some (.int v2), some (.int r1)], [.int (1 : Int32)], 0, 0, kjS f I L)) rfl ?_
        obtain rfl := Option.some.inj h
        exact mv_G_ret rfl rfl rfl (Nat.le_refl _) (Or.inr rfl) ⟨rfl, rfl⟩
    rw [if_neg hw19] at h
    by_cases hw23 : (r3).toInt = 48
    · rw [if_pos hw23] at h
      refine mv_G_sw (tgt := 197) (off := 182) rfl (by simp only [mv_sw, hw23]; rfl) (by decide) ?_
      refine mv_G_run 4 (F' := (205, [some (.ref (kb true 24)), some (.int v1), some (.int v2), some (.int r1)], [.int r1, .ref (kb true 10)], 0, 0, kjS f I L)) rfl ?_
      obtain ⟨r24, hc25, h⟩ := mv_bd h
      refine mv_G_call (r := []) (kf49a_ok _ _ _ _ _ _ _ hc25) rfl rfl rfl rfl rfl (Nat.le_of_ble_eq_true rfl) (Nat.le_of_ble_eq_true rfl) (Nat.le_of_ble_eq_true rfl) ?_
      rintro _ _ ⟨rfl, rfl⟩
      by_cases hc26 : ¬ r24 = 0
      · rw [if_pos hc26] at h
        refine mv_G_br (tgt := 215) rfl rfl (by decide) (fun _ => ?_) (fun z => absurd hc26 z)
        refine mv_G_run 1 (F' := (216, [some (.ref (kb true 24)), some (.int v1), some (.int v2), some (.int r1)], [.int (0 : Int32)], 0, 0, kjS f I L)) rfl ?_
        obtain rfl := Option.some.inj h
        exact mv_G_ret rfl rfl rfl (Nat.le_refl _) (Or.inl rfl) ⟨rfl, rfl⟩
      · rw [if_neg hc26] at h
        refine mv_G_br (tgt := 215) rfl rfl (by decide) (fun z => absurd z hc26) (fun _ => ?_)
        refine mv_G_run 2 (F' := (216, [some (.ref (kb true 24)), some (.int v1), some (.int v2), some (.int r1)], [.int (1 : Int32)], 0, 0, kjS f I L)) rfl ?_
        obtain rfl := Option.some.inj h
        exact mv_G_ret rfl rfl rfl (Nat.le_refl _) (Or.inr rfl) ⟨rfl, rfl⟩
    rw [if_neg hw23] at h
    by_cases hw27 : (r3).toInt = 53
    · rw [if_pos hw27] at h
      refine mv_G_sw (tgt := 217) (off := 202) rfl (by simp only [mv_sw, hw27]; rfl) (by decide) ?_
      refine mv_G_run 2 (F' := (219, [some (.ref (kb true 24)), some (.int v1), some (.int v2), some (.int r1)], [.int (1 : Int32), .int r1], 0, 0, kjS f I L)) rfl ?_
      by_cases hc28 : r1 < (1 : Int32)
      · rw [if_pos hc28] at h
        refine mv_G_br (tgt := 228) rfl rfl (by decide) (fun _ => ?_) (fun z => absurd hc28 z)
        refine mv_G_run 2 (F' := (233, [some (.ref (kb true 24)), some (.int v1), some (.int v2), some (.int r1)], [.int (1 : Int32)], 0, 0, kjS f I L)) rfl ?_
        obtain rfl := Option.some.inj h
        exact mv_G_ret rfl rfl rfl (Nat.le_refl _) (Or.inr rfl) ⟨rfl, rfl⟩
      · rw [if_neg hc28] at h
        refine mv_G_br (tgt := 228) rfl rfl (by decide) (fun z => absurd z hc28) (fun _ => ?_)
        refine mv_G_run 2 (F' := (225, [some (.ref (kb true 24)), some (.int v1), some (.int v2), some (.int r1)], [.int (8 : Int32), .int r1], 0, 0, kjS f I L)) rfl ?_
        by_cases hc29 : r1 ≤ (8 : Int32)
        · rw [if_pos hc29] at h
          refine mv_G_br (tgt := 232) rfl rfl (by decide) (fun _ => ?_) (fun z => absurd hc29 z)
          refine mv_G_run 1 (F' := (233, [some (.ref (kb true 24)), some (.int v1), some (.int v2), some (.int r1)], [.int (0 : Int32)], 0, 0, kjS f I L)) rfl ?_
          obtain rfl := Option.some.inj h
          exact mv_G_ret rfl rfl rfl (Nat.le_refl _) (Or.inl rfl) ⟨rfl, rfl⟩
        · rw [if_neg hc29] at h
          refine mv_G_br (tgt := 232) rfl rfl (by decide) (fun z => absurd z hc29) (fun _ => ?_)
          refine mv_G_run 2 (F' := (233, [some (.ref (kb true 24)), some (.int v1), some (.int v2), some (.int r1)], [.int (1 : Int32)], 0, 0, kjS f I L)) rfl ?_
          obtain rfl := Option.some.inj h
          exact mv_G_ret rfl rfl rfl (Nat.le_refl _) (Or.inr rfl) ⟨rfl, rfl⟩
    rw [if_neg hw27] at h
    refine mv_G_sw (tgt := 234) (off := 219) rfl (by simp only [not_or] at hw5 hw9 hw13 hw19 hw23 hw27; simp [mv_sw, Op.lookupswitch.offset, eq_comm, hw5, hw9, hw13, hw19, hw23, hw27] <;> (repeat' split) <;> omega) (by decide) ?_
    refine mv_G_run 1 (F' := (235, [some (.ref (kb true 24)), some (.int v1), some (.int v2), some (.int r1)], [.int (0 : Int32)], 0, 0, kjS f I L)) rfl ?_
    obtain rfl := Option.some.inj h
    exact mv_G_ret rfl rfl rfl (Nat.le_refl _) (Or.inl rfl) ⟨rfl, rfl⟩
/-! KindJudge$Code.isFaulty(II)Z on ('b', 24) -/
def kf71_33 (b : Bool) (N : Nat) (I : kjI) (L : kjL) : Nat → Int32 → Int32 → Int32 → Int32 → Int32 → Option (Int32)
  | 0, _, _, _, _, _ => none
  | n + 1, v1, v2, v3, v4, v5 => if v4 ≤ v5 then ((kf32 b I L v1).bind fun r2 => if ¬ (v2 + v3) = r2 then (some (0 : Int32)) else ((kf75 b I L v1 v2).bind fun r5 => if r5 = 0 then (some (0 : Int32)) else (some (1 : Int32)))) else ((kf74 b I L v1 v2 v5).bind fun r8 => (kf66 b I L v1 r8).bind fun r10 => if ¬ r10 = 0 then ((fun v1 v2 v3 v4 v5 => kf71_33 b N I L n v1 v2 v3 v4 v5) v1 v2 v3 v4 (v5 + (1 : Int32))) else (some (1 : Int32)))
set_option maxRecDepth 100000 in
set_option maxHeartbeats 4000000 in
theorem kf71_33_ok (f : Bool) (b : Bool) (N : Nat) (I : kjI) (L : kjL) (d : Nat)  : ∀ (n : Nat) (v1 : Int32) (v2 : Int32) (v3 : Int32) (v4 : Int32) (v5 : Int32) (r : Int32), kf71_33 b N I L n v1 v2 v3 v4 v5 = some r → mv_G kjP kjSta (mv_C kjP kjSta (d + 4)) kjM_71 (kjQi f I L r) (33, [some (.ref (kb b 24)), some (.int v1), some (.int v2), some (.int v3), some (.int v4), some (.int v5)], [], 0, 0, kjS f I L) := by
  cases b
  · intro n
    induction n with
    | zero => intro v1 v2 v3 v4 v5 r h; cases h
    | succ n ih =>
      have hk33 := ih
      intro v1 v2 v3 v4 v5 r h
      unfold kf71_33 at h
      refine mv_G_run 2 (F' := (37, [some (.ref (kb false 24)), some (.int v1), some (.int v2), some (.int v3), some (.int v4), some (.int v5)], [.int v4, .int v5], 0, 0, kjS f I L)) rfl ?_
      by_cases hc1 : v4 ≤ v5
      · rw [if_pos hc1] at h
        refine mv_G_br (tgt := 64) rfl rfl (by decide) (fun _ => ?_) (fun z => absurd hc1 z)
        refine mv_G_run 6 (F' := (72, [some (.ref (kb false 24)), some (.int v1), some (.int v2), some (.int v3), some (.int v4), some (.int v5)], [.int v1, .ref (kb false 4), .int (v2 + v3)], 0, 0, kjS f I L)) rfl ?_
        obtain ⟨r2, hc3, h⟩ := mv_bd h
        refine mv_G_call (r := [.int (v2 + v3)]) (kf32_ok _ _ _ _ _ _ _ hc3) rfl rfl rfl rfl rfl (Nat.le_of_ble_eq_true rfl) (Nat.le_of_ble_eq_true rfl) (Nat.le_of_ble_eq_true rfl) ?_
        rintro _ _ ⟨rfl, rfl⟩
        by_cases hc4 : ¬ (v2 + v3) = r2
        · rw [if_pos hc4] at h
          refine mv_G_br (tgt := 91) rfl rfl (by decide) (fun _ => ?_) (fun z => absurd hc4 z)
          refine mv_G_run 1 (F' := (92, [some (.ref (kb false 24)), some (.int v1), some (.int v2), some (.int v3), some (.int v4), some (.int v5)], [.int (0 : Int32)], 0, 0, kjS f I L)) rfl ?_
          obtain rfl := Option.some.inj h
          exact mv_G_ret rfl rfl rfl (Nat.le_refl _) (Or.inl rfl) ⟨rfl, rfl⟩
        · rw [if_neg hc4] at h
          refine mv_G_br (tgt := 91) rfl rfl (by decide) (fun z => absurd z hc4) (fun _ => ?_)
          refine mv_G_run 3 (F' := (81, [some (.ref (kb false 24)), some (.int v1), some (.int v2), some (.int v3), some (.int v4), some (.int v5)], [.int v2, .int v1, .ref (kb false 24)], 0, 0, kjS f I L)) rfl ?_
          obtain ⟨r5, hc6, h⟩ := mv_bd h
          refine mv_G_call (r := []) (kf75_ok _ _ _ _ _ _ _ _ hc6) rfl rfl rfl rfl rfl (Nat.le_of_ble_eq_true rfl) (Nat.le_of_ble_eq_true rfl) (Nat.le_of_ble_eq_true rfl) ?_
          rintro _ _ ⟨rfl, rfl⟩
          by_cases hc7 : r5 = 0
          · rw [if_pos hc7] at h
            refine mv_G_br (tgt := 91) rfl rfl (by decide) (fun _ => ?_) (fun z => absurd hc7 z)
            refine mv_G_run 1 (F' := (92, [some (.ref (kb false 24)), some (.int v1), some (.int v2), some (.int v3), some (.int v4), some (.int v5)], [.int (0 : Int32)], 0, 0, kjS f I L)) rfl ?_
            obtain rfl := Option.some.inj h
            exact mv_G_ret rfl rfl rfl (Nat.le_refl _) (Or.inl rfl) ⟨rfl, rfl⟩
          · rw [if_neg hc7] at h
            refine mv_G_br (tgt := 91) rfl rfl (by decide) (fun z => absurd z hc7) (fun _ => ?_)
            refine mv_G_run 2 (F' := (92, [some (.ref (kb false 24)), some (.int v1), some (.int v2), some (.int v3), some (.int v4), some (.int v5)], [.int (1 : Int32)], 0, 0, kjS f I L)) rfl ?_
            obtain rfl := Option.some.inj h
            exact mv_G_ret rfl rfl rfl (Nat.le_refl _) (Or.inr rfl) ⟨rfl, rfl⟩
      · rw [if_neg hc1] at h
        refine mv_G_br (tgt := 64) rfl rfl (by decide) (fun z => absurd z hc1) (fun _ => ?_)
        refine mv_G_run 6 (F' := (47, [some (.ref (kb false 24)), some (.int v1), some (.int v2), some (.int v3), some (.int v4), some (.int v5)], [.int v5, .int v2, .int v1, .ref (kb false 24), .int v1, .ref (kb false 24)], 0, 0, kjS f I L)) rfl ?_
        obtain ⟨r8, hc9, h⟩ := mv_bd h
        refine mv_G_call (r := [.int v1, .ref (kb false 24)]) (kf74_ok _ _ _ _ _ _ _ _ _ hc9) rfl rfl rfl rfl rfl (Nat.le_of_ble_eq_true rfl) (Nat.le_of_ble_eq_true rfl) (Nat.le_of_ble_eq_true rfl) ?_
        rintro _ _ ⟨rfl, rfl⟩
        obtain ⟨r10, hc11, h⟩ := mv_bd h
        refine mv_G_call (r := []) (kf66_ok _ _ _ _ _ _ _ _ hc11) rfl rfl rfl rfl rfl (Nat.le_of_ble_eq_true rfl) (Nat.le_of_ble_eq_true rfl) (Nat.le_of_ble_eq_true rfl) ?_
        rintro _ _ ⟨rfl, rfl⟩
        by_cases hc12 : ¬ r10 = 0
        · rw [if_pos hc12] at h
          refine mv_G_br (tgt := 58) rfl rfl (by decide) (fun _ => ?_) (fun z => absurd hc12 z)
          refine mv_G_run 2 (F' := (33, [some (.ref (kb false 24)), some (.int v1), some (.int v2), some (.int v3), some (.int v4), some (.int (v5 + (1 : Int32)))], [], 0, 0, kjS f I L)) rfl ?_
          exact hk33 v1 v2 v3 v4 (v5 + (1 : Int32)) _ h
        · rw [if_neg hc12] at h
          refine mv_G_br (tgt := 58) rfl rfl (by decide) (fun z => absurd z hc12) (fun _ => ?_)
          refine mv_G_run 1 (F' := (57, [some (.ref (kb false 24)), some (.int v1), some (.int v2), some (.int v3), some (.int v4), some (.int v5)], [.int (1 : Int32)], 0, 0, kjS f I L)) rfl ?_
          obtain rfl := Option.some.inj h
          exact mv_G_ret rfl rfl rfl (Nat.le_refl _) (Or.inr rfl) ⟨rfl, rfl⟩
  · intro n
    induction n with
    | zero => intro v1 v2 v3 v4 v5 r h; cases h
    | succ n ih =>
      have hk33 := ih
      intro v1 v2 v3 v4 v5 r h
      unfold kf71_33 at h
      refine mv_G_run 2 (F' := (37, [some (.ref (kb true 24)), some (.int v1), some (.int v2), some (.int v3), some (.int v4), some (.int v5)], [.int v4, .int v5], 0, 0, kjS f I L)) rfl ?_
      by_cases hc1 : v4 ≤ v5
      · rw [if_pos hc1] at h
        refine mv_G_br (tgt := 64) rfl rfl (by decide) (fun _ => ?_) (fun z => absurd hc1 z)
        refine mv_G_run 6 (F' := (72, [some (.ref (kb true 24)), some (.int v1), some (.int v2), some (.int v3), some (.int v4), some (.int v5)], [.int v1, .ref (kb true 4), .int (v2 + v3)], 0, 0, kjS f I L)) rfl ?_
        obtain ⟨r2, hc3, h⟩ := mv_bd h
        refine mv_G_call (r := [.int (v2 + v3)]) (kf32_ok _ _ _ _ _ _ _ hc3) rfl rfl rfl rfl rfl (Nat.le_of_ble_eq_true rfl) (Nat.le_of_ble_eq_true rfl) (Nat.le_of_ble_eq_true rfl) ?_
        rintro _ _ ⟨rfl, rfl⟩
        by_cases hc4 : ¬ (v2 + v3) = r2
        · rw [if_pos hc4] at h
          refine mv_G_br (tgt := 91) rfl rfl (by decide) (fun _ => ?_) (fun z => absurd hc4 z)
          refine mv_G_run 1 (F' := (92, [some (.ref (kb true 24)), some (.int v1), some (.int v2), some (.int v3), some (.int v4), some (.int v5)], [.int (0 : Int32)], 0, 0, kjS f I L)) rfl ?_
          obtain rfl := Option.some.inj h
          exact mv_G_ret rfl rfl rfl (Nat.le_refl _) (Or.inl rfl) ⟨rfl, rfl⟩
        · rw [if_neg hc4] at h
          refine mv_G_br (tgt := 91) rfl rfl (by decide) (fun z => absurd z hc4) (fun _ => ?_)
          refine mv_G_run 3 (F' := (81, [some (.ref (kb true 24)), some (.int v1), some (.int v2), some (.int v3), some (.int v4), some (.int v5)], [.int v2, .int v1, .ref (kb true 24)], 0, 0, kjS f I L)) rfl ?_
          obtain ⟨r5, hc6, h⟩ := mv_bd h
          refine mv_G_call (r := []) (kf75_ok _ _ _ _ _ _ _ _ hc6) rfl rfl rfl rfl rfl (Nat.le_of_ble_eq_true rfl) (Nat.le_of_ble_eq_true rfl) (Nat.le_of_ble_eq_true rfl) ?_
          rintro _ _ ⟨rfl, rfl⟩
          by_cases hc7 : r5 = 0
          · rw [if_pos hc7] at h
            refine mv_G_br (tgt := 91) rfl rfl (by decide) (fun _ => ?_) (fun z => absurd hc7 z)
            refine mv_G_run 1 (F' := (92, [some (.ref (kb true 24)), some (.int v1), some (.int v2), some (.int v3), some (.int v4), some (.int v5)], [.int (0 : Int32)], 0, 0, kjS f I L)) rfl ?_
            obtain rfl := Option.some.inj h
            exact mv_G_ret rfl rfl rfl (Nat.le_refl _) (Or.inl rfl) ⟨rfl, rfl⟩
          · rw [if_neg hc7] at h
            refine mv_G_br (tgt := 91) rfl rfl (by decide) (fun z => absurd z hc7) (fun _ => ?_)
            refine mv_G_run 2 (F' := (92, [some (.ref (kb true 24)), some (.int v1), some (.int v2), some (.int v3), some (.int v4), some (.int v5)], [.int (1 : Int32)], 0, 0, kjS f I L)) rfl ?_
            obtain rfl := Option.some.inj h
            exact mv_G_ret rfl rfl rfl (Nat.le_refl _) (Or.inr rfl) ⟨rfl, rfl⟩
      · rw [if_neg hc1] at h
        refine mv_G_br (tgt := 64) rfl rfl (by decide) (fun z => absurd z hc1) (fun _ => ?_)
        refine mv_G_run 6 (F' := (47, [some (.ref (kb true 24)), some (.int v1), some (.int v2), some (.int v3), some (.int v4), some (.int v5)], [.int v5, .int v2, .int v1, .ref (kb true 24), .int v1, .ref (kb true 24)], 0, 0, kjS f I L)) rfl ?_
        obtain ⟨r8, hc9, h⟩ := mv_bd h
        refine mv_G_call (r := [.int v1, .ref (kb true 24)]) (kf74_ok _ _ _ _ _ _ _ _ _ hc9) rfl rfl rfl rfl rfl (Nat.le_of_ble_eq_true rfl) (Nat.le_of_ble_eq_true rfl) (Nat.le_of_ble_eq_true rfl) ?_
        rintro _ _ ⟨rfl, rfl⟩
        obtain ⟨r10, hc11, h⟩ := mv_bd h
        refine mv_G_call (r := []) (kf66_ok _ _ _ _ _ _ _ _ hc11) rfl rfl rfl rfl rfl (Nat.le_of_ble_eq_true rfl) (Nat.le_of_ble_eq_true rfl) (Nat.le_of_ble_eq_true rfl) ?_
        rintro _ _ ⟨rfl, rfl⟩
        by_cases hc12 : ¬ r10 = 0
        · rw [if_pos hc12] at h
          refine mv_G_br (tgt := 58) rfl rfl (by decide) (fun _ => ?_) (fun z => absurd hc12 z)
          refine mv_G_run 2 (F' := (33, [some (.ref (kb true 24)), some (.int v1), some (.int v2), some (.int v3), some (.int v4), some (.int (v5 + (1 : Int32)))], [], 0, 0, kjS f I L)) rfl ?_
          exact hk33 v1 v2 v3 v4 (v5 + (1 : Int32)) _ h
        · rw [if_neg hc12] at h
          refine mv_G_br (tgt := 58) rfl rfl (by decide) (fun z => absurd z hc12) (fun _ => ?_)
          refine mv_G_run 1 (F' := (57, [some (.ref (kb true 24)), some (.int v1), some (.int v2), some (.int v3), some (.int v4), some (.int v5)], [.int (1 : Int32)], 0, 0, kjS f I L)) rfl ?_
          obtain rfl := Option.some.inj h
          exact mv_G_ret rfl rfl rfl (Nat.le_refl _) (Or.inr rfl) ⟨rfl, rfl⟩
def kf71 (b : Bool) (N : Nat) (I : kjI) (L : kjL) (v1 : Int32) (v2 : Int32) : Option (Int32) :=
  (kf68 b I L v1 v2).bind fun r1 => if r1 = 0 then (some (1 : Int32)) else ((kf72 b I L v1 v2).bind fun r4 => if r4 = 0 then ((kf73 b I L v1 v2).bind fun r7 => kf71_33 b N I L N v1 v2 r1 r7 (0 : Int32)) else (some (1 : Int32)))
set_option maxRecDepth 100000 in
set_option maxHeartbeats 4000000 in
theorem kf71_ok (f : Bool) (b : Bool) (N : Nat) (I : kjI) (L : kjL) (v1 : Int32) (v2 : Int32) (d : Nat) (r : Int32) (h : kf71 b N I L v1 v2 = some r) : mv_C kjP kjSta (d + 5) 71 [.ref (kb b 24), .int v1, .int v2] (kjS f I L) (kjQi f I L r) := by
  cases b
  · unfold kf71 at h
    refine mv_C_in kjM_71 (lc := [some (.ref (kb false 24)), some (.int v1), some (.int v2), none, none, none]) rfl rfl rfl ?_
    refine mv_G_run 3 (F' := (3, [some (.ref (kb false 24)), some (.int v1), some (.int v2), none, none, none], [.int v2, .int v1, .ref (kb false 24)], 0, 0, kjS f I L)) rfl ?_
    obtain ⟨r1, hc2, h⟩ := mv_bd h
    refine mv_G_call (r := []) (kf68_ok _ _ _ _ _ _ _ _ hc2) rfl rfl rfl rfl rfl (Nat.le_of_ble_eq_true rfl) (Nat.le_of_ble_eq_true rfl) (Nat.le_of_ble_eq_true rfl) ?_
    rintro _ _ ⟨rfl, rfl⟩
    refine mv_G_run 2 (F' := (8, [some (.ref (kb false 24)), some (.int v1), some (.int v2), some (.int r1), none, none], [.int r1], 0, 0, kjS f I L)) rfl ?_
    by_cases hc3 : r1 = 0
    · rw [if_pos hc3] at h
      refine mv_G_br (tgt := 20) rfl rfl (by decide) (fun _ => ?_) (fun z => absurd hc3 z)
      refine mv_G_run 1 (F' := (21, [some (.ref (kb false 24)), some (.int v1), some (.int v2), some (.int r1), none, none], [.int (1 : Int32)], 0, 0, kjS f I L)) rfl ?_
      obtain rfl := Option.some.inj h
      exact mv_G_ret rfl rfl rfl (Nat.le_refl _) (Or.inr rfl) ⟨rfl, rfl⟩
    · rw [if_neg hc3] at h
      refine mv_G_br (tgt := 20) rfl rfl (by decide) (fun z => absurd z hc3) (fun _ => ?_)
      refine mv_G_run 3 (F' := (14, [some (.ref (kb false 24)), some (.int v1), some (.int v2), some (.int r1), none, none], [.int v2, .int v1, .ref (kb false 24)], 0, 0, kjS f I L)) rfl ?_
      obtain ⟨r4, hc5, h⟩ := mv_bd h
      refine mv_G_call (r := []) (kf72_ok _ _ _ _ _ _ _ _ hc5) rfl rfl rfl rfl rfl (Nat.le_of_ble_eq_true rfl) (Nat.le_of_ble_eq_true rfl) (Nat.le_of_ble_eq_true rfl) ?_
      rintro _ _ ⟨rfl, rfl⟩
      by_cases hc6 : r4 = 0
      · rw [if_pos hc6] at h
        refine mv_G_br (tgt := 22) rfl rfl (by decide) (fun _ => ?_) (fun z => absurd hc6 z)
        refine mv_G_run 3 (F' := (25, [some (.ref (kb false 24)), some (.int v1), some (.int v2), some (.int r1), none, none], [.int v2, .int v1, .ref (kb false 24)], 0, 0, kjS f I L)) rfl ?_
        obtain ⟨r7, hc8, h⟩ := mv_bd h
        refine mv_G_call (r := []) (kf73_ok _ _ _ _ _ _ _ _ hc8) rfl rfl rfl rfl rfl (Nat.le_of_ble_eq_true rfl) (Nat.le_of_ble_eq_true rfl) (Nat.le_of_ble_eq_true rfl) ?_
        rintro _ _ ⟨rfl, rfl⟩
        refine mv_G_run 3 (F' := (33, [some (.ref (kb false 24)), some (.int v1), some (.int v2), some (.int r1), some (.int r7), some (.int (0 : Int32))], [], 0, 0, kjS f I L)) rfl ?_
        exact kf71_33_ok _ _ _ _ _ d _ _ _ _ _ _ _ h
      · rw [if_neg hc6] at h
        refine mv_G_br (tgt := 22) rfl rfl (by decide) (fun z => absurd z hc6) (fun _ => ?_)
        refine mv_G_run 1 (F' := (21, [some (.ref (kb false 24)), some (.int v1), some (.int v2), some (.int r1), none, none], [.int (1 : Int32)], 0, 0, kjS f I L)) rfl ?_
        obtain rfl := Option.some.inj h
        exact mv_G_ret rfl rfl rfl (Nat.le_refl _) (Or.inr rfl) ⟨rfl, rfl⟩
  · unfold kf71 at h
    refine mv_C_in kjM_71 (lc := [some (.ref (kb true 24)), some (.int v1), some (.int v2), none, none, none]) rfl rfl rfl ?_
    refine mv_G_run 3 (F' := (3, [some (.ref (kb true 24)), some (.int v1), some (.int v2), none, none, none], [.int v2, .int v1, .ref (kb true 24)], 0, 0, kjS f I L)) rfl ?_
    obtain ⟨r1, hc2, h⟩ := mv_bd h
    refine mv_G_call (r := []) (kf68_ok _ _ _ _ _ _ _ _ hc2) rfl rfl rfl rfl rfl (Nat.le_of_ble_eq_true rfl) (Nat.le_of_ble_eq_true rfl) (Nat.le_of_ble_eq_true rfl) ?_
    rintro _ _ ⟨rfl, rfl⟩
    refine mv_G_run 2 (F' := (8, [some (.ref (kb true 24)), some (.int v1), some (.int v2), some (.int r1), none, none], [.int r1], 0, 0, kjS f I L)) rfl ?_
    by_cases hc3 : r1 = 0
    · rw [if_pos hc3] at h
      refine mv_G_br (tgt := 20) rfl rfl (by decide) (fun _ => ?_) (fun z => absurd hc3 z)
      refine mv_G_run 1 (F' := (21, [some (.ref (kb true 24)), some (.int v1), some (.int v2), some (.int r1), none, none], [.int (1 : Int32)], 0, 0, kjS f I L)) rfl ?_
      obtain rfl := Option.some.inj h
      exact mv_G_ret rfl rfl rfl (Nat.le_refl _) (Or.inr rfl) ⟨rfl, rfl⟩
    · rw [if_neg hc3] at h
      refine mv_G_br (tgt := 20) rfl rfl (by decide) (fun z => absurd z hc3) (fun _ => ?_)
      refine mv_G_run 3 (F' := (14, [some (.ref (kb true 24)), some (.int v1), some (.int v2), some (.int r1), none, none], [.int v2, .int v1, .ref (kb true 24)], 0, 0, kjS f I L)) rfl ?_
      obtain ⟨r4, hc5, h⟩ := mv_bd h
      refine mv_G_call (r := []) (kf72_ok _ _ _ _ _ _ _ _ hc5) rfl rfl rfl rfl rfl (Nat.le_of_ble_eq_true rfl) (Nat.le_of_ble_eq_true rfl) (Nat.le_of_ble_eq_true rfl) ?_
      rintro _ _ ⟨rfl, rfl⟩
      by_cases hc6 : r4 = 0
      · rw [if_pos hc6] at h
        refine mv_G_br (tgt := 22) rfl rfl (by decide) (fun _ => ?_) (fun z => absurd hc6 z)
        refine mv_G_run 3 (F' := (25, [some (.ref (kb true 24)), some (.int v1), some (.int v2), some (.int r1), none, none], [.int v2, .int v1, .ref (kb true 24)], 0, 0, kjS f I L)) rfl ?_
        obtain ⟨r7, hc8, h⟩ := mv_bd h
        refine mv_G_call (r := []) (kf73_ok _ _ _ _ _ _ _ _ hc8) rfl rfl rfl rfl rfl (Nat.le_of_ble_eq_true rfl) (Nat.le_of_ble_eq_true rfl) (Nat.le_of_ble_eq_true rfl) ?_
        rintro _ _ ⟨rfl, rfl⟩
        refine mv_G_run 3 (F' := (33, [some (.ref (kb true 24)), some (.int v1), some (.int v2), some (.int r1), some (.int r7), some (.int (0 : Int32))], [], 0, 0, kjS f I L)) rfl ?_
        exact kf71_33_ok _ _ _ _ _ d _ _ _ _ _ _ _ h
      · rw [if_neg hc6] at h
        refine mv_G_br (tgt := 22) rfl rfl (by decide) (fun z => absurd z hc6) (fun _ => ?_)
        refine mv_G_run 1 (F' := (21, [some (.ref (kb true 24)), some (.int v1), some (.int v2), some (.int r1), none, none], [.int (1 : Int32)], 0, 0, kjS f I L)) rfl ?_
        obtain rfl := Option.some.inj h
        exact mv_G_ret rfl rfl rfl (Nat.le_refl _) (Or.inr rfl) ⟨rfl, rfl⟩
/-! KindJudge$Code.firstFault(I)I on ('b', 24) -/
def kf64_41 (b : Bool) (N : Nat) (k16 : Int32 → Int32 → Int32 → kjI → kjL → Option (Int32 × kjI × kjL)) (v1 : Int32) (v2 : Int32) (v3 : Int32) (I : kjI) (L : kjL) : Option (Int32 × kjI × kjL) :=
  k16 v1 v2 (v3 + (1 : Int32)) I L
set_option maxRecDepth 100000 in
set_option maxHeartbeats 4000000 in
theorem kf64_41_ok (f : Bool) (b : Bool) (N : Nat) (k16 : Int32 → Int32 → Int32 → kjI → kjL → Option (Int32 × kjI × kjL)) (d : Nat) (hk16 : ∀ (v1 : Int32) (v2 : Int32) (v3 : Int32) (I : kjI) (L : kjL) (r : Int32 × kjI × kjL), k16 v1 v2 v3 I L = some r → mv_G kjP kjSta (mv_C kjP kjSta (d + 5)) kjM_64 (kjQwi f r) (16, [some (.ref (kb b 24)), some (.int v1), some (.int v2), some (.int v3)], [], 0, 0, kjS f I L)) (v1 : Int32) (v2 : Int32) (v3 : Int32) (I : kjI) (L : kjL) (r : Int32 × kjI × kjL) (h : kf64_41 b N k16 v1 v2 v3 I L = some r) : mv_G kjP kjSta (mv_C kjP kjSta (d + 5)) kjM_64 (kjQwi f r) (41, [some (.ref (kb b 24)), some (.int v1), some (.int v2), some (.int v3)], [], 0, 0, kjS f I L) := by
  cases b
  · unfold kf64_41 at h
    refine mv_G_run 2 (F' := (16, [some (.ref (kb false 24)), some (.int v1), some (.int v2), some (.int (v3 + (1 : Int32)))], [], 0, 0, kjS f I L)) rfl ?_
    exact hk16 v1 v2 (v3 + (1 : Int32)) I L _ h
  · unfold kf64_41 at h
    refine mv_G_run 2 (F' := (16, [some (.ref (kb true 24)), some (.int v1), some (.int v2), some (.int (v3 + (1 : Int32)))], [], 0, 0, kjS f I L)) rfl ?_
    exact hk16 v1 v2 (v3 + (1 : Int32)) I L _ h
def kf64_16 (b : Bool) (N : Nat) : Nat → Int32 → Int32 → Int32 → kjI → kjL → Option (Int32 × kjI × kjL)
  | 0, _, _, _, _, _ => none
  | n + 1, v1, v2, v3, I, L => if v2 ≤ v3 then (some ((-1 : Int32), I, L)) else ((kf66 b I L v1 v3).bind fun r2 => if r2 = 0 then (kf64_41 b N (fun v1 v2 v3 I L => kf64_16 b N n v1 v2 v3 I L) v1 v2 v3 I L) else ((kf71 b N I L v1 v3).bind fun r5 => if r5 = 0 then (kf64_41 b N (fun v1 v2 v3 I L => kf64_16 b N n v1 v2 v3 I L) v1 v2 v3 I L) else (some (v3, I, L))))
set_option maxRecDepth 100000 in
set_option maxHeartbeats 4000000 in
theorem kf64_16_ok (f : Bool) (b : Bool) (N : Nat) (d : Nat)  : ∀ (n : Nat) (v1 : Int32) (v2 : Int32) (v3 : Int32) (I : kjI) (L : kjL) (r : Int32 × kjI × kjL), kf64_16 b N n v1 v2 v3 I L = some r → mv_G kjP kjSta (mv_C kjP kjSta (d + 5)) kjM_64 (kjQwi f r) (16, [some (.ref (kb b 24)), some (.int v1), some (.int v2), some (.int v3)], [], 0, 0, kjS f I L) := by
  cases b
  · intro n
    induction n with
    | zero => intro v1 v2 v3 I L r h; cases h
    | succ n ih =>
      have hk16 := ih
      intro v1 v2 v3 I L r h
      unfold kf64_16 at h
      refine mv_G_run 2 (F' := (18, [some (.ref (kb false 24)), some (.int v1), some (.int v2), some (.int v3)], [.int v2, .int v3], 0, 0, kjS f I L)) rfl ?_
      by_cases hc1 : v2 ≤ v3
      · rw [if_pos hc1] at h
        refine mv_G_br (tgt := 47) rfl rfl (by decide) (fun _ => ?_) (fun z => absurd hc1 z)
        refine mv_G_run 1 (F' := (48, [some (.ref (kb false 24)), some (.int v1), some (.int v2), some (.int v3)], [.int (-1 : Int32)], 0, 0, kjS f I L)) rfl ?_
        obtain rfl := Option.some.inj h
        exact mv_G_ret rfl rfl rfl (Nat.le_refl _) trivial ⟨rfl, rfl⟩
      · rw [if_neg hc1] at h
        refine mv_G_br (tgt := 47) rfl rfl (by decide) (fun z => absurd z hc1) (fun _ => ?_)
        refine mv_G_run 3 (F' := (24, [some (.ref (kb false 24)), some (.int v1), some (.int v2), some (.int v3)], [.int v3, .int v1, .ref (kb false 24)], 0, 0, kjS f I L)) rfl ?_
        obtain ⟨r2, hc3, h⟩ := mv_bd h
        refine mv_G_call (r := []) (kf66_ok _ _ _ _ _ _ _ _ hc3) rfl rfl rfl rfl rfl (Nat.le_of_ble_eq_true rfl) (Nat.le_of_ble_eq_true rfl) (Nat.le_of_ble_eq_true rfl) ?_
        rintro _ _ ⟨rfl, rfl⟩
        by_cases hc4 : r2 = 0
        · rw [if_pos hc4] at h
          refine mv_G_br (tgt := 41) rfl rfl (by decide) (fun _ => ?_) (fun z => absurd hc4 z)
          exact kf64_41_ok _ _ _ _ d hk16 _ _ _ _ _ _ h
        · rw [if_neg hc4] at h
          refine mv_G_br (tgt := 41) rfl rfl (by decide) (fun z => absurd z hc4) (fun _ => ?_)
          refine mv_G_run 3 (F' := (33, [some (.ref (kb false 24)), some (.int v1), some (.int v2), some (.int v3)], [.int v3, .int v1, .ref (kb false 24)], 0, 0, kjS f I L)) rfl ?_
          obtain ⟨r5, hc6, h⟩ := mv_bd h
          refine mv_G_call (r := []) (kf71_ok _ _ _ _ _ _ _ _ _ hc6) rfl rfl rfl rfl rfl (Nat.le_of_ble_eq_true rfl) (Nat.le_of_ble_eq_true rfl) (Nat.le_of_ble_eq_true rfl) ?_
          rintro _ _ ⟨rfl, rfl⟩
          by_cases hc7 : r5 = 0
          · rw [if_pos hc7] at h
            refine mv_G_br (tgt := 41) rfl rfl (by decide) (fun _ => ?_) (fun z => absurd hc7 z)
            exact kf64_41_ok _ _ _ _ d hk16 _ _ _ _ _ _ h
          · rw [if_neg hc7] at h
            refine mv_G_br (tgt := 41) rfl rfl (by decide) (fun z => absurd z hc7) (fun _ => ?_)
            refine mv_G_run 1 (F' := (40, [some (.ref (kb false 24)), some (.int v1), some (.int v2), some (.int v3)], [.int v3], 0, 0, kjS f I L)) rfl ?_
            obtain rfl := Option.some.inj h
            exact mv_G_ret rfl rfl rfl (Nat.le_refl _) trivial ⟨rfl, rfl⟩
  · intro n
    induction n with
    | zero => intro v1 v2 v3 I L r h; cases h
    | succ n ih =>
      have hk16 := ih
      intro v1 v2 v3 I L r h
      unfold kf64_16 at h
      refine mv_G_run 2 (F' := (18, [some (.ref (kb true 24)), some (.int v1), some (.int v2), some (.int v3)], [.int v2, .int v3], 0, 0, kjS f I L)) rfl ?_
      by_cases hc1 : v2 ≤ v3
      · rw [if_pos hc1] at h
        refine mv_G_br (tgt := 47) rfl rfl (by decide) (fun _ => ?_) (fun z => absurd hc1 z)
        refine mv_G_run 1 (F' := (48, [some (.ref (kb true 24)), some (.int v1), some (.int v2), some (.int v3)], [.int (-1 : Int32)], 0, 0, kjS f I L)) rfl ?_
        obtain rfl := Option.some.inj h
        exact mv_G_ret rfl rfl rfl (Nat.le_refl _) trivial ⟨rfl, rfl⟩
      · rw [if_neg hc1] at h
        refine mv_G_br (tgt := 47) rfl rfl (by decide) (fun z => absurd z hc1) (fun _ => ?_)
        refine mv_G_run 3 (F' := (24, [some (.ref (kb true 24)), some (.int v1), some (.int v2), some (.int v3)], [.int v3, .int v1, .ref (kb true 24)], 0, 0, kjS f I L)) rfl ?_
        obtain ⟨r2, hc3, h⟩ := mv_bd h
        refine mv_G_call (r := []) (kf66_ok _ _ _ _ _ _ _ _ hc3) rfl rfl rfl rfl rfl (Nat.le_of_ble_eq_true rfl) (Nat.le_of_ble_eq_true rfl) (Nat.le_of_ble_eq_true rfl) ?_
        rintro _ _ ⟨rfl, rfl⟩
        by_cases hc4 : r2 = 0
        · rw [if_pos hc4] at h
          refine mv_G_br (tgt := 41) rfl rfl (by decide) (fun _ => ?_) (fun z => absurd hc4 z)
          exact kf64_41_ok _ _ _ _ d hk16 _ _ _ _ _ _ h
        · rw [if_neg hc4] at h
          refine mv_G_br (tgt := 41) rfl rfl (by decide) (fun z => absurd z hc4) (fun _ => ?_)
          refine mv_G_run 3 (F' := (33, [some (.ref (kb true 24)), some (.int v1), some (.int v2), some (.int v3)], [.int v3, .int v1, .ref (kb true 24)], 0, 0, kjS f I L)) rfl ?_
          obtain ⟨r5, hc6, h⟩ := mv_bd h
          refine mv_G_call (r := []) (kf71_ok _ _ _ _ _ _ _ _ _ hc6) rfl rfl rfl rfl rfl (Nat.le_of_ble_eq_true rfl) (Nat.le_of_ble_eq_true rfl) (Nat.le_of_ble_eq_true rfl) ?_
          rintro _ _ ⟨rfl, rfl⟩
          by_cases hc7 : r5 = 0
          · rw [if_pos hc7] at h
            refine mv_G_br (tgt := 41) rfl rfl (by decide) (fun _ => ?_) (fun z => absurd hc7 z)
            exact kf64_41_ok _ _ _ _ d hk16 _ _ _ _ _ _ h
          · rw [if_neg hc7] at h
            refine mv_G_br (tgt := 41) rfl rfl (by decide) (fun z => absurd z hc7) (fun _ => ?_)
            refine mv_G_run 1 (F' := (40, [some (.ref (kb true 24)), some (.int v1), some (.int v2), some (.int v3)], [.int v3], 0, 0, kjS f I L)) rfl ?_
            obtain rfl := Option.some.inj h
            exact mv_G_ret rfl rfl rfl (Nat.le_refl _) trivial ⟨rfl, rfl⟩
def kf64 (b : Bool) (N : Nat) (v1 : Int32) (I : kjI) (L : kjL) : Option (Int32 × kjI × kjL) :=
  (kf65 b N v1 I L).bind fun r1 => (kf32 b r1.1 r1.2 v1).bind fun r3 => kf64_16 b N N v1 r3 (0 : Int32) r1.1 r1.2
set_option maxRecDepth 100000 in
set_option maxHeartbeats 4000000 in
theorem kf64_ok (f : Bool) (b : Bool) (N : Nat) (v1 : Int32) (I : kjI) (L : kjL) (d : Nat) (r : Int32 × kjI × kjL) (h : kf64 b N v1 I L = some r) : mv_C kjP kjSta (d + 6) 64 [.ref (kb b 24), .int v1] (kjS f I L) (kjQwi f r) := by
  cases b
  · unfold kf64 at h
    refine mv_C_in kjM_64 (lc := [some (.ref (kb false 24)), some (.int v1), none, none]) rfl rfl rfl ?_
    refine mv_G_run 2 (F' := (2, [some (.ref (kb false 24)), some (.int v1), none, none], [.int v1, .ref (kb false 24)], 0, 0, kjS f I L)) rfl ?_
    obtain ⟨r1, hc2, h⟩ := mv_bd h
    refine mv_G_call (r := []) (kf65_ok _ _ _ _ _ _ _ _ hc2) rfl rfl rfl rfl rfl (Nat.le_of_ble_eq_true rfl) (Nat.le_of_ble_eq_true rfl) (Nat.le_of_ble_eq_true rfl) ?_
    rintro _ _ ⟨rfl, rfl⟩
    refine mv_G_run 3 (F' := (10, [some (.ref (kb false 24)), some (.int v1), none, none], [.int v1, .ref (kb false 4)], 0, 0, kjS f r1.1 r1.2)) rfl ?_
    obtain ⟨r3, hc4, h⟩ := mv_bd h
    refine mv_G_call (r := []) (kf32_ok _ _ _ _ _ _ _ hc4) rfl rfl rfl rfl rfl (Nat.le_of_ble_eq_true rfl) (Nat.le_of_ble_eq_true rfl) (Nat.le_of_ble_eq_true rfl) ?_
    rintro _ _ ⟨rfl, rfl⟩
    refine mv_G_run 3 (F' := (16, [some (.ref (kb false 24)), some (.int v1), some (.int r3), some (.int (0 : Int32))], [], 0, 0, kjS f r1.1 r1.2)) rfl ?_
    exact kf64_16_ok _ _ _ d _ _ _ _ _ _ _ h
  · unfold kf64 at h
    refine mv_C_in kjM_64 (lc := [some (.ref (kb true 24)), some (.int v1), none, none]) rfl rfl rfl ?_
    refine mv_G_run 2 (F' := (2, [some (.ref (kb true 24)), some (.int v1), none, none], [.int v1, .ref (kb true 24)], 0, 0, kjS f I L)) rfl ?_
    obtain ⟨r1, hc2, h⟩ := mv_bd h
    refine mv_G_call (r := []) (kf65_ok _ _ _ _ _ _ _ _ hc2) rfl rfl rfl rfl rfl (Nat.le_of_ble_eq_true rfl) (Nat.le_of_ble_eq_true rfl) (Nat.le_of_ble_eq_true rfl) ?_
    rintro _ _ ⟨rfl, rfl⟩
    refine mv_G_run 3 (F' := (10, [some (.ref (kb true 24)), some (.int v1), none, none], [.int v1, .ref (kb true 4)], 0, 0, kjS f r1.1 r1.2)) rfl ?_
    obtain ⟨r3, hc4, h⟩ := mv_bd h
    refine mv_G_call (r := []) (kf32_ok _ _ _ _ _ _ _ hc4) rfl rfl rfl rfl rfl (Nat.le_of_ble_eq_true rfl) (Nat.le_of_ble_eq_true rfl) (Nat.le_of_ble_eq_true rfl) ?_
    rintro _ _ ⟨rfl, rfl⟩
    refine mv_G_run 3 (F' := (16, [some (.ref (kb true 24)), some (.int v1), some (.int r3), some (.int (0 : Int32))], [], 0, 0, kjS f r1.1 r1.2)) rfl ?_
    exact kf64_16_ok _ _ _ d _ _ _ _ _ _ _ h
/-! KindJudge$Flow.forget(II)V on ('b', 26) -/
def kf84 (b : Bool) (v1 : Int32) (v2 : Int32) (I : kjI) (L : kjL) : Option (kjI × kjL) :=
  (kf33 b I L v1 v2).bind fun r1 => if r1 < 0 then (some (I, L)) else (if (1500 : Int32) ≤ r1 then (some (I, L)) else (if (120 : Int32) ≤ v2 then (some (I, L)) else (bif mv_in r1 1500 then (bif mv_in v2 120 then (some ((mv_up (mv_up I (kb b 27) (Int32.toNatClampNeg r1) (Int8.toInt32 (Int32.toInt8 (-1 : Int32)))) (kb b 29) (Int32.toNatClampNeg v2) ((0 : Int32) &&& 1)), L)) else none) else none)))
set_option maxRecDepth 100000 in
set_option maxHeartbeats 4000000 in
theorem kf84_ok (f : Bool) (b : Bool) (v1 : Int32) (v2 : Int32) (I : kjI) (L : kjL) (d : Nat) (r : kjI × kjL) (h : kf84 b v1 v2 I L = some r) : mv_C kjP kjSta (d + 3) 84 [.ref (kb b 26), .int v1, .int v2] (kjS f I L) (kjQwv f r) := by
  cases b
  · unfold kf84 at h
    refine mv_C_in kjM_84 (lc := [some (.ref (kb false 26)), some (.int v1), some (.int v2), none]) rfl rfl rfl ?_
    refine mv_G_run 4 (F' := (6, [some (.ref (kb false 26)), some (.int v1), some (.int v2), none], [.int v2, .int v1, .ref (kb false 4)], 0, 0, kjS f I L)) rfl ?_
    obtain ⟨r1, hc2, h⟩ := mv_bd h
    refine mv_G_call (r := []) (kf33_ok _ _ _ _ _ _ _ _ hc2) rfl rfl rfl rfl rfl (Nat.le_of_ble_eq_true rfl) (Nat.le_of_ble_eq_true rfl) (Nat.le_of_ble_eq_true rfl) ?_
    rintro _ _ ⟨rfl, rfl⟩
    refine mv_G_run 2 (F' := (11, [some (.ref (kb false 26)), some (.int v1), some (.int v2), some (.int r1)], [.int r1], 0, 0, kjS f I L)) rfl ?_
    by_cases hc3 : r1 < 0
    · rw [if_pos hc3] at h
      refine mv_G_br (tgt := 46) rfl rfl (by decide) (fun _ => ?_) (fun z => absurd hc3 z)
      obtain rfl := Option.some.inj h
      exact mv_G_ret rfl rfl rfl (Nat.le_refl _) trivial ⟨rfl, rfl⟩
    · rw [if_neg hc3] at h
      refine mv_G_br (tgt := 46) rfl rfl (by decide) (fun z => absurd z hc3) (fun _ => ?_)
      refine mv_G_run 4 (F' := (20, [some (.ref (kb false 26)), some (.int v1), some (.int v2), some (.int r1)], [.int (1500 : Int32), .int r1], 0, 0, kjS f I L)) rfl ?_
      by_cases hc4 : (1500 : Int32) ≤ r1
      · rw [if_pos hc4] at h
        refine mv_G_br (tgt := 46) rfl rfl (by decide) (fun _ => ?_) (fun z => absurd hc4 z)
        obtain rfl := Option.some.inj h
        exact mv_G_ret rfl rfl rfl (Nat.le_refl _) trivial ⟨rfl, rfl⟩
      · rw [if_neg hc4] at h
        refine mv_G_br (tgt := 46) rfl rfl (by decide) (fun z => absurd z hc4) (fun _ => ?_)
        refine mv_G_run 4 (F' := (29, [some (.ref (kb false 26)), some (.int v1), some (.int v2), some (.int r1)], [.int (120 : Int32), .int v2], 0, 0, kjS f I L)) rfl ?_
        by_cases hc5 : (120 : Int32) ≤ v2
        · rw [if_pos hc5] at h
          refine mv_G_br (tgt := 46) rfl rfl (by decide) (fun _ => ?_) (fun z => absurd hc5 z)
          obtain rfl := Option.some.inj h
          exact mv_G_ret rfl rfl rfl (Nat.le_refl _) trivial ⟨rfl, rfl⟩
        · rw [if_neg hc5] at h
          refine mv_G_br (tgt := 46) rfl rfl (by decide) (fun z => absurd z hc5) (fun _ => ?_)
          refine mv_G_run 4 (F' := (38, [some (.ref (kb false 26)), some (.int v1), some (.int v2), some (.int r1)], [.int (-1 : Int32), .int r1, .ref (kb false 27)], 0, 0, kjS f I L)) rfl ?_
          obtain ⟨hi6, h⟩ := mv_bifs h
          refine mv_G_ast rfl rfl (mv_in_ok hi6) ?_
          refine mv_G_run 4 (F' := (45, [some (.ref (kb false 26)), some (.int v1), some (.int v2), some (.int r1)], [.int (0 : Int32), .int v2, .ref (kb false 29)], 0, 0, kjS f (mv_up I (kb false 27) (Int32.toNatClampNeg r1) (Int8.toInt32 (Int32.toInt8 (-1 : Int32)))) L)) rfl ?_
          obtain ⟨hi7, h⟩ := mv_bifs h
          refine mv_G_ast rfl rfl (mv_in_ok hi7) ?_
          obtain rfl := Option.some.inj h
          exact mv_G_ret rfl rfl rfl (Nat.le_refl _) trivial ⟨rfl, rfl⟩
  · unfold kf84 at h
    refine mv_C_in kjM_84 (lc := [some (.ref (kb true 26)), some (.int v1), some (.int v2), none]) rfl rfl rfl ?_
    refine mv_G_run 4 (F' := (6, [some (.ref (kb true 26)), some (.int v1), some (.int v2), none], [.int v2, .int v1, .ref (kb true 4)], 0, 0, kjS f I L)) rfl ?_
    obtain ⟨r1, hc2, h⟩ := mv_bd h
    refine mv_G_call (r := []) (kf33_ok _ _ _ _ _ _ _ _ hc2) rfl rfl rfl rfl rfl (Nat.le_of_ble_eq_true rfl) (Nat.le_of_ble_eq_true rfl) (Nat.le_of_ble_eq_true rfl) ?_
    rintro _ _ ⟨rfl, rfl⟩
    refine mv_G_run 2 (F' := (11, [some (.ref (kb true 26)), some (.int v1), some (.int v2), some (.int r1)], [.int r1], 0, 0, kjS f I L)) rfl ?_
    by_cases hc3 : r1 < 0
    · rw [if_pos hc3] at h
      refine mv_G_br (tgt := 46) rfl rfl (by decide) (fun _ => ?_) (fun z => absurd hc3 z)
      obtain rfl := Option.some.inj h
      exact mv_G_ret rfl rfl rfl (Nat.le_refl _) trivial ⟨rfl, rfl⟩
    · rw [if_neg hc3] at h
      refine mv_G_br (tgt := 46) rfl rfl (by decide) (fun z => absurd z hc3) (fun _ => ?_)
      refine mv_G_run 4 (F' := (20, [some (.ref (kb true 26)), some (.int v1), some (.int v2), some (.int r1)], [.int (1500 : Int32), .int r1], 0, 0, kjS f I L)) rfl ?_
      by_cases hc4 : (1500 : Int32) ≤ r1
      · rw [if_pos hc4] at h
        refine mv_G_br (tgt := 46) rfl rfl (by decide) (fun _ => ?_) (fun z => absurd hc4 z)
        obtain rfl := Option.some.inj h
        exact mv_G_ret rfl rfl rfl (Nat.le_refl _) trivial ⟨rfl, rfl⟩
      · rw [if_neg hc4] at h
        refine mv_G_br (tgt := 46) rfl rfl (by decide) (fun z => absurd z hc4) (fun _ => ?_)
        refine mv_G_run 4 (F' := (29, [some (.ref (kb true 26)), some (.int v1), some (.int v2), some (.int r1)], [.int (120 : Int32), .int v2], 0, 0, kjS f I L)) rfl ?_
        by_cases hc5 : (120 : Int32) ≤ v2
        · rw [if_pos hc5] at h
          refine mv_G_br (tgt := 46) rfl rfl (by decide) (fun _ => ?_) (fun z => absurd hc5 z)
          obtain rfl := Option.some.inj h
          exact mv_G_ret rfl rfl rfl (Nat.le_refl _) trivial ⟨rfl, rfl⟩
        · rw [if_neg hc5] at h
          refine mv_G_br (tgt := 46) rfl rfl (by decide) (fun z => absurd z hc5) (fun _ => ?_)
          refine mv_G_run 4 (F' := (38, [some (.ref (kb true 26)), some (.int v1), some (.int v2), some (.int r1)], [.int (-1 : Int32), .int r1, .ref (kb true 27)], 0, 0, kjS f I L)) rfl ?_
          obtain ⟨hi6, h⟩ := mv_bifs h
          refine mv_G_ast rfl rfl (mv_in_ok hi6) ?_
          refine mv_G_run 4 (F' := (45, [some (.ref (kb true 26)), some (.int v1), some (.int v2), some (.int r1)], [.int (0 : Int32), .int v2, .ref (kb true 29)], 0, 0, kjS f (mv_up I (kb true 27) (Int32.toNatClampNeg r1) (Int8.toInt32 (Int32.toInt8 (-1 : Int32)))) L)) rfl ?_
          obtain ⟨hi7, h⟩ := mv_bifs h
          refine mv_G_ast rfl rfl (mv_in_ok hi7) ?_
          obtain rfl := Option.some.inj h
          exact mv_G_ret rfl rfl rfl (Nat.le_refl _) trivial ⟨rfl, rfl⟩
