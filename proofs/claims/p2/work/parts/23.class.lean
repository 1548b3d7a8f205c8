/-! KindJudge$Flow.with(JII)J -/
def kf99_19 (I : kjI) (L : kjL) (v0 : Int64) (v2 : Int32) (s0 : Int64) : Option (Int64) :=
  some ((v0 &&& (((15 : Int64) <<< (Int32.toInt64 ((4 : Int32) * v2) &&& 63)) ^^^ (-1 : Int64))) ||| (s0 <<< (Int32.toInt64 ((4 : Int32) * v2) &&& 63)))
set_option maxRecDepth 100000 in
set_option maxHeartbeats 4000000 in
theorem kf99_19_ok (f : Bool) (I : kjI) (L : kjL) (d : Nat)  (v0 : Int64) (v2 : Int32) (s0 : Int64) (r : Int64) (h : kf99_19 I L v0 v2 s0 = some r) : mv_G kjP kjSta (mv_C kjP kjSta (d + 0)) kjM_99 (kjQl f I L r) (19, [some (.long v0), none, some (.int v2), none, none, none], [.long s0], 0, 0, kjS f I L) := by
  unfold kf99_19 at h
  refine mv_G_run 16 (F' := (41, [some (.long v0), none, some (.int v2), none, some (.long s0), none], [.long ((v0 &&& (((15 : Int64) <<< (Int32.toInt64 ((4 : Int32) * v2) &&& 63)) ^^^ (-1 : Int64))) ||| (s0 <<< (Int32.toInt64 ((4 : Int32) * v2) &&& 63)))], 0, 0, kjS f I L)) rfl ?_
  obtain rfl := Option.some.inj h
  exact mv_G_ret rfl rfl rfl (Nat.le_refl _) trivial ⟨rfl, rfl⟩
def kf99 (I : kjI) (L : kjL) (v0 : Int64) (v2 : Int32) (v3 : Int32) : Option (Int64) :=
  if (3 : Int32) < v3 then (kf99_19 I L v0 v2 (Int32.toInt64 (((v3 - (15 : Int32)) + (3 : Int32)) + (1 : Int32)))) else (kf99_19 I L v0 v2 (Int32.toInt64 v3))
set_option maxRecDepth 100000 in
set_option maxHeartbeats 4000000 in
theorem kf99_ok (f : Bool) (I : kjI) (L : kjL) (v0 : Int64) (v2 : Int32) (v3 : Int32) (d : Nat) (r : Int64) (h : kf99 I L v0 v2 v3 = some r) : mv_C kjP kjSta (d + 1) 99 [.long v0, .int v2, .int v3] (kjS f I L) (kjQl f I L r) := by
  unfold kf99 at h
  refine mv_C_in kjM_99 (lc := [some (.long v0), none, some (.int v2), some (.int v3), none, none]) rfl rfl rfl ?_
  refine mv_G_run 2 (F' := (2, [some (.long v0), none, some (.int v2), some (.int v3), none, none], [.int (3 : Int32), .int v3], 0, 0, kjS f I L)) rfl ?_
  by_cases hc1 : (3 : Int32) < v3
  · rw [if_pos hc1] at h
    refine mv_G_br (tgt := 10) rfl rfl (by decide) (fun _ => ?_) (fun z => absurd hc1 z)
    refine mv_G_run 8 (F' := (19, [some (.long v0), none, some (.int v2), some (.int v3), none, none], [.long (Int32.toInt64 (((v3 - (15 : Int32)) + (3 : Int32)) + (1 : Int32)))], 0, 0, kjS f I L)) rfl ?_
    refine mv_G_fg (lc' := [some (.long v0), none, some (.int v2), none, none, none]) (And.intro rfl (And.intro rfl trivial)) ?_
    exact kf99_19_ok _ _ _ d _ _ _ _ h
  · rw [if_neg hc1] at h
    refine mv_G_br (tgt := 10) rfl rfl (by decide) (fun z => absurd z hc1) (fun _ => ?_)
    refine mv_G_run 3 (F' := (19, [some (.long v0), none, some (.int v2), some (.int v3), none, none], [.long (Int32.toInt64 v3)], 0, 0, kjS f I L)) rfl ?_
    refine mv_G_fg (lc' := [some (.long v0), none, some (.int v2), none, none, none]) (And.intro rfl (And.intro rfl trivial)) ?_
    exact kf99_19_ok _ _ _ d _ _ _ _ h
/-! KindJudge$Flow.firstFrame(I)J on ('b', 26) -/
def kf85_18 (b : Bool) (N : Nat) (I : kjI) (L : kjL) : Nat → Int32 → Int64 → Int32 → Int32 → Option (Int64)
  | 0, _, _, _, _ => none
  | n + 1, v1, v2, v4, v5 => if v4 ≤ v5 then (some v2) else ((kf51 b I L v1 v5).bind fun r2 => (kf99 I L v2 v5 r2).bind fun r4 => (fun v1 v2 v4 v5 => kf85_18 b N I L n v1 v2 v4 v5) v1 r4 v4 (v5 + (1 : Int32)))
set_option maxRecDepth 100000 in
set_option maxHeartbeats 4000000 in
theorem kf85_18_ok (f : Bool) (b : Bool) (N : Nat) (I : kjI) (L : kjL) (d : Nat)  : ∀ (n : Nat) (v1 : Int32) (v2 : Int64) (v4 : Int32) (v5 : Int32) (r : Int64), kf85_18 b N I L n v1 v2 v4 v5 = some r → mv_G kjP kjSta (mv_C kjP kjSta (d + 2)) kjM_85 (kjQl f I L r) (18, [some (.ref (kb b 26)), some (.int v1), some (.long v2), none, some (.int v4), some (.int v5)], [], 0, 0, kjS f I L) := by
  cases b
  · intro n
    induction n with
    | zero => intro v1 v2 v4 v5 r h; cases h
    | succ n ih =>
      have hk18 := ih
      intro v1 v2 v4 v5 r h
      unfold kf85_18 at h
      refine mv_G_run 2 (F' := (22, [some (.ref (kb false 26)), some (.int v1), some (.long v2), none, some (.int v4), some (.int v5)], [.int v4, .int v5], 0, 0, kjS f I L)) rfl ?_
      by_cases hc1 : v4 ≤ v5
      · rw [if_pos hc1] at h
        refine mv_G_br (tgt := 51) rfl rfl (by decide) (fun _ => ?_) (fun z => absurd hc1 z)
        refine mv_G_run 1 (F' := (52, [some (.ref (kb false 26)), some (.int v1), some (.long v2), none, some (.int v4), some (.int v5)], [.long v2], 0, 0, kjS f I L)) rfl ?_
        obtain rfl := Option.some.inj h
        exact mv_G_ret rfl rfl rfl (Nat.le_refl _) trivial ⟨rfl, rfl⟩
      · rw [if_neg hc1] at h
        refine mv_G_br (tgt := 51) rfl rfl (by decide) (fun z => absurd z hc1) (fun _ => ?_)
        refine mv_G_run 7 (F' := (38, [some (.ref (kb false 26)), some (.int v1), some (.long v2), none, some (.int v4), some (.int v5)], [.int v5, .int v1, .ref (kb false 14), .int v5, .long v2], 0, 0, kjS f I L)) rfl ?_
        obtain ⟨r2, hc3, h⟩ := mv_bd h
        refine mv_G_call (r := [.int v5, .long v2]) (kf51_ok _ _ _ _ _ _ _ _ hc3) rfl rfl rfl rfl rfl (Nat.le_of_ble_eq_true rfl) (Nat.le_of_ble_eq_true rfl) (Nat.le_of_ble_eq_true rfl) ?_
        rintro _ _ ⟨rfl, rfl⟩
        obtain ⟨r4, hc5, h⟩ := mv_bd h
        refine mv_G_call (r := []) (kf99_ok _ _ _ _ _ _ _ _ hc5) rfl rfl rfl rfl rfl (Nat.le_of_ble_eq_true rfl) (Nat.le_of_ble_eq_true rfl) (Nat.le_of_ble_eq_true rfl) ?_
        rintro _ _ ⟨rfl, rfl⟩
        refine mv_G_run 3 (F' := (18, [some (.ref (kb false 26)), some (.int v1), some (.long r4), none, some (.int v4), some (.int (v5 + (1 : Int32)))], [], 0, 0, kjS f I L)) rfl ?_
        exact hk18 v1 r4 v4 (v5 + (1 : Int32)) _ h
  · intro n
    induction n with
    | zero => intro v1 v2 v4 v5 r h; cases h
    | succ n ih =>
      have hk18 := ih
      intro v1 v2 v4 v5 r h
      unfold kf85_18 at h
      refine mv_G_run 2 (F' := (22, [some (.ref (kb true 26)), some (.int v1), some (.long v2), none, some (.int v4), some (.int v5)], [.int v4, .int v5], 0, 0, kjS f I L)) rfl ?_
      by_cases hc1 : v4 ≤ v5
      · rw [if_pos hc1] at h
        refine mv_G_br (tgt := 51) rfl rfl (by decide) (fun _ => ?_) (fun z => absurd hc1 z)
        refine mv_G_run 1 (F' := (52, [some (.ref (kb true 26)), some (.int v1), some (.long v2), none, some (.int v4), some (.int v5)], [.long v2], 0, 0, kjS f I L)) rfl ?_
        obtain rfl := Option.some.inj h
        exact mv_G_ret rfl rfl rfl (Nat.le_refl _) trivial ⟨rfl, rfl⟩
      · rw [if_neg hc1] at h
        refine mv_G_br (tgt := 51) rfl rfl (by decide) (fun z => absurd z hc1) (fun _ => ?_)
        refine mv_G_run 7 (F' := (38, [some (.ref (kb true 26)), some (.int v1), some (.long v2), none, some (.int v4), some (.int v5)], [.int v5, .int v1, .ref (kb true 14), .int v5, .long v2], 0, 0, kjS f I L)) rfl ?_
        obtain ⟨r2, hc3, h⟩ := mv_bd h
        refine mv_G_call (r := [.int v5, .long v2]) (kf51_ok _ _ _ _ _ _ _ _ hc3) rfl rfl rfl rfl rfl (Nat.le_of_ble_eq_true rfl) (Nat.le_of_ble_eq_true rfl) (Nat.le_of_ble_eq_true rfl) ?_
        rintro _ _ ⟨rfl, rfl⟩
        obtain ⟨r4, hc5, h⟩ := mv_bd h
        refine mv_G_call (r := []) (kf99_ok _ _ _ _ _ _ _ _ hc5) rfl rfl rfl rfl rfl (Nat.le_of_ble_eq_true rfl) (Nat.le_of_ble_eq_true rfl) (Nat.le_of_ble_eq_true rfl) ?_
        rintro _ _ ⟨rfl, rfl⟩
        refine mv_G_run 3 (F' := (18, [some (.ref (kb true 26)), some (.int v1), some (.long r4), none, some (.int v4), some (.int (v5 + (1 : Int32)))], [], 0, 0, kjS f I L)) rfl ?_
        exact hk18 v1 r4 v4 (v5 + (1 : Int32)) _ h
def kf85 (b : Bool) (N : Nat) (I : kjI) (L : kjL) (v1 : Int32) : Option (Int64) :=
  (kf50 b I L v1).bind fun r1 => kf85_18 b N I L N v1 (0 : Int64) r1 (0 : Int32)
set_option maxRecDepth 100000 in
set_option maxHeartbeats 4000000 in
theorem kf85_ok (f : Bool) (b : Bool) (N : Nat) (I : kjI) (L : kjL) (v1 : Int32) (d : Nat) (r : Int64) (h : kf85 b N I L v1 = some r) : mv_C kjP kjSta (d + 3) 85 [.ref (kb b 26), .int v1] (kjS f I L) (kjQl f I L r) := by
  cases b
  · unfold kf85 at h
    refine mv_C_in kjM_85 (lc := [some (.ref (kb false 26)), some (.int v1), none, none, none, none]) rfl rfl rfl ?_
    refine mv_G_run 6 (F' := (10, [some (.ref (kb false 26)), some (.int v1), some (.long (0 : Int64)), none, none, none], [.int v1, .ref (kb false 14)], 0, 0, kjS f I L)) rfl ?_
    obtain ⟨r1, hc2, h⟩ := mv_bd h
    refine mv_G_call (r := []) (kf50_ok _ _ _ _ _ _ _ hc2) rfl rfl rfl rfl rfl (Nat.le_of_ble_eq_true rfl) (Nat.le_of_ble_eq_true rfl) (Nat.le_of_ble_eq_true rfl) ?_
    rintro _ _ ⟨rfl, rfl⟩
    refine mv_G_run 3 (F' := (18, [some (.ref (kb false 26)), some (.int v1), some (.long (0 : Int64)), none, some (.int r1), some (.int (0 : Int32))], [], 0, 0, kjS f I L)) rfl ?_
    exact kf85_18_ok _ _ _ _ _ d _ _ _ _ _ _ h
  · unfold kf85 at h
    refine mv_C_in kjM_85 (lc := [some (.ref (kb true 26)), some (.int v1), none, none, none, none]) rfl rfl rfl ?_
    refine mv_G_run 6 (F' := (10, [some (.ref (kb true 26)), some (.int v1), some (.long (0 : Int64)), none, none, none], [.int v1, .ref (kb true 14)], 0, 0, kjS f I L)) rfl ?_
    obtain ⟨r1, hc2, h⟩ := mv_bd h
    refine mv_G_call (r := []) (kf50_ok _ _ _ _ _ _ _ hc2) rfl rfl rfl rfl rfl (Nat.le_of_ble_eq_true rfl) (Nat.le_of_ble_eq_true rfl) (Nat.le_of_ble_eq_true rfl) ?_
    rintro _ _ ⟨rfl, rfl⟩
    refine mv_G_run 3 (F' := (18, [some (.ref (kb true 26)), some (.int v1), some (.long (0 : Int64)), none, some (.int r1), some (.int (0 : Int32))], [], 0, 0, kjS f I L)) rfl ?_
    exact kf85_18_ok _ _ _ _ _ d _ _ _ _ _ _ h
/-! KindJudge$Flow.bothFrames(JJ)J on ('b', 26) -/
def kf89_14 (b : Bool) (N : Nat) (I : kjI) (L : kjL) : Nat → Int64 → Int64 → Int64 → Int32 → Option (Int64)
  | 0, _, _, _, _ => none
  | n + 1, v1, v3, v5, v7 => if (16 : Int32) ≤ v7 then (some v5) else ((kf98 I L v1 v7).bind fun r2 => (kf98 I L v3 v7).bind fun r4 => (kf45 b N I L r2 r4).bind fun r6 => (kf99 I L v5 v7 r6).bind fun r8 => (fun v1 v3 v5 v7 => kf89_14 b N I L n v1 v3 v5 v7) v1 v3 r8 (v7 + (1 : Int32)))
set_option maxRecDepth 100000 in
set_option maxHeartbeats 4000000 in
theorem kf89_14_ok (f : Bool) (b : Bool) (N : Nat) (I : kjI) (L : kjL) (d : Nat)  : ∀ (n : Nat) (v1 : Int64) (v3 : Int64) (v5 : Int64) (v7 : Int32) (r : Int64), kf89_14 b N I L n v1 v3 v5 v7 = some r → mv_G kjP kjSta (mv_C kjP kjSta (d + 2)) kjM_89 (kjQl f I L r) (14, [some (.ref (kb b 26)), some (.long v1), none, some (.long v3), none, some (.long v5), none, some (.int v7)], [], 0, 0, kjS f I L) := by
  cases b
  · intro n
    induction n with
    | zero => intro v1 v3 v5 v7 r h; cases h
    | succ n ih =>
      have hk14 := ih
      intro v1 v3 v5 v7 r h
      unfold kf89_14 at h
      refine mv_G_run 2 (F' := (18, [some (.ref (kb false 26)), some (.long v1), none, some (.long v3), none, some (.long v5), none, some (.int v7)], [.int (16 : Int32), .int v7], 0, 0, kjS f I L)) rfl ?_
      by_cases hc1 : (16 : Int32) ≤ v7
      · rw [if_pos hc1] at h
        refine mv_G_br (tgt := 58) rfl rfl (by decide) (fun _ => ?_) (fun z => absurd hc1 z)
        refine mv_G_run 1 (F' := (60, [some (.ref (kb false 26)), some (.long v1), none, some (.long v3), none, some (.long v5), none, some (.int v7)], [.long v5], 0, 0, kjS f I L)) rfl ?_
        obtain rfl := Option.some.inj h
        exact mv_G_ret rfl rfl rfl (Nat.le_refl _) trivial ⟨rfl, rfl⟩
      · rw [if_neg hc1] at h
        refine mv_G_br (tgt := 58) rfl rfl (by decide) (fun z => absurd z hc1) (fun _ => ?_)
        refine mv_G_run 7 (F' := (35, [some (.ref (kb false 26)), some (.long v1), none, some (.long v3), none, some (.long v5), none, some (.int v7)], [.int v7, .long v1, .ref (kb false 5), .int v7, .long v5], 0, 0, kjS f I L)) rfl ?_
        obtain ⟨r2, hc3, h⟩ := mv_bd h
        refine mv_G_call (r := [.ref (kb false 5), .int v7, .long v5]) (kf98_ok _ _ _ _ _ _ _ hc3) rfl rfl rfl rfl rfl (Nat.le_of_ble_eq_true rfl) (Nat.le_of_ble_eq_true rfl) (Nat.le_of_ble_eq_true rfl) ?_
        rintro _ _ ⟨rfl, rfl⟩
        refine mv_G_run 2 (F' := (41, [some (.ref (kb false 26)), some (.long v1), none, some (.long v3), none, some (.long v5), none, some (.int v7)], [.int v7, .long v3, .int r2, .ref (kb false 5), .int v7, .long v5], 0, 0, kjS f I L)) rfl ?_
        obtain ⟨r4, hc5, h⟩ := mv_bd h
        refine mv_G_call (r := [.int r2, .ref (kb false 5), .int v7, .long v5]) (kf98_ok _ _ _ _ _ _ _ hc5) rfl rfl rfl rfl rfl (Nat.le_of_ble_eq_true rfl) (Nat.le_of_ble_eq_true rfl) (Nat.le_of_ble_eq_true rfl) ?_
        rintro _ _ ⟨rfl, rfl⟩
        obtain ⟨r6, hc7, h⟩ := mv_bd h
        refine mv_G_call (r := [.int v7, .long v5]) (kf45_ok _ _ _ _ _ _ _ _ _ hc7) rfl rfl rfl rfl rfl (Nat.le_of_ble_eq_true rfl) (Nat.le_of_ble_eq_true rfl) (Nat.le_of_ble_eq_true rfl) ?_
        rintro _ _ ⟨rfl, rfl⟩
        obtain ⟨r8, hc9, h⟩ := mv_bd h
        refine mv_G_call (r := []) (kf99_ok _ _ _ _ _ _ _ _ hc9) rfl rfl rfl rfl rfl (Nat.le_of_ble_eq_true rfl) (Nat.le_of_ble_eq_true rfl) (Nat.le_of_ble_eq_true rfl) ?_
        rintro _ _ ⟨rfl, rfl⟩
        refine mv_G_run 3 (F' := (14, [some (.ref (kb false 26)), some (.long v1), none, some (.long v3), none, some (.long r8), none, some (.int (v7 + (1 : Int32)))], [], 0, 0, kjS f I L)) rfl ?_
        exact hk14 v1 v3 r8 (v7 + (1 : Int32)) _ h
  · intro n
    induction n with
    | zero => intro v1 v3 v5 v7 r h; cases h
    | succ n ih =>
      have hk14 := ih
      intro v1 v3 v5 v7 r h
      unfold kf89_14 at h
      refine mv_G_run 2 (F' := (18, [some (.ref (kb true 26)), some (.long v1), none, some (.long v3), none, some (.long v5), none, some (.int v7)], [.int (16 : Int32), .int v7], 0, 0, kjS f I L)) rfl ?_
      by_cases hc1 : (16 : Int32) ≤ v7
      · rw [if_pos hc1] at h
        refine mv_G_br (tgt := 58) rfl rfl (by decide) (fun _ => ?_) (fun z => absurd hc1 z)
        refine mv_G_run 1 (F' := (60, [some (.ref (kb true 26)), some (.long v1), none, some (.long v3), none, some (.long v5), none, some (.int v7)], [.long v5], 0, 0, kjS f I L)) rfl ?_
        obtain rfl := Option.some.inj h
        exact mv_G_ret rfl rfl rfl (Nat.le_refl _) trivial ⟨rfl, rfl⟩
      · rw [if_neg hc1] at h
        refine mv_G_br (tgt := 58) rfl rfl (by decide) (fun z => absurd z hc1) (fun _ => ?_)
        refine mv_G_run 7 (F' := (35, [some (.ref (kb true 26)), some (.long v1), none, some (.long v3), none, some (.long v5), none, some (.int v7)], [.int v7, .long v1, .ref (kb true 5), .int v7, .long v5], 0, 0, kjS f I L)) rfl ?_
        obtain ⟨r2, hc3, h⟩ := mv_bd h
        refine mv_G_call (r := [.ref (kb true 5), .int v7, .long v5]) (kf98_ok _ _ _ _ _ _ _ hc3) rfl rfl rfl rfl rfl (Nat.le_of_ble_eq_true rfl) (Nat.le_of_ble_eq_true rfl) (Nat.le_of_ble_eq_true rfl) ?_
        rintro _ _ ⟨rfl, rfl⟩
        refine mv_G_run 2 (F' := (41, [some (.ref (kb true 26)), some (.long v1), none, some (.long v3), none, some (.long v5), none, some (.int v7)], [.int v7, .long v3, .int r2, .ref (kb true 5), .int v7, .long v5], 0, 0, kjS f I L)) rfl ?_
        obtain ⟨r4, hc5, h⟩ := mv_bd h
        refine mv_G_call (r := [.int r2, .ref (kb true 5), .int v7, .long v5]) (kf98_ok _ _ _ _ _ _ _ hc5) rfl rfl rfl rfl rfl (Nat.le_of_ble_eq_true rfl) (Nat.le_of_ble_eq_true rfl) (Nat.le_of_ble_eq_true rfl) ?_
        rintro _ _ ⟨rfl, rfl⟩
        obtain ⟨r6, hc7, h⟩ := mv_bd h
        refine mv_G_call (r := [.int v7, .long v5]) (kf45_ok _ _ _ _ _ _ _ _ _ hc7) rfl rfl rfl rfl rfl (Nat.le_of_ble_eq_true rfl) (Nat.le_of_ble_eq_true rfl) (Nat.le_of_ble_eq_true rfl) ?_
        rintro _ _ ⟨rfl, rfl⟩
        obtain ⟨r8, hc9, h⟩ := mv_bd h
        refine mv_G_call (r := []) (kf99_ok _ _ _ _ _ _ _ _ hc9) rfl rfl rfl rfl rfl (Nat.le_of_ble_eq_true rfl) (Nat.le_of_ble_eq_true rfl) (Nat.le_of_ble_eq_true rfl) ?_
        rintro _ _ ⟨rfl, rfl⟩
        refine mv_G_run 3 (F' := (14, [some (.ref (kb true 26)), some (.long v1), none, some (.long v3), none, some (.long r8), none, some (.int (v7 + (1 : Int32)))], [], 0, 0, kjS f I L)) rfl ?_
        exact hk14 v1 v3 r8 (v7 + (1 : Int32)) _ h
def kf89 (b : Bool) (N : Nat) (I : kjI) (L : kjL) (v1 : Int64) (v3 : Int64) : Option (Int64) :=
  if ¬ (lg_cmp v1 v3) = 0 then (kf89_14 b N I L N v1 v3 (0 : Int64) (0 : Int32)) else (some v1)
set_option maxRecDepth 100000 in
set_option maxHeartbeats 4000000 in
theorem kf89_ok (f : Bool) (b : Bool) (N : Nat) (I : kjI) (L : kjL) (v1 : Int64) (v3 : Int64) (d : Nat) (r : Int64) (h : kf89 b N I L v1 v3 = some r) : mv_C kjP kjSta (d + 3) 89 [.ref (kb b 26), .long v1, .long v3] (kjS f I L) (kjQl f I L r) := by
  cases b
  · unfold kf89 at h
    refine mv_C_in kjM_89 (lc := [some (.ref (kb false 26)), some (.long v1), none, some (.long v3), none, none, none, none]) rfl rfl rfl ?_
    refine mv_G_run 3 (F' := (3, [some (.ref (kb false 26)), some (.long v1), none, some (.long v3), none, none, none, none], [.int (lg_cmp v1 v3)], 0, 0, kjS f I L)) rfl ?_
    by_cases hc1 : ¬ (lg_cmp v1 v3) = 0
    · rw [if_pos hc1] at h
      refine mv_G_br (tgt := 8) rfl rfl (by decide) (fun _ => ?_) (fun z => absurd hc1 z)
      refine mv_G_run 4 (F' := (14, [some (.ref (kb false 26)), some (.long v1), none, some (.long v3), none, some (.long (0 : Int64)), none, some (.int (0 : Int32))], [], 0, 0, kjS f I L)) rfl ?_
      exact kf89_14_ok _ _ _ _ _ d _ _ _ _ _ _ h
    · rw [if_neg hc1] at h
      refine mv_G_br (tgt := 8) rfl rfl (by decide) (fun z => absurd z hc1) (fun _ => ?_)
      refine mv_G_run 1 (F' := (7, [some (.ref (kb false 26)), some (.long v1), none, some (.long v3), none, none, none, none], [.long v1], 0, 0, kjS f I L)) rfl ?_
      obtain rfl := Option.some.inj h
      exact mv_G_ret rfl rfl rfl (Nat.le_refl _) trivial ⟨rfl, rfl⟩
  · unfold kf89 at h
    refine mv_C_in kjM_89 (lc := [some (.ref (kb true 26)), some (.long v1), none, some (.long v3), none, none, none, none]) rfl rfl rfl ?_
    refine mv_G_run 3 (F' := (3, [some (.ref (kb true 26)), some (.long v1), none, some (.long v3), none, none, none, none], [.int (lg_cmp v1 v3)], 0, 0, kjS f I L)) rfl ?_
    by_cases hc1 : ¬ (lg_cmp v1 v3) = 0
    · rw [if_pos hc1] at h
      refine mv_G_br (tgt := 8) rfl rfl (by decide) (fun _ => ?_) (fun z => absurd hc1 z)
      refine mv_G_run 4 (F' := (14, [some (.ref (kb true 26)), some (.long v1), none, some (.long v3), none, some (.long (0 : Int64)), none, some (.int (0 : Int32))], [], 0, 0, kjS f I L)) rfl ?_
      exact kf89_14_ok _ _ _ _ _ d _ _ _ _ _ _ h
    · rw [if_neg hc1] at h
      refine mv_G_br (tgt := 8) rfl rfl (by decide) (fun z => absurd z hc1) (fun _ => ?_)
      refine mv_G_run 1 (F' := (7, [some (.ref (kb true 26)), some (.long v1), none, some (.long v3), none, none, none, none], [.long v1], 0, 0, kjS f I L)) rfl ?_
      obtain rfl := Option.some.inj h
      exact mv_G_ret rfl rfl rfl (Nat.le_refl _) trivial ⟨rfl, rfl⟩
/-! KindJudge$Flow.arrive(IIIJ)V on ('b', 26) -/
def kf88_131 (b : Bool) (N : Nat) (v2 : Int32) (v6 : Int32) (v8 : Int32) (v9 : Int64) (I : kjI) (L : kjL) : Option (kjI × kjL) :=
  bif mv_in v6 1500 then (bif mv_in v6 1500 then (bif mv_in v2 120 then (some ((mv_up (mv_up I (kb b 27) (Int32.toNatClampNeg v6) (Int8.toInt32 (Int32.toInt8 (Int8.toInt32 (Int32.toInt8 v8))))) (kb b 29) (Int32.toNatClampNeg v2) ((1 : Int32) &&& 1)), (mv_up L (kb b 28) (Int32.toNatClampNeg v6) v9))) else none) else none) else none
set_option maxRecDepth 100000 in
set_option maxHeartbeats 4000000 in
theorem kf88_131_ok (f : Bool) (b : Bool) (N : Nat) (d : Nat)  (v2 : Int32) (v6 : Int32) (v8 : Int32) (v9 : Int64) (I : kjI) (L : kjL) (r : kjI × kjL) (h : kf88_131 b N v2 v6 v8 v9 I L = some r) : mv_G kjP kjSta (mv_C kjP kjSta (d + 3)) kjM_88 (kjQwv f r) (131, [some (.ref (kb b 26)), none, some (.int v2), none, none, none, some (.int v6), none, some (.int v8), some (.long v9), none], [], 0, 0, kjS f I L) := by
  cases b
  · unfold kf88_131 at h
    refine mv_G_run 5 (F' := (140, [some (.ref (kb false 26)), none, some (.int v2), none, none, none, some (.int v6), none, some (.int v8), some (.long v9), none], [.int (Int8.toInt32 (Int32.toInt8 v8)), .int v6, .ref (kb false 27)], 0, 0, kjS f I L)) rfl ?_
    obtain ⟨hi1, h⟩ := mv_bifs h
    refine mv_G_ast rfl rfl (mv_in_ok hi1) ?_
    refine mv_G_run 4 (F' := (149, [some (.ref (kb false 26)), none, some (.int v2), none, none, none, some (.int v6), none, some (.int v8), some (.long v9), none], [.long v9, .int v6, .ref (kb false 28)], 0, 0, kjS f (mv_up I (kb false 27) (Int32.toNatClampNeg v6) (Int8.toInt32 (Int32.toInt8 (Int8.toInt32 (Int32.toInt8 v8))))) L)) rfl ?_
    obtain ⟨hi2, h⟩ := mv_bifs h
    refine mv_G_ast rfl rfl (mv_in_ok hi2) ?_
    refine mv_G_run 4 (F' := (156, [some (.ref (kb false 26)), none, some (.int v2), none, none, none, some (.int v6), none, some (.int v8), some (.long v9), none], [.int (1 : Int32), .int v2, .ref (kb false 29)], 0, 0, kjS f (mv_up I (kb false 27) (Int32.toNatClampNeg v6) (Int8.toInt32 (Int32.toInt8 (Int8.toInt32 (Int32.toInt8 v8))))) (mv_up L (kb false 28) (Int32.toNatClampNeg v6) v9))) rfl ?_
    obtain ⟨hi3, h⟩ := mv_bifs h
    refine mv_G_ast rfl rfl (mv_in_ok hi3) ?_
    obtain rfl := Option.some.inj h
    exact mv_G_ret rfl rfl rfl (Nat.le_refl _) trivial ⟨rfl, rfl⟩
  · unfold kf88_131 at h
    refine mv_G_run 5 (F' := (140, [some (.ref (kb true 26)), none, some (.int v2), none, none, none, some (.int v6), none, some (.int v8), some (.long v9), none], [.int (Int8.toInt32 (Int32.toInt8 v8)), .int v6, .ref (kb true 27)], 0, 0, kjS f I L)) rfl ?_
    obtain ⟨hi1, h⟩ := mv_bifs h
    refine mv_G_ast rfl rfl (mv_in_ok hi1) ?_
    refine mv_G_run 4 (F' := (149, [some (.ref (kb true 26)), none, some (.int v2), none, none, none, some (.int v6), none, some (.int v8), some (.long v9), none], [.long v9, .int v6, .ref (kb true 28)], 0, 0, kjS f (mv_up I (kb true 27) (Int32.toNatClampNeg v6) (Int8.toInt32 (Int32.toInt8 (Int8.toInt32 (Int32.toInt8 v8))))) L)) rfl ?_
    obtain ⟨hi2, h⟩ := mv_bifs h
    refine mv_G_ast rfl rfl (mv_in_ok hi2) ?_
    refine mv_G_run 4 (F' := (156, [some (.ref (kb true 26)), none, some (.int v2), none, none, none, some (.int v6), none, some (.int v8), some (.long v9), none], [.int (1 : Int32), .int v2, .ref (kb true 29)], 0, 0, kjS f (mv_up I (kb true 27) (Int32.toNatClampNeg v6) (Int8.toInt32 (Int32.toInt8 (Int8.toInt32 (Int32.toInt8 v8))))) (mv_up L (kb true 28) (Int32.toNatClampNeg v6) v9))) rfl ?_
    obtain ⟨hi3, h⟩ := mv_bifs h
    refine mv_G_ast rfl rfl (mv_in_ok hi3) ?_
    obtain rfl := Option.some.inj h
    exact mv_G_ret rfl rfl rfl (Nat.le_refl _) trivial ⟨rfl, rfl⟩
def kf88_111 (b : Bool) (N : Nat) (v2 : Int32) (v6 : Int32) (v7 : Int32) (v8 : Int32) (v9 : Int64) (I : kjI) (L : kjL) : Option (kjI × kjL) :=
  if ¬ v8 = v7 then (kf88_131 b N v2 v6 v8 v9 I L) else (bif mv_in v6 1500 then (if (lg_cmp v9 (L (kb b 28) (Int32.toNatClampNeg v6))) = 0 then (some (I, L)) else (kf88_131 b N v2 v6 v8 v9 I L)) else none)
set_option maxRecDepth 100000 in
set_option maxHeartbeats 4000000 in
theorem kf88_111_ok (f : Bool) (b : Bool) (N : Nat) (d : Nat)  (v2 : Int32) (v6 : Int32) (v7 : Int32) (v8 : Int32) (v9 : Int64) (I : kjI) (L : kjL) (r : kjI × kjL) (h : kf88_111 b N v2 v6 v7 v8 v9 I L = some r) : mv_G kjP kjSta (mv_C kjP kjSta (d + 3)) kjM_88 (kjQwv f r) (111, [some (.ref (kb b 26)), none, some (.int v2), none, none, none, some (.int v6), some (.int v7), some (.int v8), some (.long v9), none], [], 0, 0, kjS f I L) := by
  cases b
  · unfold kf88_111 at h
    refine mv_G_run 2 (F' := (115, [some (.ref (kb false 26)), none, some (.int v2), none, none, none, some (.int v6), some (.int v7), some (.int v8), some (.long v9), none], [.int v7, .int v8], 0, 0, kjS f I L)) rfl ?_
    by_cases hc1 : ¬ v8 = v7
    · rw [if_pos hc1] at h
      refine mv_G_br (tgt := 131) rfl rfl (by decide) (fun _ => ?_) (fun z => absurd hc1 z)
      refine mv_G_fg (lc' := [some (.ref (kb false 26)), none, some (.int v2), none, none, none, some (.int v6), none, some (.int v8), some (.long v9), none]) (And.intro rfl (And.intro rfl (And.intro rfl (And.intro rfl (And.intro rfl trivial))))) ?_
      exact kf88_131_ok _ _ _ d _ _ _ _ _ _ _ h
    · rw [if_neg hc1] at h
      refine mv_G_br (tgt := 131) rfl rfl (by decide) (fun z => absurd z hc1) (fun _ => ?_)
      refine mv_G_run 4 (F' := (126, [some (.ref (kb false 26)), none, some (.int v2), none, none, none, some (.int v6), some (.int v7), some (.int v8), some (.long v9), none], [.int v6, .ref (kb false 28), .long v9], 0, 0, kjS f I L)) rfl ?_
      obtain ⟨hi2, h⟩ := mv_bifs h
      refine mv_G_ald rfl rfl (mv_in_ok hi2) ?_
      refine mv_G_run 1 (F' := (128, [some (.ref (kb false 26)), none, some (.int v2), none, none, none, some (.int v6), some (.int v7), some (.int v8), some (.long v9), none], [.int (lg_cmp v9 (L (kb false 28) (Int32.toNatClampNeg v6)))], 0, 0, kjS f I L)) rfl ?_
      by_cases hc3 : (lg_cmp v9 (L (kb false 28) (Int32.toNatClampNeg v6))) = 0
      · rw [if_pos hc3] at h
        refine mv_G_br (tgt := 157) rfl rfl (by decide) (fun _ => ?_) (fun z => absurd hc3 z)
        obtain rfl := Option.some.inj h
        exact mv_G_ret rfl rfl rfl (Nat.le_refl _) trivial ⟨rfl, rfl⟩
      · rw [if_neg hc3] at h
        refine mv_G_br (tgt := 157) rfl rfl (by decide) (fun z => absurd z hc3) (fun _ => ?_)
        refine mv_G_fg (lc' := [some (.ref (kb false 26)), none, some (.int v2), none, none, none, some (.int v6), none, some (.int v8), some (.long v9), none]) (And.intro rfl (And.intro rfl (And.intro rfl (And.intro rfl (And.intro rfl trivial))))) ?_
        exact kf88_131_ok _ _ _ d _ _ _ _ _ _ _ h
  · unfold kf88_111 at h
    refine mv_G_run 2 (F' := (115, [some (.ref (kb true 26)), none, some (.int v2), none, none, none, some (.int v6), some (.int v7), some (.int v8), some (.long v9), none], [.int v7, .int v8], 0, 0, kjS f I L)) rfl ?_
    by_cases hc1 : ¬ v8 = v7
    · rw [if_pos hc1] at h
      refine mv_G_br (tgt := 131) rfl rfl (by decide) (fun _ => ?_) (fun z => absurd hc1 z)
      refine mv_G_fg (lc' := [some (.ref (kb true 26)), none, some (.int v2), none, none, none, some (.int v6), none, some (.int v8), some (.long v9), none]) (And.intro rfl (And.intro rfl (And.intro rfl (And.intro rfl (And.intro rfl trivial))))) ?_
      exact kf88_131_ok _ _ _ d _ _ _ _ _ _ _ h
    · rw [if_neg hc1] at h
      refine mv_G_br (tgt := 131) rfl rfl (by decide) (fun z => absurd z hc1) (fun _ => ?_)
      refine mv_G_run 4 (F' := (126, [some (.ref (kb true 26)), none, some (.int v2), none, none, none, some (.int v6), some (.int v7), some (.int v8), some (.long v9), none], [.int v6, .ref (kb true 28), .long v9], 0, 0, kjS f I L)) rfl ?_
      obtain ⟨hi2, h⟩ := mv_bifs h
      refine mv_G_ald rfl rfl (mv_in_ok hi2) ?_
      refine mv_G_run 1 (F' := (128, [some (.ref (kb true 26)), none, some (.int v2), none, none, none, some (.int v6), some (.int v7), some (.int v8), some (.long v9), none], [.int (lg_cmp v9 (L (kb true 28) (Int32.toNatClampNeg v6)))], 0, 0, kjS f I L)) rfl ?_
      by_cases hc3 : (lg_cmp v9 (L (kb true 28) (Int32.toNatClampNeg v6))) = 0
      · rw [if_pos hc3] at h
        refine mv_G_br (tgt := 157) rfl rfl (by decide) (fun _ => ?_) (fun z => absurd hc3 z)
        obtain rfl := Option.some.inj h
        exact mv_G_ret rfl rfl rfl (Nat.le_refl _) trivial ⟨rfl, rfl⟩
      · rw [if_neg hc3] at h
        refine mv_G_br (tgt := 157) rfl rfl (by decide) (fun z => absurd z hc3) (fun _ => ?_)
        refine mv_G_fg (lc' := [some (.ref (kb true 26)), none, some (.int v2), none, none, none, some (.int v6), none, some (.int v8), some (.long v9), none]) (And.intro rfl (And.intro rfl (And.intro rfl (And.intro rfl (And.intro rfl trivial))))) ?_
        exact kf88_131_ok _ _ _ d _ _ _ _ _ _ _ h
def kf88_99 (b : Bool) (N : Nat) (v2 : Int32) (v6 : Int32) (v7 : Int32) (v8 : Int32) (s0 : Int64) (I : kjI) (L : kjL) : Option (kjI × kjL) :=
  if ¬ v8 = (99 : Int32) then (kf88_111 b N v2 v6 v7 v8 s0 I L) else (kf88_111 b N v2 v6 v7 v8 (0 : Int64) I L)
set_option maxRecDepth 100000 in
set_option maxHeartbeats 4000000 in
theorem kf88_99_ok (f : Bool) (b : Bool) (N : Nat) (d : Nat)  (v2 : Int32) (v6 : Int32) (v7 : Int32) (v8 : Int32) (s0 : Int64) (I : kjI) (L : kjL) (r : kjI × kjL) (h : kf88_99 b N v2 v6 v7 v8 s0 I L = some r) : mv_G kjP kjSta (mv_C kjP kjSta (d + 3)) kjM_88 (kjQwv f r) (99, [some (.ref (kb b 26)), none, some (.int v2), none, none, none, some (.int v6), some (.int v7), some (.int v8), none, none], [.long s0], 0, 0, kjS f I L) := by
  cases b
  · unfold kf88_99 at h
    refine mv_G_run 3 (F' := (105, [some (.ref (kb false 26)), none, some (.int v2), none, none, none, some (.int v6), some (.int v7), some (.int v8), some (.long s0), none], [.int (99 : Int32), .int v8], 0, 0, kjS f I L)) rfl ?_
    by_cases hc1 : ¬ v8 = (99 : Int32)
    · rw [if_pos hc1] at h
      refine mv_G_br (tgt := 111) rfl rfl (by decide) (fun _ => ?_) (fun z => absurd hc1 z)
      exact kf88_111_ok _ _ _ d _ _ _ _ _ _ _ _ h
    · rw [if_neg hc1] at h
      refine mv_G_br (tgt := 111) rfl rfl (by decide) (fun z => absurd z hc1) (fun _ => ?_)
      refine mv_G_run 2 (F' := (111, [some (.ref (kb false 26)), none, some (.int v2), none, none, none, some (.int v6), some (.int v7), some (.int v8), some (.long (0 : Int64)), none], [], 0, 0, kjS f I L)) rfl ?_
      exact kf88_111_ok _ _ _ d _ _ _ _ _ _ _ _ h
  · unfold kf88_99 at h
    refine mv_G_run 3 (F' := (105, [some (.ref (kb true 26)), none, some (.int v2), none, none, none, some (.int v6), some (.int v7), some (.int v8), some (.long s0), none], [.int (99 : Int32), .int v8], 0, 0, kjS f I L)) rfl ?_
    by_cases hc1 : ¬ v8 = (99 : Int32)
    · rw [if_pos hc1] at h
      refine mv_G_br (tgt := 111) rfl rfl (by decide) (fun _ => ?_) (fun z => absurd hc1 z)
      exact kf88_111_ok _ _ _ d _ _ _ _ _ _ _ _ h
    · rw [if_neg hc1] at h
      refine mv_G_br (tgt := 111) rfl rfl (by decide) (fun z => absurd z hc1) (fun _ => ?_)
      refine mv_G_run 2 (F' := (111, [some (.ref (kb true 26)), none, some (.int v2), none, none, none, some (.int v6), some (.int v7), some (.int v8), some (.long (0 : Int64)), none], [], 0, 0, kjS f I L)) rfl ?_
      exact kf88_111_ok _ _ _ d _ _ _ _ _ _ _ _ h
def kf88_73 (b : Bool) (N : Nat) (v2 : Int32) (v4 : Int64) (v6 : Int32) (v7 : Int32) (s0 : Int32) (I : kjI) (L : kjL) : Option (kjI × kjL) :=
  if ¬ v7 = (-1 : Int32) then (bif mv_in v6 1500 then ((kf89 b N I L (L (kb b 28) (Int32.toNatClampNeg v6)) v4).bind fun r3 => kf88_99 b N v2 v6 v7 s0 r3 I L) else none) else (kf88_99 b N v2 v6 v7 s0 v4 I L)
set_option maxRecDepth 100000 in
set_option maxHeartbeats 4000000 in
theorem kf88_73_ok (f : Bool) (b : Bool) (N : Nat) (d : Nat)  (v2 : Int32) (v4 : Int64) (v6 : Int32) (v7 : Int32) (s0 : Int32) (I : kjI) (L : kjL) (r : kjI × kjL) (h : kf88_73 b N v2 v4 v6 v7 s0 I L = some r) : mv_G kjP kjSta (mv_C kjP kjSta (d + 3)) kjM_88 (kjQwv f r) (73, [some (.ref (kb b 26)), none, some (.int v2), none, some (.long v4), none, some (.int v6), some (.int v7), none, none, none], [.int s0], 0, 0, kjS f I L) := by
  cases b
  · unfold kf88_73 at h
    refine mv_G_run 3 (F' := (78, [some (.ref (kb false 26)), none, some (.int v2), none, some (.long v4), none, some (.int v6), some (.int v7), some (.int s0), none, none], [.int (-1 : Int32), .int v7], 0, 0, kjS f I L)) rfl ?_
    by_cases hc1 : ¬ v7 = (-1 : Int32)
    · rw [if_pos hc1] at h
      refine mv_G_br (tgt := 86) rfl rfl (by decide) (fun _ => ?_) (fun z => absurd hc1 z)
      refine mv_G_run 4 (F' := (93, [some (.ref (kb false 26)), none, some (.int v2), none, some (.long v4), none, some (.int v6), some (.int v7), some (.int s0), none, none], [.int v6, .ref (kb false 28), .ref (kb false 26)], 0, 0, kjS f I L)) rfl ?_
      obtain ⟨hi2, h⟩ := mv_bifs h
      refine mv_G_ald rfl rfl (mv_in_ok hi2) ?_
      refine mv_G_run 1 (F' := (96, [some (.ref (kb false 26)), none, some (.int v2), none, some (.long v4), none, some (.int v6), some (.int v7), some (.int s0), none, none], [.long v4, .long (L (kb false 28) (Int32.toNatClampNeg v6)), .ref (kb false 26)], 0, 0, kjS f I L)) rfl ?_
      obtain ⟨r3, hc4, h⟩ := mv_bd h
      refine mv_G_call (r := []) (kf89_ok _ _ _ _ _ _ _ _ _ hc4) rfl rfl rfl rfl rfl (Nat.le_of_ble_eq_true rfl) (Nat.le_of_ble_eq_true rfl) (Nat.le_of_ble_eq_true rfl) ?_
      rintro _ _ ⟨rfl, rfl⟩
      refine mv_G_fg (lc' := [some (.ref (kb false 26)), none, some (.int v2), none, none, none, some (.int v6), some (.int v7), some (.int s0), none, none]) (And.intro rfl (And.intro rfl (And.intro rfl (And.intro rfl (And.intro rfl trivial))))) ?_
      exact kf88_99_ok _ _ _ d _ _ _ _ _ _ _ _ h
    · rw [if_neg hc1] at h
      refine mv_G_br (tgt := 86) rfl rfl (by decide) (fun z => absurd z hc1) (fun _ => ?_)
      refine mv_G_run 2 (F' := (99, [some (.ref (kb false 26)), none, some (.int v2), none, some (.long v4), none, some (.int v6), some (.int v7), some (.int s0), none, none], [.long v4], 0, 0, kjS f I L)) rfl ?_
      refine mv_G_fg (lc' := [some (.ref (kb false 26)), none, some (.int v2), none, none, none, some (.int v6), some (.int v7), some (.int s0), none, none]) (And.intro rfl (And.intro rfl (And.intro rfl (And.intro rfl (And.intro rfl trivial))))) ?_
      exact kf88_99_ok _ _ _ d _ _ _ _ _ _ _ _ h
  · unfold kf88_73 at h
    refine mv_G_run 3 (F' := (78, [some (.ref (kb true 26)), none, some (.int v2), none, some (.long v4), none, some (.int v6), some (.int v7), some (.int s0), none, none], [.int (-1 : Int32), .int v7], 0, 0, kjS f I L)) rfl ?_
    by_cases hc1 : ¬ v7 = (-1 : Int32)
    · rw [if_pos hc1] at h
      refine mv_G_br (tgt := 86) rfl rfl (by decide) (fun _ => ?_) (fun z => absurd hc1 z)
      refine mv_G_run 4 (F' := (93, [some (.ref (kb true 26)), none, some (.int v2), none, some (.long v4), none, some (.int v6), some (.int v7), some (.int s0), none, none], [.int v6, .ref (kb true 28), .ref (kb true 26)], 0, 0, kjS f I L)) rfl ?_
      obtain ⟨hi2, h⟩ := mv_bifs h
      refine mv_G_ald rfl rfl (mv_in_ok hi2) ?_
      refine mv_G_run 1 (F' := (96, [some (.ref (kb true 26)), none, some (.int v2), none, some (.long v4), none, some (.int v6), some (.int v7), some (.int s0), none, none], [.long v4, .long (L (kb true 28) (Int32.toNatClampNeg v6)), .ref (kb true 26)], 0, 0, kjS f I L)) rfl ?_
      obtain ⟨r3, hc4, h⟩ := mv_bd h
      refine mv_G_call (r := []) (kf89_ok _ _ _ _ _ _ _ _ _ hc4) rfl rfl rfl rfl rfl (Nat.le_of_ble_eq_true rfl) (Nat.le_of_ble_eq_true rfl) (Nat.le_of_ble_eq_true rfl) ?_
      rintro _ _ ⟨rfl, rfl⟩
      refine mv_G_fg (lc' := [some (.ref (kb true 26)), none, some (.int v2), none, none, none, some (.int v6), some (.int v7), some (.int s0), none, none]) (And.intro rfl (And.intro rfl (And.intro rfl (And.intro rfl (And.intro rfl trivial))))) ?_
      exact kf88_99_ok _ _ _ d _ _ _ _ _ _ _ _ h
    · rw [if_neg hc1] at h
      refine mv_G_br (tgt := 86) rfl rfl (by decide) (fun z => absurd z hc1) (fun _ => ?_)
      refine mv_G_run 2 (F' := (99, [some (.ref (kb true 26)), none, some (.int v2), none, some (.long v4), none, some (.int v6), some (.int v7), some (.int s0), none, none], [.long v4], 0, 0, kjS f I L)) rfl ?_
      refine mv_G_fg (lc' := [some (.ref (kb true 26)), none, some (.int v2), none, none, none, some (.int v6), some (.int v7), some (.int s0), none, none]) (And.intro rfl (And.intro rfl (And.intro rfl (And.intro rfl (And.intro rfl trivial))))) ?_
      exact kf88_99_ok _ _ _ d _ _ _ _ _ _ _ _ h
def kf88_67 (b : Bool) (N : Nat) (v2 : Int32) (v3 : Int32) (v4 : Int64) (v6 : Int32) (v7 : Int32) (I : kjI) (L : kjL) : Option (kjI × kjL) :=
  kf88_73 b N v2 v4 v6 v7 v3 I L
set_option maxRecDepth 100000 in
set_option maxHeartbeats 4000000 in
theorem kf88_67_ok (f : Bool) (b : Bool) (N : Nat) (d : Nat)  (v2 : Int32) (v3 : Int32) (v4 : Int64) (v6 : Int32) (v7 : Int32) (I : kjI) (L : kjL) (r : kjI × kjL) (h : kf88_67 b N v2 v3 v4 v6 v7 I L = some r) : mv_G kjP kjSta (mv_C kjP kjSta (d + 3)) kjM_88 (kjQwv f r) (67, [some (.ref (kb b 26)), none, some (.int v2), some (.int v3), some (.long v4), none, some (.int v6), some (.int v7), none, none, none], [], 0, 0, kjS f I L) := by
  cases b
  · unfold kf88_67 at h
    refine mv_G_run 2 (F' := (73, [some (.ref (kb false 26)), none, some (.int v2), some (.int v3), some (.long v4), none, some (.int v6), some (.int v7), none, none, none], [.int v3], 0, 0, kjS f I L)) rfl ?_
    refine mv_G_fg (lc' := [some (.ref (kb false 26)), none, some (.int v2), none, some (.long v4), none, some (.int v6), some (.int v7), none, none, none]) (And.intro rfl (And.intro rfl (And.intro rfl (And.intro rfl (And.intro rfl trivial))))) ?_
    exact kf88_73_ok _ _ _ d _ _ _ _ _ _ _ _ h
  · unfold kf88_67 at h
    refine mv_G_run 2 (F' := (73, [some (.ref (kb true 26)), none, some (.int v2), some (.int v3), some (.long v4), none, some (.int v6), some (.int v7), none, none, none], [.int v3], 0, 0, kjS f I L)) rfl ?_
    refine mv_G_fg (lc' := [some (.ref (kb true 26)), none, some (.int v2), none, some (.long v4), none, some (.int v6), some (.int v7), none, none, none]) (And.intro rfl (And.intro rfl (And.intro rfl (And.intro rfl (And.intro rfl trivial))))) ?_
    exact kf88_73_ok _ _ _ d _ _ _ _ _ _ _ _ h
def kf88 (b : Bool) (N : Nat) (v1 : Int32) (v2 : Int32) (v3 : Int32) (v4 : Int64) (I : kjI) (L : kjL) : Option (kjI × kjL) :=
  (kf33 b I L v1 v2).bind fun r1 => if r1 < 0 then (some (I, L)) else (if (1500 : Int32) ≤ r1 then (some (I, L)) else (if (1500 : Int32) ≤ r1 then (some (I, L)) else (if v2 < (120 : Int32) then (bif mv_in r1 1500 then (if (I (kb b 27) (Int32.toNatClampNeg r1)) = (-1 : Int32) then (kf88_67 b N v2 v3 v4 r1 (I (kb b 27) (Int32.toNatClampNeg r1)) I L) else (if ¬ (I (kb b 27) (Int32.toNatClampNeg r1)) = v3 then (kf88_73 b N v2 v4 r1 (I (kb b 27) (Int32.toNatClampNeg r1)) (99 : Int32) I L) else (kf88_67 b N v2 v3 v4 r1 (I (kb b 27) (Int32.toNatClampNeg r1)) I L))) else none) else (some (I, L)))))
set_option maxRecDepth 100000 in
set_option maxHeartbeats 4000000 in
theorem kf88_ok (f : Bool) (b : Bool) (N : Nat) (v1 : Int32) (v2 : Int32) (v3 : Int32) (v4 : Int64) (I : kjI) (L : kjL) (d : Nat) (r : kjI × kjL) (h : kf88 b N v1 v2 v3 v4 I L = some r) : mv_C kjP kjSta (d + 4) 88 [.ref (kb b 26), .int v1, .int v2, .int v3, .long v4] (kjS f I L) (kjQwv f r) := by
  cases b
  · unfold kf88 at h
    refine mv_C_in kjM_88 (lc := [some (.ref (kb false 26)), some (.int v1), some (.int v2), some (.int v3), some (.long v4), none, none, none, none, none, none]) rfl rfl rfl ?_
    refine mv_G_run 4 (F' := (6, [some (.ref (kb false 26)), some (.int v1), some (.int v2), some (.int v3), some (.long v4), none, none, none, none, none, none], [.int v2, .int v1, .ref (kb false 4)], 0, 0, kjS f I L)) rfl ?_
    obtain ⟨r1, hc2, h⟩ := mv_bd h
    refine mv_G_call (r := []) (kf33_ok _ _ _ _ _ _ _ _ hc2) rfl rfl rfl rfl rfl (Nat.le_of_ble_eq_true rfl) (Nat.le_of_ble_eq_true rfl) (Nat.le_of_ble_eq_true rfl) ?_
    rintro _ _ ⟨rfl, rfl⟩
    refine mv_G_run 2 (F' := (13, [some (.ref (kb false 26)), some (.int v1), some (.int v2), some (.int v3), some (.long v4), none, some (.int r1), none, none, none, none], [.int r1], 0, 0, kjS f I L)) rfl ?_
    by_cases hc3 : r1 < 0
    · rw [if_pos hc3] at h
      refine mv_G_br (tgt := 45) rfl rfl (by decide) (fun _ => ?_) (fun z => absurd hc3 z)
      obtain rfl := Option.some.inj h
      exact mv_G_ret rfl rfl rfl (Nat.le_refl _) trivial ⟨rfl, rfl⟩
    · rw [if_neg hc3] at h
      refine mv_G_br (tgt := 45) rfl rfl (by decide) (fun z => absurd z hc3) (fun _ => ?_)
      refine mv_G_run 4 (F' := (23, [some (.ref (kb false 26)), some (.int v1), some (.int v2), some (.int v3), some (.long v4), none, some (.int r1), none, none, none, none], [.int (1500 : Int32), .int r1], 0, 0, kjS f I L)) rfl ?_
      by_cases hc4 : (1500 : Int32) ≤ r1
      · rw [if_pos hc4] at h
        refine mv_G_br (tgt := 45) rfl rfl (by decide) (fun _ => ?_) (fun z => absurd hc4 z)
        obtain rfl := Option.some.inj h
        exact mv_G_ret rfl rfl rfl (Nat.le_refl _) trivial ⟨rfl, rfl⟩
      · rw [if_neg hc4] at h
        refine mv_G_br (tgt := 45) rfl rfl (by decide) (fun z => absurd z hc4) (fun _ => ?_)
        refine mv_G_run 4 (F' := (33, [some (.ref (kb false 26)), some (.int v1), some (.int v2), some (.int v3), some (.long v4), none, some (.int r1), none, none, none, none], [.int (1500 : Int32), .int r1], 0, 0, kjS f I L)) rfl ?_
        by_cases hc5 : (1500 : Int32) ≤ r1
        · rw [if_pos hc5] at h
          refine mv_G_br (tgt := 45) rfl rfl (by decide) (fun _ => ?_) (fun z => absurd hc5 z)
          obtain rfl := Option.some.inj h
          exact mv_G_ret rfl rfl rfl (Nat.le_refl _) trivial ⟨rfl, rfl⟩
        · rw [if_neg hc5] at h
          refine mv_G_br (tgt := 45) rfl rfl (by decide) (fun z => absurd z hc5) (fun _ => ?_)
          refine mv_G_run 4 (F' := (42, [some (.ref (kb false 26)), some (.int v1), some (.int v2), some (.int v3), some (.long v4), none, some (.int r1), none, none, none, none], [.int (120 : Int32), .int v2], 0, 0, kjS f I L)) rfl ?_
          by_cases hc6 : v2 < (120 : Int32)
          · rw [if_pos hc6] at h
            refine mv_G_br (tgt := 46) rfl rfl (by decide) (fun _ => ?_) (fun z => absurd hc6 z)
            refine mv_G_run 3 (F' := (52, [some (.ref (kb false 26)), some (.int v1), some (.int v2), some (.int v3), some (.long v4), none, some (.int r1), none, none, none, none], [.int r1, .ref (kb false 27)], 0, 0, kjS f I L)) rfl ?_
            obtain ⟨hi7, h⟩ := mv_bifs h
            refine mv_G_ald rfl rfl (mv_in_ok hi7) ?_
            refine mv_G_run 3 (F' := (58, [some (.ref (kb false 26)), some (.int v1), some (.int v2), some (.int v3), some (.long v4), none, some (.int r1), some (.int (I (kb false 27) (Int32.toNatClampNeg r1))), none, none, none], [.int (-1 : Int32), .int (I (kb false 27) (Int32.toNatClampNeg r1))], 0, 0, kjS f I L)) rfl ?_
            by_cases hc8 : (I (kb false 27) (Int32.toNatClampNeg r1)) = (-1 : Int32)
            · rw [if_pos hc8] at h
              refine mv_G_br (tgt := 67) rfl rfl (by decide) (fun _ => ?_) (fun z => absurd hc8 z)
              refine mv_G_fg (lc' := [some (.ref (kb false 26)), none, some (.int v2), some (.int v3), some (.long v4), none, some (.int r1), some (.int (I (kb false 27) (Int32.toNatClampNeg r1))), none, none, none]) (And.intro rfl (And.intro rfl (And.intro rfl (And.intro rfl (And.intro rfl (And.intro rfl trivial)))))) ?_
              exact kf88_67_ok _ _ _ d _ _ _ _ _ _ _ _ h
            · rw [if_neg hc8] at h
              refine mv_G_br (tgt := 67) rfl rfl (by decide) (fun z => absurd z hc8) (fun _ => ?_)
              refine mv_G_run 2 (F' := (64, [some (.ref (kb false 26)), some (.int v1), some (.int v2), some (.int v3), some (.long v4), none, some (.int r1), some (.int (I (kb false 27) (Int32.toNatClampNeg r1))), none, none, none], [.int v3, .int (I (kb false 27) (Int32.toNatClampNeg r1))], 0, 0, kjS f I L)) rfl ?_
              by_cases hc9 : ¬ (I (kb false 27) (Int32.toNatClampNeg r1)) = v3
              · rw [if_pos hc9] at h
                refine mv_G_br (tgt := 71) rfl rfl (by decide) (fun _ => ?_) (fun z => absurd hc9 z)
                refine mv_G_run 1 (F' := (73, [some (.ref (kb false 26)), some (.int v1), some (.int v2), some (.int v3), some (.long v4), none, some (.int r1), some (.int (I (kb false 27) (Int32.toNatClampNeg r1))), none, none, none], [.int (99 : Int32)], 0, 0, kjS f I L)) rfl ?_
                refine mv_G_fg (lc' := [some (.ref (kb false 26)), none, some (.int v2), none, some (.long v4), none, some (.int r1), some (.int (I (kb false 27) (Int32.toNatClampNeg r1))), none, none, none]) (And.intro rfl (And.intro rfl (And.intro rfl (And.intro rfl (And.intro rfl trivial))))) ?_
                exact kf88_73_ok _ _ _ d _ _ _ _ _ _ _ _ h
              · rw [if_neg hc9] at h
                refine mv_G_br (tgt := 71) rfl rfl (by decide) (fun z => absurd z hc9) (fun _ => ?_)
                refine mv_G_fg (lc' := [some (.ref (kb false 26)), none, some (.int v2), some (.int v3), some (.long v4), none, some (.int r1), some (.int (I (kb false 27) (Int32.toNatClampNeg r1))), none, none, none]) (And.intro rfl (And.intro rfl (And.intro rfl (And.intro rfl (And.intro rfl (And.intro rfl trivial)))))) ?_
                exact kf88_67_ok _ _ _ d _ _ _ _ _ _ _ _ h
          · rw [if_neg hc6] at h
            refine mv_G_br (tgt := 46) rfl rfl (by decide) (fun z => absurd z hc6) (fun _ => ?_)
            obtain rfl := Option.some.inj h
            exact mv_G_ret rfl rfl rfl (Nat.le_refl _) trivial ⟨rfl, rfl⟩
  · unfold kf88 at h
    refine mv_C_in kjM_88 (lc := [some (.ref (kb true 26)), some (.int v1), some (.int v2), some (.int v3), some (.long v4), none, none, none, none, none, none]) rfl rfl rfl ?_
    refine mv_G_run 4 (F' := (6, [some (.ref (kb true 26)), some (.int v1), some (.int v2), some (.int v3), some (.long v4), none, none, none, none, none, none], [.int v2, .int v1, .ref (kb true 4)], 0, 0, kjS f I L)) rfl ?_
    obtain ⟨r1, hc2, h⟩ := mv_bd h
    refine mv_G_call (r := []) (kf33_ok _ _ _ _ _ _ _ _ hc2) rfl rfl rfl rfl rfl (Nat.le_of_ble_eq_true rfl) (Nat.le_of_ble_eq_true rfl) (Nat.le_of_ble_eq_true rfl) ?_
    rintro _ _ ⟨rfl, rfl⟩
    refine mv_G_run 2 (F' := (13, [some (.ref (kb true 26)), some (.int v1), some (.int v2), some (.int v3), some (.long v4), none, some (.int r1), none, none, none, none], [.int r1], 0, 0, kjS f I L)) rfl ?_
    by_cases hc3 : r1 < 0
    · rw [if_pos hc3] at h
      refine mv_G_br (tgt := 45) rfl rfl (by decide) (fun _ => ?_) (fun z => absurd hc3 z)
      obtain rfl := Option.some.inj h
      exact mv_G_ret rfl rfl rfl (Nat.le_refl _) trivial ⟨rfl, rfl⟩
    · rw [if_neg hc3] at h
      refine mv_G_br (tgt := 45) rfl rfl (by decide) (fun z => absurd z hc3) (fun _ => ?_)
      refine mv_G_run 4 (F' := (23, [some (.ref (kb true 26)), some (.int v1), some (.int v2), some (.int v3), some (.long v4), none, some (.int r1), none, none, none, none], [.int (1500 : Int32), .int r1], 0, 0, kjS f I L)) rfl ?_
      by_cases hc4 : (1500 : Int32) ≤ r1
      · rw [if_pos hc4] at h
        refine mv_G_br (tgt := 45) rfl rfl (by decide) (fun _ => ?_) (fun z => absurd hc4 z)
        obtain rfl := Option.some.inj h
        exact mv_G_ret rfl rfl rfl (Nat.le_refl _) trivial ⟨rfl, rfl⟩
      · rw [if_neg hc4] at h
        refine mv_G_br (tgt := 45) rfl rfl (by decide) (fun z => absurd z hc4) (fun _ => ?_)
        refine mv_G_run 4 (F' := (33, [some (.ref (kb true 26)), some (.int v1), some (.int v2), some (.int v3), some (.long v4), none, some (.int r1), none, none, none, none], [.int (1500 : Int32), .int r1], 0, 0, kjS f I L)) rfl ?_
        by_cases hc5 : (1500 : Int32) ≤ r1
        · rw [if_pos hc5] at h
          refine mv_G_br (tgt := 45) rfl rfl (by decide) (fun _ => ?_) (fun z => absurd hc5 z)
          obtain rfl := Option.some.inj h
          exact mv_G_ret rfl rfl rfl (Nat.le_refl _) trivial ⟨rfl, rfl⟩
        · rw [if_neg hc5] at h
          refine mv_G_br (tgt := 45) rfl rfl (by decide) (fun z => absurd z hc5) (fun _ => ?_)
          refine mv_G_run 4 (F' := (42, [some (.ref (kb true 26)), some (.int v1), some (.int v2), some (.int v3), some (.long v4), none, some (.int r1), none, none, none, none], [.int (120 : Int32), .int v2], 0, 0, kjS f I L)) rfl ?_
          by_cases hc6 : v2 < (120 : Int32)
          · rw [if_pos hc6] at h
            refine mv_G_br (tgt := 46) rfl rfl (by decide) (fun _ => ?_) (fun z => absurd hc6 z)
            refine mv_G_run 3 (F' := (52, [some (.ref (kb true 26)), some (.int v1), some (.int v2), some (.int v3), some (.long v4), none, some (.int r1), none, none, none, none], [.int r1, .ref (kb true 27)], 0, 0, kjS f I L)) rfl ?_
            obtain ⟨hi7, h⟩ := mv_bifs h
            refine mv_G_ald rfl rfl (mv_in_ok hi7) ?_
            refine mv_G_run 3 (F' := (58, [some (.ref (kb true 26)), some (.int v1), some (.int v2), some (.int v3), some (.long v4), none, some (.int r1), some (.int (I (kb true 27) (Int32.toNatClampNeg r1))), none, none, none], [.int (-1 : Int32), .int (I (kb true 27) (Int32.toNatClampNeg r1))], 0, 0, kjS f I L)) rfl ?_
            by_cases hc8 : (I (kb true 27) (Int32.toNatClampNeg r1)) = (-1 : Int32)
            · rw [if_pos hc8] at h
              refine mv_G_br (tgt := 67) rfl rfl (by decide) (fun _ => ?_) (fun z => absurd hc8 z)
              refine mv_G_fg (lc' := [some (.ref (kb true 26)), none, some (.int v2), some (.int v3), some (.long v4), none, some (.int r1), some (.int (I (kb true 27) (Int32.toNatClampNeg r1))), none, none, none]) (And.intro rfl (And.intro rfl (And.intro rfl (And.intro rfl (And.intro rfl (And.intro rfl trivial)))))) ?_
              exact kf88_67_ok _ _ _ d _ _ _ _ _ _ _ _ h
            · rw [if_neg hc8] at h
              refine mv_G_br (tgt := 67) rfl rfl (by decide) (fun z => absurd z hc8) (fun _ => ?_)
              refine mv_G_run 2 (F' := (64, [some (.ref (kb true 26)), some (.int v1), some (.int v2), some (.int v3), some (.long v4), none, some (.int r1), some (.int (I (kb true 27) (Int32.toNatClampNeg r1))), none, none, none], [.int v3, .int (I (kb true 27) (Int32.toNatClampNeg r1))], 0, 0, kjS f I L)) rfl ?_
              by_cases hc9 : ¬ (I (kb true 27) (Int32.toNatClampNeg r1)) = v3
              · rw [if_pos hc9] at h
                refine mv_G_br (tgt := 71) rfl rfl (by decide) (fun _ => ?_) (fun z => absurd hc9 z)
                refine mv_G_run 1 (F' := (73, [some (.ref (kb true 26)), some (.int v1), some (.int v2), some (.int v3), some (.long v4), none, some (.int r1), some (.int (I (kb true 27) (Int32.toNatClampNeg r1))), none, none, none], [.int (99 : Int32)], 0, 0, kjS f I L)) rfl ?_
                refine mv_G_fg (lc' := [some (.ref (kb true 26)), none, some (.int v2), none, some (.long v4), none, some (.int r1), some (.int (I (kb true 27) (Int32.toNatClampNeg r1))), none, none, none]) (And.intro rfl (And.intro rfl (And.intro rfl (And.intro rfl (And.intro rfl trivial))))) ?_
                exact kf88_73_ok _ _ _ d _ _ _ _ _ _ _ _ h
              · rw [if_neg hc9] at h
                refine mv_G_br (tgt := 71) rfl rfl (by decide) (fun z => absurd z hc9) (fun _ => ?_)
                refine mv_G_fg (lc' := [some (.ref (kb true 26)), none, some (.int v2), some (.int v3), some (.long v4), none, some (.int r1), some (.int (I (kb true 27) (Int32.toNatClampNeg r1))), none, none, none]) (And.intro rfl (And.intro rfl (And.intro rfl (And.intro rfl (And.intro rfl (And.intro rfl trivial)))))) ?_
                exact kf88_67_ok _ _ _ d _ _ _ _ _ _ _ _ h
          · rw [if_neg hc6] at h
            refine mv_G_br (tgt := 46) rfl rfl (by decide) (fun z => absurd z hc6) (fun _ => ?_)
            obtain rfl := Option.some.inj h
            exact mv_G_ret rfl rfl rfl (Nat.le_refl _) trivial ⟨rfl, rfl⟩
/-! KindJudge$Flow.taken(I)I on ('b', 26) -/
def kf92 (b : Bool) (I : kjI) (L : kjL) (v1 : Int32) : Option (Int32) :=
  if (I (kb b 26) 8) ≤ ((I (kb b 26) 9) + v1) then (some (0 : Int32)) else ((kf98 I L (L (kb b 26) 11) (((8 : Int32) + (I (kb b 26) 9)) + v1)).bind fun r2 => some r2)
set_option maxRecDepth 100000 in
set_option maxHeartbeats 4000000 in
theorem kf92_ok (f : Bool) (b : Bool) (I : kjI) (L : kjL) (v1 : Int32) (d : Nat) (r : Int32) (h : kf92 b I L v1 = some r) : mv_C kjP kjSta (d + 2) 92 [.ref (kb b 26), .int v1] (kjS f I L) (kjQi f I L r) := by
  cases b
  · unfold kf92 at h
    refine mv_C_in kjM_92 (lc := [some (.ref (kb false 26)), some (.int v1)]) rfl rfl rfl ?_
    refine mv_G_run 6 (F' := (10, [some (.ref (kb false 26)), some (.int v1)], [.int (I (kb false 26) 8), .int ((I (kb false 26) 9) + v1)], 0, 0, kjS f I L)) rfl ?_
    by_cases hc1 : (I (kb false 26) 8) ≤ ((I (kb false 26) 9) + v1)
    · rw [if_pos hc1] at h
      refine mv_G_br (tgt := 32) rfl rfl (by decide) (fun _ => ?_) (fun z => absurd hc1 z)
      refine mv_G_run 1 (F' := (33, [some (.ref (kb false 26)), some (.int v1)], [.int (0 : Int32)], 0, 0, kjS f I L)) rfl ?_
      obtain rfl := Option.some.inj h
      exact mv_G_ret rfl rfl rfl (Nat.le_refl _) trivial ⟨rfl, rfl⟩
    · rw [if_neg hc1] at h
      refine mv_G_br (tgt := 32) rfl rfl (by decide) (fun z => absurd z hc1) (fun _ => ?_)
      refine mv_G_run 8 (F' := (26, [some (.ref (kb false 26)), some (.int v1)], [.int (((8 : Int32) + (I (kb false 26) 9)) + v1), .long (L (kb false 26) 11)], 0, 0, kjS f I L)) rfl ?_
      obtain ⟨r2, hc3, h⟩ := mv_bd h
      refine mv_G_call (r := []) (kf98_ok _ _ _ _ _ _ _ hc3) rfl rfl rfl rfl rfl (Nat.le_of_ble_eq_true rfl) (Nat.le_of_ble_eq_true rfl) (Nat.le_of_ble_eq_true rfl) ?_
      rintro _ _ ⟨rfl, rfl⟩
      refine mv_G_run 1 (F' := (33, [some (.ref (kb false 26)), some (.int v1)], [.int r2], 0, 0, kjS f I L)) rfl ?_
      obtain rfl := Option.some.inj h
      exact mv_G_ret rfl rfl rfl (Nat.le_refl _) trivial ⟨rfl, rfl⟩
  · unfold kf92 at h
    refine mv_C_in kjM_92 (lc := [some (.ref (kb true 26)), some (.int v1)]) rfl rfl rfl ?_
    refine mv_G_run 6 (F' := (10, [some (.ref (kb true 26)), some (.int v1)], [.int (I (kb true 26) 8), .int ((I (kb true 26) 9) + v1)], 0, 0, kjS f I L)) rfl ?_
    by_cases hc1 : (I (kb true 26) 8) ≤ ((I (kb true 26) 9) + v1)
    · rw [if_pos hc1] at h
      refine mv_G_br (tgt := 32) rfl rfl (by decide) (fun _ => ?_) (fun z => absurd hc1 z)
      refine mv_G_run 1 (F' := (33, [some (.ref (kb true 26)), some (.int v1)], [.int (0 : Int32)], 0, 0, kjS f I L)) rfl ?_
      obtain rfl := Option.some.inj h
      exact mv_G_ret rfl rfl rfl (Nat.le_refl _) trivial ⟨rfl, rfl⟩
    · rw [if_neg hc1] at h
      refine mv_G_br (tgt := 32) rfl rfl (by decide) (fun z => absurd z hc1) (fun _ => ?_)
      refine mv_G_run 8 (F' := (26, [some (.ref (kb true 26)), some (.int v1)], [.int (((8 : Int32) + (I (kb true 26) 9)) + v1), .long (L (kb true 26) 11)], 0, 0, kjS f I L)) rfl ?_
      obtain ⟨r2, hc3, h⟩ := mv_bd h
      refine mv_G_call (r := []) (kf98_ok _ _ _ _ _ _ _ hc3) rfl rfl rfl rfl rfl (Nat.le_of_ble_eq_true rfl) (Nat.le_of_ble_eq_true rfl) (Nat.le_of_ble_eq_true rfl) ?_
      rintro _ _ ⟨rfl, rfl⟩
      refine mv_G_run 1 (F' := (33, [some (.ref (kb true 26)), some (.int v1)], [.int r2], 0, 0, kjS f I L)) rfl ?_
      obtain rfl := Option.some.inj h
      exact mv_G_ret rfl rfl rfl (Nat.le_refl _) trivial ⟨rfl, rfl⟩
/-! KindJudge$Flow.kindPut()I on ('b', 26) -/
def kf91 (b : Bool) (I : kjI) (L : kjL) : Option (Int32) :=
  if ((I (kb b 26) 5)).toInt = 2 then (some (3 : Int32)) else (if ((I (kb b 26) 5)).toInt = 3 then ((kf98 I L (L (kb b 26) 11) (I (kb b 26) 6)).bind fun r3 => some r3) else (if ((I (kb b 26) 5)).toInt = 38 ∨ ((I (kb b 26) 5)).toInt = 46 then (some ((16 : Int32) + (I (kb b 26) 6))) else (if ((I (kb b 26) 5)).toInt = 39 then ((kf40 b I L (I (kb b 26) 6) (I (kb b 26) 7)).bind fun r7 => some r7) else (if ((I (kb b 26) 5)).toInt = 41 then (some (2 : Int32)) else (if ((I (kb b 26) 5)).toInt = 47 then ((kf52 b I L (I (kb b 26) 6)).bind fun r11 => some r11) else (if ((I (kb b 26) 5)).toInt = 48 then ((kf52a b I L (I (kb b 26) 6)).bind fun r14 => some r14) else (some (1 : Int32))))))))
set_option maxRecDepth 100000 in
set_option maxHeartbeats 4000000 in
theorem kf91_ok (f : Bool) (b : Bool) (I : kjI) (L : kjL) (d : Nat) (r : Int32) (h : kf91 b I L = some r) : mv_C kjP kjSta (d + 3) 91 [.ref (kb b 26)] (kjS f I L) (kjQi f I L r) := by
  cases b
  · unfold kf91 at h
    refine mv_C_in kjM_91 (lc := [some (.ref (kb false 26))]) rfl rfl rfl ?_
    refine mv_G_run 2 (F' := (4, [some (.ref (kb false 26))], [.int (I (kb false 26) 5)], 0, 0, kjS f I L)) rfl ?_
    by_cases hw1 : ((I (kb false 26) 5)).toInt = 2
    · rw [if_pos hw1] at h
      refine mv_G_sw (tgt := 80) (off := 76) rfl (by simp only [mv_sw, hw1]; rfl) (by decide) ?_
      refine mv_G_run 1 (F' := (81, [some (.ref (kb false 26))], [.int (3 : Int32)], 0, 0, kjS f I L)) rfl ?_
      obtain rfl := Option.some.inj h
      exact mv_G_ret rfl rfl rfl (Nat.le_refl _) trivial ⟨rfl, rfl⟩
    rw [if_neg hw1] at h
    by_cases hw2 : ((I (kb false 26) 5)).toInt = 3
    · rw [if_pos hw2] at h
      refine mv_G_sw (tgt := 82) (off := 78) rfl (by simp only [mv_sw, hw2]; rfl) (by decide) ?_
      refine mv_G_run 4 (F' := (90, [some (.ref (kb false 26))], [.int (I (kb false 26) 6), .long (L (kb false 26) 11)], 0, 0, kjS f I L)) rfl ?_
      obtain ⟨r3, hc4, h⟩ := mv_bd h
      refine mv_G_call (r := []) (kf98_ok _ _ _ _ _ _ _ hc4) rfl rfl rfl rfl rfl (Nat.le_of_ble_eq_true rfl) (Nat.le_of_ble_eq_true rfl) (Nat.le_of_ble_eq_true rfl) ?_
      rintro _ _ ⟨rfl, rfl⟩
      obtain rfl := Option.some.inj h
      exact mv_G_ret rfl rfl rfl (Nat.le_refl _) trivial ⟨rfl, rfl⟩
    rw [if_neg hw2] at h
    by_cases hw5 : ((I (kb false 26) 5)).toInt = 38 ∨ ((I (kb false 26) 5)).toInt = 46
    · rw [if_pos hw5] at h
      refine mv_G_sw (tgt := 94) (off := 90) rfl (by rcases hw5 with hw5 | hw5 <;> (simp only [mv_sw, hw5]; rfl)) (by decide) ?_
      refine mv_G_run 4 (F' := (101, [some (.ref (kb false 26))], [.int ((16 : Int32) + (I (kb false 26) 6))], 0, 0, kjS f I L)) rfl ?_
      obtain rfl := Option.some.inj h
      exact mv_G_ret rfl rfl rfl (Nat.le_refl _) trivial ⟨rfl, rfl⟩
    rw [if_neg hw5] at h
    by_cases hw6 : ((I (kb false 26) 5)).toInt = 39
    · rw [if_pos hw6] at h
      refine mv_G_sw (tgt := 102) (off := 98) rfl (by simp only [mv_sw, hw6]; rfl) (by decide) ?_
      refine mv_G_run 7 (F' := (117, [some (.ref (kb false 26))], [.int (I (kb false 26) 7), .int (I (kb false 26) 6), .ref (kb false 5)], 0, 0, kjS f I L)) rfl ?_
      obtain ⟨r7, hc8, h⟩ := mv_bd h
      refine mv_G_call (r := []) (kf40_ok _ _ _ _ _ _ _ _ hc8) rfl rfl rfl rfl rfl (Nat.le_of_ble_eq_true rfl) (Nat.le_of_ble_eq_true rfl) (Nat.le_of_ble_eq_true rfl) ?_
      rintro _ _ ⟨rfl, rfl⟩
      obtain rfl := Option.some.inj h
      exact mv_G_ret rfl rfl rfl (Nat.le_refl _) trivial ⟨rfl, rfl⟩
    rw [if_neg hw6] at h
    by_cases hw9 : ((I (kb false 26) 5)).toInt = 41
    · rw [if_pos hw9] at h
      refine mv_G_sw (tgt := 121) (off := 117) rfl (by simp only [mv_sw, hw9]; rfl) (by decide) ?_
      refine mv_G_run 1 (F' := (122, [some (.ref (kb false 26))], [.int (2 : Int32)], 0, 0, kjS f I L)) rfl ?_
      obtain rfl := Option.some.inj h
      exact mv_G_ret rfl rfl rfl (Nat.le_refl _) trivial ⟨rfl, rfl⟩
    rw [if_neg hw9] at h
    by_cases hw10 : ((I (kb false 26) 5)).toInt = 47
    · rw [if_pos hw10] at h
      refine mv_G_sw (tgt := 123) (off := 119) rfl (by simp only [mv_sw, hw10]; rfl) (by decide) ?_
      refine mv_G_run 5 (F' := (134, [some (.ref (kb false 26))], [.int (I (kb false 26) 6), .ref (kb false 14)], 0, 0, kjS f I L)) rfl ?_
      obtain ⟨r11, hc12, h⟩ := mv_bd h
      refine mv_G_call (r := []) (kf52_ok _ _ _ _ _ _ _ hc12) rfl rfl rfl rfl rfl (Nat.le_of_ble_eq_true rfl) (Nat.le_of_ble_eq_true rfl) (Nat.le_of_ble_eq_true rfl) ?_
      rintro _ _ ⟨rfl, rfl⟩
      obtain rfl := Option.some.inj h
      exact mv_G_ret rfl rfl rfl (Nat.le_refl _) trivial ⟨rfl, rfl⟩
    rw [if_neg hw10] at h
    by_cases hw13 : ((I (kb false 26) 5)).toInt = 48
    · rw [if_pos hw13] at h
      refine mv_G_sw (tgt := 138) (off := 134) rfl (by simp only [mv_sw, hw13]; rfl) (by decide) ?_
      refine mv_G_run 5 (F' := (149, [some (.ref (kb false 26))], [.int (I (kb false 26) 6), .ref (kb false 10)], 0, 0, kjS f I L)) rfl ?_
      obtain ⟨r14, hc15, h⟩ := mv_bd h
      refine mv_G_call (r := []) (kf52a_ok _ _ _ _ _ _ _ hc15) rfl rfl rfl rfl rfl (Nat.le_of_ble_eq_true rfl) (Nat.le_of_ble_eq_true rfl) (Nat.le_of_ble_eq_true rfl) ?_
      rintro _ _ ⟨rfl, rfl⟩
      obtain rfl := Option.some.inj h
      exact mv_G_ret rfl rfl rfl (Nat.le_refl _) trivial ⟨rfl, rfl⟩
    rw [if_neg hw13] at h
    refine mv_G_sw (tgt := 153) (off := 149) rfl (by simp only [not_or] at hw1 hw2 hw5 hw6 hw9 hw10 hw13; simp [mv_sw, Op.lookupswitch.offset, eq_comm, hw1, hw2, hw5, hw6, hw9, hw10, hw13] <;> (repeat' split) <;> omega) (by decide) ?_
    refine mv_G_run 1 (F' := (154, [some (.ref (kb false 26))], [.int (1 : Int32)], 0, 0, kjS f I L)) rfl ?_
    obtain rfl := Option.some.inj h
    exact mv_G_ret rfl rfl rfl (Nat.le_refl _) trivial ⟨rfl, rfl⟩
  · unfold kf91 at h
    refine mv_C_in kjM_91 (lc := [some (.ref (kb true 26))]) rfl rfl rfl ?_
    refine mv_G_run 2 (F' := (4, [some (.ref (kb true 26))], [.int (I (kb true 26) 5)], 0, 0, kjS f I L)) rfl ?_
    by_cases hw1 : ((I (kb true 26) 5)).toInt = 2
    · rw [if_pos hw1] at h
      refine mv_G_sw (tgt := 80) (off := 76) rfl (by simp only [mv_sw, hw1]; rfl) (by decide) ?_
      refine mv_G_run 1 (F' := (81, [some (.ref (kb true 26))], [.int (3 : Int32)], 0, 0, kjS f I L)) rfl ?_
      obtain rfl := Option.some.inj h
      exact mv_G_ret rfl rfl rfl (Nat.le_refl _) trivial ⟨rfl, rfl⟩
    rw [if_neg hw1] at h
    by_cases hw2 : ((I (kb true 26) 5)).toInt = 3
    · rw [if_pos hw2] at h
      refine mv_G_sw (tgt := 82) (off := 78) rfl (by simp only [mv_sw, hw2]; rfl) (by decide) ?_
      refine mv_G_run 4 (F' := (90, [some (.ref (kb true 26))], [.int (I (kb true 26) 6), .long (L (kb true 26) 11)], 0, 0, kjS f I L)) rfl ?_
      obtain ⟨r3, hc4, h⟩ := mv_bd h
      refine mv_G_call (r := []) (kf98_ok _ _ _ _ _ _ _ hc4) rfl rfl rfl rfl rfl (Nat.le_of_ble_eq_true rfl) (Nat.le_of_ble_eq_true rfl) (Nat.le_of_ble_eq_true rfl) ?_
      rintro _ _ ⟨rfl, rfl⟩
      obtain rfl := Option.some.inj h
      exact mv_G_ret rfl rfl rfl (Nat.le_refl _) trivial ⟨rfl, rfl⟩
    rw [if_neg hw2] at h
    by_cases hw5 : ((I (kb true 26) 5)).toInt = 38 ∨ ((I (kb true 26) 5)).toInt = 46
    · rw [if_pos hw5] at h
      refine mv_G_sw (tgt := 94) (off := 90) rfl (by rcases hw5 with hw5 | hw5 <;> (simp only [mv_sw, hw5]; rfl)) (by decide) ?_
      refine mv_G_run 4 (F' := (101, [some (.ref (kb true 26))], [.int ((16 : Int32) + (I (kb true 26) 6))], 0, 0, kjS f I L)) rfl ?_
      obtain rfl := Option.some.inj h
      exact mv_G_ret rfl rfl rfl (Nat.le_refl _) trivial ⟨rfl, rfl⟩
    rw [if_neg hw5] at h
    by_cases hw6 : ((I (kb true 26) 5)).toInt = 39
    · rw [if_pos hw6] at h
      refine mv_G_sw (tgt := 102) (off := 98) rfl (by simp only [mv_sw, hw6]; rfl) (by decide) ?_
      refine mv_G_run 7 (F' := (117, [some (.ref (kb true 26))], [.int (I (kb true 26) 7), .int (I (kb true 26) 6), .ref (kb true 5)], 0, 0, kjS f I L)) rfl ?_
      obtain ⟨r7, hc8, h⟩ := mv_bd h
      refine mv_G_call (r := []) (kf40_ok _ _ _ _ _ _ _ _ hc8) rfl rfl rfl rfl rfl (Nat.le_of_ble_eq_true rfl) (Nat.le_of_ble_eq_true rfl) (Nat.le_of_ble_eq_true rfl) ?_
      rintro _ _ ⟨rfl, rfl⟩
      obtain rfl := Option.some.inj h
      exact mv_G_ret rfl rfl rfl (Nat.le_refl _) trivial ⟨rfl, rfl⟩
    rw [if_neg hw6] at h
    by_cases hw9 : ((I (kb true 26) 5)).toInt = 41
    · rw [if_pos hw9] at h
      refine mv_G_sw (tgt := 121) (off := 117) rfl (by simp only [mv_sw, hw9]; rfl) (by decide) ?_
      refine mv_G_run 1 (F' := (122, [some (.ref (kb true 26))], [.int (2 : Int32)], 0, 0, kjS f I L)) rfl ?_
      obtain rfl := Option.some.inj h
      exact mv_G_ret rfl rfl rfl (Nat.le_refl _) trivial ⟨rfl, rfl⟩
    rw [if_neg hw9] at h
    by_cases hw10 : ((I (kb true 26) 5)).toInt = 47
    · rw [if_pos hw10] at h
      refine mv_G_sw (tgt := 123) (off := 119) rfl (by simp only [mv_sw, hw10]; rfl) (by decide) ?_
      refine mv_G_run 5 (F' := (134, [some (.ref (kb true 26))], [.int (I (kb true 26) 6), .ref (kb true 14)], 0, 0, kjS f I L)) rfl ?_
      obtain ⟨r11, hc12, h⟩ := mv_bd h
      refine mv_G_call (r := []) (kf52_ok _ _ _ _ _ _ _ hc12) rfl rfl rfl rfl rfl (Nat.le_of_ble_eq_true rfl) (Nat.le_of_ble_eq_true rfl) (Nat.le_of_ble_eq_true rfl) ?_
      rintro _ _ ⟨rfl, rfl⟩
      obtain rfl := Option.some.inj h
      exact mv_G_ret rfl rfl rfl (Nat.le_refl _) trivial ⟨rfl, rfl⟩
    rw [if_neg hw10] at h
    by_cases hw13 : ((I (kb true 26) 5)).toInt = 48
    · rw [if_pos hw13] at h
      refine mv_G_sw (tgt := 138) (off := 134) rfl (by simp only [mv_sw, hw13]; rfl) (by decide) ?_
      refine mv_G_run 5 (F' := (149, [some (.ref (kb true 26))], [.int (I (kb true 26) 6), .ref (kb true 10)], 0, 0, kjS f I L)) rfl ?_
      obtain ⟨r14, hc15, h⟩ := mv_bd h
      refine mv_G_call (r := []) (kf52a_ok _ _ _ _ _ _ _ hc15) rfl rfl rfl rfl rfl (Nat.le_of_ble_eq_true rfl) (Nat.le_of_ble_eq_true rfl) (Nat.le_of_ble_eq_true rfl) ?_
      rintro _ _ ⟨rfl, rfl⟩
      obtain rfl := Option.some.inj h
      exact mv_G_ret rfl rfl rfl (Nat.le_refl _) trivial ⟨rfl, rfl⟩
    rw [if_neg hw13] at h
    refine mv_G_sw (tgt := 153) (off := 149) rfl (by simp only [not_or] at hw1 hw2 hw5 hw6 hw9 hw10 hw13; simp [mv_sw, Op.lookupswitch.offset, eq_comm, hw1, hw2, hw5, hw6, hw9, hw10, hw13] <;> (repeat' split) <;> omega) (by decide) ?_
    refine mv_G_run 1 (F' := (154, [some (.ref (kb true 26))], [.int (1 : Int32)], 0, 0, kjS f I L)) rfl ?_
    obtain rfl := Option.some.inj h
    exact mv_G_ret rfl rfl rfl (Nat.le_refl _) trivial ⟨rfl, rfl⟩
/-! KindJudge$Flow.frameBehind()J on ('b', 26) -/
def kf90_17 (b : Bool) (N : Nat) (I : kjI) (L : kjL) : Nat → Int32 → Int64 → Int32 → Option (Int64)
  | 0, _, _, _ => none
  | n + 1, v1, v2, v4 => if (I (kb b 26) 8) ≤ v4 then (if ¬ (I (kb b 26) 5) = (4 : Int32) then (if ¬ (I (kb b 26) 5) = (6 : Int32) then (if ¬ (I (kb b 26) 5) = (7 : Int32) then (if ¬ (I (kb b 26) 10) = (I (kb b 26) 9) then ((kf91 b I L).bind fun r6 => (kf99 I L v2 ((8 : Int32) + (I (kb b 26) 9)) r6).bind fun r8 => some r8) else (some v2)) else ((kf92 b I L (1 : Int32)).bind fun r10 => (kf99 I L v2 ((8 : Int32) + (I (kb b 26) 9)) r10).bind fun r12 => (kf99 I L r12 (((8 : Int32) + (I (kb b 26) 9)) + (1 : Int32)) v1).bind fun r14 => some r14)) else ((kf99 I L v2 ((8 : Int32) + (I (kb b 26) 9)) v1).bind fun r16 => (kf99 I L r16 (((8 : Int32) + (I (kb b 26) 9)) + (1 : Int32)) v1).bind fun r18 => some r18)) else ((kf99 I L v2 (I (kb b 26) 6) v1).bind fun r20 => some r20)) else ((kf99 I L v2 ((8 : Int32) + v4) (0 : Int32)).bind fun r22 => (fun v1 v2 v4 => kf90_17 b N I L n v1 v2 v4) v1 r22 (v4 + (1 : Int32)))
set_option maxRecDepth 100000 in
set_option maxHeartbeats 4000000 in
theorem kf90_17_ok (f : Bool) (b : Bool) (N : Nat) (I : kjI) (L : kjL) (d : Nat)  : ∀ (n : Nat) (v1 : Int32) (v2 : Int64) (v4 : Int32) (r : Int64), kf90_17 b N I L n v1 v2 v4 = some r → mv_G kjP kjSta (mv_C kjP kjSta (d + 3)) kjM_90 (kjQl f I L r) (17, [some (.ref (kb b 26)), some (.int v1), some (.long v2), none, some (.int v4)], [], 0, 0, kjS f I L) := by
  cases b
  · intro n
    induction n with
    | zero => intro v1 v2 v4 r h; cases h
    | succ n ih =>
      have hk17 := ih
      intro v1 v2 v4 r h
      unfold kf90_17 at h
      refine mv_G_run 3 (F' := (23, [some (.ref (kb false 26)), some (.int v1), some (.long v2), none, some (.int v4)], [.int (I (kb false 26) 8), .int v4], 0, 0, kjS f I L)) rfl ?_
      by_cases hc1 : (I (kb false 26) 8) ≤ v4
      · rw [if_pos hc1] at h
        refine mv_G_br (tgt := 43) rfl rfl (by decide) (fun _ => ?_) (fun z => absurd hc1 z)
        refine mv_G_run 3 (F' := (48, [some (.ref (kb false 26)), some (.int v1), some (.long v2), none, some (.int v4)], [.int (4 : Int32), .int (I (kb false 26) 5)], 0, 0, kjS f I L)) rfl ?_
        by_cases hc2 : ¬ (I (kb false 26) 5) = (4 : Int32)
        · rw [if_pos hc2] at h
          refine mv_G_br (tgt := 61) rfl rfl (by decide) (fun _ => ?_) (fun z => absurd hc2 z)
          refine mv_G_run 3 (F' := (67, [some (.ref (kb false 26)), some (.int v1), some (.long v2), none, some (.int v4)], [.int (6 : Int32), .int (I (kb false 26) 5)], 0, 0, kjS f I L)) rfl ?_
          by_cases hc3 : ¬ (I (kb false 26) 5) = (6 : Int32)
          · rw [if_pos hc3] at h
            refine mv_G_br (tgt := 96) rfl rfl (by decide) (fun _ => ?_) (fun z => absurd hc3 z)
            refine mv_G_run 3 (F' := (102, [some (.ref (kb false 26)), some (.int v1), some (.long v2), none, some (.int v4)], [.int (7 : Int32), .int (I (kb false 26) 5)], 0, 0, kjS f I L)) rfl ?_
            by_cases hc4 : ¬ (I (kb false 26) 5) = (7 : Int32)
            · rw [if_pos hc4] at h
              refine mv_G_br (tgt := 135) rfl rfl (by decide) (fun _ => ?_) (fun z => absurd hc4 z)
              refine mv_G_run 4 (F' := (143, [some (.ref (kb false 26)), some (.int v1), some (.long v2), none, some (.int v4)], [.int (I (kb false 26) 9), .int (I (kb false 26) 10)], 0, 0, kjS f I L)) rfl ?_
              by_cases hc5 : ¬ (I (kb false 26) 10) = (I (kb false 26) 9)
              · rw [if_pos hc5] at h
                refine mv_G_br (tgt := 150) rfl rfl (by decide) (fun _ => ?_) (fun z => absurd hc5 z)
                refine mv_G_run 6 (F' := (159, [some (.ref (kb false 26)), some (.int v1), some (.long v2), none, some (.int v4)], [.ref (kb false 26), .int ((8 : Int32) + (I (kb false 26) 9)), .long v2], 0, 0, kjS f I L)) rfl ?_
                obtain ⟨r6, hc7, h⟩ := mv_bd h
                refine mv_G_call (r := [.int ((8 : Int32) + (I (kb false 26) 9)), .long v2]) (kf91_ok _ _ _ _ _ _ hc7) rfl rfl rfl rfl rfl (Nat.le_of_ble_eq_true rfl) (Nat.le_of_ble_eq_true rfl) (Nat.le_of_ble_eq_true rfl) ?_
                rintro _ _ ⟨rfl, rfl⟩
                obtain ⟨r8, hc9, h⟩ := mv_bd h
                refine mv_G_call (r := []) (kf99_ok _ _ _ _ _ _ _ _ hc9) rfl rfl rfl rfl rfl (Nat.le_of_ble_eq_true rfl) (Nat.le_of_ble_eq_true rfl) (Nat.le_of_ble_eq_true rfl) ?_
                rintro _ _ ⟨rfl, rfl⟩
                obtain rfl := Option.some.inj h
                exact mv_G_ret rfl rfl rfl (Nat.le_refl _) trivial ⟨rfl, rfl⟩
              · rw [if_neg hc5] at h
                refine mv_G_br (tgt := 150) rfl rfl (by decide) (fun z => absurd z hc5) (fun _ => ?_)
                refine mv_G_run 2 (F' := (165, [some (.ref (kb false 26)), some (.int v1), some (.long v2), none, some (.int v4)], [.long v2], 0, 0, kjS f I L)) rfl ?_
                obtain rfl := Option.some.inj h
                exact mv_G_ret rfl rfl rfl (Nat.le_refl _) trivial ⟨rfl, rfl⟩
            · rw [if_neg hc4] at h
              refine mv_G_br (tgt := 135) rfl rfl (by decide) (fun z => absurd z hc4) (fun _ => ?_)
              refine mv_G_run 7 (F' := (115, [some (.ref (kb false 26)), some (.int v1), some (.long v2), none, some (.int v4)], [.int (1 : Int32), .ref (kb false 26), .int ((8 : Int32) + (I (kb false 26) 9)), .long v2], 0, 0, kjS f I L)) rfl ?_
              obtain ⟨r10, hc11, h⟩ := mv_bd h
              refine mv_G_call (r := [.int ((8 : Int32) + (I (kb false 26) 9)), .long v2]) (kf92_ok _ _ _ _ _ _ _ hc11) rfl rfl rfl rfl rfl (Nat.le_of_ble_eq_true rfl) (Nat.le_of_ble_eq_true rfl) (Nat.le_of_ble_eq_true rfl) ?_
              rintro _ _ ⟨rfl, rfl⟩
              obtain ⟨r12, hc13, h⟩ := mv_bd h
              refine mv_G_call (r := []) (kf99_ok _ _ _ _ _ _ _ _ hc13) rfl rfl rfl rfl rfl (Nat.le_of_ble_eq_true rfl) (Nat.le_of_ble_eq_true rfl) (Nat.le_of_ble_eq_true rfl) ?_
              rintro _ _ ⟨rfl, rfl⟩
              refine mv_G_run 7 (F' := (131, [some (.ref (kb false 26)), some (.int v1), some (.long v2), none, some (.int v4)], [.int v1, .int (((8 : Int32) + (I (kb false 26) 9)) + (1 : Int32)), .long r12], 0, 0, kjS f I L)) rfl ?_
              obtain ⟨r14, hc15, h⟩ := mv_bd h
              refine mv_G_call (r := []) (kf99_ok _ _ _ _ _ _ _ _ hc15) rfl rfl rfl rfl rfl (Nat.le_of_ble_eq_true rfl) (Nat.le_of_ble_eq_true rfl) (Nat.le_of_ble_eq_true rfl) ?_
              rintro _ _ ⟨rfl, rfl⟩
              obtain rfl := Option.some.inj h
              exact mv_G_ret rfl rfl rfl (Nat.le_refl _) trivial ⟨rfl, rfl⟩
          · rw [if_neg hc3] at h
            refine mv_G_br (tgt := 96) rfl rfl (by decide) (fun z => absurd z hc3) (fun _ => ?_)
            refine mv_G_run 6 (F' := (79, [some (.ref (kb false 26)), some (.int v1), some (.long v2), none, some (.int v4)], [.int v1, .int ((8 : Int32) + (I (kb false 26) 9)), .long v2], 0, 0, kjS f I L)) rfl ?_
            obtain ⟨r16, hc17, h⟩ := mv_bd h
            refine mv_G_call (r := []) (kf99_ok _ _ _ _ _ _ _ _ hc17) rfl rfl rfl rfl rfl (Nat.le_of_ble_eq_true rfl) (Nat.le_of_ble_eq_true rfl) (Nat.le_of_ble_eq_true rfl) ?_
            rintro _ _ ⟨rfl, rfl⟩
            refine mv_G_run 7 (F' := (92, [some (.ref (kb false 26)), some (.int v1), some (.long v2), none, some (.int v4)], [.int v1, .int (((8 : Int32) + (I (kb false 26) 9)) + (1 : Int32)), .long r16], 0, 0, kjS f I L)) rfl ?_
            obtain ⟨r18, hc19, h⟩ := mv_bd h
            refine mv_G_call (r := []) (kf99_ok _ _ _ _ _ _ _ _ hc19) rfl rfl rfl rfl rfl (Nat.le_of_ble_eq_true rfl) (Nat.le_of_ble_eq_true rfl) (Nat.le_of_ble_eq_true rfl) ?_
            rintro _ _ ⟨rfl, rfl⟩
            obtain rfl := Option.some.inj h
            exact mv_G_ret rfl rfl rfl (Nat.le_refl _) trivial ⟨rfl, rfl⟩
        · rw [if_neg hc2] at h
          refine mv_G_br (tgt := 61) rfl rfl (by decide) (fun z => absurd z hc2) (fun _ => ?_)
          refine mv_G_run 4 (F' := (57, [some (.ref (kb false 26)), some (.int v1), some (.long v2), none, some (.int v4)], [.int v1, .int (I (kb false 26) 6), .long v2], 0, 0, kjS f I L)) rfl ?_
          obtain ⟨r20, hc21, h⟩ := mv_bd h
          refine mv_G_call (r := []) (kf99_ok _ _ _ _ _ _ _ _ hc21) rfl rfl rfl rfl rfl (Nat.le_of_ble_eq_true rfl) (Nat.le_of_ble_eq_true rfl) (Nat.le_of_ble_eq_true rfl) ?_
          rintro _ _ ⟨rfl, rfl⟩
          obtain rfl := Option.some.inj h
          exact mv_G_ret rfl rfl rfl (Nat.le_refl _) trivial ⟨rfl, rfl⟩
      · rw [if_neg hc1] at h
        refine mv_G_br (tgt := 43) rfl rfl (by decide) (fun z => absurd z hc1) (fun _ => ?_)
        refine mv_G_run 5 (F' := (33, [some (.ref (kb false 26)), some (.int v1), some (.long v2), none, some (.int v4)], [.int (0 : Int32), .int ((8 : Int32) + v4), .long v2], 0, 0, kjS f I L)) rfl ?_
        obtain ⟨r22, hc23, h⟩ := mv_bd h
        refine mv_G_call (r := []) (kf99_ok _ _ _ _ _ _ _ _ hc23) rfl rfl rfl rfl rfl (Nat.le_of_ble_eq_true rfl) (Nat.le_of_ble_eq_true rfl) (Nat.le_of_ble_eq_true rfl) ?_
        rintro _ _ ⟨rfl, rfl⟩
        refine mv_G_run 3 (F' := (17, [some (.ref (kb false 26)), some (.int v1), some (.long r22), none, some (.int (v4 + (1 : Int32)))], [], 0, 0, kjS f I L)) rfl ?_
        exact hk17 v1 r22 (v4 + (1 : Int32)) _ h
  · intro n
    induction n with
    | zero => intro v1 v2 v4 r h; cases h
    | succ n ih =>
      have hk17 := ih
      intro v1 v2 v4 r h
      unfold kf90_17 at h
      refine mv_G_run 3 (F' := (23, [some (.ref (kb true 26)), some (.int v1), some (.long v2), none, some (.int v4)], [.int (I (kb true 26) 8), .int v4], 0, 0, kjS f I L)) rfl ?_
      by_cases hc1 : (I (kb true 26) 8) ≤ v4
      · rw [if_pos hc1] at h
        refine mv_G_br (tgt := 43) rfl rfl (by decide) (fun _ => ?_) (fun z => absurd hc1 z)
        refine mv_G_run 3 (F' := (48, [some (.ref (kb true 26)), some (.int v1), some (.long v2), none, some (.int v4)], [.int (4 : Int32), .int (I (kb true 26) 5)], 0, 0, kjS f I L)) rfl ?_
        by_cases hc2 : ¬ (I (kb true 26) 5) = (4 : Int32)
        · rw [if_pos hc2] at h
          refine mv_G_br (tgt := 61) rfl rfl (by decide) (fun _ => ?_) (fun z => absurd hc2 z)
          refine mv_G_run 3 (F' := (67, [some (.ref (kb true 26)), some (.int v1), some (.long v2), none, some (.int v4)], [.int (6 : Int32), .int (I (kb true 26) 5)], 0, 0, kjS f I L)) rfl ?_
          by_cases hc3 : ¬ (I (kb true 26) 5) = (6 : Int32)
          · rw [if_pos hc3] at h
            refine mv_G_br (tgt := 96) rfl rfl (by decide) (fun _ => ?_) (fun z => absurd hc3 z)
            refine mv_G_run 3 (F' := (102, [some (.ref (kb true 26)), some (.int v1), some (.long v2), none, some (.int v4)], [.int (7 : Int32), .int (I (kb true 26) 5)], 0, 0, kjS f I L)) rfl ?_
            by_cases hc4 : ¬ (I (kb true 26) 5) = (7 : Int32)
            · rw [if_pos hc4] at h
              refine mv_G_br (tgt := 135) rfl rfl (by decide) (fun _ => ?_) (fun z => absurd hc4 z)
              refine mv_G_run 4 (F' := (143, [some (.ref (kb true 26)), some (.int v1), some (.long v2), none, some (.int v4)], [.int (I (kb true 26) 9), .int (I (kb true 26) 10)], 0, 0, kjS f I L)) rfl ?_
              by_cases hc5 : ¬ (I (kb true 26) 10) = (I (kb true 26) 9)
              · rw [if_pos hc5] at h
                refine mv_G_br (tgt := 150) rfl rfl (by decide) (fun _ => ?_) (fun z => absurd hc5 z)
                refine mv_G_run 6 (F' := (159, [some (.ref (kb true 26)), some (.int v1), some (.long v2), none, some (.int v4)], [.ref (kb true 26), .int ((8 : Int32) + (I (kb true 26) 9)), .long v2], 0, 0, kjS f I L)) rfl ?_
                obtain ⟨r6, hc7, h⟩ := mv_bd h
                refine mv_G_call (r := [.int ((8 : Int32) + (I (kb true 26) 9)), .long v2]) (kf91_ok _ _ _ _ _ _ hc7) rfl rfl rfl rfl rfl (Nat.le_of_ble_eq_true rfl) (Nat.le_of_ble_eq_true rfl) (Nat.le_of_ble_eq_true rfl) ?_
                rintro _ _ ⟨rfl, rfl⟩
                obtain ⟨r8, hc9, h⟩ := mv_bd h
                refine mv_G_call (r := []) (kf99_ok _ _ _ _ _ _ _ _ hc9) rfl rfl rfl rfl rfl (Nat.le_of_ble_eq_true rfl) (Nat.le_of_ble_eq_true rfl) (Nat.le_of_ble_eq_true rfl) ?_
                rintro _ _ ⟨rfl, rfl⟩
                obtain rfl := Option.some.inj h
                exact mv_G_ret rfl rfl rfl (Nat.le_refl _) trivial ⟨rfl, rfl⟩
              · rw [if_neg hc5] at h
                refine mv_G_br (tgt := 150) rfl rfl (by decide) (fun z => absurd z hc5) (fun _ => ?_)
                refine mv_G_run 2 (F' := (165, [some (.ref (kb true 26)), some (.int v1), some (.long v2), none, some (.int v4)], [.long v2], 0, 0, kjS f I L)) rfl ?_
                obtain rfl := Option.some.inj h
                exact mv_G_ret rfl rfl rfl (Nat.le_refl _) trivial ⟨rfl, rfl⟩
            · rw [if_neg hc4] at h
              refine mv_G_br (tgt := 135) rfl rfl (by decide) (fun z => absurd z hc4) (fun _ => ?_)
              refine mv_G_run 7 (F' := (115, [some (.ref (kb true 26)), some (.int v1), some (.long v2), none, some (.int v4)], [.int (1 : Int32), .ref (kb true 26), .int ((8 : Int32) + (I (kb true 26) 9)), .long v2], 0, 0, kjS f I L)) rfl ?_
              obtain ⟨r10, hc11, h⟩ := mv_bd h
              refine mv_G_call (r := [.int ((8 : Int32) + (I (kb true 26) 9)), .long v2]) (kf92_ok _ _ _ _ _ _ _ hc11) rfl rfl rfl rfl rfl (Nat.le_of_ble_eq_true rfl) (Nat.le_of_ble_eq_true rfl) (Nat.le_of_ble_eq_true rfl) ?_
              rintro _ _ ⟨rfl, rfl⟩
              obtain ⟨r12, hc13, h⟩ := mv_bd h
              refine mv_G_call (r := []) (kf99_ok _ _ _ _ _ _ _ _ hc13) rfl rfl rfl rfl rfl (Nat.le_of_ble_eq_true rfl) (Nat.le_of_ble_eq_true rfl) (Nat.le_of_ble_eq_true rfl) ?_
              rintro _ _ ⟨rfl, rfl⟩
              refine mv_G_run 7 (F' := (131, [some (.ref (kb true 26)), some (.int v1), some (.long v2), none, some (.int v4)], [.int v1, .int (((8 : Int32) + (I (kb true 26) 9)) + (1 : Int32)), .long r12], 0, 0, kjS f I L)) rfl ?_
              obtain ⟨r14, hc15, h⟩ := mv_bd h
              refine mv_G_call (r := []) (kf99_ok _ _ _ _ _ _ _ _ hc15) rfl rfl rfl rfl rfl (Nat.le_of_ble_eq_true rfl) (Nat.le_of_ble_eq_true rfl) (Nat.le_of_ble_eq_true rfl) ?_
              rintro _ _ ⟨rfl, rfl⟩
              obtain rfl := Option.some.inj h
              exact mv_G_ret rfl rfl rfl (Nat.le_refl _) trivial ⟨rfl, rfl⟩
          · rw [if_neg hc3] at h
            refine mv_G_br (tgt := 96) rfl rfl (by decide) (fun z => absurd z hc3) (fun _ => ?_)
            refine mv_G_run 6 (F' := (79, [some (.ref (kb true 26)), some (.int v1), some (.long v2), none, some (.int v4)], [.int v1, .int ((8 : Int32) + (I (kb true 26) 9)), .long v2], 0, 0, kjS f I L)) rfl ?_
            obtain ⟨r16, hc17, h⟩ := mv_bd h
            refine mv_G_call (r := []) (kf99_ok _ _ _ _ _ _ _ _ hc17) rfl rfl rfl rfl rfl (Nat.le_of_ble_eq_true rfl) (Nat.le_of_ble_eq_true rfl) (Nat.le_of_ble_eq_true rfl) ?_
            rintro _ _ ⟨rfl, rfl⟩
            refine mv_G_run 7 (F' := (92, [some (.ref (kb true 26)), some (.int v1), some (.long v2), none, some (.int v4)], [.int v1, .int (((8 : Int32) + (I (kb true 26) 9)) + (1 : Int32)), .long r16], 0, 0, kjS f I L)) rfl ?_
            obtain ⟨r18, hc19, h⟩ := mv_bd h
            refine mv_G_call (r := []) (kf99_ok _ _ _ _ _ _ _ _ hc19) rfl rfl rfl rfl rfl (Nat.le_of_ble_eq_true rfl) (Nat.le_of_ble_eq_true rfl) (Nat.le_of_ble_eq_true rfl) ?_
            rintro _ _ ⟨rfl, rfl⟩
            obtain rfl := Option.some.inj h
            exact mv_G_ret rfl rfl rfl (Nat.le_refl _) trivial ⟨rfl, rfl⟩
        · rw [if_neg hc2] at h
          refine mv_G_br (tgt := 61) rfl rfl (by decide) (fun z => absurd z hc2) (fun _ => ?_)
          refine mv_G_run 4 (F' := (57, [some (.ref (kb true 26)), some (.int v1), some (.long v2), none, some (.int v4)], [.int v1, .int (I (kb true 26) 6), .long v2], 0, 0, kjS f I L)) rfl ?_
          obtain ⟨r20, hc21, h⟩ := mv_bd h
          refine mv_G_call (r := []) (kf99_ok _ _ _ _ _ _ _ _ hc21) rfl rfl rfl rfl rfl (Nat.le_of_ble_eq_true rfl) (Nat.le_of_ble_eq_true rfl) (Nat.le_of_ble_eq_true rfl) ?_
          rintro _ _ ⟨rfl, rfl⟩
          obtain rfl := Option.some.inj h
          exact mv_G_ret rfl rfl rfl (Nat.le_refl _) trivial ⟨rfl, rfl⟩
      · rw [if_neg hc1] at h
        refine mv_G_br (tgt := 43) rfl rfl (by decide) (fun z => absurd z hc1) (fun _ => ?_)
        refine mv_G_run 5 (F' := (33, [some (.ref (kb true 26)), some (.int v1), some (.long v2), none, some (.int v4)], [.int (0 : Int32), .int ((8 : Int32) + v4), .long v2], 0, 0, kjS f I L)) rfl ?_
        obtain ⟨r22, hc23, h⟩ := mv_bd h
        refine mv_G_call (r := []) (kf99_ok _ _ _ _ _ _ _ _ hc23) rfl rfl rfl rfl rfl (Nat.le_of_ble_eq_true rfl) (Nat.le_of_ble_eq_true rfl) (Nat.le_of_ble_eq_true rfl) ?_
        rintro _ _ ⟨rfl, rfl⟩
        refine mv_G_run 3 (F' := (17, [some (.ref (kb true 26)), some (.int v1), some (.long r22), none, some (.int (v4 + (1 : Int32)))], [], 0, 0, kjS f I L)) rfl ?_
        exact hk17 v1 r22 (v4 + (1 : Int32)) _ h
def kf90 (b : Bool) (N : Nat) (I : kjI) (L : kjL) : Option (Int64) :=
  (kf92 b I L (0 : Int32)).bind fun r1 => kf90_17 b N I L N r1 (L (kb b 26) 11) (I (kb b 26) 9)
set_option maxRecDepth 100000 in
set_option maxHeartbeats 4000000 in
theorem kf90_ok (f : Bool) (b : Bool) (N : Nat) (I : kjI) (L : kjL) (d : Nat) (r : Int64) (h : kf90 b N I L = some r) : mv_C kjP kjSta (d + 4) 90 [.ref (kb b 26)] (kjS f I L) (kjQl f I L r) := by
  cases b
  · unfold kf90 at h
    refine mv_C_in kjM_90 (lc := [some (.ref (kb false 26)), none, none, none, none]) rfl rfl rfl ?_
    refine mv_G_run 2 (F' := (2, [some (.ref (kb false 26)), none, none, none, none], [.int (0 : Int32), .ref (kb false 26)], 0, 0, kjS f I L)) rfl ?_
    obtain ⟨r1, hc2, h⟩ := mv_bd h
    refine mv_G_call (r := []) (kf92_ok _ _ _ _ _ _ _ hc2) rfl rfl rfl rfl rfl (Nat.le_of_ble_eq_true rfl) (Nat.le_of_ble_eq_true rfl) (Nat.le_of_ble_eq_true rfl) ?_
    rintro _ _ ⟨rfl, rfl⟩
    refine mv_G_run 7 (F' := (17, [some (.ref (kb false 26)), some (.int r1), some (.long (L (kb false 26) 11)), none, some (.int (I (kb false 26) 9))], [], 0, 0, kjS f I L)) rfl ?_
    exact kf90_17_ok _ _ _ _ _ d _ _ _ _ _ h
  · unfold kf90 at h
    refine mv_C_in kjM_90 (lc := [some (.ref (kb true 26)), none, none, none, none]) rfl rfl rfl ?_
    refine mv_G_run 2 (F' := (2, [some (.ref (kb true 26)), none, none, none, none], [.int (0 : Int32), .ref (kb true 26)], 0, 0, kjS f I L)) rfl ?_
    obtain ⟨r1, hc2, h⟩ := mv_bd h
    refine mv_G_call (r := []) (kf92_ok _ _ _ _ _ _ _ hc2) rfl rfl rfl rfl rfl (Nat.le_of_ble_eq_true rfl) (Nat.le_of_ble_eq_true rfl) (Nat.le_of_ble_eq_true rfl) ?_
    rintro _ _ ⟨rfl, rfl⟩
    refine mv_G_run 7 (F' := (17, [some (.ref (kb true 26)), some (.int r1), some (.long (L (kb true 26) 11)), none, some (.int (I (kb true 26) 9))], [], 0, 0, kjS f I L)) rfl ?_
    exact kf90_17_ok _ _ _ _ _ d _ _ _ _ _ h
/-! KindJudge$Flow.spread(II)V on ('b', 26) -/
def kf87_38 (b : Bool) (N : Nat) : Nat → Int32 → Int32 → Int64 → Int32 → Int32 → kjI → kjL → Option (kjI × kjL)
  | 0, _, _, _, _, _, _, _ => none
  | n + 1, v1, v2, v3, v5, v6, I, L => if v5 ≤ v6 then ((kf75 b I L v1 v2).bind fun r2 => if r2 = 0 then (some (I, L)) else ((kf68 b I L v1 v2).bind fun r5 => (kf88 b N v1 (v2 + r5) (I (kb b 26) 10) v3 I L).bind fun r7 => some (r7.1, r7.2))) else ((kf74 b I L v1 v2 v6).bind fun r9 => (kf88 b N v1 r9 (I (kb b 26) 10) v3 I L).bind fun r11 => (fun v1 v2 v3 v5 v6 I L => kf87_38 b N n v1 v2 v3 v5 v6 I L) v1 v2 v3 v5 (v6 + (1 : Int32)) r11.1 r11.2)
set_option maxRecDepth 100000 in
set_option maxHeartbeats 4000000 in
theorem kf87_38_ok (f : Bool) (b : Bool) (N : Nat) (d : Nat)  : ∀ (n : Nat) (v1 : Int32) (v2 : Int32) (v3 : Int64) (v5 : Int32) (v6 : Int32) (I : kjI) (L : kjL) (r : kjI × kjL), kf87_38 b N n v1 v2 v3 v5 v6 I L = some r → mv_G kjP kjSta (mv_C kjP kjSta (d + 4)) kjM_87 (kjQwv f r) (38, [some (.ref (kb b 26)), some (.int v1), some (.int v2), some (.long v3), none, some (.int v5), some (.int v6)], [], 0, 0, kjS f I L) := by
  cases b
  · intro n
    induction n with
    | zero => intro v1 v2 v3 v5 v6 I L r h; cases h
    | succ n ih =>
      have hk38 := ih
      intro v1 v2 v3 v5 v6 I L r h
      unfold kf87_38 at h
      refine mv_G_run 2 (F' := (42, [some (.ref (kb false 26)), some (.int v1), some (.int v2), some (.long v3), none, some (.int v5), some (.int v6)], [.int v5, .int v6], 0, 0, kjS f I L)) rfl ?_
      by_cases hc1 : v5 ≤ v6
      · rw [if_pos hc1] at h
        refine mv_G_br (tgt := 72) rfl rfl (by decide) (fun _ => ?_) (fun z => absurd hc1 z)
        refine mv_G_run 4 (F' := (78, [some (.ref (kb false 26)), some (.int v1), some (.int v2), some (.long v3), none, some (.int v5), some (.int v6)], [.int v2, .int v1, .ref (kb false 24)], 0, 0, kjS f I L)) rfl ?_
        obtain ⟨r2, hc3, h⟩ := mv_bd h
        refine mv_G_call (r := []) (kf75_ok _ _ _ _ _ _ _ _ hc3) rfl rfl rfl rfl rfl (Nat.le_of_ble_eq_true rfl) (Nat.le_of_ble_eq_true rfl) (Nat.le_of_ble_eq_true rfl) ?_
        rintro _ _ ⟨rfl, rfl⟩
        by_cases hc4 : r2 = 0
        · rw [if_pos hc4] at h
          refine mv_G_br (tgt := 105) rfl rfl (by decide) (fun _ => ?_) (fun z => absurd hc4 z)
          obtain rfl := Option.some.inj h
          exact mv_G_ret rfl rfl rfl (Nat.le_refl _) trivial ⟨rfl, rfl⟩
        · rw [if_neg hc4] at h
          refine mv_G_br (tgt := 105) rfl rfl (by decide) (fun z => absurd z hc4) (fun _ => ?_)
          refine mv_G_run 7 (F' := (93, [some (.ref (kb false 26)), some (.int v1), some (.int v2), some (.long v3), none, some (.int v5), some (.int v6)], [.int v2, .int v1, .ref (kb false 24), .int v2, .int v1, .ref (kb false 26)], 0, 0, kjS f I L)) rfl ?_
          obtain ⟨r5, hc6, h⟩ := mv_bd h
          refine mv_G_call (r := [.int v2, .int v1, .ref (kb false 26)]) (kf68_ok _ _ _ _ _ _ _ _ hc6) rfl rfl rfl rfl rfl (Nat.le_of_ble_eq_true rfl) (Nat.le_of_ble_eq_true rfl) (Nat.le_of_ble_eq_true rfl) ?_
          rintro _ _ ⟨rfl, rfl⟩
          refine mv_G_run 4 (F' := (102, [some (.ref (kb false 26)), some (.int v1), some (.int v2), some (.long v3), none, some (.int v5), some (.int v6)], [.long v3, .int (I (kb false 26) 10), .int (v2 + r5), .int v1, .ref (kb false 26)], 0, 0, kjS f I L)) rfl ?_
          obtain ⟨r7, hc8, h⟩ := mv_bd h
          refine mv_G_call (r := []) (kf88_ok _ _ _ _ _ _ _ _ _ _ _ hc8) rfl rfl rfl rfl rfl (Nat.le_of_ble_eq_true rfl) (Nat.le_of_ble_eq_true rfl) (Nat.le_of_ble_eq_true rfl) ?_
          rintro _ _ ⟨rfl, rfl⟩
          obtain rfl := Option.some.inj h
          exact mv_G_ret rfl rfl rfl (Nat.le_refl _) trivial ⟨rfl, rfl⟩
      · rw [if_neg hc1] at h
        refine mv_G_br (tgt := 72) rfl rfl (by decide) (fun z => absurd z hc1) (fun _ => ?_)
        refine mv_G_run 7 (F' := (55, [some (.ref (kb false 26)), some (.int v1), some (.int v2), some (.long v3), none, some (.int v5), some (.int v6)], [.int v6, .int v2, .int v1, .ref (kb false 24), .int v1, .ref (kb false 26)], 0, 0, kjS f I L)) rfl ?_
        obtain ⟨r9, hc10, h⟩ := mv_bd h
        refine mv_G_call (r := [.int v1, .ref (kb false 26)]) (kf74_ok _ _ _ _ _ _ _ _ _ hc10) rfl rfl rfl rfl rfl (Nat.le_of_ble_eq_true rfl) (Nat.le_of_ble_eq_true rfl) (Nat.le_of_ble_eq_true rfl) ?_
        rintro _ _ ⟨rfl, rfl⟩
        refine mv_G_run 3 (F' := (63, [some (.ref (kb false 26)), some (.int v1), some (.int v2), some (.long v3), none, some (.int v5), some (.int v6)], [.long v3, .int (I (kb false 26) 10), .int r9, .int v1, .ref (kb false 26)], 0, 0, kjS f I L)) rfl ?_
        obtain ⟨r11, hc12, h⟩ := mv_bd h
        refine mv_G_call (r := []) (kf88_ok _ _ _ _ _ _ _ _ _ _ _ hc12) rfl rfl rfl rfl rfl (Nat.le_of_ble_eq_true rfl) (Nat.le_of_ble_eq_true rfl) (Nat.le_of_ble_eq_true rfl) ?_
        rintro _ _ ⟨rfl, rfl⟩
        refine mv_G_run 2 (F' := (38, [some (.ref (kb false 26)), some (.int v1), some (.int v2), some (.long v3), none, some (.int v5), some (.int (v6 + (1 : Int32)))], [], 0, 0, kjS f r11.1 r11.2)) rfl ?_
        exact hk38 v1 v2 v3 v5 (v6 + (1 : Int32)) r11.1 r11.2 _ h
  · intro n
    induction n with
    | zero => intro v1 v2 v3 v5 v6 I L r h; cases h
    | succ n ih =>
      have hk38 := ih
      intro v1 v2 v3 v5 v6 I L r h
      unfold kf87_38 at h
      refine mv_G_run 2 (F' := (42, [some (.ref (kb true 26)), some (.int v1), some (.int v2), some (.long v3), none, some (.int v5), some (.int v6)], [.int v5, .int v6], 0, 0, kjS f I L)) rfl ?_
      by_cases hc1 : v5 ≤ v6
      · rw [if_pos hc1] at h
        refine mv_G_br (tgt := 72) rfl rfl (by decide) (fun _ => ?_) (fun z => absurd hc1 z)
        refine mv_G_run 4 (F' := (78, [some (.ref (kb true 26)), some (.int v1), some (.int v2), some (.long v3), none, some (.int v5), some (.int v6)], [.int v2, .int v1, .ref (kb true 24)], 0, 0, kjS f I L)) rfl ?_
        obtain ⟨r2, hc3, h⟩ := mv_bd h
        refine mv_G_call (r := []) (kf75_ok _ _ _ _ _ _ _ _ hc3) rfl rfl rfl rfl rfl (Nat.le_of_ble_eq_true rfl) (Nat.le_of_ble_eq_true rfl) (Nat.le_of_ble_eq_true rfl) ?_
        rintro _ _ ⟨rfl, rfl⟩
        by_cases hc4 : r2 = 0
        · rw [if_pos hc4] at h
          refine mv_G_br (tgt := 105) rfl rfl (by decide) (fun _ => ?_) (fun z => absurd hc4 z)
          obtain rfl := Option.some.inj h
          exact mv_G_ret rfl rfl rfl (Nat.le_refl _) trivial ⟨rfl, rfl⟩
        · rw [if_neg hc4] at h
          refine mv_G_br (tgt := 105) rfl rfl (by decide) (fun z => absurd z hc4) (fun _ => ?_)
          refine mv_G_run 7 (F' := (93, [some (.ref (kb true 26)), some (.int v1), some (.int v2), some (.long v3), none, some (.int v5), some (.int v6)], [.int v2, .int v1, .ref (kb true 24), .int v2, .int v1, .ref (kb true 26)], 0, 0, kjS f I L)) rfl ?_
          obtain ⟨r5, hc6, h⟩ := mv_bd h
          refine mv_G_call (r := [.int v2, .int v1, .ref (kb true 26)]) (kf68_ok _ _ _ _ _ _ _ _ hc6) rfl rfl rfl rfl rfl (Nat.le_of_ble_eq_true rfl) (Nat.le_of_ble_eq_true rfl) (Nat.le_of_ble_eq_true rfl) ?_
          rintro _ _ ⟨rfl, rfl⟩
          refine mv_G_run 4 (F' := (102, [some (.ref (kb true 26)), some (.int v1), some (.int v2), some (.long v3), none, some (.int v5), some (.int v6)], [.long v3, .int (I (kb true 26) 10), .int (v2 + r5), .int v1, .ref (kb true 26)], 0, 0, kjS f I L)) rfl ?_
          obtain ⟨r7, hc8, h⟩ := mv_bd h
          refine mv_G_call (r := []) (kf88_ok _ _ _ _ _ _ _ _ _ _ _ hc8) rfl rfl rfl rfl rfl (Nat.le_of_ble_eq_true rfl) (Nat.le_of_ble_eq_true rfl) (Nat.le_of_ble_eq_true rfl) ?_
          rintro _ _ ⟨rfl, rfl⟩
          obtain rfl := Option.some.inj h
          exact mv_G_ret rfl rfl rfl (Nat.le_refl _) trivial ⟨rfl, rfl⟩
      · rw [if_neg hc1] at h
        refine mv_G_br (tgt := 72) rfl rfl (by decide) (fun z => absurd z hc1) (fun _ => ?_)
        refine mv_G_run 7 (F' := (55, [some (.ref (kb true 26)), some (.int v1), some (.int v2), some (.long v3), none, some (.int v5), some (.int v6)], [.int v6, .int v2, .int v1, .ref (kb true 24), .int v1, .ref (kb true 26)], 0, 0, kjS f I L)) rfl ?_
        obtain ⟨r9, hc10, h⟩ := mv_bd h
        refine mv_G_call (r := [.int v1, .ref (kb true 26)]) (kf74_ok _ _ _ _ _ _ _ _ _ hc10) rfl rfl rfl rfl rfl (Nat.le_of_ble_eq_true rfl) (Nat.le_of_ble_eq_true rfl) (Nat.le_of_ble_eq_true rfl) ?_
        rintro _ _ ⟨rfl, rfl⟩
        refine mv_G_run 3 (F' := (63, [some (.ref (kb true 26)), some (.int v1), some (.int v2), some (.long v3), none, some (.int v5), some (.int v6)], [.long v3, .int (I (kb true 26) 10), .int r9, .int v1, .ref (kb true 26)], 0, 0, kjS f I L)) rfl ?_
        obtain ⟨r11, hc12, h⟩ := mv_bd h
        refine mv_G_call (r := []) (kf88_ok _ _ _ _ _ _ _ _ _ _ _ hc12) rfl rfl rfl rfl rfl (Nat.le_of_ble_eq_true rfl) (Nat.le_of_ble_eq_true rfl) (Nat.le_of_ble_eq_true rfl) ?_
        rintro _ _ ⟨rfl, rfl⟩
        refine mv_G_run 2 (F' := (38, [some (.ref (kb true 26)), some (.int v1), some (.int v2), some (.long v3), none, some (.int v5), some (.int (v6 + (1 : Int32)))], [], 0, 0, kjS f r11.1 r11.2)) rfl ?_
        exact hk38 v1 v2 v3 v5 (v6 + (1 : Int32)) r11.1 r11.2 _ h
def kf87_23 (b : Bool) (N : Nat) (v1 : Int32) (v2 : Int32) (s0 : Int64) (I : kjI) (L : kjL) : Option (kjI × kjL) :=
  (kf73 b I L v1 v2).bind fun r1 => kf87_38 b N N v1 v2 s0 r1 (0 : Int32) I L
set_option maxRecDepth 100000 in
set_option maxHeartbeats 4000000 in
theorem kf87_23_ok (f : Bool) (b : Bool) (N : Nat) (d : Nat)  (v1 : Int32) (v2 : Int32) (s0 : Int64) (I : kjI) (L : kjL) (r : kjI × kjL) (h : kf87_23 b N v1 v2 s0 I L = some r) : mv_G kjP kjSta (mv_C kjP kjSta (d + 4)) kjM_87 (kjQwv f r) (23, [some (.ref (kb b 26)), some (.int v1), some (.int v2), none, none, none, none], [.long s0], 0, 0, kjS f I L) := by
  cases b
  · unfold kf87_23 at h
    refine mv_G_run 5 (F' := (30, [some (.ref (kb false 26)), some (.int v1), some (.int v2), some (.long s0), none, none, none], [.int v2, .int v1, .ref (kb false 24)], 0, 0, kjS f I L)) rfl ?_
    obtain ⟨r1, hc2, h⟩ := mv_bd h
    refine mv_G_call (r := []) (kf73_ok _ _ _ _ _ _ _ _ hc2) rfl rfl rfl rfl rfl (Nat.le_of_ble_eq_true rfl) (Nat.le_of_ble_eq_true rfl) (Nat.le_of_ble_eq_true rfl) ?_
    rintro _ _ ⟨rfl, rfl⟩
    refine mv_G_run 3 (F' := (38, [some (.ref (kb false 26)), some (.int v1), some (.int v2), some (.long s0), none, some (.int r1), some (.int (0 : Int32))], [], 0, 0, kjS f I L)) rfl ?_
    exact kf87_38_ok _ _ _ d _ _ _ _ _ _ _ _ _ h
  · unfold kf87_23 at h
    refine mv_G_run 5 (F' := (30, [some (.ref (kb true 26)), some (.int v1), some (.int v2), some (.long s0), none, none, none], [.int v2, .int v1, .ref (kb true 24)], 0, 0, kjS f I L)) rfl ?_
    obtain ⟨r1, hc2, h⟩ := mv_bd h
    refine mv_G_call (r := []) (kf73_ok _ _ _ _ _ _ _ _ hc2) rfl rfl rfl rfl rfl (Nat.le_of_ble_eq_true rfl) (Nat.le_of_ble_eq_true rfl) (Nat.le_of_ble_eq_true rfl) ?_
    rintro _ _ ⟨rfl, rfl⟩
    refine mv_G_run 3 (F' := (38, [some (.ref (kb true 26)), some (.int v1), some (.int v2), some (.long s0), none, some (.int r1), some (.int (0 : Int32))], [], 0, 0, kjS f I L)) rfl ?_
    exact kf87_38_ok _ _ _ d _ _ _ _ _ _ _ _ _ h
def kf87 (b : Bool) (N : Nat) (v1 : Int32) (v2 : Int32) (I : kjI) (L : kjL) : Option (kjI × kjL) :=
  (kf86 b v1 v2 I L).bind fun r1 => if ¬ (r1.1 (kb b 26) 10) = (99 : Int32) then ((kf90 b N r1.1 r1.2).bind fun r4 => kf87_23 b N v1 v2 r4 r1.1 r1.2) else (kf87_23 b N v1 v2 (0 : Int64) r1.1 r1.2)
set_option maxRecDepth 100000 in
set_option maxHeartbeats 4000000 in
theorem kf87_ok (f : Bool) (b : Bool) (N : Nat) (v1 : Int32) (v2 : Int32) (I : kjI) (L : kjL) (d : Nat) (r : kjI × kjL) (h : kf87 b N v1 v2 I L = some r) : mv_C kjP kjSta (d + 5) 87 [.ref (kb b 26), .int v1, .int v2] (kjS f I L) (kjQwv f r) := by
  cases b
  · unfold kf87 at h
    refine mv_C_in kjM_87 (lc := [some (.ref (kb false 26)), some (.int v1), some (.int v2), none, none, none, none]) rfl rfl rfl ?_
    refine mv_G_run 3 (F' := (3, [some (.ref (kb false 26)), some (.int v1), some (.int v2), none, none, none, none], [.int v2, .int v1, .ref (kb false 26)], 0, 0, kjS f I L)) rfl ?_
    obtain ⟨r1, hc2, h⟩ := mv_bd h
    refine mv_G_call (r := []) (kf86_ok _ _ _ _ _ _ _ _ hc2) rfl rfl rfl rfl rfl (Nat.le_of_ble_eq_true rfl) (Nat.le_of_ble_eq_true rfl) (Nat.le_of_ble_eq_true rfl) ?_
    rintro _ _ ⟨rfl, rfl⟩
    refine mv_G_run 3 (F' := (12, [some (.ref (kb false 26)), some (.int v1), some (.int v2), none, none, none, none], [.int (99 : Int32), .int (r1.1 (kb false 26) 10)], 0, 0, kjS f r1.1 r1.2)) rfl ?_
    by_cases hc3 : ¬ (r1.1 (kb false 26) 10) = (99 : Int32)
    · rw [if_pos hc3] at h
      refine mv_G_br (tgt := 19) rfl rfl (by decide) (fun _ => ?_) (fun z => absurd hc3 z)
      refine mv_G_run 1 (F' := (20, [some (.ref (kb false 26)), some (.int v1), some (.int v2), none, none, none, none], [.ref (kb false 26)], 0, 0, kjS f r1.1 r1.2)) rfl ?_
      obtain ⟨r4, hc5, h⟩ := mv_bd h
      refine mv_G_call (r := []) (kf90_ok _ _ _ _ _ _ _ hc5) rfl rfl rfl rfl rfl (Nat.le_of_ble_eq_true rfl) (Nat.le_of_ble_eq_true rfl) (Nat.le_of_ble_eq_true rfl) ?_
      rintro _ _ ⟨rfl, rfl⟩
      exact kf87_23_ok _ _ _ d _ _ _ _ _ _ h
    · rw [if_neg hc3] at h
      refine mv_G_br (tgt := 19) rfl rfl (by decide) (fun z => absurd z hc3) (fun _ => ?_)
      refine mv_G_run 2 (F' := (23, [some (.ref (kb false 26)), some (.int v1), some (.int v2), none, none, none, none], [.long (0 : Int64)], 0, 0, kjS f r1.1 r1.2)) rfl ?_
      exact kf87_23_ok _ _ _ d _ _ _ _ _ _ h
  · unfold kf87 at h
    refine mv_C_in kjM_87 (lc := [some (.ref (kb true 26)), some (.int v1), some (.int v2), none, none, none, none]) rfl rfl rfl ?_
    refine mv_G_run 3 (F' := (3, [some (.ref (kb true 26)), some (.int v1), some (.int v2), none, none, none, none], [.int v2, .int v1, .ref (kb true 26)], 0, 0, kjS f I L)) rfl ?_
    obtain ⟨r1, hc2, h⟩ := mv_bd h
    refine mv_G_call (r := []) (kf86_ok _ _ _ _ _ _ _ _ hc2) rfl rfl rfl rfl rfl (Nat.le_of_ble_eq_true rfl) (Nat.le_of_ble_eq_true rfl) (Nat.le_of_ble_eq_true rfl) ?_
    rintro _ _ ⟨rfl, rfl⟩
    refine mv_G_run 3 (F' := (12, [some (.ref (kb true 26)), some (.int v1), some (.int v2), none, none, none, none], [.int (99 : Int32), .int (r1.1 (kb true 26) 10)], 0, 0, kjS f r1.1 r1.2)) rfl ?_
    by_cases hc3 : ¬ (r1.1 (kb true 26) 10) = (99 : Int32)
    · rw [if_pos hc3] at h
      refine mv_G_br (tgt := 19) rfl rfl (by decide) (fun _ => ?_) (fun z => absurd hc3 z)
      refine mv_G_run 1 (F' := (20, [some (.ref (kb true 26)), some (.int v1), some (.int v2), none, none, none, none], [.ref (kb true 26)], 0, 0, kjS f r1.1 r1.2)) rfl ?_
      obtain ⟨r4, hc5, h⟩ := mv_bd h
      refine mv_G_call (r := []) (kf90_ok _ _ _ _ _ _ _ hc5) rfl rfl rfl rfl rfl (Nat.le_of_ble_eq_true rfl) (Nat.le_of_ble_eq_true rfl) (Nat.le_of_ble_eq_true rfl) ?_
      rintro _ _ ⟨rfl, rfl⟩
      exact kf87_23_ok _ _ _ d _ _ _ _ _ _ h
    · rw [if_neg hc3] at h
      refine mv_G_br (tgt := 19) rfl rfl (by decide) (fun z => absurd z hc3) (fun _ => ?_)
      refine mv_G_run 2 (F' := (23, [some (.ref (kb true 26)), some (.int v1), some (.int v2), none, none, none, none], [.long (0 : Int64)], 0, 0, kjS f r1.1 r1.2)) rfl ?_
      exact kf87_23_ok _ _ _ d _ _ _ _ _ _ h
/-! KindJudge$Flow.settle(I)V on ('b', 26) -/
def kf82_102 (b : Bool) (N : Nat) (k53 : Int32 → Int32 → Int32 → Int32 → kjI → kjL → Option (kjI × kjL)) (k69 : Int32 → Int32 → Int32 → Int32 → Int32 → kjI → kjL → Option (kjI × kjL)) (v1 : Int32) (v2 : Int32) (v3 : Int32) (v4 : Int32) (v5 : Int32) (I : kjI) (L : kjL) : Option (kjI × kjL) :=
  k69 v1 v2 v3 v4 (v5 + (1 : Int32)) I L
set_option maxRecDepth 100000 in
set_option maxHeartbeats 4000000 in
theorem kf82_102_ok (f : Bool) (b : Bool) (N : Nat) (k53 : Int32 → Int32 → Int32 → Int32 → kjI → kjL → Option (kjI × kjL)) (k69 : Int32 → Int32 → Int32 → Int32 → Int32 → kjI → kjL → Option (kjI × kjL)) (d : Nat) (hk53 : ∀ (v1 : Int32) (v2 : Int32) (v3 : Int32) (v4 : Int32) (I : kjI) (L : kjL) (r : kjI × kjL), k53 v1 v2 v3 v4 I L = some r → mv_G kjP kjSta (mv_C kjP kjSta (d + 5)) kjM_82 (kjQwv f r) (53, [some (.ref (kb b 26)), some (.int v1), some (.int v2), some (.int v3), some (.int v4), none], [], 0, 0, kjS f I L)) (hk69 : ∀ (v1 : Int32) (v2 : Int32) (v3 : Int32) (v4 : Int32) (v5 : Int32) (I : kjI) (L : kjL) (r : kjI × kjL), k69 v1 v2 v3 v4 v5 I L = some r → mv_G kjP kjSta (mv_C kjP kjSta (d + 5)) kjM_82 (kjQwv f r) (69, [some (.ref (kb b 26)), some (.int v1), some (.int v2), some (.int v3), some (.int v4), some (.int v5)], [], 0, 0, kjS f I L)) (v1 : Int32) (v2 : Int32) (v3 : Int32) (v4 : Int32) (v5 : Int32) (I : kjI) (L : kjL) (r : kjI × kjL) (h : kf82_102 b N k53 k69 v1 v2 v3 v4 v5 I L = some r) : mv_G kjP kjSta (mv_C kjP kjSta (d + 5)) kjM_82 (kjQwv f r) (102, [some (.ref (kb b 26)), some (.int v1), some (.int v2), some (.int v3), some (.int v4), some (.int v5)], [], 0, 0, kjS f I L) := by
  cases b
  · unfold kf82_102 at h
    refine mv_G_run 2 (F' := (69, [some (.ref (kb false 26)), some (.int v1), some (.int v2), some (.int v3), some (.int v4), some (.int (v5 + (1 : Int32)))], [], 0, 0, kjS f I L)) rfl ?_
    exact hk69 v1 v2 v3 v4 (v5 + (1 : Int32)) I L _ h
  · unfold kf82_102 at h
    refine mv_G_run 2 (F' := (69, [some (.ref (kb true 26)), some (.int v1), some (.int v2), some (.int v3), some (.int v4), some (.int (v5 + (1 : Int32)))], [], 0, 0, kjS f I L)) rfl ?_
    exact hk69 v1 v2 v3 v4 (v5 + (1 : Int32)) I L _ h
def kf82_69 (b : Bool) (N : Nat) (k53 : Int32 → Int32 → Int32 → Int32 → kjI → kjL → Option (kjI × kjL)) : Nat → Int32 → Int32 → Int32 → Int32 → Int32 → kjI → kjL → Option (kjI × kjL)
  | 0, _, _, _, _, _, _, _ => none
  | n + 1, v1, v2, v3, v4, v5, I, L => if v2 ≤ v5 then (k53 v1 v2 v3 (v4 + (1 : Int32)) I L) else (bif mv_in v5 120 then (if (I (kb b 29) (Int32.toNatClampNeg v5)) = 0 then (kf82_102 b N k53 (fun v1 v2 v3 v4 v5 I L => kf82_69 b N k53 n v1 v2 v3 v4 v5 I L) v1 v2 v3 v4 v5 I L) else (bif mv_in v5 120 then ((kf87 b N v1 v5 (mv_up I (kb b 29) (Int32.toNatClampNeg v5) ((0 : Int32) &&& 1)) L).bind fun r5 => kf82_102 b N k53 (fun v1 v2 v3 v4 v5 I L => kf82_69 b N k53 n v1 v2 v3 v4 v5 I L) v1 v2 (1 : Int32) v4 v5 r5.1 r5.2) else none)) else none)
set_option maxRecDepth 100000 in
set_option maxHeartbeats 4000000 in
theorem kf82_69_ok (f : Bool) (b : Bool) (N : Nat) (k53 : Int32 → Int32 → Int32 → Int32 → kjI → kjL → Option (kjI × kjL)) (d : Nat) (hk53 : ∀ (v1 : Int32) (v2 : Int32) (v3 : Int32) (v4 : Int32) (I : kjI) (L : kjL) (r : kjI × kjL), k53 v1 v2 v3 v4 I L = some r → mv_G kjP kjSta (mv_C kjP kjSta (d + 5)) kjM_82 (kjQwv f r) (53, [some (.ref (kb b 26)), some (.int v1), some (.int v2), some (.int v3), some (.int v4), none], [], 0, 0, kjS f I L)) : ∀ (n : Nat) (v1 : Int32) (v2 : Int32) (v3 : Int32) (v4 : Int32) (v5 : Int32) (I : kjI) (L : kjL) (r : kjI × kjL), kf82_69 b N k53 n v1 v2 v3 v4 v5 I L = some r → mv_G kjP kjSta (mv_C kjP kjSta (d + 5)) kjM_82 (kjQwv f r) (69, [some (.ref (kb b 26)), some (.int v1), some (.int v2), some (.int v3), some (.int v4), some (.int v5)], [], 0, 0, kjS f I L) := by
  cases b
  · intro n
    induction n with
    | zero => intro v1 v2 v3 v4 v5 I L r h; cases h
    | succ n ih =>
      have hk69 := ih
      intro v1 v2 v3 v4 v5 I L r h
      unfold kf82_69 at h
      refine mv_G_run 2 (F' := (72, [some (.ref (kb false 26)), some (.int v1), some (.int v2), some (.int v3), some (.int v4), some (.int v5)], [.int v2, .int v5], 0, 0, kjS f I L)) rfl ?_
      by_cases hc1 : v2 ≤ v5
      · rw [if_pos hc1] at h
        refine mv_G_br (tgt := 108) rfl rfl (by decide) (fun _ => ?_) (fun z => absurd hc1 z)
        refine mv_G_run 2 (F' := (53, [some (.ref (kb false 26)), some (.int v1), some (.int v2), some (.int v3), some (.int (v4 + (1 : Int32))), some (.int v5)], [], 0, 0, kjS f I L)) rfl ?_
        refine mv_G_fg (lc' := [some (.ref (kb false 26)), some (.int v1), some (.int v2), some (.int v3), some (.int (v4 + (1 : Int32))), none]) (And.intro rfl (And.intro rfl (And.intro rfl (And.intro rfl (And.intro rfl trivial))))) ?_
        exact hk53 v1 v2 v3 (v4 + (1 : Int32)) I L _ h
      · rw [if_neg hc1] at h
        refine mv_G_br (tgt := 108) rfl rfl (by decide) (fun z => absurd z hc1) (fun _ => ?_)
        refine mv_G_run 3 (F' := (81, [some (.ref (kb false 26)), some (.int v1), some (.int v2), some (.int v3), some (.int v4), some (.int v5)], [.int v5, .ref (kb false 29)], 0, 0, kjS f I L)) rfl ?_
        obtain ⟨hi2, h⟩ := mv_bifs h
        refine mv_G_ald rfl rfl (mv_in_ok hi2) ?_
        by_cases hc3 : (I (kb false 29) (Int32.toNatClampNeg v5)) = 0
        · rw [if_pos hc3] at h
          refine mv_G_br (tgt := 102) rfl rfl (by decide) (fun _ => ?_) (fun z => absurd hc3 z)
          exact kf82_102_ok _ _ _ _ _ d hk53 hk69 _ _ _ _ _ _ _ _ h
        · rw [if_neg hc3] at h
          refine mv_G_br (tgt := 102) rfl rfl (by decide) (fun z => absurd z hc3) (fun _ => ?_)
          refine mv_G_run 4 (F' := (92, [some (.ref (kb false 26)), some (.int v1), some (.int v2), some (.int v3), some (.int v4), some (.int v5)], [.int (0 : Int32), .int v5, .ref (kb false 29)], 0, 0, kjS f I L)) rfl ?_
          obtain ⟨hi4, h⟩ := mv_bifs h
          refine mv_G_ast rfl rfl (mv_in_ok hi4) ?_
          refine mv_G_run 5 (F' := (99, [some (.ref (kb false 26)), some (.int v1), some (.int v2), some (.int (1 : Int32)), some (.int v4), some (.int v5)], [.int v5, .int v1, .ref (kb false 26)], 0, 0, kjS f (mv_up I (kb false 29) (Int32.toNatClampNeg v5) ((0 : Int32) &&& 1)) L)) rfl ?_
          obtain ⟨r5, hc6, h⟩ := mv_bd h
          refine mv_G_call (r := []) (kf87_ok _ _ _ _ _ _ _ _ _ hc6) rfl rfl rfl rfl rfl (Nat.le_of_ble_eq_true rfl) (Nat.le_of_ble_eq_true rfl) (Nat.le_of_ble_eq_true rfl) ?_
          rintro _ _ ⟨rfl, rfl⟩
          exact kf82_102_ok _ _ _ _ _ d hk53 hk69 _ _ _ _ _ _ _ _ h
  · intro n
    induction n with
    | zero => intro v1 v2 v3 v4 v5 I L r h; cases h
    | succ n ih =>
      have hk69 := ih
      intro v1 v2 v3 v4 v5 I L r h
      unfold kf82_69 at h
      refine mv_G_run 2 (F' := (72, [some (.ref (kb true 26)), some (.int v1), some (.int v2), some (.int v3), some (.int v4), some (.int v5)], [.int v2, .int v5], 0, 0, kjS f I L)) rfl ?_
      by_cases hc1 : v2 ≤ v5
      · rw [if_pos hc1] at h
        refine mv_G_br (tgt := 108) rfl rfl (by decide) (fun _ => ?_) (fun z => absurd hc1 z)
        refine mv_G_run 2 (F' := (53, [some (.ref (kb true 26)), some (.int v1), some (.int v2), some (.int v3), some (.int (v4 + (1 : Int32))), some (.int v5)], [], 0, 0, kjS f I L)) rfl ?_
        refine mv_G_fg (lc' := [some (.ref (kb true 26)), some (.int v1), some (.int v2), some (.int v3), some (.int (v4 + (1 : Int32))), none]) (And.intro rfl (And.intro rfl (And.intro rfl (And.intro rfl (And.intro rfl trivial))))) ?_
        exact hk53 v1 v2 v3 (v4 + (1 : Int32)) I L _ h
      · rw [if_neg hc1] at h
        refine mv_G_br (tgt := 108) rfl rfl (by decide) (fun z => absurd z hc1) (fun _ => ?_)
        refine mv_G_run 3 (F' := (81, [some (.ref (kb true 26)), some (.int v1), some (.int v2), some (.int v3), some (.int v4), some (.int v5)], [.int v5, .ref (kb true 29)], 0, 0, kjS f I L)) rfl ?_
        obtain ⟨hi2, h⟩ := mv_bifs h
        refine mv_G_ald rfl rfl (mv_in_ok hi2) ?_
        by_cases hc3 : (I (kb true 29) (Int32.toNatClampNeg v5)) = 0
        · rw [if_pos hc3] at h
          refine mv_G_br (tgt := 102) rfl rfl (by decide) (fun _ => ?_) (fun z => absurd hc3 z)
          exact kf82_102_ok _ _ _ _ _ d hk53 hk69 _ _ _ _ _ _ _ _ h
        · rw [if_neg hc3] at h
          refine mv_G_br (tgt := 102) rfl rfl (by decide) (fun z => absurd z hc3) (fun _ => ?_)
          refine mv_G_run 4 (F' := (92, [some (.ref (kb true 26)), some (.int v1), some (.int v2), some (.int v3), some (.int v4), some (.int v5)], [.int (0 : Int32), .int v5, .ref (kb true 29)], 0, 0, kjS f I L)) rfl ?_
          obtain ⟨hi4, h⟩ := mv_bifs h
          refine mv_G_ast rfl rfl (mv_in_ok hi4) ?_
          refine mv_G_run 5 (F' := (99, [some (.ref (kb true 26)), some (.int v1), some (.int v2), some (.int (1 : Int32)), some (.int v4), some (.int v5)], [.int v5, .int v1, .ref (kb true 26)], 0, 0, kjS f (mv_up I (kb true 29) (Int32.toNatClampNeg v5) ((0 : Int32) &&& 1)) L)) rfl ?_
          obtain ⟨r5, hc6, h⟩ := mv_bd h
          refine mv_G_call (r := []) (kf87_ok _ _ _ _ _ _ _ _ _ hc6) rfl rfl rfl rfl rfl (Nat.le_of_ble_eq_true rfl) (Nat.le_of_ble_eq_true rfl) (Nat.le_of_ble_eq_true rfl) ?_
          rintro _ _ ⟨rfl, rfl⟩
          exact kf82_102_ok _ _ _ _ _ d hk53 hk69 _ _ _ _ _ _ _ _ h
def kf82_53 (b : Bool) (N : Nat) : Nat → Int32 → Int32 → Int32 → Int32 → kjI → kjL → Option (kjI × kjL)
  | 0, _, _, _, _, _, _ => none
  | n + 1, v1, v2, v3, v4, I, L => if v3 = 0 then (some (I, L)) else (if (1000000 : Int32) ≤ v4 then (some (I, L)) else (kf82_69 b N (fun v1 v2 v3 v4 I L => kf82_53 b N n v1 v2 v3 v4 I L) N v1 v2 (0 : Int32) v4 (0 : Int32) I L))
set_option maxRecDepth 100000 in
set_option maxHeartbeats 4000000 in
theorem kf82_53_ok (f : Bool) (b : Bool) (N : Nat) (d : Nat)  : ∀ (n : Nat) (v1 : Int32) (v2 : Int32) (v3 : Int32) (v4 : Int32) (I : kjI) (L : kjL) (r : kjI × kjL), kf82_53 b N n v1 v2 v3 v4 I L = some r → mv_G kjP kjSta (mv_C kjP kjSta (d + 5)) kjM_82 (kjQwv f r) (53, [some (.ref (kb b 26)), some (.int v1), some (.int v2), some (.int v3), some (.int v4), none], [], 0, 0, kjS f I L) := by
  cases b
  · intro n
    induction n with
    | zero => intro v1 v2 v3 v4 I L r h; cases h
    | succ n ih =>
      have hk53 := ih
      intro v1 v2 v3 v4 I L r h
      unfold kf82_53 at h
      refine mv_G_run 1 (F' := (54, [some (.ref (kb false 26)), some (.int v1), some (.int v2), some (.int v3), some (.int v4), none], [.int v3], 0, 0, kjS f I L)) rfl ?_
      by_cases hc1 : v3 = 0
      · rw [if_pos hc1] at h
        refine mv_G_br (tgt := 114) rfl rfl (by decide) (fun _ => ?_) (fun z => absurd hc1 z)
        obtain rfl := Option.some.inj h
        exact mv_G_ret rfl rfl rfl (Nat.le_refl _) trivial ⟨rfl, rfl⟩
      · rw [if_neg hc1] at h
        refine mv_G_br (tgt := 114) rfl rfl (by decide) (fun z => absurd z hc1) (fun _ => ?_)
        refine mv_G_run 2 (F' := (61, [some (.ref (kb false 26)), some (.int v1), some (.int v2), some (.int v3), some (.int v4), none], [.int (1000000 : Int32), .int v4], 0, 0, kjS f I L)) rfl ?_
        by_cases hc2 : (1000000 : Int32) ≤ v4
        · rw [if_pos hc2] at h
          refine mv_G_br (tgt := 114) rfl rfl (by decide) (fun _ => ?_) (fun z => absurd hc2 z)
          obtain rfl := Option.some.inj h
          exact mv_G_ret rfl rfl rfl (Nat.le_refl _) trivial ⟨rfl, rfl⟩
        · rw [if_neg hc2] at h
          refine mv_G_br (tgt := 114) rfl rfl (by decide) (fun z => absurd z hc2) (fun _ => ?_)
          refine mv_G_run 4 (F' := (69, [some (.ref (kb false 26)), some (.int v1), some (.int v2), some (.int (0 : Int32)), some (.int v4), some (.int (0 : Int32))], [], 0, 0, kjS f I L)) rfl ?_
          exact kf82_69_ok _ _ _ _ d hk53 _ _ _ _ _ _ _ _ _ h
  · intro n
    induction n with
    | zero => intro v1 v2 v3 v4 I L r h; cases h
    | succ n ih =>
      have hk53 := ih
      intro v1 v2 v3 v4 I L r h
      unfold kf82_53 at h
      refine mv_G_run 1 (F' := (54, [some (.ref (kb true 26)), some (.int v1), some (.int v2), some (.int v3), some (.int v4), none], [.int v3], 0, 0, kjS f I L)) rfl ?_
      by_cases hc1 : v3 = 0
      · rw [if_pos hc1] at h
        refine mv_G_br (tgt := 114) rfl rfl (by decide) (fun _ => ?_) (fun z => absurd hc1 z)
        obtain rfl := Option.some.inj h
        exact mv_G_ret rfl rfl rfl (Nat.le_refl _) trivial ⟨rfl, rfl⟩
      · rw [if_neg hc1] at h
        refine mv_G_br (tgt := 114) rfl rfl (by decide) (fun z => absurd z hc1) (fun _ => ?_)
        refine mv_G_run 2 (F' := (61, [some (.ref (kb true 26)), some (.int v1), some (.int v2), some (.int v3), some (.int v4), none], [.int (1000000 : Int32), .int v4], 0, 0, kjS f I L)) rfl ?_
        by_cases hc2 : (1000000 : Int32) ≤ v4
        · rw [if_pos hc2] at h
          refine mv_G_br (tgt := 114) rfl rfl (by decide) (fun _ => ?_) (fun z => absurd hc2 z)
          obtain rfl := Option.some.inj h
          exact mv_G_ret rfl rfl rfl (Nat.le_refl _) trivial ⟨rfl, rfl⟩
        · rw [if_neg hc2] at h
          refine mv_G_br (tgt := 114) rfl rfl (by decide) (fun z => absurd z hc2) (fun _ => ?_)
          refine mv_G_run 4 (F' := (69, [some (.ref (kb true 26)), some (.int v1), some (.int v2), some (.int (0 : Int32)), some (.int v4), some (.int (0 : Int32))], [], 0, 0, kjS f I L)) rfl ?_
          exact kf82_69_ok _ _ _ _ d hk53 _ _ _ _ _ _ _ _ _ h
def kf82_19 (b : Bool) (N : Nat) : Nat → Int32 → Int32 → Int32 → kjI → kjL → Option (kjI × kjL)
  | 0, _, _, _, _, _ => none
  | n + 1, v1, v2, v3, I, L => if v2 ≤ v3 then ((kf85 b N I L v1).bind fun r2 => (kf88 b N v1 (0 : Int32) (0 : Int32) r2 I L).bind fun r4 => kf82_53 b N N v1 v2 (1 : Int32) (0 : Int32) r4.1 r4.2) else ((kf84 b v1 v3 I L).bind fun r6 => (fun v1 v2 v3 I L => kf82_19 b N n v1 v2 v3 I L) v1 v2 (v3 + (1 : Int32)) r6.1 r6.2)
set_option maxRecDepth 100000 in
set_option maxHeartbeats 4000000 in
theorem kf82_19_ok (f : Bool) (b : Bool) (N : Nat) (d : Nat)  : ∀ (n : Nat) (v1 : Int32) (v2 : Int32) (v3 : Int32) (I : kjI) (L : kjL) (r : kjI × kjL), kf82_19 b N n v1 v2 v3 I L = some r → mv_G kjP kjSta (mv_C kjP kjSta (d + 5)) kjM_82 (kjQwv f r) (19, [some (.ref (kb b 26)), some (.int v1), some (.int v2), some (.int v3), none, none], [], 0, 0, kjS f I L) := by
  cases b
  · intro n
    induction n with
    | zero => intro v1 v2 v3 I L r h; cases h
    | succ n ih =>
      have hk19 := ih
      intro v1 v2 v3 I L r h
      unfold kf82_19 at h
      refine mv_G_run 2 (F' := (21, [some (.ref (kb false 26)), some (.int v1), some (.int v2), some (.int v3), none, none], [.int v2, .int v3], 0, 0, kjS f I L)) rfl ?_
      by_cases hc1 : v2 ≤ v3
      · rw [if_pos hc1] at h
        refine mv_G_br (tgt := 36) rfl rfl (by decide) (fun _ => ?_) (fun z => absurd hc1 z)
        refine mv_G_run 6 (F' := (42, [some (.ref (kb false 26)), some (.int v1), some (.int v2), some (.int v3), none, none], [.int v1, .ref (kb false 26), .int (0 : Int32), .int (0 : Int32), .int v1, .ref (kb false 26)], 0, 0, kjS f I L)) rfl ?_
        obtain ⟨r2, hc3, h⟩ := mv_bd h
        refine mv_G_call (r := [.int (0 : Int32), .int (0 : Int32), .int v1, .ref (kb false 26)]) (kf85_ok _ _ _ _ _ _ _ _ hc3) rfl rfl rfl rfl rfl (Nat.le_of_ble_eq_true rfl) (Nat.le_of_ble_eq_true rfl) (Nat.le_of_ble_eq_true rfl) ?_
        rintro _ _ ⟨rfl, rfl⟩
        obtain ⟨r4, hc5, h⟩ := mv_bd h
        refine mv_G_call (r := []) (kf88_ok _ _ _ _ _ _ _ _ _ _ _ hc5) rfl rfl rfl rfl rfl (Nat.le_of_ble_eq_true rfl) (Nat.le_of_ble_eq_true rfl) (Nat.le_of_ble_eq_true rfl) ?_
        rintro _ _ ⟨rfl, rfl⟩
        refine mv_G_run 4 (F' := (53, [some (.ref (kb false 26)), some (.int v1), some (.int v2), some (.int (1 : Int32)), some (.int (0 : Int32)), none], [], 0, 0, kjS f r4.1 r4.2)) rfl ?_
        exact kf82_53_ok _ _ _ d _ _ _ _ _ _ _ _ h
      · rw [if_neg hc1] at h
        refine mv_G_br (tgt := 36) rfl rfl (by decide) (fun z => absurd z hc1) (fun _ => ?_)
        refine mv_G_run 3 (F' := (27, [some (.ref (kb false 26)), some (.int v1), some (.int v2), some (.int v3), none, none], [.int v3, .int v1, .ref (kb false 26)], 0, 0, kjS f I L)) rfl ?_
        obtain ⟨r6, hc7, h⟩ := mv_bd h
        refine mv_G_call (r := []) (kf84_ok _ _ _ _ _ _ _ _ hc7) rfl rfl rfl rfl rfl (Nat.le_of_ble_eq_true rfl) (Nat.le_of_ble_eq_true rfl) (Nat.le_of_ble_eq_true rfl) ?_
        rintro _ _ ⟨rfl, rfl⟩
        refine mv_G_run 2 (F' := (19, [some (.ref (kb false 26)), some (.int v1), some (.int v2), some (.int (v3 + (1 : Int32))), none, none], [], 0, 0, kjS f r6.1 r6.2)) rfl ?_
        exact hk19 v1 v2 (v3 + (1 : Int32)) r6.1 r6.2 _ h
  · intro n
    induction n with
    | zero => intro v1 v2 v3 I L r h; cases h
    | succ n ih =>
      have hk19 := ih
      intro v1 v2 v3 I L r h
      unfold kf82_19 at h
      refine mv_G_run 2 (F' := (21, [some (.ref (kb true 26)), some (.int v1), some (.int v2), some (.int v3), none, none], [.int v2, .int v3], 0, 0, kjS f I L)) rfl ?_
      by_cases hc1 : v2 ≤ v3
      · rw [if_pos hc1] at h
        refine mv_G_br (tgt := 36) rfl rfl (by decide) (fun _ => ?_) (fun z => absurd hc1 z)
        refine mv_G_run 6 (F' := (42, [some (.ref (kb true 26)), some (.int v1), some (.int v2), some (.int v3), none, none], [.int v1, .ref (kb true 26), .int (0 : Int32), .int (0 : Int32), .int v1, .ref (kb true 26)], 0, 0, kjS f I L)) rfl ?_
        obtain ⟨r2, hc3, h⟩ := mv_bd h
        refine mv_G_call (r := [.int (0 : Int32), .int (0 : Int32), .int v1, .ref (kb true 26)]) (kf85_ok _ _ _ _ _ _ _ _ hc3) rfl rfl rfl rfl rfl (Nat.le_of_ble_eq_true rfl) (Nat.le_of_ble_eq_true rfl) (Nat.le_of_ble_eq_true rfl) ?_
        rintro _ _ ⟨rfl, rfl⟩
        obtain ⟨r4, hc5, h⟩ := mv_bd h
        refine mv_G_call (r := []) (kf88_ok _ _ _ _ _ _ _ _ _ _ _ hc5) rfl rfl rfl rfl rfl (Nat.le_of_ble_eq_true rfl) (Nat.le_of_ble_eq_true rfl) (Nat.le_of_ble_eq_true rfl) ?_
        rintro _ _ ⟨rfl, rfl⟩
        refine mv_G_run 4 (F' := (53, [some (.ref (kb true 26)), some (.int v1), some (.int v2), some (.int (1 : Int32)), some (.int (0 : Int32)), none], [], 0, 0, kjS f r4.1 r4.2)) rfl ?_
        exact kf82_53_ok _ _ _ d _ _ _ _ _ _ _ _ h
      · rw [if_neg hc1] at h
        refine mv_G_br (tgt := 36) rfl rfl (by decide) (fun z => absurd z hc1) (fun _ => ?_)
        refine mv_G_run 3 (F' := (27, [some (.ref (kb true 26)), some (.int v1), some (.int v2), some (.int v3), none, none], [.int v3, .int v1, .ref (kb true 26)], 0, 0, kjS f I L)) rfl ?_
        obtain ⟨r6, hc7, h⟩ := mv_bd h
        refine mv_G_call (r := []) (kf84_ok _ _ _ _ _ _ _ _ hc7) rfl rfl rfl rfl rfl (Nat.le_of_ble_eq_true rfl) (Nat.le_of_ble_eq_true rfl) (Nat.le_of_ble_eq_true rfl) ?_
        rintro _ _ ⟨rfl, rfl⟩
        refine mv_G_run 2 (F' := (19, [some (.ref (kb true 26)), some (.int v1), some (.int v2), some (.int (v3 + (1 : Int32))), none, none], [], 0, 0, kjS f r6.1 r6.2)) rfl ?_
        exact hk19 v1 v2 (v3 + (1 : Int32)) r6.1 r6.2 _ h
def kf82 (b : Bool) (N : Nat) (v1 : Int32) (I : kjI) (L : kjL) : Option (kjI × kjL) :=
  (kf32 b I L v1).bind fun r1 => kf82_19 b N N v1 (if (120 : Int32) < r1 then (120 : Int32) else r1) (0 : Int32) I L
set_option maxRecDepth 100000 in
set_option maxHeartbeats 4000000 in
theorem kf82_ok (f : Bool) (b : Bool) (N : Nat) (v1 : Int32) (I : kjI) (L : kjL) (d : Nat) (r : kjI × kjL) (h : kf82 b N v1 I L = some r) : mv_C kjP kjSta (d + 6) 82 [.ref (kb b 26), .int v1] (kjS f I L) (kjQwv f r) := by
  cases b
  · unfold kf82 at h
    refine mv_C_in kjM_82 (lc := [some (.ref (kb false 26)), some (.int v1), none, none, none, none]) rfl rfl rfl ?_
    refine mv_G_run 3 (F' := (5, [some (.ref (kb false 26)), some (.int v1), none, none, none, none], [.int v1, .ref (kb false 4)], 0, 0, kjS f I L)) rfl ?_
    obtain ⟨r1, hc2, h⟩ := mv_bd h
    refine mv_G_call (r := []) (kf32_ok _ _ _ _ _ _ _ hc2) rfl rfl rfl rfl rfl (Nat.le_of_ble_eq_true rfl) (Nat.le_of_ble_eq_true rfl) (Nat.le_of_ble_eq_true rfl) ?_
    rintro _ _ ⟨rfl, rfl⟩
    refine mv_G_run 7 (F' := (19, [some (.ref (kb false 26)), some (.int v1), some (.int (if (120 : Int32) < r1 then (120 : Int32) else r1)), some (.int (0 : Int32)), none, none], [], 0, 0, kjS f I L)) rfl ?_
    exact kf82_19_ok _ _ _ d _ _ _ _ _ _ _ h
  · unfold kf82 at h
    refine mv_C_in kjM_82 (lc := [some (.ref (kb true 26)), some (.int v1), none, none, none, none]) rfl rfl rfl ?_
    refine mv_G_run 3 (F' := (5, [some (.ref (kb true 26)), some (.int v1), none, none, none, none], [.int v1, .ref (kb true 4)], 0, 0, kjS f I L)) rfl ?_
    obtain ⟨r1, hc2, h⟩ := mv_bd h
    refine mv_G_call (r := []) (kf32_ok _ _ _ _ _ _ _ hc2) rfl rfl rfl rfl rfl (Nat.le_of_ble_eq_true rfl) (Nat.le_of_ble_eq_true rfl) (Nat.le_of_ble_eq_true rfl) ?_
    rintro _ _ ⟨rfl, rfl⟩
    refine mv_G_run 7 (F' := (19, [some (.ref (kb true 26)), some (.int v1), some (.int (if (120 : Int32) < r1 then (120 : Int32) else r1)), some (.int (0 : Int32)), none, none], [], 0, 0, kjS f I L)) rfl ?_
    exact kf82_19_ok _ _ _ d _ _ _ _ _ _ _ h
/-! KindJudge$Flow.areInts(I)Z on ('b', 26) -/
def kf95_2 (b : Bool) (N : Nat) (I : kjI) (L : kjL) : Nat → Int32 → Option (Int32)
  | 0, _ => none
  | n + 1, v2 => if (I (kb b 26) 8) ≤ ((I (kb b 26) 9) + v2) then (some (1 : Int32)) else ((kf92 b I L v2).bind fun r2 => if r2 = (1 : Int32) then ((fun v2 => kf95_2 b N I L n v2) (v2 + (1 : Int32))) else (some (0 : Int32)))
set_option maxRecDepth 100000 in
set_option maxHeartbeats 4000000 in
theorem kf95_2_ok (f : Bool) (b : Bool) (N : Nat) (I : kjI) (L : kjL) (d : Nat)  : ∀ (n : Nat) (v2 : Int32) (r : Int32), kf95_2 b N I L n v2 = some r → mv_G kjP kjSta (mv_C kjP kjSta (d + 2)) kjM_95 (kjQi f I L r) (2, [some (.ref (kb b 26)), none, some (.int v2)], [], 0, 0, kjS f I L) := by
  cases b
  · intro n
    induction n with
    | zero => intro v2 r h; cases h
    | succ n ih =>
      have hk2 := ih
      intro v2 r h
      unfold kf95_2 at h
      refine mv_G_run 6 (F' := (12, [some (.ref (kb false 26)), none, some (.int v2)], [.int (I (kb false 26) 8), .int ((I (kb false 26) 9) + v2)], 0, 0, kjS f I L)) rfl ?_
      by_cases hc1 : (I (kb false 26) 8) ≤ ((I (kb false 26) 9) + v2)
      · rw [if_pos hc1] at h
        refine mv_G_br (tgt := 32) rfl rfl (by decide) (fun _ => ?_) (fun z => absurd hc1 z)
        refine mv_G_run 1 (F' := (33, [some (.ref (kb false 26)), none, some (.int v2)], [.int (1 : Int32)], 0, 0, kjS f I L)) rfl ?_
        obtain rfl := Option.some.inj h
        exact mv_G_ret rfl rfl rfl (Nat.le_refl _) (Or.inr rfl) ⟨rfl, rfl⟩
      · rw [if_neg hc1] at h
        refine mv_G_br (tgt := 32) rfl rfl (by decide) (fun z => absurd z hc1) (fun _ => ?_)
        refine mv_G_run 2 (F' := (17, [some (.ref (kb false 26)), none, some (.int v2)], [.int v2, .ref (kb false 26)], 0, 0, kjS f I L)) rfl ?_
        obtain ⟨r2, hc3, h⟩ := mv_bd h
        refine mv_G_call (r := []) (kf92_ok _ _ _ _ _ _ _ hc3) rfl rfl rfl rfl rfl (Nat.le_of_ble_eq_true rfl) (Nat.le_of_ble_eq_true rfl) (Nat.le_of_ble_eq_true rfl) ?_
        rintro _ _ ⟨rfl, rfl⟩
        refine mv_G_run 1 (F' := (21, [some (.ref (kb false 26)), none, some (.int v2)], [.int (1 : Int32), .int r2], 0, 0, kjS f I L)) rfl ?_
        by_cases hc4 : r2 = (1 : Int32)
        · rw [if_pos hc4] at h
          refine mv_G_br (tgt := 26) rfl rfl (by decide) (fun _ => ?_) (fun z => absurd hc4 z)
          refine mv_G_run 2 (F' := (2, [some (.ref (kb false 26)), none, some (.int (v2 + (1 : Int32)))], [], 0, 0, kjS f I L)) rfl ?_
          exact hk2 (v2 + (1 : Int32)) _ h
        · rw [if_neg hc4] at h
          refine mv_G_br (tgt := 26) rfl rfl (by decide) (fun z => absurd z hc4) (fun _ => ?_)
          refine mv_G_run 1 (F' := (25, [some (.ref (kb false 26)), none, some (.int v2)], [.int (0 : Int32)], 0, 0, kjS f I L)) rfl ?_
          obtain rfl := Option.some.inj h
          exact mv_G_ret rfl rfl rfl (Nat.le_refl _) (Or.inl rfl) ⟨rfl, rfl⟩
  · intro n
    induction n with
    | zero => intro v2 r h; cases h
    | succ n ih =>
      have hk2 := ih
      intro v2 r h
      unfold kf95_2 at h
      refine mv_G_run 6 (F' := (12, [some (.ref (kb true 26)), none, some (.int v2)], [.int (I (kb true 26) 8), .int ((I (kb true 26) 9) + v2)], 0, 0, kjS f I L)) rfl ?_
      by_cases hc1 : (I (kb true 26) 8) ≤ ((I (kb true 26) 9) + v2)
      · rw [if_pos hc1] at h
        refine mv_G_br (tgt := 32) rfl rfl (by decide) (fun _ => ?_) (fun z => absurd hc1 z)
        refine mv_G_run 1 (F' := (33, [some (.ref (kb true 26)), none, some (.int v2)], [.int (1 : Int32)], 0, 0, kjS f I L)) rfl ?_
        obtain rfl := Option.some.inj h
        exact mv_G_ret rfl rfl rfl (Nat.le_refl _) (Or.inr rfl) ⟨rfl, rfl⟩
      · rw [if_neg hc1] at h
        refine mv_G_br (tgt := 32) rfl rfl (by decide) (fun z => absurd z hc1) (fun _ => ?_)
        refine mv_G_run 2 (F' := (17, [some (.ref (kb true 26)), none, some (.int v2)], [.int v2, .ref (kb true 26)], 0, 0, kjS f I L)) rfl ?_
        obtain ⟨r2, hc3, h⟩ := mv_bd h
        refine mv_G_call (r := []) (kf92_ok _ _ _ _ _ _ _ hc3) rfl rfl rfl rfl rfl (Nat.le_of_ble_eq_true rfl) (Nat.le_of_ble_eq_true rfl) (Nat.le_of_ble_eq_true rfl) ?_
        rintro _ _ ⟨rfl, rfl⟩
        refine mv_G_run 1 (F' := (21, [some (.ref (kb true 26)), none, some (.int v2)], [.int (1 : Int32), .int r2], 0, 0, kjS f I L)) rfl ?_
        by_cases hc4 : r2 = (1 : Int32)
        · rw [if_pos hc4] at h
          refine mv_G_br (tgt := 26) rfl rfl (by decide) (fun _ => ?_) (fun z => absurd hc4 z)
          refine mv_G_run 2 (F' := (2, [some (.ref (kb true 26)), none, some (.int (v2 + (1 : Int32)))], [], 0, 0, kjS f I L)) rfl ?_
          exact hk2 (v2 + (1 : Int32)) _ h
        · rw [if_neg hc4] at h
          refine mv_G_br (tgt := 26) rfl rfl (by decide) (fun z => absurd z hc4) (fun _ => ?_)
          refine mv_G_run 1 (F' := (25, [some (.ref (kb true 26)), none, some (.int v2)], [.int (0 : Int32)], 0, 0, kjS f I L)) rfl ?_
          obtain rfl := Option.some.inj h
          exact mv_G_ret rfl rfl rfl (Nat.le_refl _) (Or.inl rfl) ⟨rfl, rfl⟩
def kf95 (b : Bool) (N : Nat) (I : kjI) (L : kjL) (v1 : Int32) : Option (Int32) :=
  kf95_2 b N I L N v1
set_option maxRecDepth 100000 in
set_option maxHeartbeats 4000000 in
theorem kf95_ok (f : Bool) (b : Bool) (N : Nat) (I : kjI) (L : kjL) (v1 : Int32) (d : Nat) (r : Int32) (h : kf95 b N I L v1 = some r) : mv_C kjP kjSta (d + 3) 95 [.ref (kb b 26), .int v1] (kjS f I L) (kjQi f I L r) := by
  cases b
  · unfold kf95 at h
    refine mv_C_in kjM_95 (lc := [some (.ref (kb false 26)), some (.int v1), none]) rfl rfl rfl ?_
    refine mv_G_run 2 (F' := (2, [some (.ref (kb false 26)), some (.int v1), some (.int v1)], [], 0, 0, kjS f I L)) rfl ?_
    refine mv_G_fg (lc' := [some (.ref (kb false 26)), none, some (.int v1)]) (And.intro rfl (And.intro rfl trivial)) ?_
    exact kf95_2_ok _ _ _ _ _ d _ _ _ h
  · unfold kf95 at h
    refine mv_C_in kjM_95 (lc := [some (.ref (kb true 26)), some (.int v1), none]) rfl rfl rfl ?_
    refine mv_G_run 2 (F' := (2, [some (.ref (kb true 26)), some (.int v1), some (.int v1)], [], 0, 0, kjS f I L)) rfl ?_
    refine mv_G_fg (lc' := [some (.ref (kb true 26)), none, some (.int v1)]) (And.intro rfl (And.intro rfl trivial)) ?_
    exact kf95_2_ok _ _ _ _ _ d _ _ _ h
/-! KindJudge$Flow.isArrayOrObject(I)Z -/
def kf97 (I : kjI) (L : kjL) (v0 : Int32) : Option (Int32) :=
  if v0 = 0 then (some (0 : Int32)) else (if v0 = (1 : Int32) then (some (0 : Int32)) else (some (1 : Int32)))
set_option maxRecDepth 100000 in
set_option maxHeartbeats 4000000 in
theorem kf97_ok (f : Bool) (I : kjI) (L : kjL) (v0 : Int32) (d : Nat) (r : Int32) (h : kf97 I L v0 = some r) : mv_C kjP kjSta (d + 1) 97 [.int v0] (kjS f I L) (kjQi f I L r) := by
  unfold kf97 at h
  refine mv_C_in kjM_97 (lc := [some (.int v0)]) rfl rfl rfl ?_
  refine mv_G_run 1 (F' := (1, [some (.int v0)], [.int v0], 0, 0, kjS f I L)) rfl ?_
  by_cases hc1 : v0 = 0
  · rw [if_pos hc1] at h
    refine mv_G_br (tgt := 13) rfl rfl (by decide) (fun _ => ?_) (fun z => absurd hc1 z)
    refine mv_G_run 1 (F' := (14, [some (.int v0)], [.int (0 : Int32)], 0, 0, kjS f I L)) rfl ?_
    obtain rfl := Option.some.inj h
    exact mv_G_ret rfl rfl rfl (Nat.le_refl _) (Or.inl rfl) ⟨rfl, rfl⟩
  · rw [if_neg hc1] at h
    refine mv_G_br (tgt := 13) rfl rfl (by decide) (fun z => absurd z hc1) (fun _ => ?_)
    refine mv_G_run 2 (F' := (6, [some (.int v0)], [.int (1 : Int32), .int v0], 0, 0, kjS f I L)) rfl ?_
    by_cases hc2 : v0 = (1 : Int32)
    · rw [if_pos hc2] at h
      refine mv_G_br (tgt := 13) rfl rfl (by decide) (fun _ => ?_) (fun z => absurd hc2 z)
      refine mv_G_run 1 (F' := (14, [some (.int v0)], [.int (0 : Int32)], 0, 0, kjS f I L)) rfl ?_
      obtain rfl := Option.some.inj h
      exact mv_G_ret rfl rfl rfl (Nat.le_refl _) (Or.inl rfl) ⟨rfl, rfl⟩
    · rw [if_neg hc2] at h
      refine mv_G_br (tgt := 13) rfl rfl (by decide) (fun z => absurd z hc2) (fun _ => ?_)
      refine mv_G_run 2 (F' := (14, [some (.int v0)], [.int (1 : Int32)], 0, 0, kjS f I L)) rfl ?_
      obtain rfl := Option.some.inj h
      exact mv_G_ret rfl rfl rfl (Nat.le_refl _) (Or.inr rfl) ⟨rfl, rfl⟩
/-! KindJudge$Flow.areParameters(LKindJudge$Signatures;I)Z on ('b', 26) -/
def kf96_12 (b : Bool) (N : Nat) (I : kjI) (L : kjL) : Nat → Int32 → Int32 → Int32 → Option (Int32)
  | 0, _, _, _ => none
  | n + 1, v2, v3, v4 => if v3 ≤ v4 then (some (1 : Int32)) else ((kf92 b I L (v2 + v4)).bind fun r2 => (kf51a b I L (I (kb b 26) 6) v4).bind fun r4 => (kf44 b I L r2 r4).bind fun r6 => if ¬ r6 = 0 then ((fun v2 v3 v4 => kf96_12 b N I L n v2 v3 v4) v2 v3 (v4 + (1 : Int32))) else (some (0 : Int32)))
set_option maxRecDepth 100000 in
set_option maxHeartbeats 4000000 in
theorem kf96_12_ok (f : Bool) (b : Bool) (N : Nat) (I : kjI) (L : kjL) (d : Nat)  : ∀ (n : Nat) (v2 : Int32) (v3 : Int32) (v4 : Int32) (r : Int32), kf96_12 b N I L n v2 v3 v4 = some r → mv_G kjP kjSta (mv_C kjP kjSta (d + 2)) kjM_96 (kjQi f I L r) (12, [some (.ref (kb b 26)), some (.ref (kb b 10)), some (.int v2), some (.int v3), some (.int v4)], [], 0, 0, kjS f I L) := by
  cases b
  · intro n
    induction n with
    | zero => intro v2 v3 v4 r h; cases h
    | succ n ih =>
      have hk12 := ih
      intro v2 v3 v4 r h
      unfold kf96_12 at h
      refine mv_G_run 2 (F' := (15, [some (.ref (kb false 26)), some (.ref (kb false 10)), some (.int v2), some (.int v3), some (.int v4)], [.int v3, .int v4], 0, 0, kjS f I L)) rfl ?_
      by_cases hc1 : v3 ≤ v4
      · rw [if_pos hc1] at h
        refine mv_G_br (tgt := 57) rfl rfl (by decide) (fun _ => ?_) (fun z => absurd hc1 z)
        refine mv_G_run 1 (F' := (58, [some (.ref (kb false 26)), some (.ref (kb false 10)), some (.int v2), some (.int v3), some (.int v4)], [.int (1 : Int32)], 0, 0, kjS f I L)) rfl ?_
        obtain rfl := Option.some.inj h
        exact mv_G_ret rfl rfl rfl (Nat.le_refl _) (Or.inr rfl) ⟨rfl, rfl⟩
      · rw [if_neg hc1] at h
        refine mv_G_br (tgt := 57) rfl rfl (by decide) (fun z => absurd z hc1) (fun _ => ?_)
        refine mv_G_run 7 (F' := (30, [some (.ref (kb false 26)), some (.ref (kb false 10)), some (.int v2), some (.int v3), some (.int v4)], [.int (v2 + v4), .ref (kb false 26), .ref (kb false 5)], 0, 0, kjS f I L)) rfl ?_
        obtain ⟨r2, hc3, h⟩ := mv_bd h
        refine mv_G_call (r := [.ref (kb false 5)]) (kf92_ok _ _ _ _ _ _ _ hc3) rfl rfl rfl rfl rfl (Nat.le_of_ble_eq_true rfl) (Nat.le_of_ble_eq_true rfl) (Nat.le_of_ble_eq_true rfl) ?_
        rintro _ _ ⟨rfl, rfl⟩
        refine mv_G_run 4 (F' := (40, [some (.ref (kb false 26)), some (.ref (kb false 10)), some (.int v2), some (.int v3), some (.int v4)], [.int v4, .int (I (kb false 26) 6), .ref (kb false 10), .int r2, .ref (kb false 5)], 0, 0, kjS f I L)) rfl ?_
        obtain ⟨r4, hc5, h⟩ := mv_bd h
        refine mv_G_call (r := [.int r2, .ref (kb false 5)]) (kf51a_ok _ _ _ _ _ _ _ _ hc5) rfl rfl rfl rfl rfl (Nat.le_of_ble_eq_true rfl) (Nat.le_of_ble_eq_true rfl) (Nat.le_of_ble_eq_true rfl) ?_
        rintro _ _ ⟨rfl, rfl⟩
        obtain ⟨r6, hc7, h⟩ := mv_bd h
        refine mv_G_call (r := []) (kf44_ok _ _ _ _ _ _ _ _ hc7) rfl rfl rfl rfl rfl (Nat.le_of_ble_eq_true rfl) (Nat.le_of_ble_eq_true rfl) (Nat.le_of_ble_eq_true rfl) ?_
        rintro _ _ ⟨rfl, rfl⟩
        by_cases hc8 : ¬ r6 = 0
        · rw [if_pos hc8] at h
          refine mv_G_br (tgt := 51) rfl rfl (by decide) (fun _ => ?_) (fun z => absurd hc8 z)
          refine mv_G_run 2 (F' := (12, [some (.ref (kb false 26)), some (.ref (kb false 10)), some (.int v2), some (.int v3), some (.int (v4 + (1 : Int32)))], [], 0, 0, kjS f I L)) rfl ?_
          exact hk12 v2 v3 (v4 + (1 : Int32)) _ h
        · rw [if_neg hc8] at h
          refine mv_G_br (tgt := 51) rfl rfl (by decide) (fun z => absurd z hc8) (fun _ => ?_)
          refine mv_G_run 1 (F' := (50, [some (.ref (kb false 26)), some (.ref (kb false 10)), some (.int v2), some (.int v3), some (.int v4)], [.int (0 : Int32)], 0, 0, kjS f I L)) rfl ?_
          obtain rfl := Option.some.inj h
          exact mv_G_ret rfl rfl rfl (Nat.le_refl _) (Or.inl rfl) ⟨rfl, rfl⟩
  · intro n
    induction n with
    | zero => intro v2 v3 v4 r h; cases h
    | succ n ih =>
      have hk12 := ih
      intro v2 v3 v4 r h
      unfold kf96_12 at h
      refine mv_G_run 2 (F' := (15, [some (.ref (kb true 26)), some (.ref (kb true 10)), some (.int v2), some (.int v3), some (.int v4)], [.int v3, .int v4], 0, 0, kjS f I L)) rfl ?_
      by_cases hc1 : v3 ≤ v4
      · rw [if_pos hc1] at h
        refine mv_G_br (tgt := 57) rfl rfl (by decide) (fun _ => ?_) (fun z => absurd hc1 z)
        refine mv_G_run 1 (F' := (58, [some (.ref (kb true 26)), some (.ref (kb true 10)), some (.int v2), some (.int v3), some (.int v4)], [.int (1 : Int32)], 0, 0, kjS f I L)) rfl ?_
        obtain rfl := Option.some.inj h
        exact mv_G_ret rfl rfl rfl (Nat.le_refl _) (Or.inr rfl) ⟨rfl, rfl⟩
      · rw [if_neg hc1] at h
        refine mv_G_br (tgt := 57) rfl rfl (by decide) (fun z => absurd z hc1) (fun _ => ?_)
        refine mv_G_run 7 (F' := (30, [some (.ref (kb true 26)), some (.ref (kb true 10)), some (.int v2), some (.int v3), some (.int v4)], [.int (v2 + v4), .ref (kb true 26), .ref (kb true 5)], 0, 0, kjS f I L)) rfl ?_
        obtain ⟨r2, hc3, h⟩ := mv_bd h
        refine mv_G_call (r := [.ref (kb true 5)]) (kf92_ok _ _ _ _ _ _ _ hc3) rfl rfl rfl rfl rfl (Nat.le_of_ble_eq_true rfl) (Nat.le_of_ble_eq_true rfl) (Nat.le_of_ble_eq_true rfl) ?_
        rintro _ _ ⟨rfl, rfl⟩
        refine mv_G_run 4 (F' := (40, [some (.ref (kb true 26)), some (.ref (kb true 10)), some (.int v2), some (.int v3), some (.int v4)], [.int v4, .int (I (kb true 26) 6), .ref (kb true 10), .int r2, .ref (kb true 5)], 0, 0, kjS f I L)) rfl ?_
        obtain ⟨r4, hc5, h⟩ := mv_bd h
        refine mv_G_call (r := [.int r2, .ref (kb true 5)]) (kf51a_ok _ _ _ _ _ _ _ _ hc5) rfl rfl rfl rfl rfl (Nat.le_of_ble_eq_true rfl) (Nat.le_of_ble_eq_true rfl) (Nat.le_of_ble_eq_true rfl) ?_
        rintro _ _ ⟨rfl, rfl⟩
        obtain ⟨r6, hc7, h⟩ := mv_bd h
        refine mv_G_call (r := []) (kf44_ok _ _ _ _ _ _ _ _ hc7) rfl rfl rfl rfl rfl (Nat.le_of_ble_eq_true rfl) (Nat.le_of_ble_eq_true rfl) (Nat.le_of_ble_eq_true rfl) ?_
        rintro _ _ ⟨rfl, rfl⟩
        by_cases hc8 : ¬ r6 = 0
        · rw [if_pos hc8] at h
          refine mv_G_br (tgt := 51) rfl rfl (by decide) (fun _ => ?_) (fun z => absurd hc8 z)
          refine mv_G_run 2 (F' := (12, [some (.ref (kb true 26)), some (.ref (kb true 10)), some (.int v2), some (.int v3), some (.int (v4 + (1 : Int32)))], [], 0, 0, kjS f I L)) rfl ?_
          exact hk12 v2 v3 (v4 + (1 : Int32)) _ h
        · rw [if_neg hc8] at h
          refine mv_G_br (tgt := 51) rfl rfl (by decide) (fun z => absurd z hc8) (fun _ => ?_)
          refine mv_G_run 1 (F' := (50, [some (.ref (kb true 26)), some (.ref (kb true 10)), some (.int v2), some (.int v3), some (.int v4)], [.int (0 : Int32)], 0, 0, kjS f I L)) rfl ?_
          obtain rfl := Option.some.inj h
          exact mv_G_ret rfl rfl rfl (Nat.le_refl _) (Or.inl rfl) ⟨rfl, rfl⟩
def kf96 (b : Bool) (N : Nat) (I : kjI) (L : kjL) (v2 : Int32) : Option (Int32) :=
  (kf50a b I L (I (kb b 26) 6)).bind fun r1 => kf96_12 b N I L N v2 r1 (0 : Int32)
set_option maxRecDepth 100000 in
set_option maxHeartbeats 4000000 in
theorem kf96_ok (f : Bool) (b : Bool) (N : Nat) (I : kjI) (L : kjL) (v2 : Int32) (d : Nat) (r : Int32) (h : kf96 b N I L v2 = some r) : mv_C kjP kjSta (d + 3) 96 [.ref (kb b 26), .ref (kb b 10), .int v2] (kjS f I L) (kjQi f I L r) := by
  cases b
  · unfold kf96 at h
    refine mv_C_in kjM_96 (lc := [some (.ref (kb false 26)), some (.ref (kb false 10)), some (.int v2), none, none]) rfl rfl rfl ?_
    refine mv_G_run 3 (F' := (5, [some (.ref (kb false 26)), some (.ref (kb false 10)), some (.int v2), none, none], [.int (I (kb false 26) 6), .ref (kb false 10)], 0, 0, kjS f I L)) rfl ?_
    obtain ⟨r1, hc2, h⟩ := mv_bd h
    refine mv_G_call (r := []) (kf50a_ok _ _ _ _ _ _ _ hc2) rfl rfl rfl rfl rfl (Nat.le_of_ble_eq_true rfl) (Nat.le_of_ble_eq_true rfl) (Nat.le_of_ble_eq_true rfl) ?_
    rintro _ _ ⟨rfl, rfl⟩
    refine mv_G_run 3 (F' := (12, [some (.ref (kb false 26)), some (.ref (kb false 10)), some (.int v2), some (.int r1), some (.int (0 : Int32))], [], 0, 0, kjS f I L)) rfl ?_
    exact kf96_12_ok _ _ _ _ _ d _ _ _ _ _ h
  · unfold kf96 at h
    refine mv_C_in kjM_96 (lc := [some (.ref (kb true 26)), some (.ref (kb true 10)), some (.int v2), none, none]) rfl rfl rfl ?_
    refine mv_G_run 3 (F' := (5, [some (.ref (kb true 26)), some (.ref (kb true 10)), some (.int v2), none, none], [.int (I (kb true 26) 6), .ref (kb true 10)], 0, 0, kjS f I L)) rfl ?_
    obtain ⟨r1, hc2, h⟩ := mv_bd h
    refine mv_G_call (r := []) (kf50a_ok _ _ _ _ _ _ _ hc2) rfl rfl rfl rfl rfl (Nat.le_of_ble_eq_true rfl) (Nat.le_of_ble_eq_true rfl) (Nat.le_of_ble_eq_true rfl) ?_
    rintro _ _ ⟨rfl, rfl⟩
    refine mv_G_run 3 (F' := (12, [some (.ref (kb true 26)), some (.ref (kb true 10)), some (.int v2), some (.int r1), some (.int (0 : Int32))], [], 0, 0, kjS f I L)) rfl ?_
    exact kf96_12_ok _ _ _ _ _ d _ _ _ _ _ h
/-! KindJudge$Flow.areParameters(LKindJudge$Signatures;I)Z on ('b', 26) -/
def kf96a_12 (b : Bool) (N : Nat) (I : kjI) (L : kjL) : Nat → Int32 → Int32 → Int32 → Option (Int32)
  | 0, _, _, _ => none
  | n + 1, v2, v3, v4 => if v3 ≤ v4 then (some (1 : Int32)) else ((kf92 b I L (v2 + v4)).bind fun r2 => (kf51 b I L (I (kb b 26) 6) v4).bind fun r4 => (kf44 b I L r2 r4).bind fun r6 => if ¬ r6 = 0 then ((fun v2 v3 v4 => kf96a_12 b N I L n v2 v3 v4) v2 v3 (v4 + (1 : Int32))) else (some (0 : Int32)))
set_option maxRecDepth 100000 in
set_option maxHeartbeats 4000000 in
theorem kf96a_12_ok (f : Bool) (b : Bool) (N : Nat) (I : kjI) (L : kjL) (d : Nat)  : ∀ (n : Nat) (v2 : Int32) (v3 : Int32) (v4 : Int32) (r : Int32), kf96a_12 b N I L n v2 v3 v4 = some r → mv_G kjP kjSta (mv_C kjP kjSta (d + 2)) kjM_96 (kjQi f I L r) (12, [some (.ref (kb b 26)), some (.ref (kb b 14)), some (.int v2), some (.int v3), some (.int v4)], [], 0, 0, kjS f I L) := by
  cases b
  · intro n
    induction n with
    | zero => intro v2 v3 v4 r h; cases h
    | succ n ih =>
      have hk12 := ih
      intro v2 v3 v4 r h
      unfold kf96a_12 at h
      refine mv_G_run 2 (F' := (15, [some (.ref (kb false 26)), some (.ref (kb false 14)), some (.int v2), some (.int v3), some (.int v4)], [.int v3, .int v4], 0, 0, kjS f I L)) rfl ?_
      by_cases hc1 : v3 ≤ v4
      · rw [if_pos hc1] at h
        refine mv_G_br (tgt := 57) rfl rfl (by decide) (fun _ => ?_) (fun z => absurd hc1 z)
        refine mv_G_run 1 (F' := (58, [some (.ref (kb false 26)), some (.ref (kb false 14)), some (.int v2), some (.int v3), some (.int v4)], [.int (1 : Int32)], 0, 0, kjS f I L)) rfl ?_
        obtain rfl := Option.some.inj h
        exact mv_G_ret rfl rfl rfl (Nat.le_refl _) (Or.inr rfl) ⟨rfl, rfl⟩
      · rw [if_neg hc1] at h
        refine mv_G_br (tgt := 57) rfl rfl (by decide) (fun z => absurd z hc1) (fun _ => ?_)
        refine mv_G_run 7 (F' := (30, [some (.ref (kb false 26)), some (.ref (kb false 14)), some (.int v2), some (.int v3), some (.int v4)], [.int (v2 + v4), .ref (kb false 26), .ref (kb false 5)], 0, 0, kjS f I L)) rfl ?_
        obtain ⟨r2, hc3, h⟩ := mv_bd h
        refine mv_G_call (r := [.ref (kb false 5)]) (kf92_ok _ _ _ _ _ _ _ hc3) rfl rfl rfl rfl rfl (Nat.le_of_ble_eq_true rfl) (Nat.le_of_ble_eq_true rfl) (Nat.le_of_ble_eq_true rfl) ?_
        rintro _ _ ⟨rfl, rfl⟩
        refine mv_G_run 4 (F' := (40, [some (.ref (kb false 26)), some (.ref (kb false 14)), some (.int v2), some (.int v3), some (.int v4)], [.int v4, .int (I (kb false 26) 6), .ref (kb false 14), .int r2, .ref (kb false 5)], 0, 0, kjS f I L)) rfl ?_
        obtain ⟨r4, hc5, h⟩ := mv_bd h
        refine mv_G_call (r := [.int r2, .ref (kb false 5)]) (kf51_ok _ _ _ _ _ _ _ _ hc5) rfl rfl rfl rfl rfl (Nat.le_of_ble_eq_true rfl) (Nat.le_of_ble_eq_true rfl) (Nat.le_of_ble_eq_true rfl) ?_
        rintro _ _ ⟨rfl, rfl⟩
        obtain ⟨r6, hc7, h⟩ := mv_bd h
        refine mv_G_call (r := []) (kf44_ok _ _ _ _ _ _ _ _ hc7) rfl rfl rfl rfl rfl (Nat.le_of_ble_eq_true rfl) (Nat.le_of_ble_eq_true rfl) (Nat.le_of_ble_eq_true rfl) ?_
        rintro _ _ ⟨rfl, rfl⟩
        by_cases hc8 : ¬ r6 = 0
        · rw [if_pos hc8] at h
          refine mv_G_br (tgt := 51) rfl rfl (by decide) (fun _ => ?_) (fun z => absurd hc8 z)
          refine mv_G_run 2 (F' := (12, [some (.ref (kb false 26)), some (.ref (kb false 14)), some (.int v2), some (.int v3), some (.int (v4 + (1 : Int32)))], [], 0, 0, kjS f I L)) rfl ?_
          exact hk12 v2 v3 (v4 + (1 : Int32)) _ h
        · rw [if_neg hc8] at h
          refine mv_G_br (tgt := 51) rfl rfl (by decide) (fun z => absurd z hc8) (fun _ => ?_)
          refine mv_G_run 1 (F' := (50, [some (.ref (kb false 26)), some (.ref (kb false 14)), some (.int v2), some (.int v3), some (.int v4)], [.int (0 : Int32)], 0, 0, kjS f I L)) rfl ?_
          obtain rfl := Option.some.inj h
          exact mv_G_ret rfl rfl rfl (Nat.le_refl _) (Or.inl rfl) ⟨rfl, rfl⟩
  · intro n
    induction n with
    | zero => intro v2 v3 v4 r h; cases h
    | succ n ih =>
      have hk12 := ih
      intro v2 v3 v4 r h
      unfold kf96a_12 at h
      refine mv_G_run 2 (F' := (15, [some (.ref (kb true 26)), some (.ref (kb true 14)), some (.int v2), some (.int v3), some (.int v4)], [.int v3, .int v4], 0, 0, kjS f I L)) rfl ?_
      by_cases hc1 : v3 ≤ v4
      · rw [if_pos hc1] at h
        refine mv_G_br (tgt := 57) rfl rfl (by decide) (fun _ => ?_) (fun z => absurd hc1 z)
        refine mv_G_run 1 (F' := (58, [some (.ref (kb true 26)), some (.ref (kb true 14)), some (.int v2), some (.int v3), some (.int v4)], [.int (1 : Int32)], 0, 0, kjS f I L)) rfl ?_
        obtain rfl := Option.some.inj h
        exact mv_G_ret rfl rfl rfl (Nat.le_refl _) (Or.inr rfl) ⟨rfl, rfl⟩
      · rw [if_neg hc1] at h
        refine mv_G_br (tgt := 57) rfl rfl (by decide) (fun z => absurd z hc1) (fun _ => ?_)
        refine mv_G_run 7 (F' := (30, [some (.ref (kb true 26)), some (.ref (kb true 14)), some (.int v2), some (.int v3), some (.int v4)], [.int (v2 + v4), .ref (kb true 26), .ref (kb true 5)], 0, 0, kjS f I L)) rfl ?_
        obtain ⟨r2, hc3, h⟩ := mv_bd h
        refine mv_G_call (r := [.ref (kb true 5)]) (kf92_ok _ _ _ _ _ _ _ hc3) rfl rfl rfl rfl rfl (Nat.le_of_ble_eq_true rfl) (Nat.le_of_ble_eq_true rfl) (Nat.le_of_ble_eq_true rfl) ?_
        rintro _ _ ⟨rfl, rfl⟩
        refine mv_G_run 4 (F' := (40, [some (.ref (kb true 26)), some (.ref (kb true 14)), some (.int v2), some (.int v3), some (.int v4)], [.int v4, .int (I (kb true 26) 6), .ref (kb true 14), .int r2, .ref (kb true 5)], 0, 0, kjS f I L)) rfl ?_
        obtain ⟨r4, hc5, h⟩ := mv_bd h
        refine mv_G_call (r := [.int r2, .ref (kb true 5)]) (kf51_ok _ _ _ _ _ _ _ _ hc5) rfl rfl rfl rfl rfl (Nat.le_of_ble_eq_true rfl) (Nat.le_of_ble_eq_true rfl) (Nat.le_of_ble_eq_true rfl) ?_
        rintro _ _ ⟨rfl, rfl⟩
        obtain ⟨r6, hc7, h⟩ := mv_bd h
        refine mv_G_call (r := []) (kf44_ok _ _ _ _ _ _ _ _ hc7) rfl rfl rfl rfl rfl (Nat.le_of_ble_eq_true rfl) (Nat.le_of_ble_eq_true rfl) (Nat.le_of_ble_eq_true rfl) ?_
        rintro _ _ ⟨rfl, rfl⟩
        by_cases hc8 : ¬ r6 = 0
        · rw [if_pos hc8] at h
          refine mv_G_br (tgt := 51) rfl rfl (by decide) (fun _ => ?_) (fun z => absurd hc8 z)
          refine mv_G_run 2 (F' := (12, [some (.ref (kb true 26)), some (.ref (kb true 14)), some (.int v2), some (.int v3), some (.int (v4 + (1 : Int32)))], [], 0, 0, kjS f I L)) rfl ?_
          exact hk12 v2 v3 (v4 + (1 : Int32)) _ h
        · rw [if_neg hc8] at h
          refine mv_G_br (tgt := 51) rfl rfl (by decide) (fun z => absurd z hc8) (fun _ => ?_)
          refine mv_G_run 1 (F' := (50, [some (.ref (kb true 26)), some (.ref (kb true 14)), some (.int v2), some (.int v3), some (.int v4)], [.int (0 : Int32)], 0, 0, kjS f I L)) rfl ?_
          obtain rfl := Option.some.inj h
          exact mv_G_ret rfl rfl rfl (Nat.le_refl _) (Or.inl rfl) ⟨rfl, rfl⟩
def kf96a (b : Bool) (N : Nat) (I : kjI) (L : kjL) (v2 : Int32) : Option (Int32) :=
  (kf50 b I L (I (kb b 26) 6)).bind fun r1 => kf96a_12 b N I L N v2 r1 (0 : Int32)
set_option maxRecDepth 100000 in
set_option maxHeartbeats 4000000 in
theorem kf96a_ok (f : Bool) (b : Bool) (N : Nat) (I : kjI) (L : kjL) (v2 : Int32) (d : Nat) (r : Int32) (h : kf96a b N I L v2 = some r) : mv_C kjP kjSta (d + 3) 96 [.ref (kb b 26), .ref (kb b 14), .int v2] (kjS f I L) (kjQi f I L r) := by
  cases b
  · unfold kf96a at h
    refine mv_C_in kjM_96 (lc := [some (.ref (kb false 26)), some (.ref (kb false 14)), some (.int v2), none, none]) rfl rfl rfl ?_
    refine mv_G_run 3 (F' := (5, [some (.ref (kb false 26)), some (.ref (kb false 14)), some (.int v2), none, none], [.int (I (kb false 26) 6), .ref (kb false 14)], 0, 0, kjS f I L)) rfl ?_
    obtain ⟨r1, hc2, h⟩ := mv_bd h
    refine mv_G_call (r := []) (kf50_ok _ _ _ _ _ _ _ hc2) rfl rfl rfl rfl rfl (Nat.le_of_ble_eq_true rfl) (Nat.le_of_ble_eq_true rfl) (Nat.le_of_ble_eq_true rfl) ?_
    rintro _ _ ⟨rfl, rfl⟩
    refine mv_G_run 3 (F' := (12, [some (.ref (kb false 26)), some (.ref (kb false 14)), some (.int v2), some (.int r1), some (.int (0 : Int32))], [], 0, 0, kjS f I L)) rfl ?_
    exact kf96a_12_ok _ _ _ _ _ d _ _ _ _ _ h
  · unfold kf96a at h
    refine mv_C_in kjM_96 (lc := [some (.ref (kb true 26)), some (.ref (kb true 14)), some (.int v2), none, none]) rfl rfl rfl ?_
    refine mv_G_run 3 (F' := (5, [some (.ref (kb true 26)), some (.ref (kb true 14)), some (.int v2), none, none], [.int (I (kb true 26) 6), .ref (kb true 14)], 0, 0, kjS f I L)) rfl ?_
    obtain ⟨r1, hc2, h⟩ := mv_bd h
    refine mv_G_call (r := []) (kf50_ok _ _ _ _ _ _ _ hc2) rfl rfl rfl rfl rfl (Nat.le_of_ble_eq_true rfl) (Nat.le_of_ble_eq_true rfl) (Nat.le_of_ble_eq_true rfl) ?_
    rintro _ _ ⟨rfl, rfl⟩
    refine mv_G_run 3 (F' := (12, [some (.ref (kb true 26)), some (.ref (kb true 14)), some (.int v2), some (.int r1), some (.int (0 : Int32))], [], 0, 0, kjS f I L)) rfl ?_
    exact kf96a_12_ok _ _ _ _ _ d _ _ _ _ _ h
/-! KindJudge$Flow.fitsItsTypes(III)Z on ('b', 26) -/
def kf94 (b : Bool) (N : Nat) (I : kjI) (L : kjL) (v1 : Int32) (v2 : Int32) (v3 : Int32) : Option (Int32) :=
  if ((I (kb b 26) 5)).toInt = 39 then ((kf44 b I L v2 ((16 : Int32) + (I (kb b 26) 6))).bind fun r2 => if r2 = 0 ∨ r2 = 1 then some r2 else none) else (if ((I (kb b 26) 5)).toInt = 40 then ((kf44 b I L v2 ((16 : Int32) + (I (kb b 26) 6))).bind fun r6 => if r6 = 0 then (some (0 : Int32)) else ((kf40 b I L (I (kb b 26) 6) (I (kb b 26) 7)).bind fun r9 => (kf44 b I L v3 r9).bind fun r11 => if r11 = 0 then (some (0 : Int32)) else (some (1 : Int32)))) else (if ((I (kb b 26) 5)).toInt = 42 ∨ ((I (kb b 26) 5)).toInt = 43 ∨ ((I (kb b 26) 5)).toInt = 44 then ((kf44 b I L v2 (2 : Int32)).bind fun r15 => if r15 = 0 then (some (0 : Int32)) else ((kf95 b N I L (1 : Int32)).bind fun r18 => if r18 = 0 then (some (0 : Int32)) else (some (1 : Int32)))) else (if ((I (kb b 26) 5)).toInt = 45 ∨ ((I (kb b 26) 5)).toInt = 46 then ((kf97 I L v2).bind fun r22 => if r22 = 0 then (some (0 : Int32)) else (if v2 = (2 : Int32) then (some (0 : Int32)) else (some (1 : Int32)))) else (if ((I (kb b 26) 5)).toInt = 47 then ((kf96a b N I L (0 : Int32)).bind fun r27 => if r27 = 0 ∨ r27 = 1 then some r27 else none) else (if ((I (kb b 26) 5)).toInt = 48 then (if v2 < (16 : Int32) then (some (0 : Int32)) else ((kf29 b I L (v2 - (16 : Int32)) (I (kb b 26) 6)).bind fun r32 => if r32 = (-1 : Int32) then (some (0 : Int32)) else ((kf96 b N I L (1 : Int32)).bind fun r35 => if r35 = 0 then (some (0 : Int32)) else (some (1 : Int32))))) else (if ((I (kb b 26) 5)).toInt = 49 then ((kf52 b I L v1).bind fun r39 => if ¬ r39 = 0 then (some (0 : Int32)) else (some (1 : Int32))) else (if ((I (kb b 26) 5)).toInt = 50 then ((kf52 b I L v1).bind fun r43 => if r43 = 0 then (some (0 : Int32)) else ((kf52 b I L v1).bind fun r46 => (kf44 b I L v2 r46).bind fun r48 => if r48 = 0 then (some (0 : Int32)) else (some (1 : Int32)))) else (some (1 : Int32)))))))))
set_option maxRecDepth 100000 in
set_option maxHeartbeats 4000000 in
theorem kf94_ok (f : Bool) (b : Bool) (N : Nat) (I : kjI) (L : kjL) (v1 : Int32) (v2 : Int32) (v3 : Int32) (d : Nat) (r : Int32) (h : kf94 b N I L v1 v2 v3 = some r) : mv_C kjP kjSta (d + 4) 94 [.ref (kb b 26), .int v1, .int v2, .int v3] (kjS f I L) (kjQi f I L r) := by
  cases b
  · unfold kf94 at h
    refine mv_C_in kjM_94 (lc := [some (.ref (kb false 26)), some (.int v1), some (.int v2), some (.int v3), none]) rfl rfl rfl ?_
    refine mv_G_run 6 (F' := (13, [some (.ref (kb false 26)), some (.int v1), some (.int v2), some (.int v3), some (.ref (kb false 5))], [.int (I (kb false 26) 5)], 0, 0, kjS f I L)) rfl ?_
    by_cases hw1 : ((I (kb false 26) 5)).toInt = 39
    · rw [if_pos hw1] at h
      refine mv_G_sw (tgt := 76) (off := 63) rfl (by simp only [mv_sw, hw1]; rfl) (by decide) ?_
      refine mv_G_run 6 (F' := (86, [some (.ref (kb false 26)), some (.int v1), some (.int v2), some (.int v3), some (.ref (kb false 5))], [.int ((16 : Int32) + (I (kb false 26) 6)), .int v2, .ref (kb false 5)], 0, 0, kjS f I L)) rfl ?_
      obtain ⟨r2, hc3, h⟩ := mv_bd h
      refine mv_G_call (r := []) (kf44_ok _ _ _ _ _ _ _ _ hc3) rfl rfl rfl rfl rfl (Nat.le_of_ble_eq_true rfl) (Nat.le_of_ble_eq_true rfl) (Nat.le_of_ble_eq_true rfl) ?_
      rintro _ _ ⟨rfl, rfl⟩
      obtain ⟨hb4, h⟩ := mv_ifs h
      obtain rfl := Option.some.inj h
      exact mv_G_ret rfl rfl rfl (Nat.le_refl _) hb4 ⟨rfl, rfl⟩
    rw [if_neg hw1] at h
    by_cases hw5 : ((I (kb false 26) 5)).toInt = 40
    · rw [if_pos hw5] at h
      refine mv_G_sw (tgt := 90) (off := 77) rfl (by simp only [mv_sw, hw5]; rfl) (by decide) ?_
      refine mv_G_run 6 (F' := (100, [some (.ref (kb false 26)), some (.int v1), some (.int v2), some (.int v3), some (.ref (kb false 5))], [.int ((16 : Int32) + (I (kb false 26) 6)), .int v2, .ref (kb false 5)], 0, 0, kjS f I L)) rfl ?_
      obtain ⟨r6, hc7, h⟩ := mv_bd h
      refine mv_G_call (r := []) (kf44_ok _ _ _ _ _ _ _ _ hc7) rfl rfl rfl rfl rfl (Nat.le_of_ble_eq_true rfl) (Nat.le_of_ble_eq_true rfl) (Nat.le_of_ble_eq_true rfl) ?_
      rintro _ _ ⟨rfl, rfl⟩
      by_cases hc8 : r6 = 0
      · rw [if_pos hc8] at h
        refine mv_G_br (tgt := 132) rfl rfl (by decide) (fun _ => ?_) (fun z => absurd hc8 z)
        refine mv_G_run 1 (F' := (133, [some (.ref (kb false 26)), some (.int v1), some (.int v2), some (.int v3), some (.ref (kb false 5))], [.int (0 : Int32)], 0, 0, kjS f I L)) rfl ?_
        obtain rfl := Option.some.inj h
        exact mv_G_ret rfl rfl rfl (Nat.le_refl _) (Or.inl rfl) ⟨rfl, rfl⟩
      · rw [if_neg hc8] at h
        refine mv_G_br (tgt := 132) rfl rfl (by decide) (fun z => absurd z hc8) (fun _ => ?_)
        refine mv_G_run 7 (F' := (119, [some (.ref (kb false 26)), some (.int v1), some (.int v2), some (.int v3), some (.ref (kb false 5))], [.int (I (kb false 26) 7), .int (I (kb false 26) 6), .ref (kb false 5), .int v3, .ref (kb false 5)], 0, 0, kjS f I L)) rfl ?_
        obtain ⟨r9, hc10, h⟩ := mv_bd h
        refine mv_G_call (r := [.int v3, .ref (kb false 5)]) (kf40_ok _ _ _ _ _ _ _ _ hc10) rfl rfl rfl rfl rfl (Nat.le_of_ble_eq_true rfl) (Nat.le_of_ble_eq_true rfl) (Nat.le_of_ble_eq_true rfl) ?_
        rintro _ _ ⟨rfl, rfl⟩
        obtain ⟨r11, hc12, h⟩ := mv_bd h
        refine mv_G_call (r := []) (kf44_ok _ _ _ _ _ _ _ _ hc12) rfl rfl rfl rfl rfl (Nat.le_of_ble_eq_true rfl) (Nat.le_of_ble_eq_true rfl) (Nat.le_of_ble_eq_true rfl) ?_
        rintro _ _ ⟨rfl, rfl⟩
        by_cases hc13 : r11 = 0
        · rw [if_pos hc13] at h
          refine mv_G_br (tgt := 132) rfl rfl (by decide) (fun _ => ?_) (fun z => absurd hc13 z)
          refine mv_G_run 1 (F' := (133, [some (.ref (kb false 26)), some (.int v1), some (.int v2), some (.int v3), some (.ref (kb false 5))], [.int (0 : Int32)], 0, 0, kjS f I L)) rfl ?_
          obtain rfl := Option.some.inj h
          exact mv_G_ret rfl rfl rfl (Nat.le_refl _) (Or.inl rfl) ⟨rfl, rfl⟩
        · rw [if_neg hc13] at h
          refine mv_G_br (tgt := 132) rfl rfl (by decide) (fun z => absurd z hc13) (fun _ => ?_)
          refine mv_G_run 2 (F' := (133, [some (.ref (kb false 26)), some (.int v1), some (.int v2), some (.int v3), some (.ref (kb false 5))], [.int (1 : Int32)], 0, 0, kjS f I L)) rfl ?_
          obtain rfl := Option.some.inj h
          exact mv_G_ret rfl rfl rfl (Nat.le_refl _) (Or.inr rfl) ⟨rfl, rfl⟩
    rw [if_neg hw5] at h
    by_cases hw14 : ((I (kb false 26) 5)).toInt = 42 ∨ ((I (kb false 26) 5)).toInt = 43 ∨ ((I (kb false 26) 5)).toInt = 44
    · rw [if_pos hw14] at h
      refine mv_G_sw (tgt := 134) (off := 121) rfl (by rcases hw14 with hw14 | hw14 | hw14 <;> (simp only [mv_sw, hw14]; rfl)) (by decide) ?_
      refine mv_G_run 3 (F' := (138, [some (.ref (kb false 26)), some (.int v1), some (.int v2), some (.int v3), some (.ref (kb false 5))], [.int (2 : Int32), .int v2, .ref (kb false 5)], 0, 0, kjS f I L)) rfl ?_
      obtain ⟨r15, hc16, h⟩ := mv_bd h
      refine mv_G_call (r := []) (kf44_ok _ _ _ _ _ _ _ _ hc16) rfl rfl rfl rfl rfl (Nat.le_of_ble_eq_true rfl) (Nat.le_of_ble_eq_true rfl) (Nat.le_of_ble_eq_true rfl) ?_
      rintro _ _ ⟨rfl, rfl⟩
      by_cases hc17 : r15 = 0
      · rw [if_pos hc17] at h
        refine mv_G_br (tgt := 156) rfl rfl (by decide) (fun _ => ?_) (fun z => absurd hc17 z)
        refine mv_G_run 1 (F' := (157, [some (.ref (kb false 26)), some (.int v1), some (.int v2), some (.int v3), some (.ref (kb false 5))], [.int (0 : Int32)], 0, 0, kjS f I L)) rfl ?_
        obtain rfl := Option.some.inj h
        exact mv_G_ret rfl rfl rfl (Nat.le_refl _) (Or.inl rfl) ⟨rfl, rfl⟩
      · rw [if_neg hc17] at h
        refine mv_G_br (tgt := 156) rfl rfl (by decide) (fun z => absurd z hc17) (fun _ => ?_)
        refine mv_G_run 2 (F' := (146, [some (.ref (kb false 26)), some (.int v1), some (.int v2), some (.int v3), some (.ref (kb false 5))], [.int (1 : Int32), .ref (kb false 26)], 0, 0, kjS f I L)) rfl ?_
        obtain ⟨r18, hc19, h⟩ := mv_bd h
        refine mv_G_call (r := []) (kf95_ok _ _ _ _ _ _ _ _ hc19) rfl rfl rfl rfl rfl (Nat.le_of_ble_eq_true rfl) (Nat.le_of_ble_eq_true rfl) (Nat.le_of_ble_eq_true rfl) ?_
        rintro _ _ ⟨rfl, rfl⟩
        by_cases hc20 : r18 = 0
        · rw [if_pos hc20] at h
          refine mv_G_br (tgt := 156) rfl rfl (by decide) (fun _ => ?_) (fun z => absurd hc20 z)
          refine mv_G_run 1 (F' := (157, [some (.ref (kb false 26)), some (.int v1), some (.int v2), some (.int v3), some (.ref (kb false 5))], [.int (0 : Int32)], 0, 0, kjS f I L)) rfl ?_
          obtain rfl := Option.some.inj h
          exact mv_G_ret rfl rfl rfl (Nat.le_refl _) (Or.inl rfl) ⟨rfl, rfl⟩
        · rw [if_neg hc20] at h
          refine mv_G_br (tgt := 156) rfl rfl (by decide) (fun z => absurd z hc20) (fun _ => ?_)
          refine mv_G_run 2 (F' := (157, [some (.ref (kb false 26)), some (.int v1), some (.int v2), some (.int v3), some (.ref (kb false 5))], [.int (1 : Int32)], 0, 0, kjS f I L)) rfl ?_
          obtain rfl := Option.some.inj h
          exact mv_G_ret rfl rfl rfl (Nat.le_refl _) (Or.inr rfl) ⟨rfl, rfl⟩
    rw [if_neg hw14] at h
    by_cases hw21 : ((I (kb false 26) 5)).toInt = 45 ∨ ((I (kb false 26) 5)).toInt = 46
    · rw [if_pos hw21] at h
      refine mv_G_sw (tgt := 158) (off := 145) rfl (by rcases hw21 with hw21 | hw21 <;> (simp only [mv_sw, hw21]; rfl)) (by decide) ?_
      refine mv_G_run 1 (F' := (159, [some (.ref (kb false 26)), some (.int v1), some (.int v2), some (.int v3), some (.ref (kb false 5))], [.int v2], 0, 0, kjS f I L)) rfl ?_
      obtain ⟨r22, hc23, h⟩ := mv_bd h
      refine mv_G_call (r := []) (kf97_ok _ _ _ _ _ _ hc23) rfl rfl rfl rfl rfl (Nat.le_of_ble_eq_true rfl) (Nat.le_of_ble_eq_true rfl) (Nat.le_of_ble_eq_true rfl) ?_
      rintro _ _ ⟨rfl, rfl⟩
      by_cases hc24 : r22 = 0
      · rw [if_pos hc24] at h
        refine mv_G_br (tgt := 174) rfl rfl (by decide) (fun _ => ?_) (fun z => absurd hc24 z)
        refine mv_G_run 1 (F' := (175, [some (.ref (kb false 26)), some (.int v1), some (.int v2), some (.int v3), some (.ref (kb false 5))], [.int (0 : Int32)], 0, 0, kjS f I L)) rfl ?_
        obtain rfl := Option.some.inj h
        exact mv_G_ret rfl rfl rfl (Nat.le_refl _) (Or.inl rfl) ⟨rfl, rfl⟩
      · rw [if_neg hc24] at h
        refine mv_G_br (tgt := 174) rfl rfl (by decide) (fun z => absurd z hc24) (fun _ => ?_)
        refine mv_G_run 2 (F' := (167, [some (.ref (kb false 26)), some (.int v1), some (.int v2), some (.int v3), some (.ref (kb false 5))], [.int (2 : Int32), .int v2], 0, 0, kjS f I L)) rfl ?_
        by_cases hc25 : v2 = (2 : Int32)
        · rw [if_pos hc25] at h
          refine mv_G_br (tgt := 174) rfl rfl (by decide) (fun _ => ?_) (fun z => absurd hc25 z)
          refine mv_G_run 1 (F' := (175, [some (.ref (kb false 26)), some (.int v1), some (.int v2), some (.int v3), some (.ref (kb false 5))], [.int (0 : Int32)], 0, 0, kjS f I L)) rfl ?_
          obtain rfl := Option.some.inj h
          exact mv_G_ret rfl rfl rfl (Nat.le_refl _) (Or.inl rfl) ⟨rfl, rfl⟩
        · rw [if_neg hc25] at h
          refine mv_G_br (tgt := 174) rfl rfl (by decide) (fun z => absurd z hc25) (fun _ => ?_)
          refine mv_G_run 2 (F' := (175, [some (.ref (kb false 26)), some (.int v1), some (.int v2), some (.int v3), some (.ref (kb false 5))], [.int (1 : Int32)], 0, 0, kjS f I L)) rfl ?_
          obtain rfl := Option.some.inj h
          exact mv_G_ret rfl rfl rfl (Nat.le_refl _) (Or.inr rfl) ⟨rfl, rfl⟩
    rw [if_neg hw21] at h
    by_cases hw26 : ((I (kb false 26) 5)).toInt = 47
    · rw [if_pos hw26] at h
      refine mv_G_sw (tgt := 176) (off := 163) rfl (by simp only [mv_sw, hw26]; rfl) (by decide) ?_
      refine mv_G_run 5 (F' := (185, [some (.ref (kb false 26)), some (.int v1), some (.int v2), some (.int v3), some (.ref (kb false 5))], [.int (0 : Int32), .ref (kb false 14), .ref (kb false 26)], 0, 0, kjS f I L)) rfl ?_
      obtain ⟨r27, hc28, h⟩ := mv_bd h
      refine mv_G_call (r := []) (kf96a_ok _ _ _ _ _ _ _ _ hc28) rfl rfl rfl rfl rfl (Nat.le_of_ble_eq_true rfl) (Nat.le_of_ble_eq_true rfl) (Nat.le_of_ble_eq_true rfl) ?_
      rintro _ _ ⟨rfl, rfl⟩
      obtain ⟨hb29, h⟩ := mv_ifs h
      obtain rfl := Option.some.inj h
      exact mv_G_ret rfl rfl rfl (Nat.le_refl _) hb29 ⟨rfl, rfl⟩
    rw [if_neg hw26] at h
    by_cases hw30 : ((I (kb false 26) 5)).toInt = 48
    · rw [if_pos hw30] at h
      refine mv_G_sw (tgt := 189) (off := 176) rfl (by simp only [mv_sw, hw30]; rfl) (by decide) ?_
      refine mv_G_run 2 (F' := (192, [some (.ref (kb false 26)), some (.int v1), some (.int v2), some (.int v3), some (.ref (kb false 5))], [.int (16 : Int32), .int v2], 0, 0, kjS f I L)) rfl ?_
      by_cases hc31 : v2 < (16 : Int32)
      · rw [if_pos hc31] at h
        refine mv_G_br (tgt := 233) rfl rfl (by decide) (fun _ => ?_) (fun z => absurd hc31 z)
        refine mv_G_run 1 (F' := (234, [some (.ref (kb false 26)), some (.int v1), some (.int v2), some (.int v3), some (.ref (kb false 5))], [.int (0 : Int32)], 0, 0, kjS f I L)) rfl ?_
        obtain rfl := Option.some.inj h
        exact mv_G_ret rfl rfl rfl (Nat.le_refl _) (Or.inl rfl) ⟨rfl, rfl⟩
      · rw [if_neg hc31] at h
        refine mv_G_br (tgt := 233) rfl rfl (by decide) (fun z => absurd z hc31) (fun _ => ?_)
        refine mv_G_run 7 (F' := (207, [some (.ref (kb false 26)), some (.int v1), some (.int v2), some (.int v3), some (.ref (kb false 5))], [.int (I (kb false 26) 6), .int (v2 - (16 : Int32)), .ref (kb false 4)], 0, 0, kjS f I L)) rfl ?_
        obtain ⟨r32, hc33, h⟩ := mv_bd h
        refine mv_G_call (r := []) (kf29_ok _ _ _ _ _ _ _ _ hc33) rfl rfl rfl rfl rfl (Nat.le_of_ble_eq_true rfl) (Nat.le_of_ble_eq_true rfl) (Nat.le_of_ble_eq_true rfl) ?_
        rintro _ _ ⟨rfl, rfl⟩
        refine mv_G_run 1 (F' := (211, [some (.ref (kb false 26)), some (.int v1), some (.int v2), some (.int v3), some (.ref (kb false 5))], [.int (-1 : Int32), .int r32], 0, 0, kjS f I L)) rfl ?_
        by_cases hc34 : r32 = (-1 : Int32)
        · rw [if_pos hc34] at h
          refine mv_G_br (tgt := 233) rfl rfl (by decide) (fun _ => ?_) (fun z => absurd hc34 z)
          refine mv_G_run 1 (F' := (234, [some (.ref (kb false 26)), some (.int v1), some (.int v2), some (.int v3), some (.ref (kb false 5))], [.int (0 : Int32)], 0, 0, kjS f I L)) rfl ?_
          obtain rfl := Option.some.inj h
          exact mv_G_ret rfl rfl rfl (Nat.le_refl _) (Or.inl rfl) ⟨rfl, rfl⟩
        · rw [if_neg hc34] at h
          refine mv_G_br (tgt := 233) rfl rfl (by decide) (fun z => absurd z hc34) (fun _ => ?_)
          refine mv_G_run 5 (F' := (223, [some (.ref (kb false 26)), some (.int v1), some (.int v2), some (.int v3), some (.ref (kb false 5))], [.int (1 : Int32), .ref (kb false 10), .ref (kb false 26)], 0, 0, kjS f I L)) rfl ?_
          obtain ⟨r35, hc36, h⟩ := mv_bd h
          refine mv_G_call (r := []) (kf96_ok _ _ _ _ _ _ _ _ hc36) rfl rfl rfl rfl rfl (Nat.le_of_ble_eq_true rfl) (Nat.le_of_ble_eq_true rfl) (Nat.le_of_ble_eq_true rfl) ?_
          rintro _ _ ⟨rfl, rfl⟩
          by_cases hc37 : r35 = 0
          · rw [if_pos hc37] at h
            refine mv_G_br (tgt := 233) rfl rfl (by decide) (fun _ => ?_) (fun z => absurd hc37 z)
            refine mv_G_run 1 (F' := (234, [some (.ref (kb false 26)), some (.int v1), some (.int v2), some (.int v3), some (.ref (kb false 5))], [.int (0 : Int32)], 0, 0, kjS f I L)) rfl ?_
            obtain rfl := Option.some.inj h
            exact mv_G_ret rfl rfl rfl (Nat.le_refl _) (Or.inl rfl) ⟨rfl, rfl⟩
          · rw [if_neg hc37] at h
            refine mv_G_br (tgt := 233) rfl rfl (by decide) (fun z => absurd z hc37) (fun _ => ?_)
            refine mv_G_run 2 (F' := (234, [some (.ref (kb false 26)), some (.int v1), some (.int v2), some (.int v3), some (.ref (kb false 5))], [.int (1 : Int32)], 0, 0, kjS f I L)) rfl ?_
            obtain rfl := Option.some.inj h
            exact mv_G_ret rfl rfl rfl (Nat.le_refl _) (Or.inr rfl) ⟨rfl, rfl⟩
    rw [if_neg hw30] at h
    by_cases hw38 : ((I (kb false 26) 5)).toInt = 49
    · rw [if_pos hw38] at h
      refine mv_G_sw (tgt := 235) (off := 222) rfl (by simp only [mv_sw, hw38]; rfl) (by decide) ?_
      refine mv_G_run 4 (F' := (243, [some (.ref (kb false 26)), some (.int v1), some (.int v2), some (.int v3), some (.ref (kb false 5))], [.int v1, .ref (kb false 14)], 0, 0, kjS f I L)) rfl ?_
      obtain ⟨r39, hc40, h⟩ := mv_bd h
      refine mv_G_call (r := []) (kf52_ok _ _ _ _ _ _ _ hc40) rfl rfl rfl rfl rfl (Nat.le_of_ble_eq_true rfl) (Nat.le_of_ble_eq_true rfl) (Nat.le_of_ble_eq_true rfl) ?_
      rintro _ _ ⟨rfl, rfl⟩
      by_cases hc41 : ¬ r39 = 0
      · rw [if_pos hc41] at h
        refine mv_G_br (tgt := 253) rfl rfl (by decide) (fun _ => ?_) (fun z => absurd hc41 z)
        refine mv_G_run 1 (F' := (254, [some (.ref (kb false 26)), some (.int v1), some (.int v2), some (.int v3), some (.ref (kb false 5))], [.int (0 : Int32)], 0, 0, kjS f I L)) rfl ?_
        obtain rfl := Option.some.inj h
        exact mv_G_ret rfl rfl rfl (Nat.le_refl _) (Or.inl rfl) ⟨rfl, rfl⟩
      · rw [if_neg hc41] at h
        refine mv_G_br (tgt := 253) rfl rfl (by decide) (fun z => absurd z hc41) (fun _ => ?_)
        refine mv_G_run 2 (F' := (254, [some (.ref (kb false 26)), some (.int v1), some (.int v2), some (.int v3), some (.ref (kb false 5))], [.int (1 : Int32)], 0, 0, kjS f I L)) rfl ?_
        obtain rfl := Option.some.inj h
        exact mv_G_ret rfl rfl rfl (Nat.le_refl _) (Or.inr rfl) ⟨rfl, rfl⟩
    rw [if_neg hw38] at h
    by_cases hw42 : ((I (kb false 26) 5)).toInt = 50
    · rw [if_pos hw42] at h
      refine mv_G_sw (tgt := 255) (off := 242) rfl (by simp only [mv_sw, hw42]; rfl) (by decide) ?_
      refine mv_G_run 4 (F' := (263, [some (.ref (kb false 26)), some (.int v1), some (.int v2), some (.int v3), some (.ref (kb false 5))], [.int v1, .ref (kb false 14)], 0, 0, kjS f I L)) rfl ?_
      obtain ⟨r43, hc44, h⟩ := mv_bd h
      refine mv_G_call (r := []) (kf52_ok _ _ _ _ _ _ _ hc44) rfl rfl rfl rfl rfl (Nat.le_of_ble_eq_true rfl) (Nat.le_of_ble_eq_true rfl) (Nat.le_of_ble_eq_true rfl) ?_
      rintro _ _ ⟨rfl, rfl⟩
      by_cases hc45 : r43 = 0
      · rw [if_pos hc45] at h
        refine mv_G_br (tgt := 293) rfl rfl (by decide) (fun _ => ?_) (fun z => absurd hc45 z)
        refine mv_G_run 1 (F' := (294, [some (.ref (kb false 26)), some (.int v1), some (.int v2), some (.int v3), some (.ref (kb false 5))], [.int (0 : Int32)], 0, 0, kjS f I L)) rfl ?_
        obtain rfl := Option.some.inj h
        exact mv_G_ret rfl rfl rfl (Nat.le_refl _) (Or.inl rfl) ⟨rfl, rfl⟩
      · rw [if_neg hc45] at h
        refine mv_G_br (tgt := 293) rfl rfl (by decide) (fun z => absurd z hc45) (fun _ => ?_)
        refine mv_G_run 6 (F' := (280, [some (.ref (kb false 26)), some (.int v1), some (.int v2), some (.int v3), some (.ref (kb false 5))], [.int v1, .ref (kb false 14), .int v2, .ref (kb false 5)], 0, 0, kjS f I L)) rfl ?_
        obtain ⟨r46, hc47, h⟩ := mv_bd h
        refine mv_G_call (r := [.int v2, .ref (kb false 5)]) (kf52_ok _ _ _ _ _ _ _ hc47) rfl rfl rfl rfl rfl (Nat.le_of_ble_eq_true rfl) (Nat.le_of_ble_eq_true rfl) (Nat.le_of_ble_eq_true rfl) ?_
        rintro _ _ ⟨rfl, rfl⟩
        obtain ⟨r48, hc49, h⟩ := mv_bd h
        refine mv_G_call (r := []) (kf44_ok _ _ _ _ _ _ _ _ hc49) rfl rfl rfl rfl rfl (Nat.le_of_ble_eq_true rfl) (Nat.le_of_ble_eq_true rfl) (Nat.le_of_ble_eq_true rfl) ?_
        rintro _ _ ⟨rfl, rfl⟩
        by_cases hc50 : r48 = 0
        · rw [if_pos hc50] at h
          refine mv_G_br (tgt := 293) rfl rfl (by decide) (fun _ => ?_) (fun z => absurd hc50 z)
          refine mv_G_run 1 (F' := (294, [some (.ref (kb false 26)), some (.int v1), some (.int v2), some (.int v3), some (.ref (kb false 5))], [.int (0 : Int32)], 0, 0, kjS f I L)) rfl ?_
          obtain rfl := Option.some.inj h
          exact mv_G_ret rfl rfl rfl (Nat.le_refl _) (Or.inl rfl) ⟨rfl, rfl⟩
        · rw [if_neg hc50] at h
          refine mv_G_br (tgt := 293) rfl rfl (by decide) (fun z => absurd z hc50) (fun _ => ?_)
          refine mv_G_run 2 (F' := (294, [some (.ref (kb false 26)), some (.int v1), some (.int v2), some (.int v3), some (.ref (kb false 5))], [.int (1 : Int32)], 0, 0, kjS f I L)) rfl ?_
          obtain rfl := Option.some.inj h
          exact mv_G_ret rfl rfl rfl (Nat.le_refl _) (Or.inr rfl) ⟨rfl, rfl⟩
    rw [if_neg hw42] at h
    refine mv_G_sw (tgt := 295) (off := 282) rfl (by
    have hz51 : (((I (kb false 26) 5)).toInt < 39 ∨ 50 < ((I (kb false 26) 5)).toInt) ∨ ((I (kb false 26) 5)).toInt = 41 := by omega
    rcases hz51 with hz51 | hz51
    · exact if_pos hz51
    · simp only [mv_sw, hz51]; rfl) (by decide) ?_
    refine mv_G_run 1 (F' := (296, [some (.ref (kb false 26)), some (.int v1), some (.int v2), some (.int v3), some (.ref (kb false 5))], [.int (1 : Int32)], 0, 0, kjS f I L)) rfl ?_
    obtain rfl := Option.some.inj h
    exact mv_G_ret rfl rfl rfl (Nat.le_refl _) (Or.inr rfl) ⟨rfl, rfl⟩
  · unfold kf94 at h
    refine mv_C_in kjM_94 (lc := [some (.ref (kb true 26)), some (.int v1), some (.int v2), some (.int v3), none]) rfl rfl rfl ?_
    refine mv_G_run 6 (F' := (13, [some (.ref (kb true 26)), some (.int v1), some (.int v2), some (.int v3), some (.ref (kb true 5))], [.int (I (kb true 26) 5)], 0, 0, kjS f I L)) rfl ?_
    by_cases hw1 : ((I (kb true 26) 5)).toInt = 39
    · rw [if_pos hw1] at h
      refine mv_G_sw (tgt := 76) (off := 63) rfl (by simp only [mv_sw, hw1]; rfl) (by decide) ?_
      refine mv_G_run 6 (F' := (86, [some (.ref (kb true 26)), some (.int v1), some (.int v2), some (.int v3), some (.ref (kb true 5))], [.int ((16 : Int32) + (I (kb true 26) 6)), .int v2, .ref (kb true 5)], 0, 0, kjS f I L)) rfl ?_
      obtain ⟨r2, hc3, h⟩ := mv_bd h
      refine mv_G_call (r := []) (kf44_ok _ _ _ _ _ _ _ _ hc3) rfl rfl rfl rfl rfl (Nat.le_of_ble_eq_true rfl) (Nat.le_of_ble_eq_true rfl) (Nat.le_of_ble_eq_true rfl) ?_
      rintro _ _ ⟨rfl, rfl⟩
      obtain ⟨hb4, h⟩ := mv_ifs h
      obtain rfl := Option.some.inj h
      exact mv_G_ret rfl rfl rfl (Nat.le_refl _) hb4 ⟨rfl, rfl⟩
    rw [if_neg hw1] at h
    by_cases hw5 : ((I (kb true 26) 5)).toInt = 40
    · rw [if_pos hw5] at h
      refine mv_G_sw (tgt := 90) (off := 77) rfl (by simp only [mv_sw, hw5]; rfl) (by decide) ?_
      refine mv_G_run 6 (F' := (100, [some (.ref (kb true 26)), some (.int v1), some (.int v2), some (.int v3), some (.ref (kb true 5))], [.int ((16 : Int32) + (I (kb true 26) 6)), .int v2, .ref (kb true 5)], 0, 0, kjS f I L)) rfl ?_
      obtain ⟨r6, hc7, h⟩ := mv_bd h
      refine mv_G_call (r := []) (kf44_ok _ _ _ _ _ _ _ _ hc7) rfl rfl rfl rfl rfl (Nat.le_of_ble_eq_true rfl) (Nat.le_of_ble_eq_true rfl) (Nat.le_of_ble_eq_true rfl) ?_
      rintro _ _ ⟨rfl, rfl⟩
      by_cases hc8 : r6 = 0
      · rw [if_pos hc8] at h
        refine mv_G_br (tgt := 132) rfl rfl (by decide) (fun _ => ?_) (fun z => absurd hc8 z)
        refine mv_G_run 1 (F' := (133, [some (.ref (kb true 26)), some (.int v1), some (.int v2), some (.int v3), some (.ref (kb true 5))], [.int (0 : Int32)], 0, 0, kjS f I L)) rfl ?_
        obtain rfl := Option.some.inj h
        exact mv_G_ret rfl rfl rfl (Nat.le_refl _) (Or.inl rfl) ⟨rfl, rfl⟩
      · rw [if_neg hc8] at h
        refine mv_G_br (tgt := 132) rfl rfl (by decide) (fun z => absurd z hc8) (fun _ => ?_)
        refine mv_G_run 7 (F' := (119, [some (.ref (kb true 26)), some (.int v1), some (.int v2), some (.int v3), some (.ref (kb true 5))], [.int (I (kb true 26) 7), .int (I (kb true 26) 6), .ref (kb true 5), .int v3, .ref (kb true 5)], 0, 0, kjS f I L)) rfl ?_
        obtain ⟨r9, hc10, h⟩ := mv_bd h
        refine mv_G_call (r := [.int v3, .ref (kb true 5)]) (kf40_ok _ _ _ _ _ _ _ _ hc10) rfl rfl rfl rfl rfl (Nat.le_of_ble_eq_true rfl) (Nat.le_of_ble_eq_true rfl) (Nat.le_of_ble_eq_true rfl) ?_
        rintro _ _ ⟨rfl, rfl⟩
        obtain ⟨r11, hc12, h⟩ := mv_bd h
        refine mv_G_call (r := []) (kf44_ok _ _ _ _ _ _ _ _ hc12) rfl rfl rfl rfl rfl (Nat.le_of_ble_eq_true rfl) (Nat.le_of_ble_eq_true rfl) (Nat.le_of_ble_eq_true rfl) ?_
        rintro _ _ ⟨rfl, rfl⟩
        by_cases hc13 : r11 = 0
        · rw [if_pos hc13] at h
          refine mv_G_br (tgt := 132) rfl rfl (by decide) (fun _ => ?_) (fun z => absurd hc13 z)
          refine mv_G_run 1 (F' := (133, [some (.ref (kb true 26)), some (.int v1), some (.int v2), some (.int v3), some (.ref (kb true 5))], [.int (0 : Int32)], 0, 0, kjS f I L)) rfl ?_
          obtain rfl := Option.some.inj h
          exact mv_G_ret rfl rfl rfl (Nat.le_refl _) (Or.inl rfl) ⟨rfl, rfl⟩
        · rw [if_neg hc13] at h
          refine mv_G_br (tgt := 132) rfl rfl (by decide) (fun z => absurd z hc13) (fun _ => ?_)
          refine mv_G_run 2 (F' := (133, [some (.ref (kb true 26)), some (.int v1), some (.int v2), some (.int v3), some (.ref (kb true 5))], [.int (1 : Int32)], 0, 0, kjS f I L)) rfl ?_
          obtain rfl := Option.some.inj h
          exact mv_G_ret rfl rfl rfl (Nat.le_refl _) (Or.inr rfl) ⟨rfl, rfl⟩
    rw [if_neg hw5] at h
    by_cases hw14 : ((I (kb true 26) 5)).toInt = 42 ∨ ((I (kb true 26) 5)).toInt = 43 ∨ ((I (kb true 26) 5)).toInt = 44
    · rw [if_pos hw14] at h
      refine mv_G_sw (tgt := 134) (off := 121) rfl (by rcases hw14 with hw14 | hw14 | hw14 <;> (simp only [mv_sw, hw14]; rfl)) (by decide) ?_
      refine mv_G_run 3 (F' := (138, [some (.ref (kb true 26)), some (.int v1), some (.int v2), some (.int v3), some (.ref (kb true 5))], [.int (2 : Int32), .int v2, .ref (kb true 5)], 0, 0, kjS f I L)) rfl ?_
      obtain ⟨r15, hc16, h⟩ := mv_bd h
      refine mv_G_call (r := []) (kf44_ok _ _ _ _ _ _ _ _ hc16) rfl rfl rfl rfl rfl (Nat.le_of_ble_eq_true rfl) (Nat.le_of_ble_eq_true rfl) (Nat.le_of_ble_eq_true rfl) ?_
      rintro _ _ ⟨rfl, rfl⟩
      by_cases hc17 : r15 = 0
      · rw [if_pos hc17] at h
        refine mv_G_br (tgt := 156) rfl rfl (by decide) (fun _ => ?_) (fun z => absurd hc17 z)
        refine mv_G_run 1 (F' := (157, [some (.ref (kb true 26)), some (.int v1), some (.int v2), some (.int v3), some (.ref (kb true 5))], [.int (0 : Int32)], 0, 0, kjS f I L)) rfl ?_
        obtain rfl := Option.some.inj h
        exact mv_G_ret rfl rfl rfl (Nat.le_refl _) (Or.inl rfl) ⟨rfl, rfl⟩
      · rw [if_neg hc17] at h
        refine mv_G_br (tgt := 156) rfl rfl (by decide) (fun z => absurd z hc17) (fun _ => ?_)
        refine mv_G_run 2 (F' := (146, [some (.ref (kb true 26)), some (.int v1), some (.int v2), some (.int v3), some (.ref (kb true 5))], [.int (1 : Int32), .ref (kb true 26)], 0, 0, kjS f I L)) rfl ?_
        obtain ⟨r18, hc19, h⟩ := mv_bd h
        refine mv_G_call (r := []) (kf95_ok _ _ _ _ _ _ _ _ hc19) rfl rfl rfl rfl rfl (Nat.le_of_ble_eq_true rfl) (Nat.le_of_ble_eq_true rfl) (Nat.le_of_ble_eq_true rfl) ?_
        rintro _ _ ⟨rfl, rfl⟩
        by_cases hc20 : r18 = 0
        · rw [if_pos hc20] at h
          refine mv_G_br (tgt := 156) rfl rfl (by decide) (fun _ => ?_) (fun z => absurd hc20 z)
          refine mv_G_run 1 (F' := (157, [some (.ref (kb true 26)), some (.int v1), some (.int v2), some (.int v3), some (.ref (kb true 5))], [.int (0 : Int32)], 0, 0, kjS f I L)) rfl ?_
          obtain rfl := Option.some.inj h
          exact mv_G_ret rfl rfl rfl (Nat.le_refl _) (Or.inl rfl) ⟨rfl, rfl⟩
        · rw [if_neg hc20] at h
          refine mv_G_br (tgt := 156) rfl rfl (by decide) (fun z => absurd z hc20) (fun _ => ?_)
          refine mv_G_run 2 (F' := (157, [some (.ref (kb true 26)), some (.int v1), some (.int v2), some (.int v3), some (.ref (kb true 5))], [.int (1 : Int32)], 0, 0, kjS f I L)) rfl ?_
          obtain rfl := Option.some.inj h
          exact mv_G_ret rfl rfl rfl (Nat.le_refl _) (Or.inr rfl) ⟨rfl, rfl⟩
    rw [if_neg hw14] at h
    by_cases hw21 : ((I (kb true 26) 5)).toInt = 45 ∨ ((I (kb true 26) 5)).toInt = 46
    · rw [if_pos hw21] at h
      refine mv_G_sw (tgt := 158) (off := 145) rfl (by rcases hw21 with hw21 | hw21 <;> (simp only [mv_sw, hw21]; rfl)) (by decide) ?_
      refine mv_G_run 1 (F' := (159, [some (.ref (kb true 26)), some (.int v1), some (.int v2), some (.int v3), some (.ref (kb true 5))], [.int v2], 0, 0, kjS f I L)) rfl ?_
      obtain ⟨r22, hc23, h⟩ := mv_bd h
      refine mv_G_call (r := []) (kf97_ok _ _ _ _ _ _ hc23) rfl rfl rfl rfl rfl (Nat.le_of_ble_eq_true rfl) (Nat.le_of_ble_eq_true rfl) (Nat.le_of_ble_eq_true rfl) ?_
      rintro _ _ ⟨rfl, rfl⟩
      by_cases hc24 : r22 = 0
      · rw [if_pos hc24] at h
        refine mv_G_br (tgt := 174) rfl rfl (by decide) (fun _ => ?_) (fun z => absurd hc24 z)
        refine mv_G_run 1 (F' := (175, [some (.ref (kb true 26)), some (.int v1), some (.int v2), some (.int v3), some (.ref (kb true 5))], [.int (0 : Int32)], 0, 0, kjS f I L)) rfl ?_
        obtain rfl := Option.some.inj h
        exact mv_G_ret rfl rfl rfl (Nat.le_refl _) (Or.inl rfl) ⟨rfl, rfl⟩
      · rw [if_neg hc24] at h
        refine mv_G_br (tgt := 174) rfl rfl (by decide) (fun z => absurd z hc24) (fun _ => ?_)
        refine mv_G_run 2 (F' := (167, [some (.ref (kb true 26)), some (.int v1), some (.int v2), some (.int v3), some (.ref (kb true 5))], [.int (2 : Int32), .int v2], 0, 0, kjS f I L)) rfl ?_
        by_cases hc25 : v2 = (2 : Int32)
        · rw [if_pos hc25] at h
          refine mv_G_br (tgt := 174) rfl rfl (by decide) (fun _ => ?_) (fun z => absurd hc25 z)
          refine mv_G_run 1 (F' := (175, [some (.ref (kb true 26)), some (.int v1), some (.int v2), some (.int v3), some (.ref (kb true 5))], [.int (0 : Int32)], 0, 0, kjS f I L)) rfl ?_
          obtain rfl := Option.some.inj h
          exact mv_G_ret rfl rfl rfl (Nat.le_refl _) (Or.inl rfl) ⟨rfl, rfl⟩
        · rw [if_neg hc25] at h
          refine mv_G_br (tgt := 174) rfl rfl (by decide) (fun z => absurd z hc25) (fun _ => ?_)
          refine mv_G_run 2 (F' := (175, [some (.ref (kb true 26)), some (.int v1), some (.int v2), some (.int v3), some (.ref (kb true 5))], [.int (1 : Int32)], 0, 0, kjS f I L)) rfl ?_
          obtain rfl := Option.some.inj h
          exact mv_G_ret rfl rfl rfl (Nat.le_refl _) (Or.inr rfl) ⟨rfl, rfl⟩
    rw [if_neg hw21] at h
    by_cases hw26 : ((I (kb true 26) 5)).toInt = 47
    · rw [if_pos hw26] at h
      refine mv_G_sw (tgt := 176) (off := 163) rfl (by simp only [mv_sw, hw26]; rfl) (by decide) ?_
      refine mv_G_run 5 (F' := (185, [some (.ref (kb true 26)), some (.int v1), some (.int v2), some (.int v3), some (.ref (kb true 5))], [.int (0 : Int32), .ref (kb true 14), .ref (kb true 26)], 0, 0, kjS f I L)) rfl ?_
      obtain ⟨r27, hc28, h⟩ := mv_bd h
      refine mv_G_call (r := []) (kf96a_ok _ _ _ _ _ _ _ _ hc28) rfl rfl rfl rfl rfl (Nat.le_of_ble_eq_true rfl) (Nat.le_of_ble_eq_true rfl) (Nat.le_of_ble_eq_true rfl) ?_
      rintro _ _ ⟨rfl, rfl⟩
      obtain ⟨hb29, h⟩ := mv_ifs h
      obtain rfl := Option.some.inj h
      exact mv_G_ret rfl rfl rfl (Nat.le_refl _) hb29 ⟨rfl, rfl⟩
    rw [if_neg hw26] at h
    by_cases hw30 : ((I (kb true 26) 5)).toInt = 48
    · rw [if_pos hw30] at h
      refine mv_G_sw (tgt := 189) (off := 176) rfl (by simp only [mv_sw, hw30]; rfl) (by decide) ?_
      refine mv_G_run 2 (F' := (192, [some (.ref (kb true 26)), some (.int v1), some (.int v2), some (.int v3), some (.ref (kb true 5))], [.int (16 : Int32), .int v2], 0, 0, kjS f I L)) rfl ?_
      by_cases hc31 : v2 < (16 : Int32)
      · rw [if_pos hc31] at h
        refine mv_G_br (tgt := 233) rfl rfl (by decide) (fun _ => ?_) (fun z => absurd hc31 z)
        refine mv_G_run 1 (F' := (234, [some (.ref (kb true 26)), some (.int v1), some (.int v2), some (.int v3), some (.ref (kb true 5))], [.int (0 : Int32)], 0, 0, kjS f I L)) rfl ?_
        obtain rfl := Option.some.inj h
        exact mv_G_ret rfl rfl rfl (Nat.le_refl _) (Or.inl rfl) ⟨rfl, rfl⟩
      · rw [if_neg hc31] at h
        refine mv_G_br (tgt := 233) rfl rfl (by decide) (fun z => absurd z hc31) (fun _ => ?_)
        refine mv_G_run 7 (F' := (207, [some (.ref (kb true 26)), some (.int v1), some (.int v2), some (.int v3), some (.ref (kb true 5))], [.int (I (kb true 26) 6), .int (v2 - (16 : Int32)), .ref (kb true 4)], 0, 0, kjS f I L)) rfl ?_
        obtain ⟨r32, hc33, h⟩ := mv_bd h
        refine mv_G_call (r := []) (kf29_ok _ _ _ _ _ _ _ _ hc33) rfl rfl rfl rfl rfl (Nat.le_of_ble_eq_true rfl) (Nat.le_of_ble_eq_true rfl) (Nat.le_of_ble_eq_true rfl) ?_
        rintro _ _ ⟨rfl, rfl⟩
        refine mv_G_run 1 (F' := (211, [some (.ref (kb true 26)), some (.int v1), some (.int v2), some (.int v3), some (.ref (kb true 5))], [.int (-1 : Int32), .int r32], 0, 0, kjS f I L)) rfl ?_
        by_cases hc34 : r32 = (-1 : Int32)
        · rw [if_pos hc34] at h
          refine mv_G_br (tgt := 233) rfl rfl (by decide) (fun _ => ?_) (fun z => absurd hc34 z)
          refine mv_G_run 1 (F' := (234, [some (.ref (kb true 26)), some (.int v1), some (.int v2), some (.int v3), some (.ref (kb true 5))], [.int (0 : Int32)], 0, 0, kjS f I L)) rfl ?_
          obtain rfl := Option.some.inj h
          exact mv_G_ret rfl rfl rfl (Nat.le_refl _) (Or.inl rfl) ⟨rfl, rfl⟩
        · rw [if_neg hc34] at h
          refine mv_G_br (tgt := 233) rfl rfl (by decide) (fun z => absurd z hc34) (fun _ => ?_)
          refine mv_G_run 5 (F' := (223, [some (.ref (kb true 26)), some (.int v1), some (.int v2), some (.int v3), some (.ref (kb true 5))], [.int (1 : Int32), .ref (kb true 10), .ref (kb true 26)], 0, 0, kjS f I L)) rfl ?_
          obtain ⟨r35, hc36, h⟩ := mv_bd h
          refine mv_G_call (r := []) (kf96_ok _ _ _ _ _ _ _ _ hc36) rfl rfl rfl rfl rfl (Nat.le_of_ble_eq_true rfl) (Nat.le_of_ble_eq_true rfl) (Nat.le_of_ble_eq_true rfl) ?_
          rintro _ _ ⟨rfl, rfl⟩
          by_cases hc37 : r35 = 0
          · rw [if_pos hc37] at h
            refine mv_G_br (tgt := 233) rfl rfl (by decide) (fun _ => ?_) (fun z => absurd hc37 z)
            refine mv_G_run 1 (F' := (234, [some (.ref (kb true 26)), some (.int v1), some (.int v2), some (.int v3), some (.ref (kb true 5))], [.int (0 : Int32)], 0, 0, kjS f I L)) rfl ?_
            obtain rfl := Option.some.inj h
            exact mv_G_ret rfl rfl rfl (Nat.le_refl _) (Or.inl rfl) ⟨rfl, rfl⟩
          · rw [if_neg hc37] at h
            refine mv_G_br (tgt := 233) rfl rfl (by decide) (fun z => absurd z hc37) (fun _ => ?_)
            refine mv_G_run 2 (F' := (234, [some (.ref (kb true 26)), some (.int v1), some (.int v2), some (.int v3), some (.ref (kb true 5))], [.int (1 : Int32)], 0, 0, kjS f I L)) rfl ?_
            obtain rfl := Option.some.inj h
            exact mv_G_ret rfl rfl rfl (Nat.le_refl _) (Or.inr rfl) ⟨rfl, rfl⟩
    rw [if_neg hw30] at h
    by_cases hw38 : ((I (kb true 26) 5)).toInt = 49
    · rw [if_pos hw38] at h
      refine mv_G_sw (tgt := 235) (off := 222) rfl (by simp only [mv_sw, hw38]; rfl) (by decide) ?_
      refine mv_G_run 4 (F' := (243, [some (.ref (kb true 26)), some (.int v1), some (.int v2), some (.int v3), some (.ref (kb true 5))], [.int v1, .ref (kb true 14)], 0, 0, kjS f I L)) rfl ?_
      obtain ⟨r39, hc40, h⟩ := mv_bd h
      refine mv_G_call (r := []) (kf52_ok _ _ _ _ _ _ _ hc40) rfl rfl rfl rfl rfl (Nat.le_of_ble_eq_true rfl) (Nat.le_of_ble_eq_true rfl) (Nat.le_of_ble_eq_true rfl) ?_
      rintro _ _ ⟨rfl, rfl⟩
      by_cases hc41 : ¬ r39 = 0
      · rw [if_pos hc41] at h
        refine mv_G_br (tgt := 253) rfl rfl (by decide) (fun _ => ?_) (fun z => absurd hc41 z)
        refine mv_G_run 1 (F' := (254, [some (.ref (kb true 26)), some (.int v1), some (.int v2), some (.int v3), some (.ref (kb true 5))], [.int (0 : Int32)], 0, 0, kjS f I L)) rfl ?_
        obtain rfl := Option.some.inj h
        exact mv_G_ret rfl rfl rfl (Nat.le_refl _) (Or.inl rfl) ⟨rfl, rfl⟩
      · rw [if_neg hc41] at h
        refine mv_G_br (tgt := 253) rfl rfl (by decide) (fun z => absurd z hc41) (fun _ => ?_)
        refine mv_G_run 2 (F' := (254, [some (.ref (kb true 26)), some (.int v1), some (.int v2), some (.int v3), some (.ref (kb true 5))], [.int (1 : Int32)], 0, 0, kjS f I L)) rfl ?_
        obtain rfl := Option.some.inj h
        exact mv_G_ret rfl rfl rfl (Nat.le_refl _) (Or.inr rfl) ⟨rfl, rfl⟩
    rw [if_neg hw38] at h
    by_cases hw42 : ((I (kb true 26) 5)).toInt = 50
    · rw [if_pos hw42] at h
      refine mv_G_sw (tgt := 255) (off := 242) rfl (by simp only [mv_sw, hw42]; rfl) (by decide) ?_
      refine mv_G_run 4 (F' := (263, [some (.ref (kb true 26)), some (.int v1), some (.int v2), some (.int v3), some (.ref (kb true 5))], [.int v1, .ref (kb true 14)], 0, 0, kjS f I L)) rfl ?_
      obtain ⟨r43, hc44, h⟩ := mv_bd h
      refine mv_G_call (r := []) (kf52_ok _ _ _ _ _ _ _ hc44) rfl rfl rfl rfl rfl (Nat.le_of_ble_eq_true rfl) (Nat.le_of_ble_eq_true rfl) (Nat.le_of_ble_eq_true rfl) ?_
      rintro _ _ ⟨rfl, rfl⟩
      by_cases hc45 : r43 = 0
      · rw [if_pos hc45] at h
        refine mv_G_br (tgt := 293) rfl rfl (by decide) (fun _ => ?_) (fun z => absurd hc45 z)
        refine mv_G_run 1 (F' := (294, [some (.ref (kb true 26)), some (.int v1), some (.int v2), some (.int v3), some (.ref (kb true 5))], [.int (0 : Int32)], 0, 0, kjS f I L)) rfl ?_
        obtain rfl := Option.some.inj h
        exact mv_G_ret rfl rfl rfl (Nat.le_refl _) (Or.inl rfl) ⟨rfl, rfl⟩
      · rw [if_neg hc45] at h
        refine mv_G_br (tgt := 293) rfl rfl (by decide) (fun z => absurd z hc45) (fun _ => ?_)
        refine mv_G_run 6 (F' := (280, [some (.ref (kb true 26)), some (.int v1), some (.int v2), some (.int v3), some (.ref (kb true 5))], [.int v1, .ref (kb true 14), .int v2, .ref (kb true 5)], 0, 0, kjS f I L)) rfl ?_
        obtain ⟨r46, hc47, h⟩ := mv_bd h
        refine mv_G_call (r := [.int v2, .ref (kb true 5)]) (kf52_ok _ _ _ _ _ _ _ hc47) rfl rfl rfl rfl rfl (Nat.le_of_ble_eq_true rfl) (Nat.le_of_ble_eq_true rfl) (Nat.le_of_ble_eq_true rfl) ?_
        rintro _ _ ⟨rfl, rfl⟩
        obtain ⟨r48, hc49, h⟩ := mv_bd h
        refine mv_G_call (r := []) (kf44_ok _ _ _ _ _ _ _ _ hc49) rfl rfl rfl rfl rfl (Nat.le_of_ble_eq_true rfl) (Nat.le_of_ble_eq_true rfl) (Nat.le_of_ble_eq_true rfl) ?_
        rintro _ _ ⟨rfl, rfl⟩
        by_cases hc50 : r48 = 0
        · rw [if_pos hc50] at h
          refine mv_G_br (tgt := 293) rfl rfl (by decide) (fun _ => ?_) (fun z => absurd hc50 z)
          refine mv_G_run 1 (F' := (294, [some (.ref (kb true 26)), some (.int v1), some (.int v2), some (.int v3), some (.ref (kb true 5))], [.int (0 : Int32)], 0, 0, kjS f I L)) rfl ?_
          obtain rfl := Option.some.inj h
          exact mv_G_ret rfl rfl rfl (Nat.le_refl _) (Or.inl rfl) ⟨rfl, rfl⟩
        · rw [if_neg hc50] at h
          refine mv_G_br (tgt := 293) rfl rfl (by decide) (fun z => absurd z hc50) (fun _ => ?_)
          refine mv_G_run 2 (F' := (294, [some (.ref (kb true 26)), some (.int v1), some (.int v2), some (.int v3), some (.ref (kb true 5))], [.int (1 : Int32)], 0, 0, kjS f I L)) rfl ?_
          obtain rfl := Option.some.inj h
          exact mv_G_ret rfl rfl rfl (Nat.le_refl _) (Or.inr rfl) ⟨rfl, rfl⟩
    rw [if_neg hw42] at h
    refine mv_G_sw (tgt := 295) (off := 282) rfl (by
    have hz51 : (((I (kb true 26) 5)).toInt < 39 ∨ 50 < ((I (kb true 26) 5)).toInt) ∨ ((I (kb true 26) 5)).toInt = 41 := by omega
    rcases hz51 with hz51 | hz51
    · exact if_pos hz51
    · simp only [mv_sw, hz51]; rfl) (by decide) ?_
    refine mv_G_run 1 (F' := (296, [some (.ref (kb true 26)), some (.int v1), some (.int v2), some (.int v3), some (.ref (kb true 5))], [.int (1 : Int32)], 0, 0, kjS f I L)) rfl ?_
    obtain rfl := Option.some.inj h
    exact mv_G_ret rfl rfl rfl (Nat.le_refl _) (Or.inr rfl) ⟨rfl, rfl⟩
/-! KindJudge$Flow.takesWhatIsFit(I)Z on ('b', 26) -/
def kf93_146 (b : Bool) (N : Nat) (I : kjI) (L : kjL) : Option (Int32) :=
  (kf95 b N I L (0 : Int32)).bind fun r1 => if r1 = 0 ∨ r1 = 1 then some r1 else none
set_option maxRecDepth 100000 in
set_option maxHeartbeats 4000000 in
theorem kf93_146_ok (f : Bool) (b : Bool) (N : Nat) (I : kjI) (L : kjL) (d : Nat)  (r : Int32) (h : kf93_146 b N I L = some r) : mv_G kjP kjSta (mv_C kjP kjSta (d + 4)) kjM_93 (kjQi f I L r) (146, [some (.ref (kb b 26)), none, none, none], [], 0, 0, kjS f I L) := by
  cases b
  · unfold kf93_146 at h
    refine mv_G_run 2 (F' := (148, [some (.ref (kb false 26)), none, none, none], [.int (0 : Int32), .ref (kb false 26)], 0, 0, kjS f I L)) rfl ?_
    obtain ⟨r1, hc2, h⟩ := mv_bd h
    refine mv_G_call (r := []) (kf95_ok _ _ _ _ _ _ _ _ hc2) rfl rfl rfl rfl rfl (Nat.le_of_ble_eq_true rfl) (Nat.le_of_ble_eq_true rfl) (Nat.le_of_ble_eq_true rfl) ?_
    rintro _ _ ⟨rfl, rfl⟩
    obtain ⟨hb3, h⟩ := mv_ifs h
    obtain rfl := Option.some.inj h
    exact mv_G_ret rfl rfl rfl (Nat.le_refl _) hb3 ⟨rfl, rfl⟩
  · unfold kf93_146 at h
    refine mv_G_run 2 (F' := (148, [some (.ref (kb true 26)), none, none, none], [.int (0 : Int32), .ref (kb true 26)], 0, 0, kjS f I L)) rfl ?_
    obtain ⟨r1, hc2, h⟩ := mv_bd h
    refine mv_G_call (r := []) (kf95_ok _ _ _ _ _ _ _ _ hc2) rfl rfl rfl rfl rfl (Nat.le_of_ble_eq_true rfl) (Nat.le_of_ble_eq_true rfl) (Nat.le_of_ble_eq_true rfl) ?_
    rintro _ _ ⟨rfl, rfl⟩
    obtain ⟨hb3, h⟩ := mv_ifs h
    obtain rfl := Option.some.inj h
    exact mv_G_ret rfl rfl rfl (Nat.le_refl _) hb3 ⟨rfl, rfl⟩
def kf93_200 (b : Bool) (N : Nat) (I : kjI) (L : kjL) (v2 : Int32) (v3 : Int32) : Option (Int32) :=
  if ¬ v3 = (2 : Int32) then (some (1 : Int32)) else (if (15 : Int32) ≤ v2 then (some (0 : Int32)) else (some (1 : Int32)))
set_option maxRecDepth 100000 in
set_option maxHeartbeats 4000000 in
theorem kf93_200_ok (f : Bool) (b : Bool) (N : Nat) (I : kjI) (L : kjL) (d : Nat)  (v2 : Int32) (v3 : Int32) (r : Int32) (h : kf93_200 b N I L v2 v3 = some r) : mv_G kjP kjSta (mv_C kjP kjSta (d + 4)) kjM_93 (kjQi f I L r) (200, [none, none, some (.int v2), some (.int v3)], [], 0, 0, kjS f I L) := by
  cases b
  · unfold kf93_200 at h
    refine mv_G_run 2 (F' := (202, [none, none, some (.int v2), some (.int v3)], [.int (2 : Int32), .int v3], 0, 0, kjS f I L)) rfl ?_
    by_cases hc1 : ¬ v3 = (2 : Int32)
    · rw [if_pos hc1] at h
      refine mv_G_br (tgt := 211) rfl rfl (by decide) (fun _ => ?_) (fun z => absurd hc1 z)
      refine mv_G_run 2 (F' := (216, [none, none, some (.int v2), some (.int v3)], [.int (1 : Int32)], 0, 0, kjS f I L)) rfl ?_
      obtain rfl := Option.some.inj h
      exact mv_G_ret rfl rfl rfl (Nat.le_refl _) (Or.inr rfl) ⟨rfl, rfl⟩
    · rw [if_neg hc1] at h
      refine mv_G_br (tgt := 211) rfl rfl (by decide) (fun z => absurd z hc1) (fun _ => ?_)
      refine mv_G_run 2 (F' := (208, [none, none, some (.int v2), some (.int v3)], [.int (15 : Int32), .int v2], 0, 0, kjS f I L)) rfl ?_
      by_cases hc2 : (15 : Int32) ≤ v2
      · rw [if_pos hc2] at h
        refine mv_G_br (tgt := 215) rfl rfl (by decide) (fun _ => ?_) (fun z => absurd hc2 z)
        refine mv_G_run 1 (F' := (216, [none, none, some (.int v2), some (.int v3)], [.int (0 : Int32)], 0, 0, kjS f I L)) rfl ?_
        obtain rfl := Option.some.inj h
        exact mv_G_ret rfl rfl rfl (Nat.le_refl _) (Or.inl rfl) ⟨rfl, rfl⟩
      · rw [if_neg hc2] at h
        refine mv_G_br (tgt := 215) rfl rfl (by decide) (fun z => absurd z hc2) (fun _ => ?_)
        refine mv_G_run 2 (F' := (216, [none, none, some (.int v2), some (.int v3)], [.int (1 : Int32)], 0, 0, kjS f I L)) rfl ?_
        obtain rfl := Option.some.inj h
        exact mv_G_ret rfl rfl rfl (Nat.le_refl _) (Or.inr rfl) ⟨rfl, rfl⟩
  · unfold kf93_200 at h
    refine mv_G_run 2 (F' := (202, [none, none, some (.int v2), some (.int v3)], [.int (2 : Int32), .int v3], 0, 0, kjS f I L)) rfl ?_
    by_cases hc1 : ¬ v3 = (2 : Int32)
    · rw [if_pos hc1] at h
      refine mv_G_br (tgt := 211) rfl rfl (by decide) (fun _ => ?_) (fun z => absurd hc1 z)
      refine mv_G_run 2 (F' := (216, [none, none, some (.int v2), some (.int v3)], [.int (1 : Int32)], 0, 0, kjS f I L)) rfl ?_
      obtain rfl := Option.some.inj h
      exact mv_G_ret rfl rfl rfl (Nat.le_refl _) (Or.inr rfl) ⟨rfl, rfl⟩
    · rw [if_neg hc1] at h
      refine mv_G_br (tgt := 211) rfl rfl (by decide) (fun z => absurd z hc1) (fun _ => ?_)
      refine mv_G_run 2 (F' := (208, [none, none, some (.int v2), some (.int v3)], [.int (15 : Int32), .int v2], 0, 0, kjS f I L)) rfl ?_
      by_cases hc2 : (15 : Int32) ≤ v2
      · rw [if_pos hc2] at h
        refine mv_G_br (tgt := 215) rfl rfl (by decide) (fun _ => ?_) (fun z => absurd hc2 z)
        refine mv_G_run 1 (F' := (216, [none, none, some (.int v2), some (.int v3)], [.int (0 : Int32)], 0, 0, kjS f I L)) rfl ?_
        obtain rfl := Option.some.inj h
        exact mv_G_ret rfl rfl rfl (Nat.le_refl _) (Or.inl rfl) ⟨rfl, rfl⟩
      · rw [if_neg hc2] at h
        refine mv_G_br (tgt := 215) rfl rfl (by decide) (fun z => absurd z hc2) (fun _ => ?_)
        refine mv_G_run 2 (F' := (216, [none, none, some (.int v2), some (.int v3)], [.int (1 : Int32)], 0, 0, kjS f I L)) rfl ?_
        obtain rfl := Option.some.inj h
        exact mv_G_ret rfl rfl rfl (Nat.le_refl _) (Or.inr rfl) ⟨rfl, rfl⟩
def kf93_110 (b : Bool) (N : Nat) (I : kjI) (L : kjL) (v1 : Int32) (v2 : Int32) (v3 : Int32) : Option (Int32) :=
  if (I (kb b 26) 5) ≤ (33 : Int32) then (kf93_146 b N I L) else (if (I (kb b 26) 5) = (41 : Int32) then (kf93_146 b N I L) else (if (I (kb b 26) 5) = (51 : Int32) then (kf93_146 b N I L) else (if ¬ (I (kb b 26) 5) = (53 : Int32) then (if (35 : Int32) < (I (kb b 26) 5) then (if (37 : Int32) < (I (kb b 26) 5) then ((kf94 b N I L v1 v2 v3).bind fun r7 => if r7 = 0 ∨ r7 = 1 then some r7 else none) else ((kf97 I L v2).bind fun r10 => if r10 = 0 then (some (0 : Int32)) else ((kf97 I L v3).bind fun r13 => if r13 = 0 then (some (0 : Int32)) else (if ¬ v2 = (2 : Int32) then (kf93_200 b N I L v2 v3) else (if (15 : Int32) ≤ v3 then (some (0 : Int32)) else (kf93_200 b N I L v2 v3)))))) else ((kf97 I L v2).bind fun r18 => if r18 = 0 ∨ r18 = 1 then some r18 else none)) else (kf93_146 b N I L))))
set_option maxRecDepth 100000 in
set_option maxHeartbeats 4000000 in
theorem kf93_110_ok (f : Bool) (b : Bool) (N : Nat) (I : kjI) (L : kjL) (d : Nat)  (v1 : Int32) (v2 : Int32) (v3 : Int32) (r : Int32) (h : kf93_110 b N I L v1 v2 v3 = some r) : mv_G kjP kjSta (mv_C kjP kjSta (d + 4)) kjM_93 (kjQi f I L r) (110, [some (.ref (kb b 26)), some (.int v1), some (.int v2), some (.int v3)], [], 0, 0, kjS f I L) := by
  cases b
  · unfold kf93_110 at h
    refine mv_G_run 3 (F' := (116, [some (.ref (kb false 26)), some (.int v1), some (.int v2), some (.int v3)], [.int (33 : Int32), .int (I (kb false 26) 5)], 0, 0, kjS f I L)) rfl ?_
    by_cases hc1 : (I (kb false 26) 5) ≤ (33 : Int32)
    · rw [if_pos hc1] at h
      refine mv_G_br (tgt := 146) rfl rfl (by decide) (fun _ => ?_) (fun z => absurd hc1 z)
      refine mv_G_fg (lc' := [some (.ref (kb false 26)), none, none, none]) (And.intro rfl trivial) ?_
      exact kf93_146_ok _ _ _ _ _ d _ h
    · rw [if_neg hc1] at h
      refine mv_G_br (tgt := 146) rfl rfl (by decide) (fun z => absurd z hc1) (fun _ => ?_)
      refine mv_G_run 3 (F' := (125, [some (.ref (kb false 26)), some (.int v1), some (.int v2), some (.int v3)], [.int (41 : Int32), .int (I (kb false 26) 5)], 0, 0, kjS f I L)) rfl ?_
      by_cases hc2 : (I (kb false 26) 5) = (41 : Int32)
      · rw [if_pos hc2] at h
        refine mv_G_br (tgt := 146) rfl rfl (by decide) (fun _ => ?_) (fun z => absurd hc2 z)
        refine mv_G_fg (lc' := [some (.ref (kb false 26)), none, none, none]) (And.intro rfl trivial) ?_
        exact kf93_146_ok _ _ _ _ _ d _ h
      · rw [if_neg hc2] at h
        refine mv_G_br (tgt := 146) rfl rfl (by decide) (fun z => absurd z hc2) (fun _ => ?_)
        refine mv_G_run 3 (F' := (134, [some (.ref (kb false 26)), some (.int v1), some (.int v2), some (.int v3)], [.int (51 : Int32), .int (I (kb false 26) 5)], 0, 0, kjS f I L)) rfl ?_
        by_cases hc3 : (I (kb false 26) 5) = (51 : Int32)
        · rw [if_pos hc3] at h
          refine mv_G_br (tgt := 146) rfl rfl (by decide) (fun _ => ?_) (fun z => absurd hc3 z)
          refine mv_G_fg (lc' := [some (.ref (kb false 26)), none, none, none]) (And.intro rfl trivial) ?_
          exact kf93_146_ok _ _ _ _ _ d _ h
        · rw [if_neg hc3] at h
          refine mv_G_br (tgt := 146) rfl rfl (by decide) (fun z => absurd z hc3) (fun _ => ?_)
          refine mv_G_run 3 (F' := (143, [some (.ref (kb false 26)), some (.int v1), some (.int v2), some (.int v3)], [.int (53 : Int32), .int (I (kb false 26) 5)], 0, 0, kjS f I L)) rfl ?_
          by_cases hc4 : ¬ (I (kb false 26) 5) = (53 : Int32)
          · rw [if_pos hc4] at h
            refine mv_G_br (tgt := 152) rfl rfl (by decide) (fun _ => ?_) (fun z => absurd hc4 z)
            refine mv_G_run 3 (F' := (158, [some (.ref (kb false 26)), some (.int v1), some (.int v2), some (.int v3)], [.int (35 : Int32), .int (I (kb false 26) 5)], 0, 0, kjS f I L)) rfl ?_
            by_cases hc5 : (35 : Int32) < (I (kb false 26) 5)
            · rw [if_pos hc5] at h
              refine mv_G_br (tgt := 166) rfl rfl (by decide) (fun _ => ?_) (fun z => absurd hc5 z)
              refine mv_G_run 3 (F' := (172, [some (.ref (kb false 26)), some (.int v1), some (.int v2), some (.int v3)], [.int (37 : Int32), .int (I (kb false 26) 5)], 0, 0, kjS f I L)) rfl ?_
              by_cases hc6 : (37 : Int32) < (I (kb false 26) 5)
              · rw [if_pos hc6] at h
                refine mv_G_br (tgt := 217) rfl rfl (by decide) (fun _ => ?_) (fun z => absurd hc6 z)
                refine mv_G_run 4 (F' := (221, [some (.ref (kb false 26)), some (.int v1), some (.int v2), some (.int v3)], [.int v3, .int v2, .int v1, .ref (kb false 26)], 0, 0, kjS f I L)) rfl ?_
                obtain ⟨r7, hc8, h⟩ := mv_bd h
                refine mv_G_call (r := []) (kf94_ok _ _ _ _ _ _ _ _ _ _ hc8) rfl rfl rfl rfl rfl (Nat.le_of_ble_eq_true rfl) (Nat.le_of_ble_eq_true rfl) (Nat.le_of_ble_eq_true rfl) ?_
                rintro _ _ ⟨rfl, rfl⟩
                obtain ⟨hb9, h⟩ := mv_ifs h
                obtain rfl := Option.some.inj h
                exact mv_G_ret rfl rfl rfl (Nat.le_refl _) hb9 ⟨rfl, rfl⟩
              · rw [if_neg hc6] at h
                refine mv_G_br (tgt := 217) rfl rfl (by decide) (fun z => absurd z hc6) (fun _ => ?_)
                refine mv_G_run 1 (F' := (176, [some (.ref (kb false 26)), some (.int v1), some (.int v2), some (.int v3)], [.int v2], 0, 0, kjS f I L)) rfl ?_
                obtain ⟨r10, hc11, h⟩ := mv_bd h
                refine mv_G_call (r := []) (kf97_ok _ _ _ _ _ _ hc11) rfl rfl rfl rfl rfl (Nat.le_of_ble_eq_true rfl) (Nat.le_of_ble_eq_true rfl) (Nat.le_of_ble_eq_true rfl) ?_
                rintro _ _ ⟨rfl, rfl⟩
                by_cases hc12 : r10 = 0
                · rw [if_pos hc12] at h
                  refine mv_G_br (tgt := 215) rfl rfl (by decide) (fun _ => ?_) (fun z => absurd hc12 z)
                  refine mv_G_run 1 (F' := (216, [some (.ref (kb false 26)), some (.int v1), some (.int v2), some (.int v3)], [.int (0 : Int32)], 0, 0, kjS f I L)) rfl ?_
                  obtain rfl := Option.some.inj h
                  exact mv_G_ret rfl rfl rfl (Nat.le_refl _) (Or.inl rfl) ⟨rfl, rfl⟩
                · rw [if_neg hc12] at h
                  refine mv_G_br (tgt := 215) rfl rfl (by decide) (fun z => absurd z hc12) (fun _ => ?_)
                  refine mv_G_run 1 (F' := (183, [some (.ref (kb false 26)), some (.int v1), some (.int v2), some (.int v3)], [.int v3], 0, 0, kjS f I L)) rfl ?_
                  obtain ⟨r13, hc14, h⟩ := mv_bd h
                  refine mv_G_call (r := []) (kf97_ok _ _ _ _ _ _ hc14) rfl rfl rfl rfl rfl (Nat.le_of_ble_eq_true rfl) (Nat.le_of_ble_eq_true rfl) (Nat.le_of_ble_eq_true rfl) ?_
                  rintro _ _ ⟨rfl, rfl⟩
                  by_cases hc15 : r13 = 0
                  · rw [if_pos hc15] at h
                    refine mv_G_br (tgt := 215) rfl rfl (by decide) (fun _ => ?_) (fun z => absurd hc15 z)
                    refine mv_G_run 1 (F' := (216, [some (.ref (kb false 26)), some (.int v1), some (.int v2), some (.int v3)], [.int (0 : Int32)], 0, 0, kjS f I L)) rfl ?_
                    obtain rfl := Option.some.inj h
                    exact mv_G_ret rfl rfl rfl (Nat.le_refl _) (Or.inl rfl) ⟨rfl, rfl⟩
                  · rw [if_neg hc15] at h
                    refine mv_G_br (tgt := 215) rfl rfl (by decide) (fun z => absurd z hc15) (fun _ => ?_)
                    refine mv_G_run 2 (F' := (191, [some (.ref (kb false 26)), some (.int v1), some (.int v2), some (.int v3)], [.int (2 : Int32), .int v2], 0, 0, kjS f I L)) rfl ?_
                    by_cases hc16 : ¬ v2 = (2 : Int32)
                    · rw [if_pos hc16] at h
                      refine mv_G_br (tgt := 200) rfl rfl (by decide) (fun _ => ?_) (fun z => absurd hc16 z)
                      refine mv_G_fg (lc' := [none, none, some (.int v2), some (.int v3)]) (And.intro rfl (And.intro rfl trivial)) ?_
                      exact kf93_200_ok _ _ _ _ _ d _ _ _ h
                    · rw [if_neg hc16] at h
                      refine mv_G_br (tgt := 200) rfl rfl (by decide) (fun z => absurd z hc16) (fun _ => ?_)
                      refine mv_G_run 2 (F' := (197, [some (.ref (kb false 26)), some (.int v1), some (.int v2), some (.int v3)], [.int (15 : Int32), .int v3], 0, 0, kjS f I L)) rfl ?_
                      by_cases hc17 : (15 : Int32) ≤ v3
                      · rw [if_pos hc17] at h
                        refine mv_G_br (tgt := 215) rfl rfl (by decide) (fun _ => ?_) (fun z => absurd hc17 z)
                        refine mv_G_run 1 (F' := (216, [some (.ref (kb false 26)), some (.int v1), some (.int v2), some (.int v3)], [.int (0 : Int32)], 0, 0, kjS f I L)) rfl ?_
                        obtain rfl := Option.some.inj h
                        exact mv_G_ret rfl rfl rfl (Nat.le_refl _) (Or.inl rfl) ⟨rfl, rfl⟩
                      · rw [if_neg hc17] at h
                        refine mv_G_br (tgt := 215) rfl rfl (by decide) (fun z => absurd z hc17) (fun _ => ?_)
                        refine mv_G_fg (lc' := [none, none, some (.int v2), some (.int v3)]) (And.intro rfl (And.intro rfl trivial)) ?_
                        exact kf93_200_ok _ _ _ _ _ d _ _ _ h
            · rw [if_neg hc5] at h
              refine mv_G_br (tgt := 166) rfl rfl (by decide) (fun z => absurd z hc5) (fun _ => ?_)
              refine mv_G_run 1 (F' := (162, [some (.ref (kb false 26)), some (.int v1), some (.int v2), some (.int v3)], [.int v2], 0, 0, kjS f I L)) rfl ?_
              obtain ⟨r18, hc19, h⟩ := mv_bd h
              refine mv_G_call (r := []) (kf97_ok _ _ _ _ _ _ hc19) rfl rfl rfl rfl rfl (Nat.le_of_ble_eq_true rfl) (Nat.le_of_ble_eq_true rfl) (Nat.le_of_ble_eq_true rfl) ?_
              rintro _ _ ⟨rfl, rfl⟩
              obtain ⟨hb20, h⟩ := mv_ifs h
              obtain rfl := Option.some.inj h
              exact mv_G_ret rfl rfl rfl (Nat.le_refl _) hb20 ⟨rfl, rfl⟩
          · rw [if_neg hc4] at h
            refine mv_G_br (tgt := 152) rfl rfl (by decide) (fun z => absurd z hc4) (fun _ => ?_)
            refine mv_G_fg (lc' := [some (.ref (kb false 26)), none, none, none]) (And.intro rfl trivial) ?_
            exact kf93_146_ok _ _ _ _ _ d _ h
  · unfold kf93_110 at h
    refine mv_G_run 3 (F' := (116, [some (.ref (kb true 26)), some (.int v1), some (.int v2), some (.int v3)], [.int (33 : Int32), .int (I (kb true 26) 5)], 0, 0, kjS f I L)) rfl ?_
    by_cases hc1 : (I (kb true 26) 5) ≤ (33 : Int32)
    · rw [if_pos hc1] at h
      refine mv_G_br (tgt := 146) rfl rfl (by decide) (fun _ => ?_) (fun z => absurd hc1 z)
      refine mv_G_fg (lc' := [some (.ref (kb true 26)), none, none, none]) (And.intro rfl trivial) ?_
      exact kf93_146_ok _ _ _ _ _ d _ h
    · rw [if_neg hc1] at h
      refine mv_G_br (tgt := 146) rfl rfl (by decide) (fun z => absurd z hc1) (fun _ => ?_)
      refine mv_G_run 3 (F' := (125, [some (.ref (kb true 26)), some (.int v1), some (.int v2), some (.int v3)], [.int (41 : Int32), .int (I (kb true 26) 5)], 0, 0, kjS f I L)) rfl ?_
      by_cases hc2 : (I (kb true 26) 5) = (41 : Int32)
      · rw [if_pos hc2] at h
        refine mv_G_br (tgt := 146) rfl rfl (by decide) (fun _ => ?_) (fun z => absurd hc2 z)
        refine mv_G_fg (lc' := [some (.ref (kb true 26)), none, none, none]) (And.intro rfl trivial) ?_
        exact kf93_146_ok _ _ _ _ _ d _ h
      · rw [if_neg hc2] at h
        refine mv_G_br (tgt := 146) rfl rfl (by decide) (fun z => absurd z hc2) (fun _ => ?_)
        refine mv_G_run 3 (F' := (134, [some (.ref (kb true 26)), some (.int v1), some (.int v2), some (.int v3)], [.int (51 : Int32), .int (I (kb true 26) 5)], 0, 0, kjS f I L)) rfl ?_
        by_cases hc3 : (I (kb true 26) 5) = (51 : Int32)
        · rw [if_pos hc3] at h
          refine mv_G_br (tgt := 146) rfl rfl (by decide) (fun _ => ?_) (fun z => absurd hc3 z)
          refine mv_G_fg (lc' := [some (.ref (kb true 26)), none, none, none]) (And.intro rfl trivial) ?_
          exact kf93_146_ok _ _ _ _ _ d _ h
        · rw [if_neg hc3] at h
          refine mv_G_br (tgt := 146) rfl rfl (by decide) (fun z => absurd z hc3) (fun _ => ?_)
          refine mv_G_run 3 (F' := (143, [some (.ref (kb true 26)), some (.int v1), some (.int v2), some (.int v3)], [.int (53 : Int32), .int (I (kb true 26) 5)], 0, 0, kjS f I L)) rfl ?_
          by_cases hc4 : ¬ (I (kb true 26) 5) = (53 : Int32)
          · rw [if_pos hc4] at h
            refine mv_G_br (tgt := 152) rfl rfl (by decide) (fun _ => ?_) (fun z => absurd hc4 z)
            refine mv_G_run 3 (F' := (158, [some (.ref (kb true 26)), some (.int v1), some (.int v2), some (.int v3)], [.int (35 : Int32), .int (I (kb true 26) 5)], 0, 0, kjS f I L)) rfl ?_
            by_cases hc5 : (35 : Int32) < (I (kb true 26) 5)
            · rw [if_pos hc5] at h
              refine mv_G_br (tgt := 166) rfl rfl (by decide) (fun _ => ?_) (fun z => absurd hc5 z)
              refine mv_G_run 3 (F' := (172, [some (.ref (kb true 26)), some (.int v1), some (.int v2), some (.int v3)], [.int (37 : Int32), .int (I (kb true 26) 5)], 0, 0, kjS f I L)) rfl ?_
              by_cases hc6 : (37 : Int32) < (I (kb true 26) 5)
              · rw [if_pos hc6] at h
                refine mv_G_br (tgt := 217) rfl rfl (by decide) (fun _ => ?_) (fun z => absurd hc6 z)
                refine mv_G_run 4 (F' := (221, [some (.ref (kb true 26)), some (.int v1), some (.int v2), some (.int v3)], [.int v3, .int v2, .int v1, .ref (kb true 26)], 0, 0, kjS f I L)) rfl ?_
                obtain ⟨r7, hc8, h⟩ := mv_bd h
                refine mv_G_call (r := []) (kf94_ok _ _ _ _ _ _ _ _ _ _ hc8) rfl rfl rfl rfl rfl (Nat.le_of_ble_eq_true rfl) (Nat.le_of_ble_eq_true rfl) (Nat.le_of_ble_eq_true rfl) ?_
                rintro _ _ ⟨rfl, rfl⟩
                obtain ⟨hb9, h⟩ := mv_ifs h
                obtain rfl := Option.some.inj h
                exact mv_G_ret rfl rfl rfl (Nat.le_refl _) hb9 ⟨rfl, rfl⟩
              · rw [if_neg hc6] at h
                refine mv_G_br (tgt := 217) rfl rfl (by decide) (fun z => absurd z hc6) (fun _ => ?_)
                refine mv_G_run 1 (F' := (176, [some (.ref (kb true 26)), some (.int v1), some (.int v2), some (.int v3)], [.int v2], 0, 0, kjS f I L)) rfl ?_
                obtain ⟨r10, hc11, h⟩ := mv_bd h
                refine mv_G_call (r := []) (kf97_ok _ _ _ _ _ _ hc11) rfl rfl rfl rfl rfl (Nat.le_of_ble_eq_true rfl) (Nat.le_of_ble_eq_true rfl) (Nat.le_of_ble_eq_true rfl) ?_
                rintro _ _ ⟨rfl, rfl⟩
                by_cases hc12 : r10 = 0
                · rw [if_pos hc12] at h
                  refine mv_G_br (tgt := 215) rfl rfl (by decide) (fun _ => ?_) (fun z => absurd hc12 z)
                  refine mv_G_run 1 (F' := (216, [some (.ref (kb true 26)), some (.int v1), some (.int v2), some (.int v3)], [.int (0 : Int32)], 0, 0, kjS f I L)) rfl ?_
                  obtain rfl := Option.some.inj h
                  exact mv_G_ret rfl rfl rfl (Nat.le_refl _) (Or.inl rfl) ⟨rfl, rfl⟩
                · rw [if_neg hc12] at h
                  refine mv_G_br (tgt := 215) rfl rfl (by decide) (fun z => absurd z hc12) (fun _ => ?_)
                  refine mv_G_run 1 (F' := (183, [some (.ref (kb true 26)), some (.int v1), some (.int v2), some (.int v3)], [.int v3], 0, 0, kjS f I L)) rfl ?_
                  obtain ⟨r13, hc14, h⟩ := mv_bd h
                  refine mv_G_call (r := []) (kf97_ok _ _ _ _ _ _ hc14) rfl rfl rfl rfl rfl (Nat.le_of_ble_eq_true rfl) (Nat.le_of_ble_eq_true rfl) (Nat.le_of_ble_eq_true rfl) ?_
                  rintro _ _ ⟨rfl, rfl⟩
                  by_cases hc15 : r13 = 0
                  · rw [if_pos hc15] at h
                    refine mv_G_br (tgt := 215) rfl rfl (by decide) (fun _ => ?_) (fun z => absurd hc15 z)
                    refine mv_G_run 1 (F' := (216, [some (.ref (kb true 26)), some (.int v1), some (.int v2), some (.int v3)], [.int (0 : Int32)], 0, 0, kjS f I L)) rfl ?_
                    obtain rfl := Option.some.inj h
                    exact mv_G_ret rfl rfl rfl (Nat.le_refl _) (Or.inl rfl) ⟨rfl, rfl⟩
                  · rw [if_neg hc15] at h
                    refine mv_G_br (tgt := 215) rfl rfl (by decide) (fun z => absurd z hc15) (fun _ => ?_)
                    refine mv_G_run 2 (F' := (191, [some (.ref (kb true 26)), some (.int v1), some (.int v2), some (.int v3)], [.int (2 : Int32), .int v2], 0, 0, kjS f I L)) rfl ?_
                    by_cases hc16 : ¬ v2 = (2 : Int32)
                    · rw [if_pos hc16] at h
                      refine mv_G_br (tgt := 200) rfl rfl (by decide) (fun _ => ?_) (fun z => absurd hc16 z)
                      refine mv_G_fg (lc' := [none, none, some (.int v2), some (.int v3)]) (And.intro rfl (And.intro rfl trivial)) ?_
                      exact kf93_200_ok _ _ _ _ _ d _ _ _ h
                    · rw [if_neg hc16] at h
                      refine mv_G_br (tgt := 200) rfl rfl (by decide) (fun z => absurd z hc16) (fun _ => ?_)
                      refine mv_G_run 2 (F' := (197, [some (.ref (kb true 26)), some (.int v1), some (.int v2), some (.int v3)], [.int (15 : Int32), .int v3], 0, 0, kjS f I L)) rfl ?_
                      by_cases hc17 : (15 : Int32) ≤ v3
                      · rw [if_pos hc17] at h
                        refine mv_G_br (tgt := 215) rfl rfl (by decide) (fun _ => ?_) (fun z => absurd hc17 z)
                        refine mv_G_run 1 (F' := (216, [some (.ref (kb true 26)), some (.int v1), some (.int v2), some (.int v3)], [.int (0 : Int32)], 0, 0, kjS f I L)) rfl ?_
                        obtain rfl := Option.some.inj h
                        exact mv_G_ret rfl rfl rfl (Nat.le_refl _) (Or.inl rfl) ⟨rfl, rfl⟩
                      · rw [if_neg hc17] at h
                        refine mv_G_br (tgt := 215) rfl rfl (by decide) (fun z => absurd z hc17) (fun _ => ?_)
                        refine mv_G_fg (lc' := [none, none, some (.int v2), some (.int v3)]) (And.intro rfl (And.intro rfl trivial)) ?_
                        exact kf93_200_ok _ _ _ _ _ d _ _ _ h
            · rw [if_neg hc5] at h
              refine mv_G_br (tgt := 166) rfl rfl (by decide) (fun z => absurd z hc5) (fun _ => ?_)
              refine mv_G_run 1 (F' := (162, [some (.ref (kb true 26)), some (.int v1), some (.int v2), some (.int v3)], [.int v2], 0, 0, kjS f I L)) rfl ?_
              obtain ⟨r18, hc19, h⟩ := mv_bd h
              refine mv_G_call (r := []) (kf97_ok _ _ _ _ _ _ hc19) rfl rfl rfl rfl rfl (Nat.le_of_ble_eq_true rfl) (Nat.le_of_ble_eq_true rfl) (Nat.le_of_ble_eq_true rfl) ?_
              rintro _ _ ⟨rfl, rfl⟩
              obtain ⟨hb20, h⟩ := mv_ifs h
              obtain rfl := Option.some.inj h
              exact mv_G_ret rfl rfl rfl (Nat.le_refl _) hb20 ⟨rfl, rfl⟩
          · rw [if_neg hc4] at h
            refine mv_G_br (tgt := 152) rfl rfl (by decide) (fun z => absurd z hc4) (fun _ => ?_)
            refine mv_G_fg (lc' := [some (.ref (kb true 26)), none, none, none]) (And.intro rfl trivial) ?_
            exact kf93_146_ok _ _ _ _ _ d _ h
def kf93 (b : Bool) (N : Nat) (I : kjI) (L : kjL) (v1 : Int32) : Option (Int32) :=
  (kf92 b I L (0 : Int32)).bind fun r1 => (kf92 b I L (1 : Int32)).bind fun r3 => if ¬ (I (kb b 26) 5) = (3 : Int32) then (if ¬ (I (kb b 26) 5) = (20 : Int32) then (if (I (kb b 26) 5) < (4 : Int32) then (kf93_110 b N I L v1 r1 r3) else (if (7 : Int32) < (I (kb b 26) 5) then (kf93_110 b N I L v1 r1 r3) else (if r1 = 0 then (some (0 : Int32)) else (if ¬ (I (kb b 26) 5) = (7 : Int32) then (some (1 : Int32)) else (if r3 = 0 then (some (0 : Int32)) else (some (1 : Int32))))))) else ((kf98 I L (L (kb b 26) 11) (I (kb b 26) 6)).bind fun r12 => if ¬ r12 = (1 : Int32) then (some (0 : Int32)) else (some (1 : Int32)))) else ((kf98 I L (L (kb b 26) 11) (I (kb b 26) 6)).bind fun r15 => if r15 = 0 then (some (0 : Int32)) else (some (1 : Int32)))
set_option maxRecDepth 100000 in
set_option maxHeartbeats 4000000 in
theorem kf93_ok (f : Bool) (b : Bool) (N : Nat) (I : kjI) (L : kjL) (v1 : Int32) (d : Nat) (r : Int32) (h : kf93 b N I L v1 = some r) : mv_C kjP kjSta (d + 5) 93 [.ref (kb b 26), .int v1] (kjS f I L) (kjQi f I L r) := by
  cases b
  · unfold kf93 at h
    refine mv_C_in kjM_93 (lc := [some (.ref (kb false 26)), some (.int v1), none, none]) rfl rfl rfl ?_
    refine mv_G_run 2 (F' := (2, [some (.ref (kb false 26)), some (.int v1), none, none], [.int (0 : Int32), .ref (kb false 26)], 0, 0, kjS f I L)) rfl ?_
    obtain ⟨r1, hc2, h⟩ := mv_bd h
    refine mv_G_call (r := []) (kf92_ok _ _ _ _ _ _ _ hc2) rfl rfl rfl rfl rfl (Nat.le_of_ble_eq_true rfl) (Nat.le_of_ble_eq_true rfl) (Nat.le_of_ble_eq_true rfl) ?_
    rintro _ _ ⟨rfl, rfl⟩
    refine mv_G_run 3 (F' := (8, [some (.ref (kb false 26)), some (.int v1), some (.int r1), none], [.int (1 : Int32), .ref (kb false 26)], 0, 0, kjS f I L)) rfl ?_
    obtain ⟨r3, hc4, h⟩ := mv_bd h
    refine mv_G_call (r := []) (kf92_ok _ _ _ _ _ _ _ hc4) rfl rfl rfl rfl rfl (Nat.le_of_ble_eq_true rfl) (Nat.le_of_ble_eq_true rfl) (Nat.le_of_ble_eq_true rfl) ?_
    rintro _ _ ⟨rfl, rfl⟩
    refine mv_G_run 4 (F' := (17, [some (.ref (kb false 26)), some (.int v1), some (.int r1), some (.int r3)], [.int (3 : Int32), .int (I (kb false 26) 5)], 0, 0, kjS f I L)) rfl ?_
    by_cases hc5 : ¬ (I (kb false 26) 5) = (3 : Int32)
    · rw [if_pos hc5] at h
      refine mv_G_br (tgt := 40) rfl rfl (by decide) (fun _ => ?_) (fun z => absurd hc5 z)
      refine mv_G_run 3 (F' := (46, [some (.ref (kb false 26)), some (.int v1), some (.int r1), some (.int r3)], [.int (20 : Int32), .int (I (kb false 26) 5)], 0, 0, kjS f I L)) rfl ?_
      by_cases hc6 : ¬ (I (kb false 26) 5) = (20 : Int32)
      · rw [if_pos hc6] at h
        refine mv_G_br (tgt := 70) rfl rfl (by decide) (fun _ => ?_) (fun z => absurd hc6 z)
        refine mv_G_run 3 (F' := (75, [some (.ref (kb false 26)), some (.int v1), some (.int r1), some (.int r3)], [.int (4 : Int32), .int (I (kb false 26) 5)], 0, 0, kjS f I L)) rfl ?_
        by_cases hc7 : (I (kb false 26) 5) < (4 : Int32)
        · rw [if_pos hc7] at h
          refine mv_G_br (tgt := 110) rfl rfl (by decide) (fun _ => ?_) (fun z => absurd hc7 z)
          exact kf93_110_ok _ _ _ _ _ d _ _ _ _ h
        · rw [if_neg hc7] at h
          refine mv_G_br (tgt := 110) rfl rfl (by decide) (fun z => absurd z hc7) (fun _ => ?_)
          refine mv_G_run 3 (F' := (84, [some (.ref (kb false 26)), some (.int v1), some (.int r1), some (.int r3)], [.int (7 : Int32), .int (I (kb false 26) 5)], 0, 0, kjS f I L)) rfl ?_
          by_cases hc8 : (7 : Int32) < (I (kb false 26) 5)
          · rw [if_pos hc8] at h
            refine mv_G_br (tgt := 110) rfl rfl (by decide) (fun _ => ?_) (fun z => absurd hc8 z)
            exact kf93_110_ok _ _ _ _ _ d _ _ _ _ h
          · rw [if_neg hc8] at h
            refine mv_G_br (tgt := 110) rfl rfl (by decide) (fun z => absurd z hc8) (fun _ => ?_)
            refine mv_G_run 1 (F' := (88, [some (.ref (kb false 26)), some (.int v1), some (.int r1), some (.int r3)], [.int r1], 0, 0, kjS f I L)) rfl ?_
            by_cases hc9 : r1 = 0
            · rw [if_pos hc9] at h
              refine mv_G_br (tgt := 108) rfl rfl (by decide) (fun _ => ?_) (fun z => absurd hc9 z)
              refine mv_G_run 1 (F' := (109, [some (.ref (kb false 26)), some (.int v1), some (.int r1), some (.int r3)], [.int (0 : Int32)], 0, 0, kjS f I L)) rfl ?_
              obtain rfl := Option.some.inj h
              exact mv_G_ret rfl rfl rfl (Nat.le_refl _) (Or.inl rfl) ⟨rfl, rfl⟩
            · rw [if_neg hc9] at h
              refine mv_G_br (tgt := 108) rfl rfl (by decide) (fun z => absurd z hc9) (fun _ => ?_)
              refine mv_G_run 3 (F' := (97, [some (.ref (kb false 26)), some (.int v1), some (.int r1), some (.int r3)], [.int (7 : Int32), .int (I (kb false 26) 5)], 0, 0, kjS f I L)) rfl ?_
              by_cases hc10 : ¬ (I (kb false 26) 5) = (7 : Int32)
              · rw [if_pos hc10] at h
                refine mv_G_br (tgt := 104) rfl rfl (by decide) (fun _ => ?_) (fun z => absurd hc10 z)
                refine mv_G_run 2 (F' := (109, [some (.ref (kb false 26)), some (.int v1), some (.int r1), some (.int r3)], [.int (1 : Int32)], 0, 0, kjS f I L)) rfl ?_
                obtain rfl := Option.some.inj h
                exact mv_G_ret rfl rfl rfl (Nat.le_refl _) (Or.inr rfl) ⟨rfl, rfl⟩
              · rw [if_neg hc10] at h
                refine mv_G_br (tgt := 104) rfl rfl (by decide) (fun z => absurd z hc10) (fun _ => ?_)
                refine mv_G_run 1 (F' := (101, [some (.ref (kb false 26)), some (.int v1), some (.int r1), some (.int r3)], [.int r3], 0, 0, kjS f I L)) rfl ?_
                by_cases hc11 : r3 = 0
                · rw [if_pos hc11] at h
                  refine mv_G_br (tgt := 108) rfl rfl (by decide) (fun _ => ?_) (fun z => absurd hc11 z)
                  refine mv_G_run 1 (F' := (109, [some (.ref (kb false 26)), some (.int v1), some (.int r1), some (.int r3)], [.int (0 : Int32)], 0, 0, kjS f I L)) rfl ?_
                  obtain rfl := Option.some.inj h
                  exact mv_G_ret rfl rfl rfl (Nat.le_refl _) (Or.inl rfl) ⟨rfl, rfl⟩
                · rw [if_neg hc11] at h
                  refine mv_G_br (tgt := 108) rfl rfl (by decide) (fun z => absurd z hc11) (fun _ => ?_)
                  refine mv_G_run 2 (F' := (109, [some (.ref (kb false 26)), some (.int v1), some (.int r1), some (.int r3)], [.int (1 : Int32)], 0, 0, kjS f I L)) rfl ?_
                  obtain rfl := Option.some.inj h
                  exact mv_G_ret rfl rfl rfl (Nat.le_refl _) (Or.inr rfl) ⟨rfl, rfl⟩
      · rw [if_neg hc6] at h
        refine mv_G_br (tgt := 70) rfl rfl (by decide) (fun z => absurd z hc6) (fun _ => ?_)
        refine mv_G_run 4 (F' := (57, [some (.ref (kb false 26)), some (.int v1), some (.int r1), some (.int r3)], [.int (I (kb false 26) 6), .long (L (kb false 26) 11)], 0, 0, kjS f I L)) rfl ?_
        obtain ⟨r12, hc13, h⟩ := mv_bd h
        refine mv_G_call (r := []) (kf98_ok _ _ _ _ _ _ _ hc13) rfl rfl rfl rfl rfl (Nat.le_of_ble_eq_true rfl) (Nat.le_of_ble_eq_true rfl) (Nat.le_of_ble_eq_true rfl) ?_
        rintro _ _ ⟨rfl, rfl⟩
        refine mv_G_run 1 (F' := (61, [some (.ref (kb false 26)), some (.int v1), some (.int r1), some (.int r3)], [.int (1 : Int32), .int r12], 0, 0, kjS f I L)) rfl ?_
        by_cases hc14 : ¬ r12 = (1 : Int32)
        · rw [if_pos hc14] at h
          refine mv_G_br (tgt := 68) rfl rfl (by decide) (fun _ => ?_) (fun z => absurd hc14 z)
          refine mv_G_run 1 (F' := (69, [some (.ref (kb false 26)), some (.int v1), some (.int r1), some (.int r3)], [.int (0 : Int32)], 0, 0, kjS f I L)) rfl ?_
          obtain rfl := Option.some.inj h
          exact mv_G_ret rfl rfl rfl (Nat.le_refl _) (Or.inl rfl) ⟨rfl, rfl⟩
        · rw [if_neg hc14] at h
          refine mv_G_br (tgt := 68) rfl rfl (by decide) (fun z => absurd z hc14) (fun _ => ?_)
          refine mv_G_run 2 (F' := (69, [some (.ref (kb false 26)), some (.int v1), some (.int r1), some (.int r3)], [.int (1 : Int32)], 0, 0, kjS f I L)) rfl ?_
          obtain rfl := Option.some.inj h
          exact mv_G_ret rfl rfl rfl (Nat.le_refl _) (Or.inr rfl) ⟨rfl, rfl⟩
    · rw [if_neg hc5] at h
      refine mv_G_br (tgt := 40) rfl rfl (by decide) (fun z => absurd z hc5) (fun _ => ?_)
      refine mv_G_run 4 (F' := (28, [some (.ref (kb false 26)), some (.int v1), some (.int r1), some (.int r3)], [.int (I (kb false 26) 6), .long (L (kb false 26) 11)], 0, 0, kjS f I L)) rfl ?_
      obtain ⟨r15, hc16, h⟩ := mv_bd h
      refine mv_G_call (r := []) (kf98_ok _ _ _ _ _ _ _ hc16) rfl rfl rfl rfl rfl (Nat.le_of_ble_eq_true rfl) (Nat.le_of_ble_eq_true rfl) (Nat.le_of_ble_eq_true rfl) ?_
      rintro _ _ ⟨rfl, rfl⟩
      by_cases hc17 : r15 = 0
      · rw [if_pos hc17] at h
        refine mv_G_br (tgt := 38) rfl rfl (by decide) (fun _ => ?_) (fun z => absurd hc17 z)
        refine mv_G_run 1 (F' := (39, [some (.ref (kb false 26)), some (.int v1), some (.int r1), some (.int r3)], [.int (0 : Int32)], 0, 0, kjS f I L)) rfl ?_
        obtain rfl := Option.some.inj h
        exact mv_G_ret rfl rfl rfl (Nat.le_refl _) (Or.inl rfl) ⟨rfl, rfl⟩
      · rw [if_neg hc17] at h
        refine mv_G_br (tgt := 38) rfl rfl (by decide) (fun z => absurd z hc17) (fun _ => ?_)
        refine mv_G_run 2 (F' := (39, [some (.ref (kb false 26)), some (.int v1), some (.int r1), some (.int r3)], [.int (1 : Int32)], 0, 0, kjS f I L)) rfl ?_
        obtain rfl := Option.some.inj h
        exact mv_G_ret rfl rfl rfl (Nat.le_refl _) (Or.inr rfl) ⟨rfl, rfl⟩
  · unfold kf93 at h
    refine mv_C_in kjM_93 (lc := [some (.ref (kb true 26)), some (.int v1), none, none]) rfl rfl rfl ?_
    refine mv_G_run 2 (F' := (2, [some (.ref (kb true 26)), some (.int v1), none, none], [.int (0 : Int32), .ref (kb true 26)], 0, 0, kjS f I L)) rfl ?_
    obtain ⟨r1, hc2, h⟩ := mv_bd h
    refine mv_G_call (r := []) (kf92_ok _ _ _ _ _ _ _ hc2) rfl rfl rfl rfl rfl (Nat.le_of_ble_eq_true rfl) (Nat.le_of_ble_eq_true rfl) (Nat.le_of_ble_eq_true rfl) ?_
    rintro _ _ ⟨rfl, rfl⟩
    refine mv_G_run 3 (F' := (8, [some (.ref (kb true 26)), some (.int v1), some (.int r1), none], [.int (1 : Int32), .ref (kb true 26)], 0, 0, kjS f I L)) rfl ?_
    obtain ⟨r3, hc4, h⟩ := mv_bd h
    refine mv_G_call (r := []) (kf92_ok _ _ _ _ _ _ _ hc4) rfl rfl rfl rfl rfl (Nat.le_of_ble_eq_true rfl) (Nat.le_of_ble_eq_true rfl) (Nat.le_of_ble_eq_true rfl) ?_
    rintro _ _ ⟨rfl, rfl⟩
    refine mv_G_run 4 (F' := (17, [some (.ref (kb true 26)), some (.int v1), some (.int r1), some (.int r3)], [.int (3 : Int32), .int (I (kb true 26) 5)], 0, 0, kjS f I L)) rfl ?_
    by_cases hc5 : ¬ (I (kb true 26) 5) = (3 : Int32)
    · rw [if_pos hc5] at h
      refine mv_G_br (tgt := 40) rfl rfl (by decide) (fun _ => ?_) (fun z => absurd hc5 z)
      refine mv_G_run 3 (F' := (46, [some (.ref (kb true 26)), some (.int v1), some (.int r1), some (.int r3)], [.int (20 : Int32), .int (I (kb true 26) 5)], 0, 0, kjS f I L)) rfl ?_
      by_cases hc6 : ¬ (I (kb true 26) 5) = (20 : Int32)
      · rw [if_pos hc6] at h
        refine mv_G_br (tgt := 70) rfl rfl (by decide) (fun _ => ?_) (fun z => absurd hc6 z)
        refine mv_G_run 3 (F' := (75, [some (.ref (kb true 26)), some (.int v1), some (.int r1), some (.int r3)], [.int (4 : Int32), .int (I (kb true 26) 5)], 0, 0, kjS f I L)) rfl ?_
        by_cases hc7 : (I (kb true 26) 5) < (4 : Int32)
        · rw [if_pos hc7] at h
          refine mv_G_br (tgt := 110) rfl rfl (by decide) (fun _ => ?_) (fun z => absurd hc7 z)
          exact kf93_110_ok _ _ _ _ _ d _ _ _ _ h
        · rw [if_neg hc7] at h
          refine mv_G_br (tgt := 110) rfl rfl (by decide) (fun z => absurd z hc7) (fun _ => ?_)
          refine mv_G_run 3 (F' := (84, [some (.ref (kb true 26)), some (.int v1), some (.int r1), some (.int r3)], [.int (7 : Int32), .int (I (kb true 26) 5)], 0, 0, kjS f I L)) rfl ?_
          by_cases hc8 : (7 : Int32) < (I (kb true 26) 5)
          · rw [if_pos hc8] at h
            refine mv_G_br (tgt := 110) rfl rfl (by decide) (fun _ => ?_) (fun z => absurd hc8 z)
            exact kf93_110_ok _ _ _ _ _ d _ _ _ _ h
          · rw [if_neg hc8] at h
            refine mv_G_br (tgt := 110) rfl rfl (by decide) (fun z => absurd z hc8) (fun _ => ?_)
            refine mv_G_run 1 (F' := (88, [some (.ref (kb true 26)), some (.int v1), some (.int r1), some (.int r3)], [.int r1], 0, 0, kjS f I L)) rfl ?_
            by_cases hc9 : r1 = 0
            · rw [if_pos hc9] at h
              refine mv_G_br (tgt := 108) rfl rfl (by decide) (fun _ => ?_) (fun z => absurd hc9 z)
              refine mv_G_run 1 (F' := (109, [some (.ref (kb true 26)), some (.int v1), some (.int r1), some (.int r3)], [.int (0 : Int32)], 0, 0, kjS f I L)) rfl ?_
              obtain rfl := Option.some.inj h
              exact mv_G_ret rfl rfl rfl (Nat.le_refl _) (Or.inl rfl) ⟨rfl, rfl⟩
            · rw [if_neg hc9] at h
              refine mv_G_br (tgt := 108) rfl rfl (by decide) (fun z => absurd z hc9) (fun _ => ?_)
              refine mv_G_run 3 (F' := (97, [some (.ref (kb true 26)), some (.int v1), some (.int r1), some (.int r3)], [.int (7 : Int32), .int (I (kb true 26) 5)], 0, 0, kjS f I L)) rfl ?_
              by_cases hc10 : ¬ (I (kb true 26) 5) = (7 : Int32)
              · rw [if_pos hc10] at h
                refine mv_G_br (tgt := 104) rfl rfl (by decide) (fun _ => ?_) (fun z => absurd hc10 z)
                refine mv_G_run 2 (F' := (109, [some (.ref (kb true 26)), some (.int v1), some (.int r1), some (.int r3)], [.int (1 : Int32)], 0, 0, kjS f I L)) rfl ?_
                obtain rfl := Option.some.inj h
                exact mv_G_ret rfl rfl rfl (Nat.le_refl _) (Or.inr rfl) ⟨rfl, rfl⟩
              · rw [if_neg hc10] at h
                refine mv_G_br (tgt := 104) rfl rfl (by decide) (fun z => absurd z hc10) (fun _ => ?_)
                refine mv_G_run 1 (F' := (101, [some (.ref (kb true 26)), some (.int v1), some (.int r1), some (.int r3)], [.int r3], 0, 0, kjS f I L)) rfl ?_
                by_cases hc11 : r3 = 0
                · rw [if_pos hc11] at h
                  refine mv_G_br (tgt := 108) rfl rfl (by decide) (fun _ => ?_) (fun z => absurd hc11 z)
                  refine mv_G_run 1 (F' := (109, [some (.ref (kb true 26)), some (.int v1), some (.int r1), some (.int r3)], [.int (0 : Int32)], 0, 0, kjS f I L)) rfl ?_
                  obtain rfl := Option.some.inj h
                  exact mv_G_ret rfl rfl rfl (Nat.le_refl _) (Or.inl rfl) ⟨rfl, rfl⟩
                · rw [if_neg hc11] at h
                  refine mv_G_br (tgt := 108) rfl rfl (by decide) (fun z => absurd z hc11) (fun _ => ?_)
                  refine mv_G_run 2 (F' := (109, [some (.ref (kb true 26)), some (.int v1), some (.int r1), some (.int r3)], [.int (1 : Int32)], 0, 0, kjS f I L)) rfl ?_
                  obtain rfl := Option.some.inj h
                  exact mv_G_ret rfl rfl rfl (Nat.le_refl _) (Or.inr rfl) ⟨rfl, rfl⟩
      · rw [if_neg hc6] at h
        refine mv_G_br (tgt := 70) rfl rfl (by decide) (fun z => absurd z hc6) (fun _ => ?_)
        refine mv_G_run 4 (F' := (57, [some (.ref (kb true 26)), some (.int v1), some (.int r1), some (.int r3)], [.int (I (kb true 26) 6), .long (L (kb true 26) 11)], 0, 0, kjS f I L)) rfl ?_
        obtain ⟨r12, hc13, h⟩ := mv_bd h
        refine mv_G_call (r := []) (kf98_ok _ _ _ _ _ _ _ hc13) rfl rfl rfl rfl rfl (Nat.le_of_ble_eq_true rfl) (Nat.le_of_ble_eq_true rfl) (Nat.le_of_ble_eq_true rfl) ?_
        rintro _ _ ⟨rfl, rfl⟩
        refine mv_G_run 1 (F' := (61, [some (.ref (kb true 26)), some (.int v1), some (.int r1), some (.int r3)], [.int (1 : Int32), .int r12], 0, 0, kjS f I L)) rfl ?_
        by_cases hc14 : ¬ r12 = (1 : Int32)
        · rw [if_pos hc14] at h
          refine mv_G_br (tgt := 68) rfl rfl (by decide) (fun _ => ?_) (fun z => absurd hc14 z)
          refine mv_G_run 1 (F' := (69, [some (.ref (kb true 26)), some (.int v1), some (.int r1), some (.int r3)], [.int (0 : Int32)], 0, 0, kjS f I L)) rfl ?_
          obtain rfl := Option.some.inj h
          exact mv_G_ret rfl rfl rfl (Nat.le_refl _) (Or.inl rfl) ⟨rfl, rfl⟩
        · rw [if_neg hc14] at h
          refine mv_G_br (tgt := 68) rfl rfl (by decide) (fun z => absurd z hc14) (fun _ => ?_)
          refine mv_G_run 2 (F' := (69, [some (.ref (kb true 26)), some (.int v1), some (.int r1), some (.int r3)], [.int (1 : Int32)], 0, 0, kjS f I L)) rfl ?_
          obtain rfl := Option.some.inj h
          exact mv_G_ret rfl rfl rfl (Nat.le_refl _) (Or.inr rfl) ⟨rfl, rfl⟩
    · rw [if_neg hc5] at h
      refine mv_G_br (tgt := 40) rfl rfl (by decide) (fun z => absurd z hc5) (fun _ => ?_)
      refine mv_G_run 4 (F' := (28, [some (.ref (kb true 26)), some (.int v1), some (.int r1), some (.int r3)], [.int (I (kb true 26) 6), .long (L (kb true 26) 11)], 0, 0, kjS f I L)) rfl ?_
      obtain ⟨r15, hc16, h⟩ := mv_bd h
      refine mv_G_call (r := []) (kf98_ok _ _ _ _ _ _ _ hc16) rfl rfl rfl rfl rfl (Nat.le_of_ble_eq_true rfl) (Nat.le_of_ble_eq_true rfl) (Nat.le_of_ble_eq_true rfl) ?_
      rintro _ _ ⟨rfl, rfl⟩
      by_cases hc17 : r15 = 0
      · rw [if_pos hc17] at h
        refine mv_G_br (tgt := 38) rfl rfl (by decide) (fun _ => ?_) (fun z => absurd hc17 z)
        refine mv_G_run 1 (F' := (39, [some (.ref (kb true 26)), some (.int v1), some (.int r1), some (.int r3)], [.int (0 : Int32)], 0, 0, kjS f I L)) rfl ?_
        obtain rfl := Option.some.inj h
        exact mv_G_ret rfl rfl rfl (Nat.le_refl _) (Or.inl rfl) ⟨rfl, rfl⟩
      · rw [if_neg hc17] at h
        refine mv_G_br (tgt := 38) rfl rfl (by decide) (fun z => absurd z hc17) (fun _ => ?_)
        refine mv_G_run 2 (F' := (39, [some (.ref (kb true 26)), some (.int v1), some (.int r1), some (.int r3)], [.int (1 : Int32)], 0, 0, kjS f I L)) rfl ?_
        obtain rfl := Option.some.inj h
        exact mv_G_ret rfl rfl rfl (Nat.le_refl _) (Or.inr rfl) ⟨rfl, rfl⟩
/-! KindJudge$Flow.firstWrong(I)I on ('b', 26) -/
def kf83_51 (b : Bool) (N : Nat) (k11 : Int32 → Int32 → Int32 → kjI → kjL → Option (Int32 × kjI × kjL)) (v1 : Int32) (v2 : Int32) (v3 : Int32) (I : kjI) (L : kjL) : Option (Int32 × kjI × kjL) :=
  k11 v1 v2 (v3 + (1 : Int32)) I L
set_option maxRecDepth 100000 in
set_option maxHeartbeats 4000000 in
theorem kf83_51_ok (f : Bool) (b : Bool) (N : Nat) (k11 : Int32 → Int32 → Int32 → kjI → kjL → Option (Int32 × kjI × kjL)) (d : Nat) (hk11 : ∀ (v1 : Int32) (v2 : Int32) (v3 : Int32) (I : kjI) (L : kjL) (r : Int32 × kjI × kjL), k11 v1 v2 v3 I L = some r → mv_G kjP kjSta (mv_C kjP kjSta (d + 5)) kjM_83 (kjQwi f r) (11, [some (.ref (kb b 26)), some (.int v1), some (.int v2), some (.int v3)], [], 0, 0, kjS f I L)) (v1 : Int32) (v2 : Int32) (v3 : Int32) (I : kjI) (L : kjL) (r : Int32 × kjI × kjL) (h : kf83_51 b N k11 v1 v2 v3 I L = some r) : mv_G kjP kjSta (mv_C kjP kjSta (d + 5)) kjM_83 (kjQwi f r) (51, [some (.ref (kb b 26)), some (.int v1), some (.int v2), some (.int v3)], [], 0, 0, kjS f I L) := by
  cases b
  · unfold kf83_51 at h
    refine mv_G_run 2 (F' := (11, [some (.ref (kb false 26)), some (.int v1), some (.int v2), some (.int (v3 + (1 : Int32)))], [], 0, 0, kjS f I L)) rfl ?_
    exact hk11 v1 v2 (v3 + (1 : Int32)) I L _ h
  · unfold kf83_51 at h
    refine mv_G_run 2 (F' := (11, [some (.ref (kb true 26)), some (.int v1), some (.int v2), some (.int (v3 + (1 : Int32)))], [], 0, 0, kjS f I L)) rfl ?_
    exact hk11 v1 v2 (v3 + (1 : Int32)) I L _ h
def kf83_11 (b : Bool) (N : Nat) : Nat → Int32 → Int32 → Int32 → kjI → kjL → Option (Int32 × kjI × kjL)
  | 0, _, _, _, _, _ => none
  | n + 1, v1, v2, v3, I, L => if v2 ≤ v3 then (some ((-1 : Int32), I, L)) else ((kf78 b I L v1 v3).bind fun r2 => if r2 = (-1 : Int32) then (kf83_51 b N (fun v1 v2 v3 I L => kf83_11 b N n v1 v2 v3 I L) v1 v2 v3 I L) else ((kf86 b v1 v3 I L).bind fun r5 => if (r5.1 (kb b 26) 10) = (99 : Int32) then (some (v3, r5.1, r5.2)) else ((kf93 b N r5.1 r5.2 v1).bind fun r8 => if ¬ r8 = 0 then (kf83_51 b N (fun v1 v2 v3 I L => kf83_11 b N n v1 v2 v3 I L) v1 v2 v3 r5.1 r5.2) else (some (v3, r5.1, r5.2)))))
set_option maxRecDepth 100000 in
set_option maxHeartbeats 4000000 in
theorem kf83_11_ok (f : Bool) (b : Bool) (N : Nat) (d : Nat)  : ∀ (n : Nat) (v1 : Int32) (v2 : Int32) (v3 : Int32) (I : kjI) (L : kjL) (r : Int32 × kjI × kjL), kf83_11 b N n v1 v2 v3 I L = some r → mv_G kjP kjSta (mv_C kjP kjSta (d + 5)) kjM_83 (kjQwi f r) (11, [some (.ref (kb b 26)), some (.int v1), some (.int v2), some (.int v3)], [], 0, 0, kjS f I L) := by
  cases b
  · intro n
    induction n with
    | zero => intro v1 v2 v3 I L r h; cases h
    | succ n ih =>
      have hk11 := ih
      intro v1 v2 v3 I L r h
      unfold kf83_11 at h
      refine mv_G_run 2 (F' := (13, [some (.ref (kb false 26)), some (.int v1), some (.int v2), some (.int v3)], [.int v2, .int v3], 0, 0, kjS f I L)) rfl ?_
      by_cases hc1 : v2 ≤ v3
      · rw [if_pos hc1] at h
        refine mv_G_br (tgt := 57) rfl rfl (by decide) (fun _ => ?_) (fun z => absurd hc1 z)
        refine mv_G_run 1 (F' := (58, [some (.ref (kb false 26)), some (.int v1), some (.int v2), some (.int v3)], [.int (-1 : Int32)], 0, 0, kjS f I L)) rfl ?_
        obtain rfl := Option.some.inj h
        exact mv_G_ret rfl rfl rfl (Nat.le_refl _) trivial ⟨rfl, rfl⟩
      · rw [if_neg hc1] at h
        refine mv_G_br (tgt := 57) rfl rfl (by decide) (fun z => absurd z hc1) (fun _ => ?_)
        refine mv_G_run 3 (F' := (19, [some (.ref (kb false 26)), some (.int v1), some (.int v2), some (.int v3)], [.int v3, .int v1, .ref (kb false 26)], 0, 0, kjS f I L)) rfl ?_
        obtain ⟨r2, hc3, h⟩ := mv_bd h
        refine mv_G_call (r := []) (kf78_ok _ _ _ _ _ _ _ _ hc3) rfl rfl rfl rfl rfl (Nat.le_of_ble_eq_true rfl) (Nat.le_of_ble_eq_true rfl) (Nat.le_of_ble_eq_true rfl) ?_
        rintro _ _ ⟨rfl, rfl⟩
        refine mv_G_run 1 (F' := (23, [some (.ref (kb false 26)), some (.int v1), some (.int v2), some (.int v3)], [.int (-1 : Int32), .int r2], 0, 0, kjS f I L)) rfl ?_
        by_cases hc4 : r2 = (-1 : Int32)
        · rw [if_pos hc4] at h
          refine mv_G_br (tgt := 51) rfl rfl (by decide) (fun _ => ?_) (fun z => absurd hc4 z)
          exact kf83_51_ok _ _ _ _ d hk11 _ _ _ _ _ _ h
        · rw [if_neg hc4] at h
          refine mv_G_br (tgt := 51) rfl rfl (by decide) (fun z => absurd z hc4) (fun _ => ?_)
          refine mv_G_run 3 (F' := (29, [some (.ref (kb false 26)), some (.int v1), some (.int v2), some (.int v3)], [.int v3, .int v1, .ref (kb false 26)], 0, 0, kjS f I L)) rfl ?_
          obtain ⟨r5, hc6, h⟩ := mv_bd h
          refine mv_G_call (r := []) (kf86_ok _ _ _ _ _ _ _ _ hc6) rfl rfl rfl rfl rfl (Nat.le_of_ble_eq_true rfl) (Nat.le_of_ble_eq_true rfl) (Nat.le_of_ble_eq_true rfl) ?_
          rintro _ _ ⟨rfl, rfl⟩
          refine mv_G_run 3 (F' := (38, [some (.ref (kb false 26)), some (.int v1), some (.int v2), some (.int v3)], [.int (99 : Int32), .int (r5.1 (kb false 26) 10)], 0, 0, kjS f r5.1 r5.2)) rfl ?_
          by_cases hc7 : (r5.1 (kb false 26) 10) = (99 : Int32)
          · rw [if_pos hc7] at h
            refine mv_G_br (tgt := 49) rfl rfl (by decide) (fun _ => ?_) (fun z => absurd hc7 z)
            refine mv_G_run 1 (F' := (50, [some (.ref (kb false 26)), some (.int v1), some (.int v2), some (.int v3)], [.int v3], 0, 0, kjS f r5.1 r5.2)) rfl ?_
            obtain rfl := Option.some.inj h
            exact mv_G_ret rfl rfl rfl (Nat.le_refl _) trivial ⟨rfl, rfl⟩
          · rw [if_neg hc7] at h
            refine mv_G_br (tgt := 49) rfl rfl (by decide) (fun z => absurd z hc7) (fun _ => ?_)
            refine mv_G_run 2 (F' := (43, [some (.ref (kb false 26)), some (.int v1), some (.int v2), some (.int v3)], [.int v1, .ref (kb false 26)], 0, 0, kjS f r5.1 r5.2)) rfl ?_
            obtain ⟨r8, hc9, h⟩ := mv_bd h
            refine mv_G_call (r := []) (kf93_ok _ _ _ _ _ _ _ _ hc9) rfl rfl rfl rfl rfl (Nat.le_of_ble_eq_true rfl) (Nat.le_of_ble_eq_true rfl) (Nat.le_of_ble_eq_true rfl) ?_
            rintro _ _ ⟨rfl, rfl⟩
            by_cases hc10 : ¬ r8 = 0
            · rw [if_pos hc10] at h
              refine mv_G_br (tgt := 51) rfl rfl (by decide) (fun _ => ?_) (fun z => absurd hc10 z)
              exact kf83_51_ok _ _ _ _ d hk11 _ _ _ _ _ _ h
            · rw [if_neg hc10] at h
              refine mv_G_br (tgt := 51) rfl rfl (by decide) (fun z => absurd z hc10) (fun _ => ?_)
              refine mv_G_run 1 (F' := (50, [some (.ref (kb false 26)), some (.int v1), some (.int v2), some (.int v3)], [.int v3], 0, 0, kjS f r5.1 r5.2)) rfl ?_
              obtain rfl := Option.some.inj h
              exact mv_G_ret rfl rfl rfl (Nat.le_refl _) trivial ⟨rfl, rfl⟩
  · intro n
    induction n with
    | zero => intro v1 v2 v3 I L r h; cases h
    | succ n ih =>
      have hk11 := ih
      intro v1 v2 v3 I L r h
      unfold kf83_11 at h
      refine mv_G_run 2 (F' := (13, [some (.ref (kb true 26)), some (.int v1), some (.int v2), some (.int v3)], [.int v2, .int v3], 0, 0, kjS f I L)) rfl ?_
      by_cases hc1 : v2 ≤ v3
      · rw [if_pos hc1] at h
        refine mv_G_br (tgt := 57) rfl rfl (by decide) (fun _ => ?_) (fun z => absurd hc1 z)
        refine mv_G_run 1 (F' := (58, [some (.ref (kb true 26)), some (.int v1), some (.int v2), some (.int v3)], [.int (-1 : Int32)], 0, 0, kjS f I L)) rfl ?_
        obtain rfl := Option.some.inj h
        exact mv_G_ret rfl rfl rfl (Nat.le_refl _) trivial ⟨rfl, rfl⟩
      · rw [if_neg hc1] at h
        refine mv_G_br (tgt := 57) rfl rfl (by decide) (fun z => absurd z hc1) (fun _ => ?_)
        refine mv_G_run 3 (F' := (19, [some (.ref (kb true 26)), some (.int v1), some (.int v2), some (.int v3)], [.int v3, .int v1, .ref (kb true 26)], 0, 0, kjS f I L)) rfl ?_
        obtain ⟨r2, hc3, h⟩ := mv_bd h
        refine mv_G_call (r := []) (kf78_ok _ _ _ _ _ _ _ _ hc3) rfl rfl rfl rfl rfl (Nat.le_of_ble_eq_true rfl) (Nat.le_of_ble_eq_true rfl) (Nat.le_of_ble_eq_true rfl) ?_
        rintro _ _ ⟨rfl, rfl⟩
        refine mv_G_run 1 (F' := (23, [some (.ref (kb true 26)), some (.int v1), some (.int v2), some (.int v3)], [.int (-1 : Int32), .int r2], 0, 0, kjS f I L)) rfl ?_
        by_cases hc4 : r2 = (-1 : Int32)
        · rw [if_pos hc4] at h
          refine mv_G_br (tgt := 51) rfl rfl (by decide) (fun _ => ?_) (fun z => absurd hc4 z)
          exact kf83_51_ok _ _ _ _ d hk11 _ _ _ _ _ _ h
        · rw [if_neg hc4] at h
          refine mv_G_br (tgt := 51) rfl rfl (by decide) (fun z => absurd z hc4) (fun _ => ?_)
          refine mv_G_run 3 (F' := (29, [some (.ref (kb true 26)), some (.int v1), some (.int v2), some (.int v3)], [.int v3, .int v1, .ref (kb true 26)], 0, 0, kjS f I L)) rfl ?_
          obtain ⟨r5, hc6, h⟩ := mv_bd h
          refine mv_G_call (r := []) (kf86_ok _ _ _ _ _ _ _ _ hc6) rfl rfl rfl rfl rfl (Nat.le_of_ble_eq_true rfl) (Nat.le_of_ble_eq_true rfl) (Nat.le_of_ble_eq_true rfl) ?_
          rintro _ _ ⟨rfl, rfl⟩
          refine mv_G_run 3 (F' := (38, [some (.ref (kb true 26)), some (.int v1), some (.int v2), some (.int v3)], [.int (99 : Int32), .int (r5.1 (kb true 26) 10)], 0, 0, kjS f r5.1 r5.2)) rfl ?_
          by_cases hc7 : (r5.1 (kb true 26) 10) = (99 : Int32)
          · rw [if_pos hc7] at h
            refine mv_G_br (tgt := 49) rfl rfl (by decide) (fun _ => ?_) (fun z => absurd hc7 z)
            refine mv_G_run 1 (F' := (50, [some (.ref (kb true 26)), some (.int v1), some (.int v2), some (.int v3)], [.int v3], 0, 0, kjS f r5.1 r5.2)) rfl ?_
            obtain rfl := Option.some.inj h
            exact mv_G_ret rfl rfl rfl (Nat.le_refl _) trivial ⟨rfl, rfl⟩
          · rw [if_neg hc7] at h
            refine mv_G_br (tgt := 49) rfl rfl (by decide) (fun z => absurd z hc7) (fun _ => ?_)
            refine mv_G_run 2 (F' := (43, [some (.ref (kb true 26)), some (.int v1), some (.int v2), some (.int v3)], [.int v1, .ref (kb true 26)], 0, 0, kjS f r5.1 r5.2)) rfl ?_
            obtain ⟨r8, hc9, h⟩ := mv_bd h
            refine mv_G_call (r := []) (kf93_ok _ _ _ _ _ _ _ _ hc9) rfl rfl rfl rfl rfl (Nat.le_of_ble_eq_true rfl) (Nat.le_of_ble_eq_true rfl) (Nat.le_of_ble_eq_true rfl) ?_
            rintro _ _ ⟨rfl, rfl⟩
            by_cases hc10 : ¬ r8 = 0
            · rw [if_pos hc10] at h
              refine mv_G_br (tgt := 51) rfl rfl (by decide) (fun _ => ?_) (fun z => absurd hc10 z)
              exact kf83_51_ok _ _ _ _ d hk11 _ _ _ _ _ _ h
            · rw [if_neg hc10] at h
              refine mv_G_br (tgt := 51) rfl rfl (by decide) (fun z => absurd z hc10) (fun _ => ?_)
              refine mv_G_run 1 (F' := (50, [some (.ref (kb true 26)), some (.int v1), some (.int v2), some (.int v3)], [.int v3], 0, 0, kjS f r5.1 r5.2)) rfl ?_
              obtain rfl := Option.some.inj h
              exact mv_G_ret rfl rfl rfl (Nat.le_refl _) trivial ⟨rfl, rfl⟩
def kf83 (b : Bool) (N : Nat) (v1 : Int32) (I : kjI) (L : kjL) : Option (Int32 × kjI × kjL) :=
  (kf32 b I L v1).bind fun r1 => kf83_11 b N N v1 r1 (0 : Int32) I L
set_option maxRecDepth 100000 in
set_option maxHeartbeats 4000000 in
theorem kf83_ok (f : Bool) (b : Bool) (N : Nat) (v1 : Int32) (I : kjI) (L : kjL) (d : Nat) (r : Int32 × kjI × kjL) (h : kf83 b N v1 I L = some r) : mv_C kjP kjSta (d + 6) 83 [.ref (kb b 26), .int v1] (kjS f I L) (kjQwi f r) := by
  cases b
  · unfold kf83 at h
    refine mv_C_in kjM_83 (lc := [some (.ref (kb false 26)), some (.int v1), none, none]) rfl rfl rfl ?_
    refine mv_G_run 3 (F' := (5, [some (.ref (kb false 26)), some (.int v1), none, none], [.int v1, .ref (kb false 4)], 0, 0, kjS f I L)) rfl ?_
    obtain ⟨r1, hc2, h⟩ := mv_bd h
    refine mv_G_call (r := []) (kf32_ok _ _ _ _ _ _ _ hc2) rfl rfl rfl rfl rfl (Nat.le_of_ble_eq_true rfl) (Nat.le_of_ble_eq_true rfl) (Nat.le_of_ble_eq_true rfl) ?_
    rintro _ _ ⟨rfl, rfl⟩
    refine mv_G_run 3 (F' := (11, [some (.ref (kb false 26)), some (.int v1), some (.int r1), some (.int (0 : Int32))], [], 0, 0, kjS f I L)) rfl ?_
    exact kf83_11_ok _ _ _ d _ _ _ _ _ _ _ h
  · unfold kf83 at h
    refine mv_C_in kjM_83 (lc := [some (.ref (kb true 26)), some (.int v1), none, none]) rfl rfl rfl ?_
    refine mv_G_run 3 (F' := (5, [some (.ref (kb true 26)), some (.int v1), none, none], [.int v1, .ref (kb true 4)], 0, 0, kjS f I L)) rfl ?_
    obtain ⟨r1, hc2, h⟩ := mv_bd h
    refine mv_G_call (r := []) (kf32_ok _ _ _ _ _ _ _ hc2) rfl rfl rfl rfl rfl (Nat.le_of_ble_eq_true rfl) (Nat.le_of_ble_eq_true rfl) (Nat.le_of_ble_eq_true rfl) ?_
    rintro _ _ ⟨rfl, rfl⟩
    refine mv_G_run 3 (F' := (11, [some (.ref (kb true 26)), some (.int v1), some (.int r1), some (.int (0 : Int32))], [], 0, 0, kjS f I L)) rfl ?_
    exact kf83_11_ok _ _ _ d _ _ _ _ _ _ _ h
/-! KindJudge.findFault()V on ('c', 0) -/
def kf13_91 (f : Bool) (N : Nat) : Nat → Int32 → Int32 → kjI → kjL → Option (kjI × kjL)
  | 0, _, _, _, _ => none
  | n + 1, v1, v2, I, L => if v1 ≤ v2 then (some (I, L)) else ((kf82 (!f) N v2 I L).bind fun r2 => (kf83 (!f) N v2 r2.1 r2.2).bind fun r4 => if r4.1 = (-1 : Int32) then ((fun v1 v2 I L => kf13_91 f N n v1 v2 I L) v1 (v2 + (1 : Int32)) r4.2.1 r4.2.2) else ((kf14 f (3 : Int32) r4.1 v2 r4.2.1 r4.2.2).bind fun r7 => some (r7.1, r7.2)))
set_option maxRecDepth 100000 in
set_option maxHeartbeats 4000000 in
theorem kf13_91_ok (f : Bool) (N : Nat) (d : Nat)  : ∀ (n : Nat) (v1 : Int32) (v2 : Int32) (I : kjI) (L : kjL) (r : kjI × kjL), kf13_91 f N n v1 v2 I L = some r → mv_G kjP kjSta (mv_C kjP kjSta (d + 6)) kjM_13 (kjQwv f r) (91, [some (.ref 0), some (.int v1), some (.int v2), none], [], 0, 0, kjS f I L) := by
  cases f
  · intro n
    induction n with
    | zero => intro v1 v2 I L r h; cases h
    | succ n ih =>
      have hk91 := ih
      intro v1 v2 I L r h
      unfold kf13_91 at h
      refine mv_G_run 2 (F' := (93, [some (.ref 0), some (.int v1), some (.int v2), none], [.int v1, .int v2], 0, 0, kjS false I L)) rfl ?_
      by_cases hc1 : v1 ≤ v2
      · rw [if_pos hc1] at h
        refine mv_G_br (tgt := 138) rfl rfl (by decide) (fun _ => ?_) (fun z => absurd hc1 z)
        obtain rfl := Option.some.inj h
        exact mv_G_ret rfl rfl rfl (Nat.le_refl _) trivial ⟨rfl, rfl⟩
      · rw [if_neg hc1] at h
        refine mv_G_br (tgt := 138) rfl rfl (by decide) (fun z => absurd z hc1) (fun _ => ?_)
        refine mv_G_run 4 (F' := (104, [some (.ref 0), some (.int v1), some (.int v2), none], [.int v2, .ref (kb (!false) 26)], 0, 0, kjS false I L)) rfl ?_
        obtain ⟨r2, hc3, h⟩ := mv_bd h
        refine mv_G_call (r := []) (kf82_ok _ _ _ _ _ _ _ _ hc3) rfl rfl rfl rfl rfl (Nat.le_of_ble_eq_true rfl) (Nat.le_of_ble_eq_true rfl) (Nat.le_of_ble_eq_true rfl) ?_
        rintro _ _ ⟨rfl, rfl⟩
        refine mv_G_run 4 (F' := (115, [some (.ref 0), some (.int v1), some (.int v2), none], [.int v2, .ref (kb (!false) 26)], 0, 0, kjS false r2.1 r2.2)) rfl ?_
        obtain ⟨r4, hc5, h⟩ := mv_bd h
        refine mv_G_call (r := []) (kf83_ok _ _ _ _ _ _ _ _ hc5) rfl rfl rfl rfl rfl (Nat.le_of_ble_eq_true rfl) (Nat.le_of_ble_eq_true rfl) (Nat.le_of_ble_eq_true rfl) ?_
        rintro _ _ ⟨rfl, rfl⟩
        refine mv_G_run 3 (F' := (121, [some (.ref 0), some (.int v1), some (.int v2), some (.int r4.1)], [.int (-1 : Int32), .int r4.1], 0, 0, kjS false r4.2.1 r4.2.2)) rfl ?_
        by_cases hc6 : r4.1 = (-1 : Int32)
        · rw [if_pos hc6] at h
          refine mv_G_br (tgt := 132) rfl rfl (by decide) (fun _ => ?_) (fun z => absurd hc6 z)
          refine mv_G_run 2 (F' := (91, [some (.ref 0), some (.int v1), some (.int (v2 + (1 : Int32))), some (.int r4.1)], [], 0, 0, kjS false r4.2.1 r4.2.2)) rfl ?_
          refine mv_G_fg (lc' := [some (.ref 0), some (.int v1), some (.int (v2 + (1 : Int32))), none]) (And.intro rfl (And.intro rfl (And.intro rfl trivial))) ?_
          exact hk91 v1 (v2 + (1 : Int32)) r4.2.1 r4.2.2 _ h
        · rw [if_neg hc6] at h
          refine mv_G_br (tgt := 132) rfl rfl (by decide) (fun z => absurd z hc6) (fun _ => ?_)
          refine mv_G_run 4 (F' := (128, [some (.ref 0), some (.int v1), some (.int v2), some (.int r4.1)], [.int v2, .int r4.1, .int (3 : Int32), .ref 0], 0, 0, kjS false r4.2.1 r4.2.2)) rfl ?_
          obtain ⟨r7, hc8, h⟩ := mv_bd h
          refine mv_G_call (r := []) (kf14_ok _ _ _ _ _ _ _ _ hc8) rfl rfl rfl rfl rfl (Nat.le_of_ble_eq_true rfl) (Nat.le_of_ble_eq_true rfl) (Nat.le_of_ble_eq_true rfl) ?_
          rintro _ _ ⟨rfl, rfl⟩
          obtain rfl := Option.some.inj h
          exact mv_G_ret rfl rfl rfl (Nat.le_refl _) trivial ⟨rfl, rfl⟩
  · intro n
    induction n with
    | zero => intro v1 v2 I L r h; cases h
    | succ n ih =>
      have hk91 := ih
      intro v1 v2 I L r h
      unfold kf13_91 at h
      refine mv_G_run 2 (F' := (93, [some (.ref 0), some (.int v1), some (.int v2), none], [.int v1, .int v2], 0, 0, kjS true I L)) rfl ?_
      by_cases hc1 : v1 ≤ v2
      · rw [if_pos hc1] at h
        refine mv_G_br (tgt := 138) rfl rfl (by decide) (fun _ => ?_) (fun z => absurd hc1 z)
        obtain rfl := Option.some.inj h
        exact mv_G_ret rfl rfl rfl (Nat.le_refl _) trivial ⟨rfl, rfl⟩
      · rw [if_neg hc1] at h
        refine mv_G_br (tgt := 138) rfl rfl (by decide) (fun z => absurd z hc1) (fun _ => ?_)
        refine mv_G_run 4 (F' := (104, [some (.ref 0), some (.int v1), some (.int v2), none], [.int v2, .ref (kb (!true) 26)], 0, 0, kjS true I L)) rfl ?_
        obtain ⟨r2, hc3, h⟩ := mv_bd h
        refine mv_G_call (r := []) (kf82_ok _ _ _ _ _ _ _ _ hc3) rfl rfl rfl rfl rfl (Nat.le_of_ble_eq_true rfl) (Nat.le_of_ble_eq_true rfl) (Nat.le_of_ble_eq_true rfl) ?_
        rintro _ _ ⟨rfl, rfl⟩
        refine mv_G_run 4 (F' := (115, [some (.ref 0), some (.int v1), some (.int v2), none], [.int v2, .ref (kb (!true) 26)], 0, 0, kjS true r2.1 r2.2)) rfl ?_
        obtain ⟨r4, hc5, h⟩ := mv_bd h
        refine mv_G_call (r := []) (kf83_ok _ _ _ _ _ _ _ _ hc5) rfl rfl rfl rfl rfl (Nat.le_of_ble_eq_true rfl) (Nat.le_of_ble_eq_true rfl) (Nat.le_of_ble_eq_true rfl) ?_
        rintro _ _ ⟨rfl, rfl⟩
        refine mv_G_run 3 (F' := (121, [some (.ref 0), some (.int v1), some (.int v2), some (.int r4.1)], [.int (-1 : Int32), .int r4.1], 0, 0, kjS true r4.2.1 r4.2.2)) rfl ?_
        by_cases hc6 : r4.1 = (-1 : Int32)
        · rw [if_pos hc6] at h
          refine mv_G_br (tgt := 132) rfl rfl (by decide) (fun _ => ?_) (fun z => absurd hc6 z)
          refine mv_G_run 2 (F' := (91, [some (.ref 0), some (.int v1), some (.int (v2 + (1 : Int32))), some (.int r4.1)], [], 0, 0, kjS true r4.2.1 r4.2.2)) rfl ?_
          refine mv_G_fg (lc' := [some (.ref 0), some (.int v1), some (.int (v2 + (1 : Int32))), none]) (And.intro rfl (And.intro rfl (And.intro rfl trivial))) ?_
          exact hk91 v1 (v2 + (1 : Int32)) r4.2.1 r4.2.2 _ h
        · rw [if_neg hc6] at h
          refine mv_G_br (tgt := 132) rfl rfl (by decide) (fun z => absurd z hc6) (fun _ => ?_)
          refine mv_G_run 4 (F' := (128, [some (.ref 0), some (.int v1), some (.int v2), some (.int r4.1)], [.int v2, .int r4.1, .int (3 : Int32), .ref 0], 0, 0, kjS true r4.2.1 r4.2.2)) rfl ?_
          obtain ⟨r7, hc8, h⟩ := mv_bd h
          refine mv_G_call (r := []) (kf14_ok _ _ _ _ _ _ _ _ hc8) rfl rfl rfl rfl rfl (Nat.le_of_ble_eq_true rfl) (Nat.le_of_ble_eq_true rfl) (Nat.le_of_ble_eq_true rfl) ?_
          rintro _ _ ⟨rfl, rfl⟩
          obtain rfl := Option.some.inj h
          exact mv_G_ret rfl rfl rfl (Nat.le_refl _) trivial ⟨rfl, rfl⟩
def kf13_53 (f : Bool) (N : Nat) : Nat → Int32 → Int32 → kjI → kjL → Option (kjI × kjL)
  | 0, _, _, _, _ => none
  | n + 1, v1, v2, I, L => if v1 ≤ v2 then (kf13_91 f N N v1 (0 : Int32) I L) else ((kf64 (!f) N v2 I L).bind fun r2 => if r2.1 = (-1 : Int32) then ((fun v1 v2 I L => kf13_53 f N n v1 v2 I L) v1 (v2 + (1 : Int32)) r2.2.1 r2.2.2) else ((kf14 f (2 : Int32) r2.1 v2 r2.2.1 r2.2.2).bind fun r5 => some (r5.1, r5.2)))
set_option maxRecDepth 100000 in
set_option maxHeartbeats 4000000 in
theorem kf13_53_ok (f : Bool) (N : Nat) (d : Nat)  : ∀ (n : Nat) (v1 : Int32) (v2 : Int32) (I : kjI) (L : kjL) (r : kjI × kjL), kf13_53 f N n v1 v2 I L = some r → mv_G kjP kjSta (mv_C kjP kjSta (d + 6)) kjM_13 (kjQwv f r) (53, [some (.ref 0), some (.int v1), some (.int v2), none], [], 0, 0, kjS f I L) := by
  cases f
  · intro n
    induction n with
    | zero => intro v1 v2 I L r h; cases h
    | succ n ih =>
      have hk53 := ih
      intro v1 v2 I L r h
      unfold kf13_53 at h
      refine mv_G_run 2 (F' := (55, [some (.ref 0), some (.int v1), some (.int v2), none], [.int v1, .int v2], 0, 0, kjS false I L)) rfl ?_
      by_cases hc1 : v1 ≤ v2
      · rw [if_pos hc1] at h
        refine mv_G_br (tgt := 89) rfl rfl (by decide) (fun _ => ?_) (fun z => absurd hc1 z)
        refine mv_G_run 2 (F' := (91, [some (.ref 0), some (.int v1), some (.int (0 : Int32)), none], [], 0, 0, kjS false I L)) rfl ?_
        exact kf13_91_ok _ _ d _ _ _ _ _ _ h
      · rw [if_neg hc1] at h
        refine mv_G_br (tgt := 89) rfl rfl (by decide) (fun z => absurd z hc1) (fun _ => ?_)
        refine mv_G_run 4 (F' := (66, [some (.ref 0), some (.int v1), some (.int v2), none], [.int v2, .ref (kb (!false) 24)], 0, 0, kjS false I L)) rfl ?_
        obtain ⟨r2, hc3, h⟩ := mv_bd h
        refine mv_G_call (r := []) (kf64_ok _ _ _ _ _ _ _ _ hc3) rfl rfl rfl rfl rfl (Nat.le_of_ble_eq_true rfl) (Nat.le_of_ble_eq_true rfl) (Nat.le_of_ble_eq_true rfl) ?_
        rintro _ _ ⟨rfl, rfl⟩
        refine mv_G_run 3 (F' := (72, [some (.ref 0), some (.int v1), some (.int v2), some (.int r2.1)], [.int (-1 : Int32), .int r2.1], 0, 0, kjS false r2.2.1 r2.2.2)) rfl ?_
        by_cases hc4 : r2.1 = (-1 : Int32)
        · rw [if_pos hc4] at h
          refine mv_G_br (tgt := 83) rfl rfl (by decide) (fun _ => ?_) (fun z => absurd hc4 z)
          refine mv_G_run 2 (F' := (53, [some (.ref 0), some (.int v1), some (.int (v2 + (1 : Int32))), some (.int r2.1)], [], 0, 0, kjS false r2.2.1 r2.2.2)) rfl ?_
          refine mv_G_fg (lc' := [some (.ref 0), some (.int v1), some (.int (v2 + (1 : Int32))), none]) (And.intro rfl (And.intro rfl (And.intro rfl trivial))) ?_
          exact hk53 v1 (v2 + (1 : Int32)) r2.2.1 r2.2.2 _ h
        · rw [if_neg hc4] at h
          refine mv_G_br (tgt := 83) rfl rfl (by decide) (fun z => absurd z hc4) (fun _ => ?_)
          refine mv_G_run 4 (F' := (79, [some (.ref 0), some (.int v1), some (.int v2), some (.int r2.1)], [.int v2, .int r2.1, .int (2 : Int32), .ref 0], 0, 0, kjS false r2.2.1 r2.2.2)) rfl ?_
          obtain ⟨r5, hc6, h⟩ := mv_bd h
          refine mv_G_call (r := []) (kf14_ok _ _ _ _ _ _ _ _ hc6) rfl rfl rfl rfl rfl (Nat.le_of_ble_eq_true rfl) (Nat.le_of_ble_eq_true rfl) (Nat.le_of_ble_eq_true rfl) ?_
          rintro _ _ ⟨rfl, rfl⟩
          obtain rfl := Option.some.inj h
          exact mv_G_ret rfl rfl rfl (Nat.le_refl _) trivial ⟨rfl, rfl⟩
  · intro n
    induction n with
    | zero => intro v1 v2 I L r h; cases h
    | succ n ih =>
      have hk53 := ih
      intro v1 v2 I L r h
      unfold kf13_53 at h
      refine mv_G_run 2 (F' := (55, [some (.ref 0), some (.int v1), some (.int v2), none], [.int v1, .int v2], 0, 0, kjS true I L)) rfl ?_
      by_cases hc1 : v1 ≤ v2
      · rw [if_pos hc1] at h
        refine mv_G_br (tgt := 89) rfl rfl (by decide) (fun _ => ?_) (fun z => absurd hc1 z)
        refine mv_G_run 2 (F' := (91, [some (.ref 0), some (.int v1), some (.int (0 : Int32)), none], [], 0, 0, kjS true I L)) rfl ?_
        exact kf13_91_ok _ _ d _ _ _ _ _ _ h
      · rw [if_neg hc1] at h
        refine mv_G_br (tgt := 89) rfl rfl (by decide) (fun z => absurd z hc1) (fun _ => ?_)
        refine mv_G_run 4 (F' := (66, [some (.ref 0), some (.int v1), some (.int v2), none], [.int v2, .ref (kb (!true) 24)], 0, 0, kjS true I L)) rfl ?_
        obtain ⟨r2, hc3, h⟩ := mv_bd h
        refine mv_G_call (r := []) (kf64_ok _ _ _ _ _ _ _ _ hc3) rfl rfl rfl rfl rfl (Nat.le_of_ble_eq_true rfl) (Nat.le_of_ble_eq_true rfl) (Nat.le_of_ble_eq_true rfl) ?_
        rintro _ _ ⟨rfl, rfl⟩
        refine mv_G_run 3 (F' := (72, [some (.ref 0), some (.int v1), some (.int v2), some (.int r2.1)], [.int (-1 : Int32), .int r2.1], 0, 0, kjS true r2.2.1 r2.2.2)) rfl ?_
        by_cases hc4 : r2.1 = (-1 : Int32)
        · rw [if_pos hc4] at h
          refine mv_G_br (tgt := 83) rfl rfl (by decide) (fun _ => ?_) (fun z => absurd hc4 z)
          refine mv_G_run 2 (F' := (53, [some (.ref 0), some (.int v1), some (.int (v2 + (1 : Int32))), some (.int r2.1)], [], 0, 0, kjS true r2.2.1 r2.2.2)) rfl ?_
          refine mv_G_fg (lc' := [some (.ref 0), some (.int v1), some (.int (v2 + (1 : Int32))), none]) (And.intro rfl (And.intro rfl (And.intro rfl trivial))) ?_
          exact hk53 v1 (v2 + (1 : Int32)) r2.2.1 r2.2.2 _ h
        · rw [if_neg hc4] at h
          refine mv_G_br (tgt := 83) rfl rfl (by decide) (fun z => absurd z hc4) (fun _ => ?_)
          refine mv_G_run 4 (F' := (79, [some (.ref 0), some (.int v1), some (.int v2), some (.int r2.1)], [.int v2, .int r2.1, .int (2 : Int32), .ref 0], 0, 0, kjS true r2.2.1 r2.2.2)) rfl ?_
          obtain ⟨r5, hc6, h⟩ := mv_bd h
          refine mv_G_call (r := []) (kf14_ok _ _ _ _ _ _ _ _ hc6) rfl rfl rfl rfl rfl (Nat.le_of_ble_eq_true rfl) (Nat.le_of_ble_eq_true rfl) (Nat.le_of_ble_eq_true rfl) ?_
          rintro _ _ ⟨rfl, rfl⟩
          obtain rfl := Option.some.inj h
          exact mv_G_ret rfl rfl rfl (Nat.le_refl _) trivial ⟨rfl, rfl⟩
def kf13 (f : Bool) (N : Nat) (I : kjI) (L : kjL) : Option (kjI × kjL) :=
  (kf14 f (0 : Int32) (0 : Int32) (0 : Int32) I L).bind fun r1 => (kf24 (!f) N r1.1 r1.2).bind fun r3 => if ¬ r3.1 = 0 then (kf13_53 f N N (r3.2.1 (kb (!f) 14) 3) (0 : Int32) r3.2.1 r3.2.2) else ((kf25 (!f) r3.2.1 r3.2.2).bind fun r6 => (kf14 f (1 : Int32) r6 (0 : Int32) r3.2.1 r3.2.2).bind fun r8 => some (r8.1, r8.2))
set_option maxRecDepth 100000 in
set_option maxHeartbeats 4000000 in
theorem kf13_ok (f : Bool) (N : Nat) (I : kjI) (L : kjL) (d : Nat) (r : kjI × kjL) (h : kf13 f N I L = some r) : mv_C kjP kjSta (d + 7) 13 [.ref 0] (kjS f I L) (kjQwv f r) := by
  cases f
  · unfold kf13 at h
    refine mv_C_in kjM_13 (lc := [some (.ref 0), none, none, none]) rfl rfl rfl ?_
    refine mv_G_run 4 (F' := (4, [some (.ref 0), none, none, none], [.int (0 : Int32), .int (0 : Int32), .int (0 : Int32), .ref 0], 0, 0, kjS false I L)) rfl ?_
    obtain ⟨r1, hc2, h⟩ := mv_bd h
    refine mv_G_call (r := []) (kf14_ok _ _ _ _ _ _ _ _ hc2) rfl rfl rfl rfl rfl (Nat.le_of_ble_eq_true rfl) (Nat.le_of_ble_eq_true rfl) (Nat.le_of_ble_eq_true rfl) ?_
    rintro _ _ ⟨rfl, rfl⟩
    refine mv_G_run 3 (F' := (14, [some (.ref 0), none, none, none], [.ref (kb (!false) 4)], 0, 0, kjS false r1.1 r1.2)) rfl ?_
    obtain ⟨r3, hc4, h⟩ := mv_bd h
    refine mv_G_call (r := []) (kf24_ok _ _ _ _ _ _ _ hc4) rfl rfl rfl rfl rfl (Nat.le_of_ble_eq_true rfl) (Nat.le_of_ble_eq_true rfl) (Nat.le_of_ble_eq_true rfl) ?_
    rintro _ _ ⟨rfl, rfl⟩
    by_cases hc5 : ¬ r3.1 = 0
    · rw [if_pos hc5] at h
      refine mv_G_br (tgt := 37) rfl rfl (by decide) (fun _ => ?_) (fun z => absurd hc5 z)
      refine mv_G_run 8 (F' := (53, [some (.ref 0), some (.int (r3.2.1 (kb (!false) 14) 3)), some (.int (0 : Int32)), none], [], 0, 0, kjS false r3.2.1 r3.2.2)) rfl ?_
      exact kf13_53_ok _ _ d _ _ _ _ _ _ h
    · rw [if_neg hc5] at h
      refine mv_G_br (tgt := 37) rfl rfl (by decide) (fun z => absurd z hc5) (fun _ => ?_)
      refine mv_G_run 5 (F' := (29, [some (.ref 0), none, none, none], [.ref (kb (!false) 4), .int (1 : Int32), .ref 0], 0, 0, kjS false r3.2.1 r3.2.2)) rfl ?_
      obtain ⟨r6, hc7, h⟩ := mv_bd h
      refine mv_G_call (r := [.int (1 : Int32), .ref 0]) (kf25_ok _ _ _ _ _ _ hc7) rfl rfl rfl rfl rfl (Nat.le_of_ble_eq_true rfl) (Nat.le_of_ble_eq_true rfl) (Nat.le_of_ble_eq_true rfl) ?_
      rintro _ _ ⟨rfl, rfl⟩
      refine mv_G_run 1 (F' := (33, [some (.ref 0), none, none, none], [.int (0 : Int32), .int r6, .int (1 : Int32), .ref 0], 0, 0, kjS false r3.2.1 r3.2.2)) rfl ?_
      obtain ⟨r8, hc9, h⟩ := mv_bd h
      refine mv_G_call (r := []) (kf14_ok _ _ _ _ _ _ _ _ hc9) rfl rfl rfl rfl rfl (Nat.le_of_ble_eq_true rfl) (Nat.le_of_ble_eq_true rfl) (Nat.le_of_ble_eq_true rfl) ?_
      rintro _ _ ⟨rfl, rfl⟩
      obtain rfl := Option.some.inj h
      exact mv_G_ret rfl rfl rfl (Nat.le_refl _) trivial ⟨rfl, rfl⟩
  · unfold kf13 at h
    refine mv_C_in kjM_13 (lc := [some (.ref 0), none, none, none]) rfl rfl rfl ?_
    refine mv_G_run 4 (F' := (4, [some (.ref 0), none, none, none], [.int (0 : Int32), .int (0 : Int32), .int (0 : Int32), .ref 0], 0, 0, kjS true I L)) rfl ?_
    obtain ⟨r1, hc2, h⟩ := mv_bd h
    refine mv_G_call (r := []) (kf14_ok _ _ _ _ _ _ _ _ hc2) rfl rfl rfl rfl rfl (Nat.le_of_ble_eq_true rfl) (Nat.le_of_ble_eq_true rfl) (Nat.le_of_ble_eq_true rfl) ?_
    rintro _ _ ⟨rfl, rfl⟩
    refine mv_G_run 3 (F' := (14, [some (.ref 0), none, none, none], [.ref (kb (!true) 4)], 0, 0, kjS true r1.1 r1.2)) rfl ?_
    obtain ⟨r3, hc4, h⟩ := mv_bd h
    refine mv_G_call (r := []) (kf24_ok _ _ _ _ _ _ _ hc4) rfl rfl rfl rfl rfl (Nat.le_of_ble_eq_true rfl) (Nat.le_of_ble_eq_true rfl) (Nat.le_of_ble_eq_true rfl) ?_
    rintro _ _ ⟨rfl, rfl⟩
    by_cases hc5 : ¬ r3.1 = 0
    · rw [if_pos hc5] at h
      refine mv_G_br (tgt := 37) rfl rfl (by decide) (fun _ => ?_) (fun z => absurd hc5 z)
      refine mv_G_run 8 (F' := (53, [some (.ref 0), some (.int (r3.2.1 (kb (!true) 14) 3)), some (.int (0 : Int32)), none], [], 0, 0, kjS true r3.2.1 r3.2.2)) rfl ?_
      exact kf13_53_ok _ _ d _ _ _ _ _ _ h
    · rw [if_neg hc5] at h
      refine mv_G_br (tgt := 37) rfl rfl (by decide) (fun z => absurd z hc5) (fun _ => ?_)
      refine mv_G_run 5 (F' := (29, [some (.ref 0), none, none, none], [.ref (kb (!true) 4), .int (1 : Int32), .ref 0], 0, 0, kjS true r3.2.1 r3.2.2)) rfl ?_
      obtain ⟨r6, hc7, h⟩ := mv_bd h
      refine mv_G_call (r := [.int (1 : Int32), .ref 0]) (kf25_ok _ _ _ _ _ _ hc7) rfl rfl rfl rfl rfl (Nat.le_of_ble_eq_true rfl) (Nat.le_of_ble_eq_true rfl) (Nat.le_of_ble_eq_true rfl) ?_
      rintro _ _ ⟨rfl, rfl⟩
      refine mv_G_run 1 (F' := (33, [some (.ref 0), none, none, none], [.int (0 : Int32), .int r6, .int (1 : Int32), .ref 0], 0, 0, kjS true r3.2.1 r3.2.2)) rfl ?_
      obtain ⟨r8, hc9, h⟩ := mv_bd h
      refine mv_G_call (r := []) (kf14_ok _ _ _ _ _ _ _ _ hc9) rfl rfl rfl rfl rfl (Nat.le_of_ble_eq_true rfl) (Nat.le_of_ble_eq_true rfl) (Nat.le_of_ble_eq_true rfl) ?_
      rintro _ _ ⟨rfl, rfl⟩
      obtain rfl := Option.some.inj h
      exact mv_G_ret rfl rfl rfl (Nat.le_refl _) trivial ⟨rfl, rfl⟩
/-! KindJudge$Bytes.clear()V on ('b', 2) -/
def kf21 (b : Bool) (I : kjI) (L : kjL) : Option (kjI × kjL) :=
  some ((mv_up I (kb b 2) 1 (0 : Int32)), L)
set_option maxRecDepth 100000 in
set_option maxHeartbeats 4000000 in
theorem kf21_ok (f : Bool) (b : Bool) (I : kjI) (L : kjL) (d : Nat) (r : kjI × kjL) (h : kf21 b I L = some r) : mv_C kjP kjSta (d + 1) 21 [.ref (kb b 2)] (kjS f I L) (kjQwv f r) := by
  cases b
  · unfold kf21 at h
    refine mv_C_in kjM_21 (lc := [some (.ref (kb false 2))]) rfl rfl rfl ?_
    refine mv_G_run 3 (F' := (5, [some (.ref (kb false 2))], [], 0, 0, kjS f (mv_up I (kb false 2) 1 (0 : Int32)) L)) rfl ?_
    obtain rfl := Option.some.inj h
    exact mv_G_ret rfl rfl rfl (Nat.le_refl _) trivial ⟨rfl, rfl⟩
  · unfold kf21 at h
    refine mv_C_in kjM_21 (lc := [some (.ref (kb true 2))]) rfl rfl rfl ?_
    refine mv_G_run 3 (F' := (5, [some (.ref (kb true 2))], [], 0, 0, kjS f (mv_up I (kb true 2) 1 (0 : Int32)) L)) rfl ?_
    obtain rfl := Option.some.inj h
    exact mv_G_ret rfl rfl rfl (Nat.le_refl _) trivial ⟨rfl, rfl⟩
