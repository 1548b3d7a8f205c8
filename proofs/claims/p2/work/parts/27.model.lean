/-! KindJudgeModel.isFine()Z on ('c', 59) -/
def kf121_163 (N : Nat) (k106 : Int32 → kjI → kjL → Option (Int32 × kjI × kjL)) (k121 : Int32 → Int32 → kjI → kjL → Option (Int32 × kjI × kjL)) (v1 : Int32) (v2 : Int32) (I : kjI) (L : kjL) : Option (Int32 × kjI × kjL) :=
  k121 v1 (v2 + (1 : Int32)) I L
set_option maxRecDepth 100000 in
set_option maxHeartbeats 4000000 in
theorem kf121_163_ok (f : Bool) (N : Nat) (k106 : Int32 → kjI → kjL → Option (Int32 × kjI × kjL)) (k121 : Int32 → Int32 → kjI → kjL → Option (Int32 × kjI × kjL)) (d : Nat) (hk106 : ∀ (v1 : Int32) (I : kjI) (L : kjL) (r : Int32 × kjI × kjL), k106 v1 I L = some r → mv_G kjP kjSta (mv_C kjP kjSta (d + 6)) kjM_121 (kjQwi f r) (106, [some (.ref 59), some (.int v1), none], [], 0, 0, kjS f I L)) (hk121 : ∀ (v1 : Int32) (v2 : Int32) (I : kjI) (L : kjL) (r : Int32 × kjI × kjL), k121 v1 v2 I L = some r → mv_G kjP kjSta (mv_C kjP kjSta (d + 6)) kjM_121 (kjQwi f r) (121, [some (.ref 59), some (.int v1), some (.int v2)], [], 0, 0, kjS f I L)) (v1 : Int32) (v2 : Int32) (I : kjI) (L : kjL) (r : Int32 × kjI × kjL) (h : kf121_163 N k106 k121 v1 v2 I L = some r) : mv_G kjP kjSta (mv_C kjP kjSta (d + 6)) kjM_121 (kjQwi f r) (163, [some (.ref 59), some (.int v1), some (.int v2)], [], 0, 0, kjS f I L) := by
  unfold kf121_163 at h
  refine mv_G_run 2 (F' := (121, [some (.ref 59), some (.int v1), some (.int (v2 + (1 : Int32)))], [], 0, 0, kjS f I L)) rfl ?_
  exact hk121 v1 (v2 + (1 : Int32)) I L _ h
def kf121_121 (N : Nat) (k106 : Int32 → kjI → kjL → Option (Int32 × kjI × kjL)) : Nat → Int32 → Int32 → kjI → kjL → Option (Int32 × kjI × kjL)
  | 0, _, _, _, _ => none
  | n + 1, v1, v2, I, L => bif mv_in v1 16 then (if (I 74 (Int32.toNatClampNeg v1)) ≤ v2 then (k106 (v1 + (1 : Int32)) I L) else (bif mv_in (((120 : Int32) * v1) + v2) 1920 then (if (I 78 (Int32.toNatClampNeg (((120 : Int32) * v1) + v2))) = (-1 : Int32) then (kf121_163 N k106 (fun v1 v2 I L => kf121_121 N k106 n v1 v2 I L) v1 v2 I L) else ((kf137 N v1 v2 I L).bind fun r5 => if r5.1 = 0 then (kf121_163 N k106 (fun v1 v2 I L => kf121_121 N k106 n v1 v2 I L) v1 v2 r5.2.1 r5.2.2) else ((kf120 (3 : Int32) v1 v2 r5.2.1 r5.2.2).bind fun r8 => if r8.1 = 0 ∨ r8.1 = 1 then some (r8.1, r8.2.1, r8.2.2) else none))) else none)) else none
set_option maxRecDepth 100000 in
set_option maxHeartbeats 4000000 in
theorem kf121_121_ok (f : Bool) (N : Nat) (k106 : Int32 → kjI → kjL → Option (Int32 × kjI × kjL)) (d : Nat) (hk106 : ∀ (v1 : Int32) (I : kjI) (L : kjL) (r : Int32 × kjI × kjL), k106 v1 I L = some r → mv_G kjP kjSta (mv_C kjP kjSta (d + 6)) kjM_121 (kjQwi f r) (106, [some (.ref 59), some (.int v1), none], [], 0, 0, kjS f I L)) : ∀ (n : Nat) (v1 : Int32) (v2 : Int32) (I : kjI) (L : kjL) (r : Int32 × kjI × kjL), kf121_121 N k106 n v1 v2 I L = some r → mv_G kjP kjSta (mv_C kjP kjSta (d + 6)) kjM_121 (kjQwi f r) (121, [some (.ref 59), some (.int v1), some (.int v2)], [], 0, 0, kjS f I L) := by
  intro n
  induction n with
  | zero => intro v1 v2 I L r h; cases h
  | succ n ih =>
    have hk121 := ih
    intro v1 v2 I L r h
    unfold kf121_121 at h
    refine mv_G_run 4 (F' := (127, [some (.ref 59), some (.int v1), some (.int v2)], [.int v1, .ref 74, .int v2], 0, 0, kjS f I L)) rfl ?_
    obtain ⟨hi1, h⟩ := mv_bifs h
    refine mv_G_ald rfl rfl (mv_in_ok hi1) ?_
    by_cases hc2 : (I 74 (Int32.toNatClampNeg v1)) ≤ v2
    · rw [if_pos hc2] at h
      refine mv_G_br (tgt := 169) rfl rfl (by decide) (fun _ => ?_) (fun z => absurd hc2 z)
      refine mv_G_run 2 (F' := (106, [some (.ref 59), some (.int (v1 + (1 : Int32))), some (.int v2)], [], 0, 0, kjS f I L)) rfl ?_
      refine mv_G_fg (lc' := [some (.ref 59), some (.int (v1 + (1 : Int32))), none]) (And.intro rfl (And.intro rfl trivial)) ?_
      exact hk106 (v1 + (1 : Int32)) I L _ h
    · rw [if_neg hc2] at h
      refine mv_G_br (tgt := 169) rfl rfl (by decide) (fun z => absurd z hc2) (fun _ => ?_)
      refine mv_G_run 7 (F' := (141, [some (.ref 59), some (.int v1), some (.int v2)], [.int (((120 : Int32) * v1) + v2), .ref 78], 0, 0, kjS f I L)) rfl ?_
      obtain ⟨hi3, h⟩ := mv_bifs h
      refine mv_G_ald rfl rfl (mv_in_ok hi3) ?_
      refine mv_G_run 1 (F' := (143, [some (.ref 59), some (.int v1), some (.int v2)], [.int (-1 : Int32), .int (I 78 (Int32.toNatClampNeg (((120 : Int32) * v1) + v2)))], 0, 0, kjS f I L)) rfl ?_
      by_cases hc4 : (I 78 (Int32.toNatClampNeg (((120 : Int32) * v1) + v2))) = (-1 : Int32)
      · rw [if_pos hc4] at h
        refine mv_G_br (tgt := 163) rfl rfl (by decide) (fun _ => ?_) (fun z => absurd hc4 z)
        exact kf121_163_ok _ _ _ _ d hk106 hk121 _ _ _ _ _ h
      · rw [if_neg hc4] at h
        refine mv_G_br (tgt := 163) rfl rfl (by decide) (fun z => absurd z hc4) (fun _ => ?_)
        refine mv_G_run 3 (F' := (149, [some (.ref 59), some (.int v1), some (.int v2)], [.int v2, .int v1, .ref 59], 0, 0, kjS f I L)) rfl ?_
        obtain ⟨r5, hc6, h⟩ := mv_bd h
        refine mv_G_call (r := []) (kf137_ok _ _ _ _ _ _ _ _ hc6) rfl rfl rfl rfl rfl (Nat.le_of_ble_eq_true rfl) (Nat.le_of_ble_eq_true rfl) (Nat.le_of_ble_eq_true rfl) ?_
        rintro _ _ ⟨rfl, rfl⟩
        by_cases hc7 : r5.1 = 0
        · rw [if_pos hc7] at h
          refine mv_G_br (tgt := 163) rfl rfl (by decide) (fun _ => ?_) (fun z => absurd hc7 z)
          exact kf121_163_ok _ _ _ _ d hk106 hk121 _ _ _ _ _ h
        · rw [if_neg hc7] at h
          refine mv_G_br (tgt := 163) rfl rfl (by decide) (fun z => absurd z hc7) (fun _ => ?_)
          refine mv_G_run 4 (F' := (159, [some (.ref 59), some (.int v1), some (.int v2)], [.int v2, .int v1, .int (3 : Int32), .ref 59], 0, 0, kjS f r5.2.1 r5.2.2)) rfl ?_
          obtain ⟨r8, hc9, h⟩ := mv_bd h
          refine mv_G_call (r := []) (kf120_ok _ _ _ _ _ _ _ _ hc9) rfl rfl rfl rfl rfl (Nat.le_of_ble_eq_true rfl) (Nat.le_of_ble_eq_true rfl) (Nat.le_of_ble_eq_true rfl) ?_
          rintro _ _ ⟨rfl, rfl⟩
          obtain ⟨hb10, h⟩ := mv_ifs h
          obtain rfl := Option.some.inj h
          exact mv_G_ret rfl rfl rfl (Nat.le_refl _) hb10 ⟨rfl, rfl⟩
def kf121_106 (N : Nat) : Nat → Int32 → kjI → kjL → Option (Int32 × kjI × kjL)
  | 0, _, _, _ => none
  | n + 1, v1, I, L => if (I 59 20) ≤ v1 then (some ((1 : Int32), I, L)) else ((kf128 N v1 I L).bind fun r2 => kf121_121 N (fun v1 I L => kf121_106 N n v1 I L) N v1 (0 : Int32) r2.1 r2.2)
set_option maxRecDepth 100000 in
set_option maxHeartbeats 4000000 in
theorem kf121_106_ok (f : Bool) (N : Nat) (d : Nat)  : ∀ (n : Nat) (v1 : Int32) (I : kjI) (L : kjL) (r : Int32 × kjI × kjL), kf121_106 N n v1 I L = some r → mv_G kjP kjSta (mv_C kjP kjSta (d + 6)) kjM_121 (kjQwi f r) (106, [some (.ref 59), some (.int v1), none], [], 0, 0, kjS f I L) := by
  intro n
  induction n with
  | zero => intro v1 I L r h; cases h
  | succ n ih =>
    have hk106 := ih
    intro v1 I L r h
    unfold kf121_106 at h
    refine mv_G_run 3 (F' := (111, [some (.ref 59), some (.int v1), none], [.int (I 59 20), .int v1], 0, 0, kjS f I L)) rfl ?_
    by_cases hc1 : (I 59 20) ≤ v1
    · rw [if_pos hc1] at h
      refine mv_G_br (tgt := 175) rfl rfl (by decide) (fun _ => ?_) (fun z => absurd hc1 z)
      refine mv_G_run 1 (F' := (176, [some (.ref 59), some (.int v1), none], [.int (1 : Int32)], 0, 0, kjS f I L)) rfl ?_
      obtain rfl := Option.some.inj h
      exact mv_G_ret rfl rfl rfl (Nat.le_refl _) (Or.inr rfl) ⟨rfl, rfl⟩
    · rw [if_neg hc1] at h
      refine mv_G_br (tgt := 175) rfl rfl (by decide) (fun z => absurd z hc1) (fun _ => ?_)
      refine mv_G_run 2 (F' := (116, [some (.ref 59), some (.int v1), none], [.int v1, .ref 59], 0, 0, kjS f I L)) rfl ?_
      obtain ⟨r2, hc3, h⟩ := mv_bd h
      refine mv_G_call (r := []) (kf128_ok _ _ _ _ _ _ _ hc3) rfl rfl rfl rfl rfl (Nat.le_of_ble_eq_true rfl) (Nat.le_of_ble_eq_true rfl) (Nat.le_of_ble_eq_true rfl) ?_
      rintro _ _ ⟨rfl, rfl⟩
      refine mv_G_run 2 (F' := (121, [some (.ref 59), some (.int v1), some (.int (0 : Int32))], [], 0, 0, kjS f r2.1 r2.2)) rfl ?_
      exact kf121_121_ok _ _ _ d hk106 _ _ _ _ _ _ h
def kf121_92 (N : Nat) (k41 : Int32 → kjI → kjL → Option (Int32 × kjI × kjL)) (k51 : Int32 → Int32 → kjI → kjL → Option (Int32 × kjI × kjL)) (v1 : Int32) (v2 : Int32) (I : kjI) (L : kjL) : Option (Int32 × kjI × kjL) :=
  k51 v1 (v2 + (1 : Int32)) I L
set_option maxRecDepth 100000 in
set_option maxHeartbeats 4000000 in
theorem kf121_92_ok (f : Bool) (N : Nat) (k41 : Int32 → kjI → kjL → Option (Int32 × kjI × kjL)) (k51 : Int32 → Int32 → kjI → kjL → Option (Int32 × kjI × kjL)) (d : Nat) (hk41 : ∀ (v1 : Int32) (I : kjI) (L : kjL) (r : Int32 × kjI × kjL), k41 v1 I L = some r → mv_G kjP kjSta (mv_C kjP kjSta (d + 6)) kjM_121 (kjQwi f r) (41, [some (.ref 59), some (.int v1), none], [], 0, 0, kjS f I L)) (hk51 : ∀ (v1 : Int32) (v2 : Int32) (I : kjI) (L : kjL) (r : Int32 × kjI × kjL), k51 v1 v2 I L = some r → mv_G kjP kjSta (mv_C kjP kjSta (d + 6)) kjM_121 (kjQwi f r) (51, [some (.ref 59), some (.int v1), some (.int v2)], [], 0, 0, kjS f I L)) (v1 : Int32) (v2 : Int32) (I : kjI) (L : kjL) (r : Int32 × kjI × kjL) (h : kf121_92 N k41 k51 v1 v2 I L = some r) : mv_G kjP kjSta (mv_C kjP kjSta (d + 6)) kjM_121 (kjQwi f r) (92, [some (.ref 59), some (.int v1), some (.int v2)], [], 0, 0, kjS f I L) := by
  unfold kf121_92 at h
  refine mv_G_run 2 (F' := (51, [some (.ref 59), some (.int v1), some (.int (v2 + (1 : Int32)))], [], 0, 0, kjS f I L)) rfl ?_
  exact hk51 v1 (v2 + (1 : Int32)) I L _ h
def kf121_51 (N : Nat) (k41 : Int32 → kjI → kjL → Option (Int32 × kjI × kjL)) : Nat → Int32 → Int32 → kjI → kjL → Option (Int32 × kjI × kjL)
  | 0, _, _, _, _ => none
  | n + 1, v1, v2, I, L => bif mv_in v1 16 then (if (I 74 (Int32.toNatClampNeg v1)) ≤ v2 then (k41 (v1 + (1 : Int32)) I L) else (bif mv_in (((120 : Int32) * v1) + v2) 1920 then (if (I 76 (Int32.toNatClampNeg (((120 : Int32) * v1) + v2))) = 0 then (kf121_92 N k41 (fun v1 v2 I L => kf121_51 N k41 n v1 v2 I L) v1 v2 I L) else ((kf119 N I L v1 v2).bind fun r5 => if ¬ r5 = 0 then (kf121_92 N k41 (fun v1 v2 I L => kf121_51 N k41 n v1 v2 I L) v1 v2 I L) else ((kf120 (2 : Int32) v1 v2 I L).bind fun r8 => if r8.1 = 0 ∨ r8.1 = 1 then some (r8.1, r8.2.1, r8.2.2) else none))) else none)) else none
set_option maxRecDepth 100000 in
set_option maxHeartbeats 4000000 in
theorem kf121_51_ok (f : Bool) (N : Nat) (k41 : Int32 → kjI → kjL → Option (Int32 × kjI × kjL)) (d : Nat) (hk41 : ∀ (v1 : Int32) (I : kjI) (L : kjL) (r : Int32 × kjI × kjL), k41 v1 I L = some r → mv_G kjP kjSta (mv_C kjP kjSta (d + 6)) kjM_121 (kjQwi f r) (41, [some (.ref 59), some (.int v1), none], [], 0, 0, kjS f I L)) : ∀ (n : Nat) (v1 : Int32) (v2 : Int32) (I : kjI) (L : kjL) (r : Int32 × kjI × kjL), kf121_51 N k41 n v1 v2 I L = some r → mv_G kjP kjSta (mv_C kjP kjSta (d + 6)) kjM_121 (kjQwi f r) (51, [some (.ref 59), some (.int v1), some (.int v2)], [], 0, 0, kjS f I L) := by
  intro n
  induction n with
  | zero => intro v1 v2 I L r h; cases h
  | succ n ih =>
    have hk51 := ih
    intro v1 v2 I L r h
    unfold kf121_51 at h
    refine mv_G_run 4 (F' := (57, [some (.ref 59), some (.int v1), some (.int v2)], [.int v1, .ref 74, .int v2], 0, 0, kjS f I L)) rfl ?_
    obtain ⟨hi1, h⟩ := mv_bifs h
    refine mv_G_ald rfl rfl (mv_in_ok hi1) ?_
    by_cases hc2 : (I 74 (Int32.toNatClampNeg v1)) ≤ v2
    · rw [if_pos hc2] at h
      refine mv_G_br (tgt := 98) rfl rfl (by decide) (fun _ => ?_) (fun z => absurd hc2 z)
      refine mv_G_run 2 (F' := (41, [some (.ref 59), some (.int (v1 + (1 : Int32))), some (.int v2)], [], 0, 0, kjS f I L)) rfl ?_
      refine mv_G_fg (lc' := [some (.ref 59), some (.int (v1 + (1 : Int32))), none]) (And.intro rfl (And.intro rfl trivial)) ?_
      exact hk41 (v1 + (1 : Int32)) I L _ h
    · rw [if_neg hc2] at h
      refine mv_G_br (tgt := 98) rfl rfl (by decide) (fun z => absurd z hc2) (fun _ => ?_)
      refine mv_G_run 7 (F' := (71, [some (.ref 59), some (.int v1), some (.int v2)], [.int (((120 : Int32) * v1) + v2), .ref 76], 0, 0, kjS f I L)) rfl ?_
      obtain ⟨hi3, h⟩ := mv_bifs h
      refine mv_G_ald rfl rfl (mv_in_ok hi3) ?_
      by_cases hc4 : (I 76 (Int32.toNatClampNeg (((120 : Int32) * v1) + v2))) = 0
      · rw [if_pos hc4] at h
        refine mv_G_br (tgt := 92) rfl rfl (by decide) (fun _ => ?_) (fun z => absurd hc4 z)
        exact kf121_92_ok _ _ _ _ d hk41 hk51 _ _ _ _ _ h
      · rw [if_neg hc4] at h
        refine mv_G_br (tgt := 92) rfl rfl (by decide) (fun z => absurd z hc4) (fun _ => ?_)
        refine mv_G_run 3 (F' := (78, [some (.ref 59), some (.int v1), some (.int v2)], [.int v2, .int v1, .ref 59], 0, 0, kjS f I L)) rfl ?_
        obtain ⟨r5, hc6, h⟩ := mv_bd h
        refine mv_G_call (r := []) (kf119_ok _ _ _ _ _ _ _ _ hc6) rfl rfl rfl rfl rfl (Nat.le_of_ble_eq_true rfl) (Nat.le_of_ble_eq_true rfl) (Nat.le_of_ble_eq_true rfl) ?_
        rintro _ _ ⟨rfl, rfl⟩
        by_cases hc7 : ¬ r5 = 0
        · rw [if_pos hc7] at h
          refine mv_G_br (tgt := 92) rfl rfl (by decide) (fun _ => ?_) (fun z => absurd hc7 z)
          exact kf121_92_ok _ _ _ _ d hk41 hk51 _ _ _ _ _ h
        · rw [if_neg hc7] at h
          refine mv_G_br (tgt := 92) rfl rfl (by decide) (fun z => absurd z hc7) (fun _ => ?_)
          refine mv_G_run 4 (F' := (88, [some (.ref 59), some (.int v1), some (.int v2)], [.int v2, .int v1, .int (2 : Int32), .ref 59], 0, 0, kjS f I L)) rfl ?_
          obtain ⟨r8, hc9, h⟩ := mv_bd h
          refine mv_G_call (r := []) (kf120_ok _ _ _ _ _ _ _ _ hc9) rfl rfl rfl rfl rfl (Nat.le_of_ble_eq_true rfl) (Nat.le_of_ble_eq_true rfl) (Nat.le_of_ble_eq_true rfl) ?_
          rintro _ _ ⟨rfl, rfl⟩
          obtain ⟨hb10, h⟩ := mv_ifs h
          obtain rfl := Option.some.inj h
          exact mv_G_ret rfl rfl rfl (Nat.le_refl _) hb10 ⟨rfl, rfl⟩
def kf121_41 (N : Nat) : Nat → Int32 → kjI → kjL → Option (Int32 × kjI × kjL)
  | 0, _, _, _ => none
  | n + 1, v1, I, L => if (I 59 20) ≤ v1 then (kf121_106 N N (0 : Int32) I L) else (kf121_51 N (fun v1 I L => kf121_41 N n v1 I L) N v1 (0 : Int32) I L)
set_option maxRecDepth 100000 in
set_option maxHeartbeats 4000000 in
theorem kf121_41_ok (f : Bool) (N : Nat) (d : Nat)  : ∀ (n : Nat) (v1 : Int32) (I : kjI) (L : kjL) (r : Int32 × kjI × kjL), kf121_41 N n v1 I L = some r → mv_G kjP kjSta (mv_C kjP kjSta (d + 6)) kjM_121 (kjQwi f r) (41, [some (.ref 59), some (.int v1), none], [], 0, 0, kjS f I L) := by
  intro n
  induction n with
  | zero => intro v1 I L r h; cases h
  | succ n ih =>
    have hk41 := ih
    intro v1 I L r h
    unfold kf121_41 at h
    refine mv_G_run 3 (F' := (46, [some (.ref 59), some (.int v1), none], [.int (I 59 20), .int v1], 0, 0, kjS f I L)) rfl ?_
    by_cases hc1 : (I 59 20) ≤ v1
    · rw [if_pos hc1] at h
      refine mv_G_br (tgt := 104) rfl rfl (by decide) (fun _ => ?_) (fun z => absurd hc1 z)
      refine mv_G_run 2 (F' := (106, [some (.ref 59), some (.int (0 : Int32)), none], [], 0, 0, kjS f I L)) rfl ?_
      exact kf121_106_ok _ _ d _ _ _ _ _ h
    · rw [if_neg hc1] at h
      refine mv_G_br (tgt := 104) rfl rfl (by decide) (fun z => absurd z hc1) (fun _ => ?_)
      refine mv_G_run 2 (F' := (51, [some (.ref 59), some (.int v1), some (.int (0 : Int32))], [], 0, 0, kjS f I L)) rfl ?_
      exact kf121_51_ok _ _ _ d hk41 _ _ _ _ _ _ h
def kf121_20 (N : Nat) : Nat → Int32 → kjI → kjL → Option (Int32 × kjI × kjL)
  | 0, _, _, _ => none
  | n + 1, v1, I, L => if (I 59 20) ≤ v1 then (kf121_41 N N (0 : Int32) I L) else ((kf117 N v1 I L).bind fun r2 => (fun v1 I L => kf121_20 N n v1 I L) (v1 + (1 : Int32)) r2.1 r2.2)
set_option maxRecDepth 100000 in
set_option maxHeartbeats 4000000 in
theorem kf121_20_ok (f : Bool) (N : Nat) (d : Nat)  : ∀ (n : Nat) (v1 : Int32) (I : kjI) (L : kjL) (r : Int32 × kjI × kjL), kf121_20 N n v1 I L = some r → mv_G kjP kjSta (mv_C kjP kjSta (d + 6)) kjM_121 (kjQwi f r) (20, [some (.ref 59), some (.int v1), none], [], 0, 0, kjS f I L) := by
  intro n
  induction n with
  | zero => intro v1 I L r h; cases h
  | succ n ih =>
    have hk20 := ih
    intro v1 I L r h
    unfold kf121_20 at h
    refine mv_G_run 3 (F' := (25, [some (.ref 59), some (.int v1), none], [.int (I 59 20), .int v1], 0, 0, kjS f I L)) rfl ?_
    by_cases hc1 : (I 59 20) ≤ v1
    · rw [if_pos hc1] at h
      refine mv_G_br (tgt := 39) rfl rfl (by decide) (fun _ => ?_) (fun z => absurd hc1 z)
      refine mv_G_run 2 (F' := (41, [some (.ref 59), some (.int (0 : Int32)), none], [], 0, 0, kjS f I L)) rfl ?_
      exact kf121_41_ok _ _ d _ _ _ _ _ h
    · rw [if_neg hc1] at h
      refine mv_G_br (tgt := 39) rfl rfl (by decide) (fun z => absurd z hc1) (fun _ => ?_)
      refine mv_G_run 2 (F' := (30, [some (.ref 59), some (.int v1), none], [.int v1, .ref 59], 0, 0, kjS f I L)) rfl ?_
      obtain ⟨r2, hc3, h⟩ := mv_bd h
      refine mv_G_call (r := []) (kf117_ok _ _ _ _ _ _ _ hc3) rfl rfl rfl rfl rfl (Nat.le_of_ble_eq_true rfl) (Nat.le_of_ble_eq_true rfl) (Nat.le_of_ble_eq_true rfl) ?_
      rintro _ _ ⟨rfl, rfl⟩
      refine mv_G_run 2 (F' := (20, [some (.ref 59), some (.int (v1 + (1 : Int32))), none], [], 0, 0, kjS f r2.1 r2.2)) rfl ?_
      exact hk20 (v1 + (1 : Int32)) r2.1 r2.2 _ h
def kf121 (N : Nat) (I : kjI) (L : kjL) : Option (Int32 × kjI × kjL) :=
  (kf113 N I L).bind fun r1 => if ¬ r1.1 = 0 then (kf121_20 N N (0 : Int32) r1.2.1 r1.2.2) else ((kf120 (1 : Int32) (0 : Int32) (r1.2.1 59 35) r1.2.1 r1.2.2).bind fun r4 => if r4.1 = 0 ∨ r4.1 = 1 then some (r4.1, r4.2.1, r4.2.2) else none)
set_option maxRecDepth 100000 in
set_option maxHeartbeats 4000000 in
theorem kf121_ok (f : Bool) (N : Nat) (I : kjI) (L : kjL) (d : Nat) (r : Int32 × kjI × kjL) (h : kf121 N I L = some r) : mv_C kjP kjSta (d + 7) 121 [.ref 59] (kjS f I L) (kjQwi f r) := by
  unfold kf121 at h
  refine mv_C_in kjM_121 (lc := [some (.ref 59), none, none]) rfl rfl rfl ?_
  refine mv_G_run 1 (F' := (1, [some (.ref 59), none, none], [.ref 59], 0, 0, kjS f I L)) rfl ?_
  obtain ⟨r1, hc2, h⟩ := mv_bd h
  refine mv_G_call (r := []) (kf113_ok _ _ _ _ _ _ hc2) rfl rfl rfl rfl rfl (Nat.le_of_ble_eq_true rfl) (Nat.le_of_ble_eq_true rfl) (Nat.le_of_ble_eq_true rfl) ?_
  rintro _ _ ⟨rfl, rfl⟩
  by_cases hc3 : ¬ r1.1 = 0
  · rw [if_pos hc3] at h
    refine mv_G_br (tgt := 18) rfl rfl (by decide) (fun _ => ?_) (fun z => absurd hc3 z)
    refine mv_G_run 2 (F' := (20, [some (.ref 59), some (.int (0 : Int32)), none], [], 0, 0, kjS f r1.2.1 r1.2.2)) rfl ?_
    exact kf121_20_ok _ _ d _ _ _ _ _ h
  · rw [if_neg hc3] at h
    refine mv_G_br (tgt := 18) rfl rfl (by decide) (fun z => absurd z hc3) (fun _ => ?_)
    refine mv_G_run 5 (F' := (14, [some (.ref 59), none, none], [.int (r1.2.1 59 35), .int (0 : Int32), .int (1 : Int32), .ref 59], 0, 0, kjS f r1.2.1 r1.2.2)) rfl ?_
    obtain ⟨r4, hc5, h⟩ := mv_bd h
    refine mv_G_call (r := []) (kf120_ok _ _ _ _ _ _ _ _ hc5) rfl rfl rfl rfl rfl (Nat.le_of_ble_eq_true rfl) (Nat.le_of_ble_eq_true rfl) (Nat.le_of_ble_eq_true rfl) ?_
    rintro _ _ ⟨rfl, rfl⟩
    obtain ⟨hb6, h⟩ := mv_ifs h
    obtain rfl := Option.some.inj h
    exact mv_G_ret rfl rfl rfl (Nat.le_refl _) hb6 ⟨rfl, rfl⟩
/-! KindJudgeModel.again()V on ('c', 59) -/
def kf123_26 (N : Nat) : Nat → Int32 → Int32 → Int32 → Int32 → kjI → kjL → Option (kjI × kjL)
  | 0, _, _, _, _, _, _ => none
  | n + 1, v1, v2, v3, v4, I, L => if (I 59 7) ≤ v4 then ((kf121 N I L).bind fun r2 => some ((mv_up (mv_up (mv_up r2.2.1 59 9 v1) 59 11 v2) 59 10 v3), r2.2.2)) else (bif mv_in v4 1500 then (bif mv_in v4 1500 then ((fun v1 v2 v3 v4 I L => kf123_26 N n v1 v2 v3 v4 I L) v1 v2 v3 (v4 + (1 : Int32)) (mv_up I 61 (Int32.toNatClampNeg v4) (I 62 (Int32.toNatClampNeg v4))) L) else none) else none)
set_option maxRecDepth 100000 in
set_option maxHeartbeats 4000000 in
theorem kf123_26_ok (f : Bool) (N : Nat) (d : Nat)  : ∀ (n : Nat) (v1 : Int32) (v2 : Int32) (v3 : Int32) (v4 : Int32) (I : kjI) (L : kjL) (r : kjI × kjL), kf123_26 N n v1 v2 v3 v4 I L = some r → mv_G kjP kjSta (mv_C kjP kjSta (d + 7)) kjM_123 (kjQwv f r) (26, [some (.ref 59), some (.int v1), some (.int v2), some (.int v3), some (.int v4)], [], 0, 0, kjS f I L) := by
  intro n
  induction n with
  | zero => intro v1 v2 v3 v4 I L r h; cases h
  | succ n ih =>
    have hk26 := ih
    intro v1 v2 v3 v4 I L r h
    unfold kf123_26 at h
    refine mv_G_run 3 (F' := (32, [some (.ref 59), some (.int v1), some (.int v2), some (.int v3), some (.int v4)], [.int (I 59 7), .int v4], 0, 0, kjS f I L)) rfl ?_
    by_cases hc1 : (I 59 7) ≤ v4
    · rw [if_pos hc1] at h
      refine mv_G_br (tgt := 55) rfl rfl (by decide) (fun _ => ?_) (fun z => absurd hc1 z)
      refine mv_G_run 1 (F' := (56, [some (.ref 59), some (.int v1), some (.int v2), some (.int v3), some (.int v4)], [.ref 59], 0, 0, kjS f I L)) rfl ?_
      obtain ⟨r2, hc3, h⟩ := mv_bd h
      refine mv_G_call (r := []) (kf121_ok _ _ _ _ _ _ hc3) rfl rfl rfl rfl rfl (Nat.le_of_ble_eq_true rfl) (Nat.le_of_ble_eq_true rfl) (Nat.le_of_ble_eq_true rfl) ?_
      rintro _ _ ⟨rfl, rfl⟩
      refine mv_G_run 10 (F' := (76, [some (.ref 59), some (.int v1), some (.int v2), some (.int v3), some (.int r2.1)], [], 0, 0, kjS f (mv_up (mv_up (mv_up r2.2.1 59 9 v1) 59 11 v2) 59 10 v3) r2.2.2)) rfl ?_
      obtain rfl := Option.some.inj h
      exact mv_G_ret rfl rfl rfl (Nat.le_refl _) trivial ⟨rfl, rfl⟩
    · rw [if_neg hc1] at h
      refine mv_G_br (tgt := 55) rfl rfl (by decide) (fun z => absurd z hc1) (fun _ => ?_)
      refine mv_G_run 6 (F' := (47, [some (.ref 59), some (.int v1), some (.int v2), some (.int v3), some (.int v4)], [.int v4, .ref 62, .int v4, .ref 61], 0, 0, kjS f I L)) rfl ?_
      obtain ⟨hi4, h⟩ := mv_bifs h
      refine mv_G_ald rfl rfl (mv_in_ok hi4) ?_
      obtain ⟨hi5, h⟩ := mv_bifs h
      refine mv_G_ast rfl rfl (mv_in_ok hi5) ?_
      refine mv_G_run 2 (F' := (26, [some (.ref 59), some (.int v1), some (.int v2), some (.int v3), some (.int (v4 + (1 : Int32)))], [], 0, 0, kjS f (mv_up I 61 (Int32.toNatClampNeg v4) (I 62 (Int32.toNatClampNeg v4))) L)) rfl ?_
      exact hk26 v1 v2 v3 (v4 + (1 : Int32)) (mv_up I 61 (Int32.toNatClampNeg v4) (I 62 (Int32.toNatClampNeg v4))) L _ h
def kf123 (N : Nat) (I : kjI) (L : kjL) : Option (kjI × kjL) :=
  kf123_26 N N (I 59 9) (I 59 11) (I 59 10) (0 : Int32) (mv_up I 59 5 (I 59 7)) L
set_option maxRecDepth 100000 in
set_option maxHeartbeats 4000000 in
theorem kf123_ok (f : Bool) (N : Nat) (I : kjI) (L : kjL) (d : Nat) (r : kjI × kjL) (h : kf123 N I L = some r) : mv_C kjP kjSta (d + 8) 123 [.ref 59] (kjS f I L) (kjQwv f r) := by
  unfold kf123 at h
  refine mv_C_in kjM_123 (lc := [some (.ref 59), none, none, none, none]) rfl rfl rfl ?_
  refine mv_G_run 15 (F' := (26, [some (.ref 59), some (.int (I 59 9)), some (.int (I 59 11)), some (.int (I 59 10)), some (.int (0 : Int32))], [], 0, 0, kjS f (mv_up I 59 5 (I 59 7)) L)) rfl ?_
  exact kf123_26_ok _ _ d _ _ _ _ _ _ _ _ h
/-! KindJudgeModel.load()I on ('c', 59) -/
def kf122_137 (N : Nat) (I : kjI) (L : kjL) : Option (Int32 × kjI × kjL) :=
  (kf101 (1 : Int32) I L).bind fun r1 => some (r1.1, r1.2.1, r1.2.2)
set_option maxRecDepth 100000 in
set_option maxHeartbeats 4000000 in
theorem kf122_137_ok (f : Bool) (N : Nat) (d : Nat)  (I : kjI) (L : kjL) (r : Int32 × kjI × kjL) (h : kf122_137 N I L = some r) : mv_G kjP kjSta (mv_C kjP kjSta (d + 8)) kjM_122 (kjQwi f r) (137, [some (.ref 59), none, none], [], 0, 0, kjS f I L) := by
  unfold kf122_137 at h
  refine mv_G_run 2 (F' := (139, [some (.ref 59), none, none], [.int (1 : Int32), .ref 59], 0, 0, kjS f I L)) rfl ?_
  obtain ⟨r1, hc2, h⟩ := mv_bd h
  refine mv_G_call (r := []) (kf101_ok _ _ _ _ _ _ hc2) rfl rfl rfl rfl rfl (Nat.le_of_ble_eq_true rfl) (Nat.le_of_ble_eq_true rfl) (Nat.le_of_ble_eq_true rfl) ?_
  rintro _ _ ⟨rfl, rfl⟩
  obtain rfl := Option.some.inj h
  exact mv_G_ret rfl rfl rfl (Nat.le_refl _) trivial ⟨rfl, rfl⟩
def kf122_67 (N : Nat) : Nat → Int32 → kjI → kjL → Option (Int32 × kjI × kjL)
  | 0, _, _, _ => none
  | n + 1, v2, I, L => if (I 59 5) ≤ v2 then (some (((mv_up (mv_up (mv_up (mv_up I 59 7 (I 59 5)) 59 8 (1 : Int32)) 59 1 (((mv_up (mv_up I 59 7 (I 59 5)) 59 8 (1 : Int32)) 59 1) + (1 : Int32))) 59 0 (0 : Int32)) 59 20), (mv_up (mv_up (mv_up (mv_up I 59 7 (I 59 5)) 59 8 (1 : Int32)) 59 1 (((mv_up (mv_up I 59 7 (I 59 5)) 59 8 (1 : Int32)) 59 1) + (1 : Int32))) 59 0 (0 : Int32)), L)) else (bif mv_in v2 1500 then (bif mv_in v2 1500 then ((fun v2 I L => kf122_67 N n v2 I L) (v2 + (1 : Int32)) (mv_up I 62 (Int32.toNatClampNeg v2) (I 61 (Int32.toNatClampNeg v2))) L) else none) else none)
set_option maxRecDepth 100000 in
set_option maxHeartbeats 4000000 in
theorem kf122_67_ok (f : Bool) (N : Nat) (d : Nat)  : ∀ (n : Nat) (v2 : Int32) (I : kjI) (L : kjL) (r : Int32 × kjI × kjL), kf122_67 N n v2 I L = some r → mv_G kjP kjSta (mv_C kjP kjSta (d + 8)) kjM_122 (kjQwi f r) (67, [some (.ref 59), none, some (.int v2)], [], 0, 0, kjS f I L) := by
  intro n
  induction n with
  | zero => intro v2 I L r h; cases h
  | succ n ih =>
    have hk67 := ih
    intro v2 I L r h
    unfold kf122_67 at h
    refine mv_G_run 3 (F' := (72, [some (.ref 59), none, some (.int v2)], [.int (I 59 5), .int v2], 0, 0, kjS f I L)) rfl ?_
    by_cases hc1 : (I 59 5) ≤ v2
    · rw [if_pos hc1] at h
      refine mv_G_br (tgt := 93) rfl rfl (by decide) (fun _ => ?_) (fun z => absurd hc1 z)
      refine mv_G_run 18 (F' := (125, [some (.ref 59), none, some (.int v2)], [.int ((mv_up (mv_up (mv_up (mv_up I 59 7 (I 59 5)) 59 8 (1 : Int32)) 59 1 (((mv_up (mv_up I 59 7 (I 59 5)) 59 8 (1 : Int32)) 59 1) + (1 : Int32))) 59 0 (0 : Int32)) 59 20)], 0, 0, kjS f (mv_up (mv_up (mv_up (mv_up I 59 7 (I 59 5)) 59 8 (1 : Int32)) 59 1 (((mv_up (mv_up I 59 7 (I 59 5)) 59 8 (1 : Int32)) 59 1) + (1 : Int32))) 59 0 (0 : Int32)) L)) rfl ?_
      obtain rfl := Option.some.inj h
      exact mv_G_ret rfl rfl rfl (Nat.le_refl _) trivial ⟨rfl, rfl⟩
    · rw [if_neg hc1] at h
      refine mv_G_br (tgt := 93) rfl rfl (by decide) (fun z => absurd z hc1) (fun _ => ?_)
      refine mv_G_run 6 (F' := (85, [some (.ref 59), none, some (.int v2)], [.int v2, .ref 61, .int v2, .ref 62], 0, 0, kjS f I L)) rfl ?_
      obtain ⟨hi2, h⟩ := mv_bifs h
      refine mv_G_ald rfl rfl (mv_in_ok hi2) ?_
      obtain ⟨hi3, h⟩ := mv_bifs h
      refine mv_G_ast rfl rfl (mv_in_ok hi3) ?_
      refine mv_G_run 2 (F' := (67, [some (.ref 59), none, some (.int (v2 + (1 : Int32)))], [], 0, 0, kjS f (mv_up I 62 (Int32.toNatClampNeg v2) (I 61 (Int32.toNatClampNeg v2))) L)) rfl ?_
      exact hk67 (v2 + (1 : Int32)) (mv_up I 62 (Int32.toNatClampNeg v2) (I 61 (Int32.toNatClampNeg v2))) L _ h
def kf122_10 (N : Nat) : Nat → Int32 → kjI → kjL → Option (Int32 × kjI × kjL)
  | 0, _, _, _ => none
  | n + 1, v1, I, L => if (I 59 2) ≤ v1 then ((kf121 N (mv_up I 59 2 (0 : Int32)) L).bind fun r2 => if r2.1 = 0 then (if (r2.2.1 59 8) = 0 then (kf122_137 N r2.2.1 r2.2.2) else ((kf123 N r2.2.1 r2.2.2).bind fun r6 => kf122_137 N r6.1 r6.2)) else (kf122_67 N N (0 : Int32) (mv_up (mv_up (mv_up r2.2.1 59 9 (0 : Int32)) 59 10 (0 : Int32)) 59 11 (0 : Int32)) r2.2.2)) else (bif mv_in v1 1500 then (bif mv_in v1 1500 then ((fun v1 I L => kf122_10 N n v1 I L) (v1 + (1 : Int32)) (mv_up I 61 (Int32.toNatClampNeg v1) (I 60 (Int32.toNatClampNeg v1))) L) else none) else none)
set_option maxRecDepth 100000 in
set_option maxHeartbeats 4000000 in
theorem kf122_10_ok (f : Bool) (N : Nat) (d : Nat)  : ∀ (n : Nat) (v1 : Int32) (I : kjI) (L : kjL) (r : Int32 × kjI × kjL), kf122_10 N n v1 I L = some r → mv_G kjP kjSta (mv_C kjP kjSta (d + 8)) kjM_122 (kjQwi f r) (10, [some (.ref 59), some (.int v1), none], [], 0, 0, kjS f I L) := by
  intro n
  induction n with
  | zero => intro v1 I L r h; cases h
  | succ n ih =>
    have hk10 := ih
    intro v1 I L r h
    unfold kf122_10 at h
    refine mv_G_run 3 (F' := (15, [some (.ref 59), some (.int v1), none], [.int (I 59 2), .int v1], 0, 0, kjS f I L)) rfl ?_
    by_cases hc1 : (I 59 2) ≤ v1
    · rw [if_pos hc1] at h
      refine mv_G_br (tgt := 36) rfl rfl (by decide) (fun _ => ?_) (fun z => absurd hc1 z)
      refine mv_G_run 4 (F' := (42, [some (.ref 59), some (.int v1), none], [.ref 59], 0, 0, kjS f (mv_up I 59 2 (0 : Int32)) L)) rfl ?_
      obtain ⟨r2, hc3, h⟩ := mv_bd h
      refine mv_G_call (r := []) (kf121_ok _ _ _ _ _ _ hc3) rfl rfl rfl rfl rfl (Nat.le_of_ble_eq_true rfl) (Nat.le_of_ble_eq_true rfl) (Nat.le_of_ble_eq_true rfl) ?_
      rintro _ _ ⟨rfl, rfl⟩
      refine mv_G_run 2 (F' := (47, [some (.ref 59), some (.int r2.1), none], [.int r2.1], 0, 0, kjS f r2.2.1 r2.2.2)) rfl ?_
      by_cases hc4 : r2.1 = 0
      · rw [if_pos hc4] at h
        refine mv_G_br (tgt := 126) rfl rfl (by decide) (fun _ => ?_) (fun z => absurd hc4 z)
        refine mv_G_run 2 (F' := (130, [some (.ref 59), some (.int r2.1), none], [.int (r2.2.1 59 8)], 0, 0, kjS f r2.2.1 r2.2.2)) rfl ?_
        by_cases hc5 : (r2.2.1 59 8) = 0
        · rw [if_pos hc5] at h
          refine mv_G_br (tgt := 137) rfl rfl (by decide) (fun _ => ?_) (fun z => absurd hc5 z)
          refine mv_G_fg (lc' := [some (.ref 59), none, none]) (And.intro rfl trivial) ?_
          exact kf122_137_ok _ _ d _ _ _ h
        · rw [if_neg hc5] at h
          refine mv_G_br (tgt := 137) rfl rfl (by decide) (fun z => absurd z hc5) (fun _ => ?_)
          refine mv_G_run 1 (F' := (134, [some (.ref 59), some (.int r2.1), none], [.ref 59], 0, 0, kjS f r2.2.1 r2.2.2)) rfl ?_
          obtain ⟨r6, hc7, h⟩ := mv_bd h
          refine mv_G_call (r := []) (kf123_ok _ _ _ _ _ _ hc7) rfl rfl rfl rfl rfl (Nat.le_of_ble_eq_true rfl) (Nat.le_of_ble_eq_true rfl) (Nat.le_of_ble_eq_true rfl) ?_
          rintro _ _ ⟨rfl, rfl⟩
          refine mv_G_fg (lc' := [some (.ref 59), none, none]) (And.intro rfl trivial) ?_
          exact kf122_137_ok _ _ d _ _ _ h
      · rw [if_neg hc4] at h
        refine mv_G_br (tgt := 126) rfl rfl (by decide) (fun z => absurd z hc4) (fun _ => ?_)
        refine mv_G_run 11 (F' := (67, [some (.ref 59), some (.int r2.1), some (.int (0 : Int32))], [], 0, 0, kjS f (mv_up (mv_up (mv_up r2.2.1 59 9 (0 : Int32)) 59 10 (0 : Int32)) 59 11 (0 : Int32)) r2.2.2)) rfl ?_
        refine mv_G_fg (lc' := [some (.ref 59), none, some (.int (0 : Int32))]) (And.intro rfl (And.intro rfl trivial)) ?_
        exact kf122_67_ok _ _ d _ _ _ _ _ h
    · rw [if_neg hc1] at h
      refine mv_G_br (tgt := 36) rfl rfl (by decide) (fun z => absurd z hc1) (fun _ => ?_)
      refine mv_G_run 6 (F' := (28, [some (.ref 59), some (.int v1), none], [.int v1, .ref 60, .int v1, .ref 61], 0, 0, kjS f I L)) rfl ?_
      obtain ⟨hi8, h⟩ := mv_bifs h
      refine mv_G_ald rfl rfl (mv_in_ok hi8) ?_
      obtain ⟨hi9, h⟩ := mv_bifs h
      refine mv_G_ast rfl rfl (mv_in_ok hi9) ?_
      refine mv_G_run 2 (F' := (10, [some (.ref 59), some (.int (v1 + (1 : Int32))), none], [], 0, 0, kjS f (mv_up I 61 (Int32.toNatClampNeg v1) (I 60 (Int32.toNatClampNeg v1))) L)) rfl ?_
      exact hk10 (v1 + (1 : Int32)) (mv_up I 61 (Int32.toNatClampNeg v1) (I 60 (Int32.toNatClampNeg v1))) L _ h
def kf122 (N : Nat) (I : kjI) (L : kjL) : Option (Int32 × kjI × kjL) :=
  kf122_10 N N (0 : Int32) (mv_up I 59 5 (I 59 2)) L
set_option maxRecDepth 100000 in
set_option maxHeartbeats 4000000 in
theorem kf122_ok (f : Bool) (N : Nat) (I : kjI) (L : kjL) (d : Nat) (r : Int32 × kjI × kjL) (h : kf122 N I L = some r) : mv_C kjP kjSta (d + 9) 122 [.ref 59] (kjS f I L) (kjQwi f r) := by
  unfold kf122 at h
  refine mv_C_in kjM_122 (lc := [some (.ref 59), none, none]) rfl rfl rfl ?_
  refine mv_G_run 6 (F' := (10, [some (.ref 59), some (.int (0 : Int32)), none], [], 0, 0, kjS f (mv_up I 59 5 (I 59 2)) L)) rfl ?_
  exact kf122_10_ok _ _ d _ _ _ _ _ h
/-! KindJudgeModel.fault(I)I on ('c', 59) -/
def kf124 (v1 : Int32) (I : kjI) (L : kjL) : Option (Int32 × kjI × kjL) :=
  if ¬ v1 = 0 then (if ¬ v1 = (1 : Int32) then (if ¬ v1 = (2 : Int32) then (some ((-1 : Int32), (mv_up I 59 0 (0 : Int32)), L)) else (some (((mv_up I 59 0 (0 : Int32)) 59 11), (mv_up I 59 0 (0 : Int32)), L))) else (some (((mv_up I 59 0 (0 : Int32)) 59 10), (mv_up I 59 0 (0 : Int32)), L))) else (some (((mv_up I 59 0 (0 : Int32)) 59 9), (mv_up I 59 0 (0 : Int32)), L))
set_option maxRecDepth 100000 in
set_option maxHeartbeats 4000000 in
theorem kf124_ok (f : Bool) (v1 : Int32) (I : kjI) (L : kjL) (d : Nat) (r : Int32 × kjI × kjL) (h : kf124 v1 I L = some r) : mv_C kjP kjSta (d + 1) 124 [.ref 59, .int v1] (kjS f I L) (kjQwi f r) := by
  unfold kf124 at h
  refine mv_C_in kjM_124 (lc := [some (.ref 59), some (.int v1)]) rfl rfl rfl ?_
  refine mv_G_run 4 (F' := (6, [some (.ref 59), some (.int v1)], [.int v1], 0, 0, kjS f (mv_up I 59 0 (0 : Int32)) L)) rfl ?_
  by_cases hc1 : ¬ v1 = 0
  · rw [if_pos hc1] at h
    refine mv_G_br (tgt := 16) rfl rfl (by decide) (fun _ => ?_) (fun z => absurd hc1 z)
    refine mv_G_run 2 (F' := (18, [some (.ref 59), some (.int v1)], [.int (1 : Int32), .int v1], 0, 0, kjS f (mv_up I 59 0 (0 : Int32)) L)) rfl ?_
    by_cases hc2 : ¬ v1 = (1 : Int32)
    · rw [if_pos hc2] at h
      refine mv_G_br (tgt := 28) rfl rfl (by decide) (fun _ => ?_) (fun z => absurd hc2 z)
      refine mv_G_run 2 (F' := (30, [some (.ref 59), some (.int v1)], [.int (2 : Int32), .int v1], 0, 0, kjS f (mv_up I 59 0 (0 : Int32)) L)) rfl ?_
      by_cases hc3 : ¬ v1 = (2 : Int32)
      · rw [if_pos hc3] at h
        refine mv_G_br (tgt := 40) rfl rfl (by decide) (fun _ => ?_) (fun z => absurd hc3 z)
        refine mv_G_run 1 (F' := (41, [some (.ref 59), some (.int v1)], [.int (-1 : Int32)], 0, 0, kjS f (mv_up I 59 0 (0 : Int32)) L)) rfl ?_
        obtain rfl := Option.some.inj h
        exact mv_G_ret rfl rfl rfl (Nat.le_refl _) trivial ⟨rfl, rfl⟩
      · rw [if_neg hc3] at h
        refine mv_G_br (tgt := 40) rfl rfl (by decide) (fun z => absurd z hc3) (fun _ => ?_)
        refine mv_G_run 3 (F' := (41, [some (.ref 59), some (.int v1)], [.int ((mv_up I 59 0 (0 : Int32)) 59 11)], 0, 0, kjS f (mv_up I 59 0 (0 : Int32)) L)) rfl ?_
        obtain rfl := Option.some.inj h
        exact mv_G_ret rfl rfl rfl (Nat.le_refl _) trivial ⟨rfl, rfl⟩
    · rw [if_neg hc2] at h
      refine mv_G_br (tgt := 28) rfl rfl (by decide) (fun z => absurd z hc2) (fun _ => ?_)
      refine mv_G_run 3 (F' := (41, [some (.ref 59), some (.int v1)], [.int ((mv_up I 59 0 (0 : Int32)) 59 10)], 0, 0, kjS f (mv_up I 59 0 (0 : Int32)) L)) rfl ?_
      obtain rfl := Option.some.inj h
      exact mv_G_ret rfl rfl rfl (Nat.le_refl _) trivial ⟨rfl, rfl⟩
  · rw [if_neg hc1] at h
    refine mv_G_br (tgt := 16) rfl rfl (by decide) (fun z => absurd z hc1) (fun _ => ?_)
    refine mv_G_run 3 (F' := (41, [some (.ref 59), some (.int v1)], [.int ((mv_up I 59 0 (0 : Int32)) 59 9)], 0, 0, kjS f (mv_up I 59 0 (0 : Int32)) L)) rfl ?_
    obtain rfl := Option.some.inj h
    exact mv_G_ret rfl rfl rfl (Nat.le_refl _) trivial ⟨rfl, rfl⟩
/-! KindJudgeModel.kind(III)I on ('c', 59) -/
def kf138 (v1 : Int32) (v2 : Int32) (v3 : Int32) (I : kjI) (L : kjL) : Option (Int32 × kjI × kjL) :=
  if ((mv_up I 59 0 (0 : Int32)) 59 8) = 0 then (some ((-1 : Int32), (mv_up I 59 0 (0 : Int32)), L)) else ((kf102 (mv_up I 59 0 (0 : Int32)) L v1 (0 : Int32) (((mv_up I 59 0 (0 : Int32)) 59 20) - (1 : Int32))).bind fun r2 => if r2 = 0 then (some ((-1 : Int32), (mv_up I 59 0 (0 : Int32)), L)) else (bif mv_in v1 16 then ((kf102 (mv_up I 59 0 (0 : Int32)) L v2 (0 : Int32) (((mv_up I 59 0 (0 : Int32)) 74 (Int32.toNatClampNeg v1)) - (1 : Int32))).bind fun r6 => if r6 = 0 then (some ((-1 : Int32), (mv_up I 59 0 (0 : Int32)), L)) else (bif mv_in (((120 : Int32) * v1) + v2) 1920 then (if ((mv_up I 59 0 (0 : Int32)) 78 (Int32.toNatClampNeg (((120 : Int32) * v1) + v2))) = (-1 : Int32) then (some ((-1 : Int32), (mv_up I 59 0 (0 : Int32)), L)) else (bif mv_in (((120 : Int32) * v1) + v2) 1920 then (if ¬ ((mv_up I 59 0 (0 : Int32)) 76 (Int32.toNatClampNeg (((120 : Int32) * v1) + v2))) = 0 then (bif mv_in v1 16 then ((kf102 (mv_up I 59 0 (0 : Int32)) L v3 (0 : Int32) (((mv_up I 59 0 (0 : Int32)) 72 (Int32.toNatClampNeg v1)) - (1 : Int32))).bind fun r14 => if r14 = 0 then (bif mv_in (((120 : Int32) * v1) + v2) 1920 then ((kf102 (mv_up I 59 0 (0 : Int32)) L v3 (100 : Int32) ((99 : Int32) + ((mv_up I 59 0 (0 : Int32)) 78 (Int32.toNatClampNeg (((120 : Int32) * v1) + v2))))).bind fun r18 => if r18 = 0 then (some ((-1 : Int32), (mv_up I 59 0 (0 : Int32)), L)) else (bif mv_in ((((16 : Int32) * (((120 : Int32) * v1) + v2)) + v3) - (92 : Int32)) 30720 then (some (((mv_up I 59 0 (0 : Int32)) 79 (Int32.toNatClampNeg ((((16 : Int32) * (((120 : Int32) * v1) + v2)) + v3) - (92 : Int32)))), (mv_up I 59 0 (0 : Int32)), L)) else none)) else none) else (bif mv_in (((16 : Int32) * (((120 : Int32) * v1) + v2)) + v3) 30720 then (some (((mv_up I 59 0 (0 : Int32)) 79 (Int32.toNatClampNeg (((16 : Int32) * (((120 : Int32) * v1) + v2)) + v3))), (mv_up I 59 0 (0 : Int32)), L)) else none)) else none) else (some ((-1 : Int32), (mv_up I 59 0 (0 : Int32)), L))) else none)) else none)) else none))
set_option maxRecDepth 100000 in
set_option maxHeartbeats 4000000 in
theorem kf138_ok (f : Bool) (v1 : Int32) (v2 : Int32) (v3 : Int32) (I : kjI) (L : kjL) (d : Nat) (r : Int32 × kjI × kjL) (h : kf138 v1 v2 v3 I L = some r) : mv_C kjP kjSta (d + 2) 138 [.ref 59, .int v1, .int v2, .int v3] (kjS f I L) (kjQwi f r) := by
  unfold kf138 at h
  refine mv_C_in kjM_138 (lc := [some (.ref 59), some (.int v1), some (.int v2), some (.int v3), none]) rfl rfl rfl ?_
  refine mv_G_run 5 (F' := (9, [some (.ref 59), some (.int v1), some (.int v2), some (.int v3), none], [.int ((mv_up I 59 0 (0 : Int32)) 59 8)], 0, 0, kjS f (mv_up I 59 0 (0 : Int32)) L)) rfl ?_
  by_cases hc1 : ((mv_up I 59 0 (0 : Int32)) 59 8) = 0
  · rw [if_pos hc1] at h
    refine mv_G_br (tgt := 71) rfl rfl (by decide) (fun _ => ?_) (fun z => absurd hc1 z)
    refine mv_G_run 1 (F' := (72, [some (.ref 59), some (.int v1), some (.int v2), some (.int v3), none], [.int (-1 : Int32)], 0, 0, kjS f (mv_up I 59 0 (0 : Int32)) L)) rfl ?_
    obtain rfl := Option.some.inj h
    exact mv_G_ret rfl rfl rfl (Nat.le_refl _) trivial ⟨rfl, rfl⟩
  · rw [if_neg hc1] at h
    refine mv_G_br (tgt := 71) rfl rfl (by decide) (fun z => absurd z hc1) (fun _ => ?_)
    refine mv_G_run 6 (F' := (20, [some (.ref 59), some (.int v1), some (.int v2), some (.int v3), none], [.int (((mv_up I 59 0 (0 : Int32)) 59 20) - (1 : Int32)), .int (0 : Int32), .int v1], 0, 0, kjS f (mv_up I 59 0 (0 : Int32)) L)) rfl ?_
    obtain ⟨r2, hc3, h⟩ := mv_bd h
    refine mv_G_call (r := []) (kf102_ok _ _ _ _ _ _ _ _ hc3) rfl rfl rfl rfl rfl (Nat.le_of_ble_eq_true rfl) (Nat.le_of_ble_eq_true rfl) (Nat.le_of_ble_eq_true rfl) ?_
    rintro _ _ ⟨rfl, rfl⟩
    by_cases hc4 : r2 = 0
    · rw [if_pos hc4] at h
      refine mv_G_br (tgt := 71) rfl rfl (by decide) (fun _ => ?_) (fun z => absurd hc4 z)
      refine mv_G_run 1 (F' := (72, [some (.ref 59), some (.int v1), some (.int v2), some (.int v3), none], [.int (-1 : Int32)], 0, 0, kjS f (mv_up I 59 0 (0 : Int32)) L)) rfl ?_
      obtain rfl := Option.some.inj h
      exact mv_G_ret rfl rfl rfl (Nat.le_refl _) trivial ⟨rfl, rfl⟩
    · rw [if_neg hc4] at h
      refine mv_G_br (tgt := 71) rfl rfl (by decide) (fun z => absurd z hc4) (fun _ => ?_)
      refine mv_G_run 5 (F' := (33, [some (.ref 59), some (.int v1), some (.int v2), some (.int v3), none], [.int v1, .ref 74, .int (0 : Int32), .int v2], 0, 0, kjS f (mv_up I 59 0 (0 : Int32)) L)) rfl ?_
      obtain ⟨hi5, h⟩ := mv_bifs h
      refine mv_G_ald rfl rfl (mv_in_ok hi5) ?_
      refine mv_G_run 2 (F' := (36, [some (.ref 59), some (.int v1), some (.int v2), some (.int v3), none], [.int (((mv_up I 59 0 (0 : Int32)) 74 (Int32.toNatClampNeg v1)) - (1 : Int32)), .int (0 : Int32), .int v2], 0, 0, kjS f (mv_up I 59 0 (0 : Int32)) L)) rfl ?_
      obtain ⟨r6, hc7, h⟩ := mv_bd h
      refine mv_G_call (r := []) (kf102_ok _ _ _ _ _ _ _ _ hc7) rfl rfl rfl rfl rfl (Nat.le_of_ble_eq_true rfl) (Nat.le_of_ble_eq_true rfl) (Nat.le_of_ble_eq_true rfl) ?_
      rintro _ _ ⟨rfl, rfl⟩
      by_cases hc8 : r6 = 0
      · rw [if_pos hc8] at h
        refine mv_G_br (tgt := 71) rfl rfl (by decide) (fun _ => ?_) (fun z => absurd hc8 z)
        refine mv_G_run 1 (F' := (72, [some (.ref 59), some (.int v1), some (.int v2), some (.int v3), none], [.int (-1 : Int32)], 0, 0, kjS f (mv_up I 59 0 (0 : Int32)) L)) rfl ?_
        obtain rfl := Option.some.inj h
        exact mv_G_ret rfl rfl rfl (Nat.le_refl _) trivial ⟨rfl, rfl⟩
      · rw [if_neg hc8] at h
        refine mv_G_br (tgt := 71) rfl rfl (by decide) (fun z => absurd z hc8) (fun _ => ?_)
        refine mv_G_run 7 (F' := (52, [some (.ref 59), some (.int v1), some (.int v2), some (.int v3), none], [.int (((120 : Int32) * v1) + v2), .ref 78], 0, 0, kjS f (mv_up I 59 0 (0 : Int32)) L)) rfl ?_
        obtain ⟨hi9, h⟩ := mv_bifs h
        refine mv_G_ald rfl rfl (mv_in_ok hi9) ?_
        refine mv_G_run 1 (F' := (54, [some (.ref 59), some (.int v1), some (.int v2), some (.int v3), none], [.int (-1 : Int32), .int ((mv_up I 59 0 (0 : Int32)) 78 (Int32.toNatClampNeg (((120 : Int32) * v1) + v2)))], 0, 0, kjS f (mv_up I 59 0 (0 : Int32)) L)) rfl ?_
        by_cases hc10 : ((mv_up I 59 0 (0 : Int32)) 78 (Int32.toNatClampNeg (((120 : Int32) * v1) + v2))) = (-1 : Int32)
        · rw [if_pos hc10] at h
          refine mv_G_br (tgt := 71) rfl rfl (by decide) (fun _ => ?_) (fun z => absurd hc10 z)
          refine mv_G_run 1 (F' := (72, [some (.ref 59), some (.int v1), some (.int v2), some (.int v3), none], [.int (-1 : Int32)], 0, 0, kjS f (mv_up I 59 0 (0 : Int32)) L)) rfl ?_
          obtain rfl := Option.some.inj h
          exact mv_G_ret rfl rfl rfl (Nat.le_refl _) trivial ⟨rfl, rfl⟩
        · rw [if_neg hc10] at h
          refine mv_G_br (tgt := 71) rfl rfl (by decide) (fun z => absurd z hc10) (fun _ => ?_)
          refine mv_G_run 7 (F' := (67, [some (.ref 59), some (.int v1), some (.int v2), some (.int v3), none], [.int (((120 : Int32) * v1) + v2), .ref 76], 0, 0, kjS f (mv_up I 59 0 (0 : Int32)) L)) rfl ?_
          obtain ⟨hi11, h⟩ := mv_bifs h
          refine mv_G_ald rfl rfl (mv_in_ok hi11) ?_
          by_cases hc12 : ¬ ((mv_up I 59 0 (0 : Int32)) 76 (Int32.toNatClampNeg (((120 : Int32) * v1) + v2))) = 0
          · rw [if_pos hc12] at h
            refine mv_G_br (tgt := 73) rfl rfl (by decide) (fun _ => ?_) (fun z => absurd hc12 z)
            refine mv_G_run 11 (F' := (88, [some (.ref 59), some (.int v1), some (.int v2), some (.int v3), some (.int (((120 : Int32) * v1) + v2))], [.int v1, .ref 72, .int (0 : Int32), .int v3], 0, 0, kjS f (mv_up I 59 0 (0 : Int32)) L)) rfl ?_
            obtain ⟨hi13, h⟩ := mv_bifs h
            refine mv_G_ald rfl rfl (mv_in_ok hi13) ?_
            refine mv_G_run 2 (F' := (91, [some (.ref 59), some (.int v1), some (.int v2), some (.int v3), some (.int (((120 : Int32) * v1) + v2))], [.int (((mv_up I 59 0 (0 : Int32)) 72 (Int32.toNatClampNeg v1)) - (1 : Int32)), .int (0 : Int32), .int v3], 0, 0, kjS f (mv_up I 59 0 (0 : Int32)) L)) rfl ?_
            obtain ⟨r14, hc15, h⟩ := mv_bd h
            refine mv_G_call (r := []) (kf102_ok _ _ _ _ _ _ _ _ hc15) rfl rfl rfl rfl rfl (Nat.le_of_ble_eq_true rfl) (Nat.le_of_ble_eq_true rfl) (Nat.le_of_ble_eq_true rfl) ?_
            rintro _ _ ⟨rfl, rfl⟩
            by_cases hc16 : r14 = 0
            · rw [if_pos hc16] at h
              refine mv_G_br (tgt := 110) rfl rfl (by decide) (fun _ => ?_) (fun z => absurd hc16 z)
              refine mv_G_run 6 (F' := (121, [some (.ref 59), some (.int v1), some (.int v2), some (.int v3), some (.int (((120 : Int32) * v1) + v2))], [.int (((120 : Int32) * v1) + v2), .ref 78, .int (99 : Int32), .int (100 : Int32), .int v3], 0, 0, kjS f (mv_up I 59 0 (0 : Int32)) L)) rfl ?_
              obtain ⟨hi17, h⟩ := mv_bifs h
              refine mv_G_ald rfl rfl (mv_in_ok hi17) ?_
              refine mv_G_run 1 (F' := (123, [some (.ref 59), some (.int v1), some (.int v2), some (.int v3), some (.int (((120 : Int32) * v1) + v2))], [.int ((99 : Int32) + ((mv_up I 59 0 (0 : Int32)) 78 (Int32.toNatClampNeg (((120 : Int32) * v1) + v2)))), .int (100 : Int32), .int v3], 0, 0, kjS f (mv_up I 59 0 (0 : Int32)) L)) rfl ?_
              obtain ⟨r18, hc19, h⟩ := mv_bd h
              refine mv_G_call (r := []) (kf102_ok _ _ _ _ _ _ _ _ hc19) rfl rfl rfl rfl rfl (Nat.le_of_ble_eq_true rfl) (Nat.le_of_ble_eq_true rfl) (Nat.le_of_ble_eq_true rfl) ?_
              rintro _ _ ⟨rfl, rfl⟩
              by_cases hc20 : r18 = 0
              · rw [if_pos hc20] at h
                refine mv_G_br (tgt := 147) rfl rfl (by decide) (fun _ => ?_) (fun z => absurd hc20 z)
                refine mv_G_run 1 (F' := (148, [some (.ref 59), some (.int v1), some (.int v2), some (.int v3), some (.int (((120 : Int32) * v1) + v2))], [.int (-1 : Int32)], 0, 0, kjS f (mv_up I 59 0 (0 : Int32)) L)) rfl ?_
                obtain rfl := Option.some.inj h
                exact mv_G_ret rfl rfl rfl (Nat.le_refl _) trivial ⟨rfl, rfl⟩
              · rw [if_neg hc20] at h
                refine mv_G_br (tgt := 147) rfl rfl (by decide) (fun z => absurd z hc20) (fun _ => ?_)
                refine mv_G_run 9 (F' := (143, [some (.ref 59), some (.int v1), some (.int v2), some (.int v3), some (.int (((120 : Int32) * v1) + v2))], [.int ((((16 : Int32) * (((120 : Int32) * v1) + v2)) + v3) - (92 : Int32)), .ref 79], 0, 0, kjS f (mv_up I 59 0 (0 : Int32)) L)) rfl ?_
                obtain ⟨hi21, h⟩ := mv_bifs h
                refine mv_G_ald rfl rfl (mv_in_ok hi21) ?_
                refine mv_G_run 1 (F' := (148, [some (.ref 59), some (.int v1), some (.int v2), some (.int v3), some (.int (((120 : Int32) * v1) + v2))], [.int ((mv_up I 59 0 (0 : Int32)) 79 (Int32.toNatClampNeg ((((16 : Int32) * (((120 : Int32) * v1) + v2)) + v3) - (92 : Int32))))], 0, 0, kjS f (mv_up I 59 0 (0 : Int32)) L)) rfl ?_
                obtain rfl := Option.some.inj h
                exact mv_G_ret rfl rfl rfl (Nat.le_refl _) trivial ⟨rfl, rfl⟩
            · rw [if_neg hc16] at h
              refine mv_G_br (tgt := 110) rfl rfl (by decide) (fun z => absurd z hc16) (fun _ => ?_)
              refine mv_G_run 7 (F' := (108, [some (.ref 59), some (.int v1), some (.int v2), some (.int v3), some (.int (((120 : Int32) * v1) + v2))], [.int (((16 : Int32) * (((120 : Int32) * v1) + v2)) + v3), .ref 79], 0, 0, kjS f (mv_up I 59 0 (0 : Int32)) L)) rfl ?_
              obtain ⟨hi22, h⟩ := mv_bifs h
              refine mv_G_ald rfl rfl (mv_in_ok hi22) ?_
              obtain rfl := Option.some.inj h
              exact mv_G_ret rfl rfl rfl (Nat.le_refl _) trivial ⟨rfl, rfl⟩
          · rw [if_neg hc12] at h
            refine mv_G_br (tgt := 73) rfl rfl (by decide) (fun z => absurd z hc12) (fun _ => ?_)
            refine mv_G_run 1 (F' := (72, [some (.ref 59), some (.int v1), some (.int v2), some (.int v3), none], [.int (-1 : Int32)], 0, 0, kjS f (mv_up I 59 0 (0 : Int32)) L)) rfl ?_
            obtain rfl := Option.some.inj h
            exact mv_G_ret rfl rfl rfl (Nat.le_refl _) trivial ⟨rfl, rfl⟩
/-! KindJudgeModel.isMethod(I)Z on ('c', 59) -/
def kf139 (I : kjI) (L : kjL) (v1 : Int32) : Option (Int32) :=
  if (I 59 8) = 0 then (some (0 : Int32)) else ((kf102 I L v1 (0 : Int32) ((I 59 20) - (1 : Int32))).bind fun r2 => if r2 = 0 then (some (0 : Int32)) else (some (1 : Int32)))
set_option maxRecDepth 100000 in
set_option maxHeartbeats 4000000 in
theorem kf139_ok (f : Bool) (I : kjI) (L : kjL) (v1 : Int32) (d : Nat) (r : Int32) (h : kf139 I L v1 = some r) : mv_C kjP kjSta (d + 2) 139 [.ref 59, .int v1] (kjS f I L) (kjQi f I L r) := by
  unfold kf139 at h
  refine mv_C_in kjM_139 (lc := [some (.ref 59), some (.int v1)]) rfl rfl rfl ?_
  refine mv_G_run 2 (F' := (4, [some (.ref 59), some (.int v1)], [.int (I 59 8)], 0, 0, kjS f I L)) rfl ?_
  by_cases hc1 : (I 59 8) = 0
  · rw [if_pos hc1] at h
    refine mv_G_br (tgt := 25) rfl rfl (by decide) (fun _ => ?_) (fun z => absurd hc1 z)
    refine mv_G_run 1 (F' := (26, [some (.ref 59), some (.int v1)], [.int (0 : Int32)], 0, 0, kjS f I L)) rfl ?_
    obtain rfl := Option.some.inj h
    exact mv_G_ret rfl rfl rfl (Nat.le_refl _) (Or.inl rfl) ⟨rfl, rfl⟩
  · rw [if_neg hc1] at h
    refine mv_G_br (tgt := 25) rfl rfl (by decide) (fun z => absurd z hc1) (fun _ => ?_)
    refine mv_G_run 6 (F' := (15, [some (.ref 59), some (.int v1)], [.int ((I 59 20) - (1 : Int32)), .int (0 : Int32), .int v1], 0, 0, kjS f I L)) rfl ?_
    obtain ⟨r2, hc3, h⟩ := mv_bd h
    refine mv_G_call (r := []) (kf102_ok _ _ _ _ _ _ _ _ hc3) rfl rfl rfl rfl rfl (Nat.le_of_ble_eq_true rfl) (Nat.le_of_ble_eq_true rfl) (Nat.le_of_ble_eq_true rfl) ?_
    rintro _ _ ⟨rfl, rfl⟩
    by_cases hc4 : r2 = 0
    · rw [if_pos hc4] at h
      refine mv_G_br (tgt := 25) rfl rfl (by decide) (fun _ => ?_) (fun z => absurd hc4 z)
      refine mv_G_run 1 (F' := (26, [some (.ref 59), some (.int v1)], [.int (0 : Int32)], 0, 0, kjS f I L)) rfl ?_
      obtain rfl := Option.some.inj h
      exact mv_G_ret rfl rfl rfl (Nat.le_refl _) (Or.inl rfl) ⟨rfl, rfl⟩
    · rw [if_neg hc4] at h
      refine mv_G_br (tgt := 25) rfl rfl (by decide) (fun z => absurd z hc4) (fun _ => ?_)
      refine mv_G_run 2 (F' := (26, [some (.ref 59), some (.int v1)], [.int (1 : Int32)], 0, 0, kjS f I L)) rfl ?_
      obtain rfl := Option.some.inj h
      exact mv_G_ret rfl rfl rfl (Nat.le_refl _) (Or.inr rfl) ⟨rfl, rfl⟩
/-! KindJudgeModel.isBegun(II)Z on ('c', 59) -/
def kf140 (I : kjI) (L : kjL) (v1 : Int32) (v2 : Int32) : Option (Int32) :=
  (kf139 I L v1).bind fun r1 => if r1 = 0 then (some (0 : Int32)) else (bif mv_in v1 16 then ((kf102 I L v2 (0 : Int32) ((I 74 (Int32.toNatClampNeg v1)) - (1 : Int32))).bind fun r5 => if r5 = 0 then (some (0 : Int32)) else (bif mv_in (((120 : Int32) * v1) + v2) 1920 then (if (I 76 (Int32.toNatClampNeg (((120 : Int32) * v1) + v2))) = 0 then (some (0 : Int32)) else (some (1 : Int32))) else none)) else none)
set_option maxRecDepth 100000 in
set_option maxHeartbeats 4000000 in
theorem kf140_ok (f : Bool) (I : kjI) (L : kjL) (v1 : Int32) (v2 : Int32) (d : Nat) (r : Int32) (h : kf140 I L v1 v2 = some r) : mv_C kjP kjSta (d + 3) 140 [.ref 59, .int v1, .int v2] (kjS f I L) (kjQi f I L r) := by
  unfold kf140 at h
  refine mv_C_in kjM_140 (lc := [some (.ref 59), some (.int v1), some (.int v2)]) rfl rfl rfl ?_
  refine mv_G_run 2 (F' := (2, [some (.ref 59), some (.int v1), some (.int v2)], [.int v1, .ref 59], 0, 0, kjS f I L)) rfl ?_
  obtain ⟨r1, hc2, h⟩ := mv_bd h
  refine mv_G_call (r := []) (kf139_ok _ _ _ _ _ _ hc2) rfl rfl rfl rfl rfl (Nat.le_of_ble_eq_true rfl) (Nat.le_of_ble_eq_true rfl) (Nat.le_of_ble_eq_true rfl) ?_
  rintro _ _ ⟨rfl, rfl⟩
  by_cases hc3 : r1 = 0
  · rw [if_pos hc3] at h
    refine mv_G_br (tgt := 42) rfl rfl (by decide) (fun _ => ?_) (fun z => absurd hc3 z)
    refine mv_G_run 1 (F' := (43, [some (.ref 59), some (.int v1), some (.int v2)], [.int (0 : Int32)], 0, 0, kjS f I L)) rfl ?_
    obtain rfl := Option.some.inj h
    exact mv_G_ret rfl rfl rfl (Nat.le_refl _) (Or.inl rfl) ⟨rfl, rfl⟩
  · rw [if_neg hc3] at h
    refine mv_G_br (tgt := 42) rfl rfl (by decide) (fun z => absurd z hc3) (fun _ => ?_)
    refine mv_G_run 5 (F' := (15, [some (.ref 59), some (.int v1), some (.int v2)], [.int v1, .ref 74, .int (0 : Int32), .int v2], 0, 0, kjS f I L)) rfl ?_
    obtain ⟨hi4, h⟩ := mv_bifs h
    refine mv_G_ald rfl rfl (mv_in_ok hi4) ?_
    refine mv_G_run 2 (F' := (18, [some (.ref 59), some (.int v1), some (.int v2)], [.int ((I 74 (Int32.toNatClampNeg v1)) - (1 : Int32)), .int (0 : Int32), .int v2], 0, 0, kjS f I L)) rfl ?_
    obtain ⟨r5, hc6, h⟩ := mv_bd h
    refine mv_G_call (r := []) (kf102_ok _ _ _ _ _ _ _ _ hc6) rfl rfl rfl rfl rfl (Nat.le_of_ble_eq_true rfl) (Nat.le_of_ble_eq_true rfl) (Nat.le_of_ble_eq_true rfl) ?_
    rintro _ _ ⟨rfl, rfl⟩
    by_cases hc7 : r5 = 0
    · rw [if_pos hc7] at h
      refine mv_G_br (tgt := 42) rfl rfl (by decide) (fun _ => ?_) (fun z => absurd hc7 z)
      refine mv_G_run 1 (F' := (43, [some (.ref 59), some (.int v1), some (.int v2)], [.int (0 : Int32)], 0, 0, kjS f I L)) rfl ?_
      obtain rfl := Option.some.inj h
      exact mv_G_ret rfl rfl rfl (Nat.le_refl _) (Or.inl rfl) ⟨rfl, rfl⟩
    · rw [if_neg hc7] at h
      refine mv_G_br (tgt := 42) rfl rfl (by decide) (fun z => absurd z hc7) (fun _ => ?_)
      refine mv_G_run 7 (F' := (34, [some (.ref 59), some (.int v1), some (.int v2)], [.int (((120 : Int32) * v1) + v2), .ref 76], 0, 0, kjS f I L)) rfl ?_
      obtain ⟨hi8, h⟩ := mv_bifs h
      refine mv_G_ald rfl rfl (mv_in_ok hi8) ?_
      by_cases hc9 : (I 76 (Int32.toNatClampNeg (((120 : Int32) * v1) + v2))) = 0
      · rw [if_pos hc9] at h
        refine mv_G_br (tgt := 42) rfl rfl (by decide) (fun _ => ?_) (fun z => absurd hc9 z)
        refine mv_G_run 1 (F' := (43, [some (.ref 59), some (.int v1), some (.int v2)], [.int (0 : Int32)], 0, 0, kjS f I L)) rfl ?_
        obtain rfl := Option.some.inj h
        exact mv_G_ret rfl rfl rfl (Nat.le_refl _) (Or.inl rfl) ⟨rfl, rfl⟩
      · rw [if_neg hc9] at h
        refine mv_G_br (tgt := 42) rfl rfl (by decide) (fun z => absurd z hc9) (fun _ => ?_)
        refine mv_G_run 2 (F' := (43, [some (.ref 59), some (.int v1), some (.int v2)], [.int (1 : Int32)], 0, 0, kjS f I L)) rfl ?_
        obtain rfl := Option.some.inj h
        exact mv_G_ret rfl rfl rfl (Nat.le_refl _) (Or.inr rfl) ⟨rfl, rfl⟩
/-! KindJudgeModel.isReached(II)Z on ('c', 59) -/
def kf141 (I : kjI) (L : kjL) (v1 : Int32) (v2 : Int32) : Option (Int32) :=
  bif mv_in (((120 : Int32) * v1) + v2) 1920 then (if (I 78 (Int32.toNatClampNeg (((120 : Int32) * v1) + v2))) = (-1 : Int32) then (some (0 : Int32)) else (some (1 : Int32))) else none
set_option maxRecDepth 100000 in
set_option maxHeartbeats 4000000 in
theorem kf141_ok (f : Bool) (I : kjI) (L : kjL) (v1 : Int32) (v2 : Int32) (d : Nat) (r : Int32) (h : kf141 I L v1 v2 = some r) : mv_C kjP kjSta (d + 1) 141 [.ref 59, .int v1, .int v2] (kjS f I L) (kjQi f I L r) := by
  unfold kf141 at h
  refine mv_C_in kjM_141 (lc := [some (.ref 59), some (.int v1), some (.int v2)]) rfl rfl rfl ?_
  refine mv_G_run 7 (F' := (10, [some (.ref 59), some (.int v1), some (.int v2)], [.int (((120 : Int32) * v1) + v2), .ref 78], 0, 0, kjS f I L)) rfl ?_
  obtain ⟨hi1, h⟩ := mv_bifs h
  refine mv_G_ald rfl rfl (mv_in_ok hi1) ?_
  refine mv_G_run 1 (F' := (12, [some (.ref 59), some (.int v1), some (.int v2)], [.int (-1 : Int32), .int (I 78 (Int32.toNatClampNeg (((120 : Int32) * v1) + v2)))], 0, 0, kjS f I L)) rfl ?_
  by_cases hc2 : (I 78 (Int32.toNatClampNeg (((120 : Int32) * v1) + v2))) = (-1 : Int32)
  · rw [if_pos hc2] at h
    refine mv_G_br (tgt := 19) rfl rfl (by decide) (fun _ => ?_) (fun z => absurd hc2 z)
    refine mv_G_run 1 (F' := (20, [some (.ref 59), some (.int v1), some (.int v2)], [.int (0 : Int32)], 0, 0, kjS f I L)) rfl ?_
    obtain rfl := Option.some.inj h
    exact mv_G_ret rfl rfl rfl (Nat.le_refl _) (Or.inl rfl) ⟨rfl, rfl⟩
  · rw [if_neg hc2] at h
    refine mv_G_br (tgt := 19) rfl rfl (by decide) (fun z => absurd z hc2) (fun _ => ?_)
    refine mv_G_run 2 (F' := (20, [some (.ref 59), some (.int v1), some (.int v2)], [.int (1 : Int32)], 0, 0, kjS f I L)) rfl ?_
    obtain rfl := Option.some.inj h
    exact mv_G_ret rfl rfl rfl (Nat.le_refl _) (Or.inr rfl) ⟨rfl, rfl⟩
/-! KindJudgeModel.puts(II)I on ('c', 59) -/
def kf142 (I : kjI) (L : kjL) (v1 : Int32) (v2 : Int32) : Option (Int32) :=
  (kf115 I L v1 v2).bind fun r1 => if (r1).toInt = 0 ∨ (r1).toInt = 1 ∨ (r1).toInt = 2 ∨ (r1).toInt = 3 ∨ (r1).toInt = 38 ∨ (r1).toInt = 39 ∨ (r1).toInt = 41 ∨ (r1).toInt = 42 ∨ (r1).toInt = 44 ∨ (r1).toInt = 45 ∨ (r1).toInt = 46 ∨ (r1).toInt = 52 then (some (1 : Int32)) else (if (r1).toInt = 6 ∨ (r1).toInt = 7 then (some (2 : Int32)) else (if (r1).toInt = 47 then ((kf115 I L v1 (v2 + (1 : Int32))).bind fun r6 => bif mv_in r6 16 then (if (I 71 (Int32.toNatClampNeg r6)) ≤ 0 then (some (0 : Int32)) else (some (1 : Int32))) else none) else (if (r1).toInt = 48 then ((kf115 I L v1 (v2 + (1 : Int32))).bind fun r11 => bif mv_in r11 8 then (if (I 68 (Int32.toNatClampNeg r11)) ≤ 0 then (some (0 : Int32)) else (some (1 : Int32))) else none) else (if r1 < (8 : Int32) then (some (0 : Int32)) else (if (19 : Int32) < r1 then (some (0 : Int32)) else (some (1 : Int32)))))))
set_option maxRecDepth 100000 in
set_option maxHeartbeats 4000000 in
theorem kf142_ok (f : Bool) (I : kjI) (L : kjL) (v1 : Int32) (v2 : Int32) (d : Nat) (r : Int32) (h : kf142 I L v1 v2 = some r) : mv_C kjP kjSta (d + 2) 142 [.ref 59, .int v1, .int v2] (kjS f I L) (kjQi f I L r) := by
  unfold kf142 at h
  refine mv_C_in kjM_142 (lc := [some (.ref 59), some (.int v1), some (.int v2), none]) rfl rfl rfl ?_
  refine mv_G_run 3 (F' := (3, [some (.ref 59), some (.int v1), some (.int v2), none], [.int v2, .int v1, .ref 59], 0, 0, kjS f I L)) rfl ?_
  obtain ⟨r1, hc2, h⟩ := mv_bd h
  refine mv_G_call (r := []) (kf115_ok _ _ _ _ _ _ _ hc2) rfl rfl rfl rfl rfl (Nat.le_of_ble_eq_true rfl) (Nat.le_of_ble_eq_true rfl) (Nat.le_of_ble_eq_true rfl) ?_
  rintro _ _ ⟨rfl, rfl⟩
  refine mv_G_run 2 (F' := (8, [some (.ref 59), some (.int v1), some (.int v2), some (.int r1)], [.int r1], 0, 0, kjS f I L)) rfl ?_
  by_cases hw3 : (r1).toInt = 0 ∨ (r1).toInt = 1 ∨ (r1).toInt = 2 ∨ (r1).toInt = 3 ∨ (r1).toInt = 38 ∨ (r1).toInt = 39 ∨ (r1).toInt = 41 ∨ (r1).toInt = 42 ∨ (r1).toInt = 44 ∨ (r1).toInt = 45 ∨ (r1).toInt = 46 ∨ (r1).toInt = 52
  · rw [if_pos hw3] at h
    refine mv_G_sw (tgt := 238) (off := 230) rfl (by rcases hw3 with hw3 | hw3 | hw3 | hw3 | hw3 | hw3 | hw3 | hw3 | hw3 | hw3 | hw3 | hw3 <;> (simp only [mv_sw, hw3]; rfl)) (by decide) ?_
    refine mv_G_run 1 (F' := (239, [some (.ref 59), some (.int v1), some (.int v2), some (.int r1)], [.int (1 : Int32)], 0, 0, kjS f I L)) rfl ?_
    obtain rfl := Option.some.inj h
    exact mv_G_ret rfl rfl rfl (Nat.le_refl _) trivial ⟨rfl, rfl⟩
  rw [if_neg hw3] at h
  by_cases hw4 : (r1).toInt = 6 ∨ (r1).toInt = 7
  · rw [if_pos hw4] at h
    refine mv_G_sw (tgt := 236) (off := 228) rfl (by rcases hw4 with hw4 | hw4 <;> (simp only [mv_sw, hw4]; rfl)) (by decide) ?_
    refine mv_G_run 1 (F' := (237, [some (.ref 59), some (.int v1), some (.int v2), some (.int r1)], [.int (2 : Int32)], 0, 0, kjS f I L)) rfl ?_
    obtain rfl := Option.some.inj h
    exact mv_G_ret rfl rfl rfl (Nat.le_refl _) trivial ⟨rfl, rfl⟩
  rw [if_neg hw4] at h
  by_cases hw5 : (r1).toInt = 47
  · rw [if_pos hw5] at h
    refine mv_G_sw (tgt := 240) (off := 232) rfl (by simp only [mv_sw, hw5]; rfl) (by decide) ?_
    refine mv_G_run 7 (F' := (249, [some (.ref 59), some (.int v1), some (.int v2), some (.int r1)], [.int (v2 + (1 : Int32)), .int v1, .ref 59, .ref 71], 0, 0, kjS f I L)) rfl ?_
    obtain ⟨r6, hc7, h⟩ := mv_bd h
    refine mv_G_call (r := [.ref 71]) (kf115_ok _ _ _ _ _ _ _ hc7) rfl rfl rfl rfl rfl (Nat.le_of_ble_eq_true rfl) (Nat.le_of_ble_eq_true rfl) (Nat.le_of_ble_eq_true rfl) ?_
    rintro _ _ ⟨rfl, rfl⟩
    obtain ⟨hi8, h⟩ := mv_bifs h
    refine mv_G_ald rfl rfl (mv_in_ok hi8) ?_
    by_cases hc9 : (I 71 (Int32.toNatClampNeg r6)) ≤ 0
    · rw [if_pos hc9] at h
      refine mv_G_br (tgt := 260) rfl rfl (by decide) (fun _ => ?_) (fun z => absurd hc9 z)
      refine mv_G_run 1 (F' := (261, [some (.ref 59), some (.int v1), some (.int v2), some (.int r1)], [.int (0 : Int32)], 0, 0, kjS f I L)) rfl ?_
      obtain rfl := Option.some.inj h
      exact mv_G_ret rfl rfl rfl (Nat.le_refl _) trivial ⟨rfl, rfl⟩
    · rw [if_neg hc9] at h
      refine mv_G_br (tgt := 260) rfl rfl (by decide) (fun z => absurd z hc9) (fun _ => ?_)
      refine mv_G_run 2 (F' := (261, [some (.ref 59), some (.int v1), some (.int v2), some (.int r1)], [.int (1 : Int32)], 0, 0, kjS f I L)) rfl ?_
      obtain rfl := Option.some.inj h
      exact mv_G_ret rfl rfl rfl (Nat.le_refl _) trivial ⟨rfl, rfl⟩
  rw [if_neg hw5] at h
  by_cases hw10 : (r1).toInt = 48
  · rw [if_pos hw10] at h
    refine mv_G_sw (tgt := 262) (off := 254) rfl (by simp only [mv_sw, hw10]; rfl) (by decide) ?_
    refine mv_G_run 7 (F' := (271, [some (.ref 59), some (.int v1), some (.int v2), some (.int r1)], [.int (v2 + (1 : Int32)), .int v1, .ref 59, .ref 68], 0, 0, kjS f I L)) rfl ?_
    obtain ⟨r11, hc12, h⟩ := mv_bd h
    refine mv_G_call (r := [.ref 68]) (kf115_ok _ _ _ _ _ _ _ hc12) rfl rfl rfl rfl rfl (Nat.le_of_ble_eq_true rfl) (Nat.le_of_ble_eq_true rfl) (Nat.le_of_ble_eq_true rfl) ?_
    rintro _ _ ⟨rfl, rfl⟩
    obtain ⟨hi13, h⟩ := mv_bifs h
    refine mv_G_ald rfl rfl (mv_in_ok hi13) ?_
    by_cases hc14 : (I 68 (Int32.toNatClampNeg r11)) ≤ 0
    · rw [if_pos hc14] at h
      refine mv_G_br (tgt := 282) rfl rfl (by decide) (fun _ => ?_) (fun z => absurd hc14 z)
      refine mv_G_run 1 (F' := (283, [some (.ref 59), some (.int v1), some (.int v2), some (.int r1)], [.int (0 : Int32)], 0, 0, kjS f I L)) rfl ?_
      obtain rfl := Option.some.inj h
      exact mv_G_ret rfl rfl rfl (Nat.le_refl _) trivial ⟨rfl, rfl⟩
    · rw [if_neg hc14] at h
      refine mv_G_br (tgt := 282) rfl rfl (by decide) (fun z => absurd z hc14) (fun _ => ?_)
      refine mv_G_run 2 (F' := (283, [some (.ref 59), some (.int v1), some (.int v2), some (.int r1)], [.int (1 : Int32)], 0, 0, kjS f I L)) rfl ?_
      obtain rfl := Option.some.inj h
      exact mv_G_ret rfl rfl rfl (Nat.le_refl _) trivial ⟨rfl, rfl⟩
  rw [if_neg hw10] at h
  refine mv_G_sw (tgt := 284) (off := 276) rfl (by
    have hz17 : ((r1).toInt < 0 ∨ 52 < (r1).toInt) ∨ (r1).toInt = 4 ∨ (r1).toInt = 5 ∨ (r1).toInt = 8 ∨ (r1).toInt = 9 ∨ (r1).toInt = 10 ∨ (r1).toInt = 11 ∨ (r1).toInt = 12 ∨ (r1).toInt = 13 ∨ (r1).toInt = 14 ∨ (r1).toInt = 15 ∨ (r1).toInt = 16 ∨ (r1).toInt = 17 ∨ (r1).toInt = 18 ∨ (r1).toInt = 19 ∨ (r1).toInt = 20 ∨ (r1).toInt = 21 ∨ (r1).toInt = 22 ∨ (r1).toInt = 23 ∨ (r1).toInt = 24 ∨ (r1).toInt = 25 ∨ (r1).toInt = 26 ∨ (r1).toInt = 27 ∨ (r1).toInt = 28 ∨ (r1).toInt = 29 ∨ (r1).toInt = 30 ∨ (r1).toInt = 31 ∨ (r1).toInt = 32 ∨ (r1).toInt = 33 ∨ (r1).toInt = 34 ∨ (r1).toInt = 35 ∨ (r1).toInt = 36 ∨ (r1).toInt = 37 ∨ (r1).toInt = 40 ∨ (r1).toInt = 43 ∨ (r1).toInt = 49 ∨ (r1).toInt = 50 ∨ (r1).toInt = 51 := by omega
    rcases hz17 with hz17 | hz17 | hz17 | hz17 | hz17 | hz17 | hz17 | hz17 | hz17 | hz17 | hz17 | hz17 | hz17 | hz17 | hz17 | hz17 | hz17 | hz17 | hz17 | hz17 | hz17 | hz17 | hz17 | hz17 | hz17 | hz17 | hz17 | hz17 | hz17 | hz17 | hz17 | hz17 | hz17 | hz17 | hz17 | hz17 | hz17 | hz17
    · exact if_pos hz17
    · simp only [mv_sw, hz17]; rfl
    · simp only [mv_sw, hz17]; rfl
    · simp only [mv_sw, hz17]; rfl
    · simp only [mv_sw, hz17]; rfl
    · simp only [mv_sw, hz17]; rfl
    · simp only [mv_sw, hz17]; rfl
    · simp only [mv_sw, hz17]; rfl
    · simp only [mv_sw, hz17]; rfl
    · simp only [mv_sw, hz17]; rfl
    · simp only [mv_sw, hz17]; rfl
    · simp only [mv_sw, hz17]; rfl
    · simp only [mv_sw, hz17]; rfl
    · simp only [mv_sw, hz17]; rfl
    · simp only [mv_sw, hz17]; rfl
    · simp only [mv_sw, hz17]; rfl
    · simp only [mv_sw, hz17]; rfl
    · simp only [mv_sw, hz17]; rfl
    · simp only [mv_sw, hz17]; rfl
    · simp only [mv_sw, hz17]; rfl
    · simp only [mv_sw, hz17]; rfl
    · simp only [mv_sw, hz17]; rfl
    · simp only [mv_sw, hz17]; rfl
    · simp only [mv_sw, hz17]; rfl
    · simp only [mv_sw, hz17]; rfl
    · simp only [mv_sw, hz17]; rfl
    · simp only [mv_sw, hz17]; rfl
    · simp only [mv_sw, hz17]; rfl
    · simp only [mv_sw, hz17]; rfl
    · simp only [mv_sw, hz17]; rfl
    · simp only [mv_sw, hz17]; rfl
    · simp only [mv_sw, hz17]; rfl
    · simp only [mv_sw, hz17]; rfl
    · simp only [mv_sw, hz17]; rfl
    · simp only [mv_sw, hz17]; rfl
    · simp only [mv_sw, hz17]; rfl
    · simp only [mv_sw, hz17]; rfl
    · simp only [mv_sw, hz17]; rfl) (by decide) ?_
  refine mv_G_run 2 (F' := (287, [some (.ref 59), some (.int v1), some (.int v2), some (.int r1)], [.int (8 : Int32), .int r1], 0, 0, kjS f I L)) rfl ?_
  by_cases hc15 : r1 < (8 : Int32)
  · rw [if_pos hc15] at h
    refine mv_G_br (tgt := 300) rfl rfl (by decide) (fun _ => ?_) (fun z => absurd hc15 z)
    refine mv_G_run 1 (F' := (301, [some (.ref 59), some (.int v1), some (.int v2), some (.int r1)], [.int (0 : Int32)], 0, 0, kjS f I L)) rfl ?_
    obtain rfl := Option.some.inj h
    exact mv_G_ret rfl rfl rfl (Nat.le_refl _) trivial ⟨rfl, rfl⟩
  · rw [if_neg hc15] at h
    refine mv_G_br (tgt := 300) rfl rfl (by decide) (fun z => absurd z hc15) (fun _ => ?_)
    refine mv_G_run 2 (F' := (293, [some (.ref 59), some (.int v1), some (.int v2), some (.int r1)], [.int (19 : Int32), .int r1], 0, 0, kjS f I L)) rfl ?_
    by_cases hc16 : (19 : Int32) < r1
    · rw [if_pos hc16] at h
      refine mv_G_br (tgt := 300) rfl rfl (by decide) (fun _ => ?_) (fun z => absurd hc16 z)
      refine mv_G_run 1 (F' := (301, [some (.ref 59), some (.int v1), some (.int v2), some (.int r1)], [.int (0 : Int32)], 0, 0, kjS f I L)) rfl ?_
      obtain rfl := Option.some.inj h
      exact mv_G_ret rfl rfl rfl (Nat.le_refl _) trivial ⟨rfl, rfl⟩
    · rw [if_neg hc16] at h
      refine mv_G_br (tgt := 300) rfl rfl (by decide) (fun z => absurd z hc16) (fun _ => ?_)
      refine mv_G_run 2 (F' := (301, [some (.ref 59), some (.int v1), some (.int v2), some (.int r1)], [.int (1 : Int32)], 0, 0, kjS f I L)) rfl ?_
      obtain rfl := Option.some.inj h
      exact mv_G_ret rfl rfl rfl (Nat.le_refl _) trivial ⟨rfl, rfl⟩
/-! KindJudgeModel.look(III)I on ('c', 59) -/
def kf143_24 (v1 : Int32) (v2 : Int32) (v3 : Int32) (s1 : Int32) (I : kjI) (L : kjL) : Option (Int32 × kjI × kjL) :=
  if ((mv_up I 59 0 s1) 59 0) = 0 then (if (v3).toInt = 0 then ((kf115 (mv_up I 59 0 s1) L v1 v2).bind fun r3 => some (r3, (mv_up I 59 0 s1), L)) else (if (v3).toInt = 1 then ((kf116 (mv_up I 59 0 s1) L v1 v2).bind fun r6 => some (r6, (mv_up I 59 0 s1), L)) else (if (v3).toInt = 2 then ((kf133 (mv_up I 59 0 s1) L v1 v2).bind fun r9 => some (r9, (mv_up I 59 0 s1), L)) else (if (v3).toInt = 3 then ((kf142 (mv_up I 59 0 s1) L v1 v2).bind fun r12 => some (r12, (mv_up I 59 0 s1), L)) else (if (v3).toInt = 4 then ((kf141 (mv_up I 59 0 s1) L v1 v2).bind fun r15 => if r15 = 0 then (some ((0 : Int32), (mv_up I 59 0 s1), L)) else (some ((1 : Int32), (mv_up I 59 0 s1), L))) else ((kf141 (mv_up I 59 0 s1) L v1 v2).bind fun r18 => if r18 = 0 then (some ((0 : Int32), (mv_up I 59 0 s1), L)) else (bif mv_in (((120 : Int32) * v1) + v2) 1920 then (some (((mv_up I 59 0 s1) 78 (Int32.toNatClampNeg (((120 : Int32) * v1) + v2))), (mv_up I 59 0 s1), L)) else none))))))) else (some ((0 : Int32), (mv_up I 59 0 s1), L))
set_option maxRecDepth 100000 in
set_option maxHeartbeats 4000000 in
theorem kf143_24_ok (f : Bool) (d : Nat)  (v1 : Int32) (v2 : Int32) (v3 : Int32) (s1 : Int32) (I : kjI) (L : kjL) (r : Int32 × kjI × kjL) (h : kf143_24 v1 v2 v3 s1 I L = some r) : mv_G kjP kjSta (mv_C kjP kjSta (d + 3)) kjM_143 (kjQwi f r) (24, [some (.ref 59), some (.int v1), some (.int v2), some (.int v3)], [.int s1, .ref 59], 0, 0, kjS f I L) := by
  unfold kf143_24 at h
  refine mv_G_run 3 (F' := (31, [some (.ref 59), some (.int v1), some (.int v2), some (.int v3)], [.int ((mv_up I 59 0 s1) 59 0)], 0, 0, kjS f (mv_up I 59 0 s1) L)) rfl ?_
  by_cases hc1 : ((mv_up I 59 0 s1) 59 0) = 0
  · rw [if_pos hc1] at h
    refine mv_G_br (tgt := 36) rfl rfl (by decide) (fun _ => ?_) (fun z => absurd hc1 z)
    refine mv_G_run 1 (F' := (37, [some (.ref 59), some (.int v1), some (.int v2), some (.int v3)], [.int v3], 0, 0, kjS f (mv_up I 59 0 s1) L)) rfl ?_
    by_cases hw2 : (v3).toInt = 0
    · rw [if_pos hw2] at h
      refine mv_G_sw (tgt := 72) (off := 35) rfl (by simp only [mv_sw, hw2]; rfl) (by decide) ?_
      refine mv_G_run 3 (F' := (75, [some (.ref 59), some (.int v1), some (.int v2), some (.int v3)], [.int v2, .int v1, .ref 59], 0, 0, kjS f (mv_up I 59 0 s1) L)) rfl ?_
      obtain ⟨r3, hc4, h⟩ := mv_bd h
      refine mv_G_call (r := []) (kf115_ok _ _ _ _ _ _ _ hc4) rfl rfl rfl rfl rfl (Nat.le_of_ble_eq_true rfl) (Nat.le_of_ble_eq_true rfl) (Nat.le_of_ble_eq_true rfl) ?_
      rintro _ _ ⟨rfl, rfl⟩
      obtain rfl := Option.some.inj h
      exact mv_G_ret rfl rfl rfl (Nat.le_refl _) trivial ⟨rfl, rfl⟩
    rw [if_neg hw2] at h
    by_cases hw5 : (v3).toInt = 1
    · rw [if_pos hw5] at h
      refine mv_G_sw (tgt := 79) (off := 42) rfl (by simp only [mv_sw, hw5]; rfl) (by decide) ?_
      refine mv_G_run 3 (F' := (82, [some (.ref 59), some (.int v1), some (.int v2), some (.int v3)], [.int v2, .int v1, .ref 59], 0, 0, kjS f (mv_up I 59 0 s1) L)) rfl ?_
      obtain ⟨r6, hc7, h⟩ := mv_bd h
      refine mv_G_call (r := []) (kf116_ok _ _ _ _ _ _ _ hc7) rfl rfl rfl rfl rfl (Nat.le_of_ble_eq_true rfl) (Nat.le_of_ble_eq_true rfl) (Nat.le_of_ble_eq_true rfl) ?_
      rintro _ _ ⟨rfl, rfl⟩
      obtain rfl := Option.some.inj h
      exact mv_G_ret rfl rfl rfl (Nat.le_refl _) trivial ⟨rfl, rfl⟩
    rw [if_neg hw5] at h
    by_cases hw8 : (v3).toInt = 2
    · rw [if_pos hw8] at h
      refine mv_G_sw (tgt := 86) (off := 49) rfl (by simp only [mv_sw, hw8]; rfl) (by decide) ?_
      refine mv_G_run 3 (F' := (89, [some (.ref 59), some (.int v1), some (.int v2), some (.int v3)], [.int v2, .int v1, .ref 59], 0, 0, kjS f (mv_up I 59 0 s1) L)) rfl ?_
      obtain ⟨r9, hc10, h⟩ := mv_bd h
      refine mv_G_call (r := []) (kf133_ok _ _ _ _ _ _ _ hc10) rfl rfl rfl rfl rfl (Nat.le_of_ble_eq_true rfl) (Nat.le_of_ble_eq_true rfl) (Nat.le_of_ble_eq_true rfl) ?_
      rintro _ _ ⟨rfl, rfl⟩
      obtain rfl := Option.some.inj h
      exact mv_G_ret rfl rfl rfl (Nat.le_refl _) trivial ⟨rfl, rfl⟩
    rw [if_neg hw8] at h
    by_cases hw11 : (v3).toInt = 3
    · rw [if_pos hw11] at h
      refine mv_G_sw (tgt := 93) (off := 56) rfl (by simp only [mv_sw, hw11]; rfl) (by decide) ?_
      refine mv_G_run 3 (F' := (96, [some (.ref 59), some (.int v1), some (.int v2), some (.int v3)], [.int v2, .int v1, .ref 59], 0, 0, kjS f (mv_up I 59 0 s1) L)) rfl ?_
      obtain ⟨r12, hc13, h⟩ := mv_bd h
      refine mv_G_call (r := []) (kf142_ok _ _ _ _ _ _ _ hc13) rfl rfl rfl rfl rfl (Nat.le_of_ble_eq_true rfl) (Nat.le_of_ble_eq_true rfl) (Nat.le_of_ble_eq_true rfl) ?_
      rintro _ _ ⟨rfl, rfl⟩
      obtain rfl := Option.some.inj h
      exact mv_G_ret rfl rfl rfl (Nat.le_refl _) trivial ⟨rfl, rfl⟩
    rw [if_neg hw11] at h
    by_cases hw14 : (v3).toInt = 4
    · rw [if_pos hw14] at h
      refine mv_G_sw (tgt := 100) (off := 63) rfl (by simp only [mv_sw, hw14]; rfl) (by decide) ?_
      refine mv_G_run 3 (F' := (103, [some (.ref 59), some (.int v1), some (.int v2), some (.int v3)], [.int v2, .int v1, .ref 59], 0, 0, kjS f (mv_up I 59 0 s1) L)) rfl ?_
      obtain ⟨r15, hc16, h⟩ := mv_bd h
      refine mv_G_call (r := []) (kf141_ok _ _ _ _ _ _ _ hc16) rfl rfl rfl rfl rfl (Nat.le_of_ble_eq_true rfl) (Nat.le_of_ble_eq_true rfl) (Nat.le_of_ble_eq_true rfl) ?_
      rintro _ _ ⟨rfl, rfl⟩
      by_cases hc17 : r15 = 0
      · rw [if_pos hc17] at h
        refine mv_G_br (tgt := 113) rfl rfl (by decide) (fun _ => ?_) (fun z => absurd hc17 z)
        refine mv_G_run 1 (F' := (114, [some (.ref 59), some (.int v1), some (.int v2), some (.int v3)], [.int (0 : Int32)], 0, 0, kjS f (mv_up I 59 0 s1) L)) rfl ?_
        obtain rfl := Option.some.inj h
        exact mv_G_ret rfl rfl rfl (Nat.le_refl _) trivial ⟨rfl, rfl⟩
      · rw [if_neg hc17] at h
        refine mv_G_br (tgt := 113) rfl rfl (by decide) (fun z => absurd z hc17) (fun _ => ?_)
        refine mv_G_run 2 (F' := (114, [some (.ref 59), some (.int v1), some (.int v2), some (.int v3)], [.int (1 : Int32)], 0, 0, kjS f (mv_up I 59 0 s1) L)) rfl ?_
        obtain rfl := Option.some.inj h
        exact mv_G_ret rfl rfl rfl (Nat.le_refl _) trivial ⟨rfl, rfl⟩
    rw [if_neg hw14] at h
    refine mv_G_sw (tgt := 115) (off := 78) rfl (by
      have hz22 : ((v3).toInt < 0 ∨ 4 < (v3).toInt) := by omega
      rcases hz22 with hz22
      · exact if_pos hz22) (by decide) ?_
    refine mv_G_run 3 (F' := (118, [some (.ref 59), some (.int v1), some (.int v2), some (.int v3)], [.int v2, .int v1, .ref 59], 0, 0, kjS f (mv_up I 59 0 s1) L)) rfl ?_
    obtain ⟨r18, hc19, h⟩ := mv_bd h
    refine mv_G_call (r := []) (kf141_ok _ _ _ _ _ _ _ hc19) rfl rfl rfl rfl rfl (Nat.le_of_ble_eq_true rfl) (Nat.le_of_ble_eq_true rfl) (Nat.le_of_ble_eq_true rfl) ?_
    rintro _ _ ⟨rfl, rfl⟩
    by_cases hc20 : r18 = 0
    · rw [if_pos hc20] at h
      refine mv_G_br (tgt := 138) rfl rfl (by decide) (fun _ => ?_) (fun z => absurd hc20 z)
      refine mv_G_run 1 (F' := (139, [some (.ref 59), some (.int v1), some (.int v2), some (.int v3)], [.int (0 : Int32)], 0, 0, kjS f (mv_up I 59 0 s1) L)) rfl ?_
      obtain rfl := Option.some.inj h
      exact mv_G_ret rfl rfl rfl (Nat.le_refl _) trivial ⟨rfl, rfl⟩
    · rw [if_neg hc20] at h
      refine mv_G_br (tgt := 138) rfl rfl (by decide) (fun z => absurd z hc20) (fun _ => ?_)
      refine mv_G_run 7 (F' := (134, [some (.ref 59), some (.int v1), some (.int v2), some (.int v3)], [.int (((120 : Int32) * v1) + v2), .ref 78], 0, 0, kjS f (mv_up I 59 0 s1) L)) rfl ?_
      obtain ⟨hi21, h⟩ := mv_bifs h
      refine mv_G_ald rfl rfl (mv_in_ok hi21) ?_
      refine mv_G_run 1 (F' := (139, [some (.ref 59), some (.int v1), some (.int v2), some (.int v3)], [.int ((mv_up I 59 0 s1) 78 (Int32.toNatClampNeg (((120 : Int32) * v1) + v2)))], 0, 0, kjS f (mv_up I 59 0 s1) L)) rfl ?_
      obtain rfl := Option.some.inj h
      exact mv_G_ret rfl rfl rfl (Nat.le_refl _) trivial ⟨rfl, rfl⟩
  · rw [if_neg hc1] at h
    refine mv_G_br (tgt := 36) rfl rfl (by decide) (fun z => absurd z hc1) (fun _ => ?_)
    refine mv_G_run 1 (F' := (35, [some (.ref 59), some (.int v1), some (.int v2), some (.int v3)], [.int (0 : Int32)], 0, 0, kjS f (mv_up I 59 0 s1) L)) rfl ?_
    obtain rfl := Option.some.inj h
    exact mv_G_ret rfl rfl rfl (Nat.le_refl _) trivial ⟨rfl, rfl⟩
def kf143_23 (v1 : Int32) (v2 : Int32) (v3 : Int32) (I : kjI) (L : kjL) : Option (Int32 × kjI × kjL) :=
  kf143_24 v1 v2 v3 (1 : Int32) I L
set_option maxRecDepth 100000 in
set_option maxHeartbeats 4000000 in
theorem kf143_23_ok (f : Bool) (d : Nat)  (v1 : Int32) (v2 : Int32) (v3 : Int32) (I : kjI) (L : kjL) (r : Int32 × kjI × kjL) (h : kf143_23 v1 v2 v3 I L = some r) : mv_G kjP kjSta (mv_C kjP kjSta (d + 3)) kjM_143 (kjQwi f r) (23, [some (.ref 59), some (.int v1), some (.int v2), some (.int v3)], [.ref 59], 0, 0, kjS f I L) := by
  unfold kf143_23 at h
  refine mv_G_run 1 (F' := (24, [some (.ref 59), some (.int v1), some (.int v2), some (.int v3)], [.int (1 : Int32), .ref 59], 0, 0, kjS f I L)) rfl ?_
  exact kf143_24_ok _ d _ _ _ _ _ _ _ h
def kf143 (v1 : Int32) (v2 : Int32) (v3 : Int32) (I : kjI) (L : kjL) : Option (Int32 × kjI × kjL) :=
  (kf140 I L v1 v2).bind fun r1 => if r1 = 0 then (kf143_23 v1 v2 v3 I L) else ((kf102 I L v3 (0 : Int32) (5 : Int32)).bind fun r4 => if r4 = 0 then (kf143_23 v1 v2 v3 I L) else (kf143_24 v1 v2 v3 (0 : Int32) I L))
set_option maxRecDepth 100000 in
set_option maxHeartbeats 4000000 in
theorem kf143_ok (f : Bool) (v1 : Int32) (v2 : Int32) (v3 : Int32) (I : kjI) (L : kjL) (d : Nat) (r : Int32 × kjI × kjL) (h : kf143 v1 v2 v3 I L = some r) : mv_C kjP kjSta (d + 4) 143 [.ref 59, .int v1, .int v2, .int v3] (kjS f I L) (kjQwi f r) := by
  unfold kf143 at h
  refine mv_C_in kjM_143 (lc := [some (.ref 59), some (.int v1), some (.int v2), some (.int v3)]) rfl rfl rfl ?_
  refine mv_G_run 4 (F' := (4, [some (.ref 59), some (.int v1), some (.int v2), some (.int v3)], [.int v2, .int v1, .ref 59, .ref 59], 0, 0, kjS f I L)) rfl ?_
  obtain ⟨r1, hc2, h⟩ := mv_bd h
  refine mv_G_call (r := [.ref 59]) (kf140_ok _ _ _ _ _ _ _ hc2) rfl rfl rfl rfl rfl (Nat.le_of_ble_eq_true rfl) (Nat.le_of_ble_eq_true rfl) (Nat.le_of_ble_eq_true rfl) ?_
  rintro _ _ ⟨rfl, rfl⟩
  by_cases hc3 : r1 = 0
  · rw [if_pos hc3] at h
    refine mv_G_br (tgt := 23) rfl rfl (by decide) (fun _ => ?_) (fun z => absurd hc3 z)
    exact kf143_23_ok _ d _ _ _ _ _ _ h
  · rw [if_neg hc3] at h
    refine mv_G_br (tgt := 23) rfl rfl (by decide) (fun z => absurd z hc3) (fun _ => ?_)
    refine mv_G_run 3 (F' := (13, [some (.ref 59), some (.int v1), some (.int v2), some (.int v3)], [.int (5 : Int32), .int (0 : Int32), .int v3, .ref 59], 0, 0, kjS f I L)) rfl ?_
    obtain ⟨r4, hc5, h⟩ := mv_bd h
    refine mv_G_call (r := [.ref 59]) (kf102_ok _ _ _ _ _ _ _ _ hc5) rfl rfl rfl rfl rfl (Nat.le_of_ble_eq_true rfl) (Nat.le_of_ble_eq_true rfl) (Nat.le_of_ble_eq_true rfl) ?_
    rintro _ _ ⟨rfl, rfl⟩
    by_cases hc6 : r4 = 0
    · rw [if_pos hc6] at h
      refine mv_G_br (tgt := 23) rfl rfl (by decide) (fun _ => ?_) (fun z => absurd hc6 z)
      exact kf143_23_ok _ d _ _ _ _ _ _ h
    · rw [if_neg hc6] at h
      refine mv_G_br (tgt := 23) rfl rfl (by decide) (fun z => absurd z hc6) (fun _ => ?_)
      refine mv_G_run 2 (F' := (24, [some (.ref 59), some (.int v1), some (.int v2), some (.int v3)], [.int (0 : Int32), .ref 59], 0, 0, kjS f I L)) rfl ?_
      exact kf143_24_ok _ d _ _ _ _ _ _ _ h
/-! KindJudgeModel.goesTo(III)Z on ('c', 59) -/
def kf144_82 (N : Nat) (I : kjI) (L : kjL) (v1 : Int32) (v2 : Int32) (v3 : Int32) (v4 : Int32) : Option (Int32) :=
  if v4 = (21 : Int32) then (some (0 : Int32)) else (if v4 = (49 : Int32) then (some (0 : Int32)) else (if v4 = (50 : Int32) then (some (0 : Int32)) else (if v4 = (53 : Int32) then (some (0 : Int32)) else ((kf116 I L v1 v2).bind fun r5 => if ¬ (v2 + r5) = v3 then (some (0 : Int32)) else (some (1 : Int32))))))
set_option maxRecDepth 100000 in
set_option maxHeartbeats 4000000 in
theorem kf144_82_ok (f : Bool) (N : Nat) (I : kjI) (L : kjL) (d : Nat)  (v1 : Int32) (v2 : Int32) (v3 : Int32) (v4 : Int32) (r : Int32) (h : kf144_82 N I L v1 v2 v3 v4 = some r) : mv_G kjP kjSta (mv_C kjP kjSta (d + 2)) kjM_144 (kjQi f I L r) (82, [some (.ref 59), some (.int v1), some (.int v2), some (.int v3), some (.int v4), none], [], 0, 0, kjS f I L) := by
  unfold kf144_82 at h
  refine mv_G_run 2 (F' := (86, [some (.ref 59), some (.int v1), some (.int v2), some (.int v3), some (.int v4), none], [.int (21 : Int32), .int v4], 0, 0, kjS f I L)) rfl ?_
  by_cases hc1 : v4 = (21 : Int32)
  · rw [if_pos hc1] at h
    refine mv_G_br (tgt := 126) rfl rfl (by decide) (fun _ => ?_) (fun z => absurd hc1 z)
    refine mv_G_run 1 (F' := (127, [some (.ref 59), some (.int v1), some (.int v2), some (.int v3), some (.int v4), none], [.int (0 : Int32)], 0, 0, kjS f I L)) rfl ?_
    obtain rfl := Option.some.inj h
    exact mv_G_ret rfl rfl rfl (Nat.le_refl _) (Or.inl rfl) ⟨rfl, rfl⟩
  · rw [if_neg hc1] at h
    refine mv_G_br (tgt := 126) rfl rfl (by decide) (fun z => absurd z hc1) (fun _ => ?_)
    refine mv_G_run 2 (F' := (93, [some (.ref 59), some (.int v1), some (.int v2), some (.int v3), some (.int v4), none], [.int (49 : Int32), .int v4], 0, 0, kjS f I L)) rfl ?_
    by_cases hc2 : v4 = (49 : Int32)
    · rw [if_pos hc2] at h
      refine mv_G_br (tgt := 126) rfl rfl (by decide) (fun _ => ?_) (fun z => absurd hc2 z)
      refine mv_G_run 1 (F' := (127, [some (.ref 59), some (.int v1), some (.int v2), some (.int v3), some (.int v4), none], [.int (0 : Int32)], 0, 0, kjS f I L)) rfl ?_
      obtain rfl := Option.some.inj h
      exact mv_G_ret rfl rfl rfl (Nat.le_refl _) (Or.inl rfl) ⟨rfl, rfl⟩
    · rw [if_neg hc2] at h
      refine mv_G_br (tgt := 126) rfl rfl (by decide) (fun z => absurd z hc2) (fun _ => ?_)
      refine mv_G_run 2 (F' := (100, [some (.ref 59), some (.int v1), some (.int v2), some (.int v3), some (.int v4), none], [.int (50 : Int32), .int v4], 0, 0, kjS f I L)) rfl ?_
      by_cases hc3 : v4 = (50 : Int32)
      · rw [if_pos hc3] at h
        refine mv_G_br (tgt := 126) rfl rfl (by decide) (fun _ => ?_) (fun z => absurd hc3 z)
        refine mv_G_run 1 (F' := (127, [some (.ref 59), some (.int v1), some (.int v2), some (.int v3), some (.int v4), none], [.int (0 : Int32)], 0, 0, kjS f I L)) rfl ?_
        obtain rfl := Option.some.inj h
        exact mv_G_ret rfl rfl rfl (Nat.le_refl _) (Or.inl rfl) ⟨rfl, rfl⟩
      · rw [if_neg hc3] at h
        refine mv_G_br (tgt := 126) rfl rfl (by decide) (fun z => absurd z hc3) (fun _ => ?_)
        refine mv_G_run 2 (F' := (107, [some (.ref 59), some (.int v1), some (.int v2), some (.int v3), some (.int v4), none], [.int (53 : Int32), .int v4], 0, 0, kjS f I L)) rfl ?_
        by_cases hc4 : v4 = (53 : Int32)
        · rw [if_pos hc4] at h
          refine mv_G_br (tgt := 126) rfl rfl (by decide) (fun _ => ?_) (fun z => absurd hc4 z)
          refine mv_G_run 1 (F' := (127, [some (.ref 59), some (.int v1), some (.int v2), some (.int v3), some (.int v4), none], [.int (0 : Int32)], 0, 0, kjS f I L)) rfl ?_
          obtain rfl := Option.some.inj h
          exact mv_G_ret rfl rfl rfl (Nat.le_refl _) (Or.inl rfl) ⟨rfl, rfl⟩
        · rw [if_neg hc4] at h
          refine mv_G_br (tgt := 126) rfl rfl (by decide) (fun z => absurd z hc4) (fun _ => ?_)
          refine mv_G_run 4 (F' := (114, [some (.ref 59), some (.int v1), some (.int v2), some (.int v3), some (.int v4), none], [.int v2, .int v1, .ref 59, .int v2], 0, 0, kjS f I L)) rfl ?_
          obtain ⟨r5, hc6, h⟩ := mv_bd h
          refine mv_G_call (r := [.int v2]) (kf116_ok _ _ _ _ _ _ _ hc6) rfl rfl rfl rfl rfl (Nat.le_of_ble_eq_true rfl) (Nat.le_of_ble_eq_true rfl) (Nat.le_of_ble_eq_true rfl) ?_
          rintro _ _ ⟨rfl, rfl⟩
          refine mv_G_run 2 (F' := (119, [some (.ref 59), some (.int v1), some (.int v2), some (.int v3), some (.int v4), none], [.int v3, .int (v2 + r5)], 0, 0, kjS f I L)) rfl ?_
          by_cases hc7 : ¬ (v2 + r5) = v3
          · rw [if_pos hc7] at h
            refine mv_G_br (tgt := 126) rfl rfl (by decide) (fun _ => ?_) (fun z => absurd hc7 z)
            refine mv_G_run 1 (F' := (127, [some (.ref 59), some (.int v1), some (.int v2), some (.int v3), some (.int v4), none], [.int (0 : Int32)], 0, 0, kjS f I L)) rfl ?_
            obtain rfl := Option.some.inj h
            exact mv_G_ret rfl rfl rfl (Nat.le_refl _) (Or.inl rfl) ⟨rfl, rfl⟩
          · rw [if_neg hc7] at h
            refine mv_G_br (tgt := 126) rfl rfl (by decide) (fun z => absurd z hc7) (fun _ => ?_)
            refine mv_G_run 2 (F' := (127, [some (.ref 59), some (.int v1), some (.int v2), some (.int v3), some (.int v4), none], [.int (1 : Int32)], 0, 0, kjS f I L)) rfl ?_
            obtain rfl := Option.some.inj h
            exact mv_G_ret rfl rfl rfl (Nat.le_refl _) (Or.inr rfl) ⟨rfl, rfl⟩
def kf144_39 (N : Nat) (I : kjI) (L : kjL) : Nat → Int32 → Int32 → Int32 → Int32 → Int32 → Option (Int32)
  | 0, _, _, _, _, _ => none
  | n + 1, v1, v2, v3, v4, v5 => if ¬ v4 = (53 : Int32) then (kf144_82 N I L v1 v2 v3 v4) else ((kf115 I L v1 (v2 + (1 : Int32))).bind fun r2 => if r2 < v5 then (kf144_82 N I L v1 v2 v3 v4) else ((kf115 I L v1 ((v2 + (2 : Int32)) + v5)).bind fun r5 => if ¬ r5 = v3 then ((fun v1 v2 v3 v4 v5 => kf144_39 N I L n v1 v2 v3 v4 v5) v1 v2 v3 v4 (v5 + (1 : Int32))) else (some (1 : Int32))))
set_option maxRecDepth 100000 in
set_option maxHeartbeats 4000000 in
theorem kf144_39_ok (f : Bool) (N : Nat) (I : kjI) (L : kjL) (d : Nat)  : ∀ (n : Nat) (v1 : Int32) (v2 : Int32) (v3 : Int32) (v4 : Int32) (v5 : Int32) (r : Int32), kf144_39 N I L n v1 v2 v3 v4 v5 = some r → mv_G kjP kjSta (mv_C kjP kjSta (d + 2)) kjM_144 (kjQi f I L r) (39, [some (.ref 59), some (.int v1), some (.int v2), some (.int v3), some (.int v4), some (.int v5)], [], 0, 0, kjS f I L) := by
  intro n
  induction n with
  | zero => intro v1 v2 v3 v4 v5 r h; cases h
  | succ n ih =>
    have hk39 := ih
    intro v1 v2 v3 v4 v5 r h
    unfold kf144_39 at h
    refine mv_G_run 2 (F' := (43, [some (.ref 59), some (.int v1), some (.int v2), some (.int v3), some (.int v4), some (.int v5)], [.int (53 : Int32), .int v4], 0, 0, kjS f I L)) rfl ?_
    by_cases hc1 : ¬ v4 = (53 : Int32)
    · rw [if_pos hc1] at h
      refine mv_G_br (tgt := 82) rfl rfl (by decide) (fun _ => ?_) (fun z => absurd hc1 z)
      refine mv_G_fg (lc' := [some (.ref 59), some (.int v1), some (.int v2), some (.int v3), some (.int v4), none]) (And.intro rfl (And.intro rfl (And.intro rfl (And.intro rfl (And.intro rfl trivial))))) ?_
      exact kf144_82_ok _ _ _ _ d _ _ _ _ _ h
    · rw [if_neg hc1] at h
      refine mv_G_br (tgt := 82) rfl rfl (by decide) (fun z => absurd z hc1) (fun _ => ?_)
      refine mv_G_run 6 (F' := (53, [some (.ref 59), some (.int v1), some (.int v2), some (.int v3), some (.int v4), some (.int v5)], [.int (v2 + (1 : Int32)), .int v1, .ref 59, .int v5], 0, 0, kjS f I L)) rfl ?_
      obtain ⟨r2, hc3, h⟩ := mv_bd h
      refine mv_G_call (r := [.int v5]) (kf115_ok _ _ _ _ _ _ _ hc3) rfl rfl rfl rfl rfl (Nat.le_of_ble_eq_true rfl) (Nat.le_of_ble_eq_true rfl) (Nat.le_of_ble_eq_true rfl) ?_
      rintro _ _ ⟨rfl, rfl⟩
      by_cases hc4 : r2 < v5
      · rw [if_pos hc4] at h
        refine mv_G_br (tgt := 82) rfl rfl (by decide) (fun _ => ?_) (fun z => absurd hc4 z)
        refine mv_G_fg (lc' := [some (.ref 59), some (.int v1), some (.int v2), some (.int v3), some (.int v4), none]) (And.intro rfl (And.intro rfl (And.intro rfl (And.intro rfl (And.intro rfl trivial))))) ?_
        exact kf144_82_ok _ _ _ _ d _ _ _ _ _ h
      · rw [if_neg hc4] at h
        refine mv_G_br (tgt := 82) rfl rfl (by decide) (fun z => absurd z hc4) (fun _ => ?_)
        refine mv_G_run 7 (F' := (67, [some (.ref 59), some (.int v1), some (.int v2), some (.int v3), some (.int v4), some (.int v5)], [.int ((v2 + (2 : Int32)) + v5), .int v1, .ref 59], 0, 0, kjS f I L)) rfl ?_
        obtain ⟨r5, hc6, h⟩ := mv_bd h
        refine mv_G_call (r := []) (kf115_ok _ _ _ _ _ _ _ hc6) rfl rfl rfl rfl rfl (Nat.le_of_ble_eq_true rfl) (Nat.le_of_ble_eq_true rfl) (Nat.le_of_ble_eq_true rfl) ?_
        rintro _ _ ⟨rfl, rfl⟩
        refine mv_G_run 1 (F' := (71, [some (.ref 59), some (.int v1), some (.int v2), some (.int v3), some (.int v4), some (.int v5)], [.int v3, .int r5], 0, 0, kjS f I L)) rfl ?_
        by_cases hc7 : ¬ r5 = v3
        · rw [if_pos hc7] at h
          refine mv_G_br (tgt := 76) rfl rfl (by decide) (fun _ => ?_) (fun z => absurd hc7 z)
          refine mv_G_run 2 (F' := (39, [some (.ref 59), some (.int v1), some (.int v2), some (.int v3), some (.int v4), some (.int (v5 + (1 : Int32)))], [], 0, 0, kjS f I L)) rfl ?_
          exact hk39 v1 v2 v3 v4 (v5 + (1 : Int32)) _ h
        · rw [if_neg hc7] at h
          refine mv_G_br (tgt := 76) rfl rfl (by decide) (fun z => absurd z hc7) (fun _ => ?_)
          refine mv_G_run 1 (F' := (75, [some (.ref 59), some (.int v1), some (.int v2), some (.int v3), some (.int v4), some (.int v5)], [.int (1 : Int32)], 0, 0, kjS f I L)) rfl ?_
          obtain rfl := Option.some.inj h
          exact mv_G_ret rfl rfl rfl (Nat.le_refl _) (Or.inr rfl) ⟨rfl, rfl⟩
def kf144_36 (N : Nat) (I : kjI) (L : kjL) (v1 : Int32) (v2 : Int32) (v3 : Int32) (v4 : Int32) : Option (Int32) :=
  kf144_39 N I L N v1 v2 v3 v4 (0 : Int32)
set_option maxRecDepth 100000 in
set_option maxHeartbeats 4000000 in
theorem kf144_36_ok (f : Bool) (N : Nat) (I : kjI) (L : kjL) (d : Nat)  (v1 : Int32) (v2 : Int32) (v3 : Int32) (v4 : Int32) (r : Int32) (h : kf144_36 N I L v1 v2 v3 v4 = some r) : mv_G kjP kjSta (mv_C kjP kjSta (d + 2)) kjM_144 (kjQi f I L r) (36, [some (.ref 59), some (.int v1), some (.int v2), some (.int v3), some (.int v4), none], [], 0, 0, kjS f I L) := by
  unfold kf144_36 at h
  refine mv_G_run 2 (F' := (39, [some (.ref 59), some (.int v1), some (.int v2), some (.int v3), some (.int v4), some (.int (0 : Int32))], [], 0, 0, kjS f I L)) rfl ?_
  exact kf144_39_ok _ _ _ _ d _ _ _ _ _ _ _ h
def kf144 (N : Nat) (I : kjI) (L : kjL) (v1 : Int32) (v2 : Int32) (v3 : Int32) : Option (Int32) :=
  (kf115 I L v1 v2).bind fun r1 => if r1 < (21 : Int32) then (kf144_36 N I L v1 v2 v3 r1) else (if (37 : Int32) < r1 then (kf144_36 N I L v1 v2 v3 r1) else ((kf115 I L v1 (v2 + (1 : Int32))).bind fun r5 => if ¬ r5 = v3 then (kf144_36 N I L v1 v2 v3 r1) else (some (1 : Int32))))
set_option maxRecDepth 100000 in
set_option maxHeartbeats 4000000 in
theorem kf144_ok (f : Bool) (N : Nat) (I : kjI) (L : kjL) (v1 : Int32) (v2 : Int32) (v3 : Int32) (d : Nat) (r : Int32) (h : kf144 N I L v1 v2 v3 = some r) : mv_C kjP kjSta (d + 3) 144 [.ref 59, .int v1, .int v2, .int v3] (kjS f I L) (kjQi f I L r) := by
  unfold kf144 at h
  refine mv_C_in kjM_144 (lc := [some (.ref 59), some (.int v1), some (.int v2), some (.int v3), none, none]) rfl rfl rfl ?_
  refine mv_G_run 3 (F' := (3, [some (.ref 59), some (.int v1), some (.int v2), some (.int v3), none, none], [.int v2, .int v1, .ref 59], 0, 0, kjS f I L)) rfl ?_
  obtain ⟨r1, hc2, h⟩ := mv_bd h
  refine mv_G_call (r := []) (kf115_ok _ _ _ _ _ _ _ hc2) rfl rfl rfl rfl rfl (Nat.le_of_ble_eq_true rfl) (Nat.le_of_ble_eq_true rfl) (Nat.le_of_ble_eq_true rfl) ?_
  rintro _ _ ⟨rfl, rfl⟩
  refine mv_G_run 3 (F' := (12, [some (.ref 59), some (.int v1), some (.int v2), some (.int v3), some (.int r1), none], [.int (21 : Int32), .int r1], 0, 0, kjS f I L)) rfl ?_
  by_cases hc3 : r1 < (21 : Int32)
  · rw [if_pos hc3] at h
    refine mv_G_br (tgt := 36) rfl rfl (by decide) (fun _ => ?_) (fun z => absurd hc3 z)
    exact kf144_36_ok _ _ _ _ d _ _ _ _ _ h
  · rw [if_neg hc3] at h
    refine mv_G_br (tgt := 36) rfl rfl (by decide) (fun z => absurd z hc3) (fun _ => ?_)
    refine mv_G_run 2 (F' := (19, [some (.ref 59), some (.int v1), some (.int v2), some (.int v3), some (.int r1), none], [.int (37 : Int32), .int r1], 0, 0, kjS f I L)) rfl ?_
    by_cases hc4 : (37 : Int32) < r1
    · rw [if_pos hc4] at h
      refine mv_G_br (tgt := 36) rfl rfl (by decide) (fun _ => ?_) (fun z => absurd hc4 z)
      exact kf144_36_ok _ _ _ _ d _ _ _ _ _ h
    · rw [if_neg hc4] at h
      refine mv_G_br (tgt := 36) rfl rfl (by decide) (fun z => absurd z hc4) (fun _ => ?_)
      refine mv_G_run 5 (F' := (27, [some (.ref 59), some (.int v1), some (.int v2), some (.int v3), some (.int r1), none], [.int (v2 + (1 : Int32)), .int v1, .ref 59], 0, 0, kjS f I L)) rfl ?_
      obtain ⟨r5, hc6, h⟩ := mv_bd h
      refine mv_G_call (r := []) (kf115_ok _ _ _ _ _ _ _ hc6) rfl rfl rfl rfl rfl (Nat.le_of_ble_eq_true rfl) (Nat.le_of_ble_eq_true rfl) (Nat.le_of_ble_eq_true rfl) ?_
      rintro _ _ ⟨rfl, rfl⟩
      refine mv_G_run 1 (F' := (31, [some (.ref 59), some (.int v1), some (.int v2), some (.int v3), some (.int r1), none], [.int v3, .int r5], 0, 0, kjS f I L)) rfl ?_
      by_cases hc7 : ¬ r5 = v3
      · rw [if_pos hc7] at h
        refine mv_G_br (tgt := 36) rfl rfl (by decide) (fun _ => ?_) (fun z => absurd hc7 z)
        exact kf144_36_ok _ _ _ _ d _ _ _ _ _ h
      · rw [if_neg hc7] at h
        refine mv_G_br (tgt := 36) rfl rfl (by decide) (fun z => absurd z hc7) (fun _ => ?_)
        refine mv_G_run 1 (F' := (35, [some (.ref 59), some (.int v1), some (.int v2), some (.int v3), some (.int r1), none], [.int (1 : Int32)], 0, 0, kjS f I L)) rfl ?_
        obtain rfl := Option.some.inj h
        exact mv_G_ret rfl rfl rfl (Nat.le_refl _) (Or.inr rfl) ⟨rfl, rfl⟩
/-! KindJudgeModel.ways(II)I on ('c', 59) -/
def kf145_79 (N : Nat) (k29 : Int32 → Int32 → Int32 → Int32 → kjI → kjL → Option (Int32 × kjI × kjL)) (v1 : Int32) (v2 : Int32) (v3 : Int32) (v4 : Int32) (I : kjI) (L : kjL) : Option (Int32 × kjI × kjL) :=
  k29 v1 v2 v3 (v4 + (1 : Int32)) I L
set_option maxRecDepth 100000 in
set_option maxHeartbeats 4000000 in
theorem kf145_79_ok (f : Bool) (N : Nat) (k29 : Int32 → Int32 → Int32 → Int32 → kjI → kjL → Option (Int32 × kjI × kjL)) (d : Nat) (hk29 : ∀ (v1 : Int32) (v2 : Int32) (v3 : Int32) (v4 : Int32) (I : kjI) (L : kjL) (r : Int32 × kjI × kjL), k29 v1 v2 v3 v4 I L = some r → mv_G kjP kjSta (mv_C kjP kjSta (d + 3)) kjM_145 (kjQwi f r) (29, [some (.ref 59), some (.int v1), some (.int v2), some (.int v3), some (.int v4)], [], 0, 0, kjS f I L)) (v1 : Int32) (v2 : Int32) (v3 : Int32) (v4 : Int32) (I : kjI) (L : kjL) (r : Int32 × kjI × kjL) (h : kf145_79 N k29 v1 v2 v3 v4 I L = some r) : mv_G kjP kjSta (mv_C kjP kjSta (d + 3)) kjM_145 (kjQwi f r) (79, [some (.ref 59), some (.int v1), some (.int v2), some (.int v3), some (.int v4)], [], 0, 0, kjS f I L) := by
  unfold kf145_79 at h
  refine mv_G_run 2 (F' := (29, [some (.ref 59), some (.int v1), some (.int v2), some (.int v3), some (.int (v4 + (1 : Int32)))], [], 0, 0, kjS f I L)) rfl ?_
  exact hk29 v1 v2 v3 (v4 + (1 : Int32)) I L _ h
def kf145_29 (N : Nat) : Nat → Int32 → Int32 → Int32 → Int32 → kjI → kjL → Option (Int32 × kjI × kjL)
  | 0, _, _, _, _, _, _ => none
  | n + 1, v1, v2, v3, v4, I, L => bif mv_in v1 16 then (if (I 74 (Int32.toNatClampNeg v1)) ≤ v4 then (some (v3, I, L)) else (bif mv_in (((120 : Int32) * v1) + v4) 1920 then (if (I 76 (Int32.toNatClampNeg (((120 : Int32) * v1) + v4))) = 0 then (kf145_79 N (fun v1 v2 v3 v4 I L => kf145_29 N n v1 v2 v3 v4 I L) v1 v2 v3 v4 I L) else ((kf141 I L v1 v4).bind fun r5 => if r5 = 0 then (kf145_79 N (fun v1 v2 v3 v4 I L => kf145_29 N n v1 v2 v3 v4 I L) v1 v2 v3 v4 I L) else ((kf144 N I L v1 v4 v2).bind fun r8 => if r8 = 0 then (kf145_79 N (fun v1 v2 v3 v4 I L => kf145_29 N n v1 v2 v3 v4 I L) v1 v2 v3 v4 I L) else (kf145_79 N (fun v1 v2 v3 v4 I L => kf145_29 N n v1 v2 v3 v4 I L) v1 v2 (v3 + (1 : Int32)) v4 I L)))) else none)) else none
set_option maxRecDepth 100000 in
set_option maxHeartbeats 4000000 in
theorem kf145_29_ok (f : Bool) (N : Nat) (d : Nat)  : ∀ (n : Nat) (v1 : Int32) (v2 : Int32) (v3 : Int32) (v4 : Int32) (I : kjI) (L : kjL) (r : Int32 × kjI × kjL), kf145_29 N n v1 v2 v3 v4 I L = some r → mv_G kjP kjSta (mv_C kjP kjSta (d + 3)) kjM_145 (kjQwi f r) (29, [some (.ref 59), some (.int v1), some (.int v2), some (.int v3), some (.int v4)], [], 0, 0, kjS f I L) := by
  intro n
  induction n with
  | zero => intro v1 v2 v3 v4 I L r h; cases h
  | succ n ih =>
    have hk29 := ih
    intro v1 v2 v3 v4 I L r h
    unfold kf145_29 at h
    refine mv_G_run 4 (F' := (36, [some (.ref 59), some (.int v1), some (.int v2), some (.int v3), some (.int v4)], [.int v1, .ref 74, .int v4], 0, 0, kjS f I L)) rfl ?_
    obtain ⟨hi1, h⟩ := mv_bifs h
    refine mv_G_ald rfl rfl (mv_in_ok hi1) ?_
    by_cases hc2 : (I 74 (Int32.toNatClampNeg v1)) ≤ v4
    · rw [if_pos hc2] at h
      refine mv_G_br (tgt := 85) rfl rfl (by decide) (fun _ => ?_) (fun z => absurd hc2 z)
      refine mv_G_run 1 (F' := (86, [some (.ref 59), some (.int v1), some (.int v2), some (.int v3), some (.int v4)], [.int v3], 0, 0, kjS f I L)) rfl ?_
      obtain rfl := Option.some.inj h
      exact mv_G_ret rfl rfl rfl (Nat.le_refl _) trivial ⟨rfl, rfl⟩
    · rw [if_neg hc2] at h
      refine mv_G_br (tgt := 85) rfl rfl (by decide) (fun z => absurd z hc2) (fun _ => ?_)
      refine mv_G_run 7 (F' := (51, [some (.ref 59), some (.int v1), some (.int v2), some (.int v3), some (.int v4)], [.int (((120 : Int32) * v1) + v4), .ref 76], 0, 0, kjS f I L)) rfl ?_
      obtain ⟨hi3, h⟩ := mv_bifs h
      refine mv_G_ald rfl rfl (mv_in_ok hi3) ?_
      by_cases hc4 : (I 76 (Int32.toNatClampNeg (((120 : Int32) * v1) + v4))) = 0
      · rw [if_pos hc4] at h
        refine mv_G_br (tgt := 79) rfl rfl (by decide) (fun _ => ?_) (fun z => absurd hc4 z)
        exact kf145_79_ok _ _ _ d hk29 _ _ _ _ _ _ _ h
      · rw [if_neg hc4] at h
        refine mv_G_br (tgt := 79) rfl rfl (by decide) (fun z => absurd z hc4) (fun _ => ?_)
        refine mv_G_run 3 (F' := (59, [some (.ref 59), some (.int v1), some (.int v2), some (.int v3), some (.int v4)], [.int v4, .int v1, .ref 59], 0, 0, kjS f I L)) rfl ?_
        obtain ⟨r5, hc6, h⟩ := mv_bd h
        refine mv_G_call (r := []) (kf141_ok _ _ _ _ _ _ _ hc6) rfl rfl rfl rfl rfl (Nat.le_of_ble_eq_true rfl) (Nat.le_of_ble_eq_true rfl) (Nat.le_of_ble_eq_true rfl) ?_
        rintro _ _ ⟨rfl, rfl⟩
        by_cases hc7 : r5 = 0
        · rw [if_pos hc7] at h
          refine mv_G_br (tgt := 79) rfl rfl (by decide) (fun _ => ?_) (fun z => absurd hc7 z)
          exact kf145_79_ok _ _ _ d hk29 _ _ _ _ _ _ _ h
        · rw [if_neg hc7] at h
          refine mv_G_br (tgt := 79) rfl rfl (by decide) (fun z => absurd z hc7) (fun _ => ?_)
          refine mv_G_run 4 (F' := (70, [some (.ref 59), some (.int v1), some (.int v2), some (.int v3), some (.int v4)], [.int v2, .int v4, .int v1, .ref 59], 0, 0, kjS f I L)) rfl ?_
          obtain ⟨r8, hc9, h⟩ := mv_bd h
          refine mv_G_call (r := []) (kf144_ok _ _ _ _ _ _ _ _ _ hc9) rfl rfl rfl rfl rfl (Nat.le_of_ble_eq_true rfl) (Nat.le_of_ble_eq_true rfl) (Nat.le_of_ble_eq_true rfl) ?_
          rintro _ _ ⟨rfl, rfl⟩
          by_cases hc10 : r8 = 0
          · rw [if_pos hc10] at h
            refine mv_G_br (tgt := 79) rfl rfl (by decide) (fun _ => ?_) (fun z => absurd hc10 z)
            exact kf145_79_ok _ _ _ d hk29 _ _ _ _ _ _ _ h
          · rw [if_neg hc10] at h
            refine mv_G_br (tgt := 79) rfl rfl (by decide) (fun z => absurd z hc10) (fun _ => ?_)
            refine mv_G_run 1 (F' := (79, [some (.ref 59), some (.int v1), some (.int v2), some (.int (v3 + (1 : Int32))), some (.int v4)], [], 0, 0, kjS f I L)) rfl ?_
            exact kf145_79_ok _ _ _ d hk29 _ _ _ _ _ _ _ h
def kf145_25 (N : Nat) (v1 : Int32) (v2 : Int32) (s0 : Int32) (I : kjI) (L : kjL) : Option (Int32 × kjI × kjL) :=
  kf145_29 N N v1 v2 s0 (0 : Int32) I L
set_option maxRecDepth 100000 in
set_option maxHeartbeats 4000000 in
theorem kf145_25_ok (f : Bool) (N : Nat) (d : Nat)  (v1 : Int32) (v2 : Int32) (s0 : Int32) (I : kjI) (L : kjL) (r : Int32 × kjI × kjL) (h : kf145_25 N v1 v2 s0 I L = some r) : mv_G kjP kjSta (mv_C kjP kjSta (d + 3)) kjM_145 (kjQwi f r) (25, [some (.ref 59), some (.int v1), some (.int v2), none, none], [.int s0], 0, 0, kjS f I L) := by
  unfold kf145_25 at h
  refine mv_G_run 3 (F' := (29, [some (.ref 59), some (.int v1), some (.int v2), some (.int s0), some (.int (0 : Int32))], [], 0, 0, kjS f I L)) rfl ?_
  exact kf145_29_ok _ _ d _ _ _ _ _ _ _ _ h
def kf145 (N : Nat) (v1 : Int32) (v2 : Int32) (I : kjI) (L : kjL) : Option (Int32 × kjI × kjL) :=
  (kf140 (mv_up I 59 0 (0 : Int32)) L v1 v2).bind fun r1 => if ¬ r1 = 0 then (if ¬ v2 = 0 then (kf145_25 N v1 v2 (0 : Int32) (mv_up I 59 0 (0 : Int32)) L) else (kf145_25 N v1 v2 (1 : Int32) (mv_up I 59 0 (0 : Int32)) L)) else (some ((-1 : Int32), (mv_up I 59 0 (0 : Int32)), L))
set_option maxRecDepth 100000 in
set_option maxHeartbeats 4000000 in
theorem kf145_ok (f : Bool) (N : Nat) (v1 : Int32) (v2 : Int32) (I : kjI) (L : kjL) (d : Nat) (r : Int32 × kjI × kjL) (h : kf145 N v1 v2 I L = some r) : mv_C kjP kjSta (d + 4) 145 [.ref 59, .int v1, .int v2] (kjS f I L) (kjQwi f r) := by
  unfold kf145 at h
  refine mv_C_in kjM_145 (lc := [some (.ref 59), some (.int v1), some (.int v2), none, none]) rfl rfl rfl ?_
  refine mv_G_run 6 (F' := (8, [some (.ref 59), some (.int v1), some (.int v2), none, none], [.int v2, .int v1, .ref 59], 0, 0, kjS f (mv_up I 59 0 (0 : Int32)) L)) rfl ?_
  obtain ⟨r1, hc2, h⟩ := mv_bd h
  refine mv_G_call (r := []) (kf140_ok _ _ _ _ _ _ _ hc2) rfl rfl rfl rfl rfl (Nat.le_of_ble_eq_true rfl) (Nat.le_of_ble_eq_true rfl) (Nat.le_of_ble_eq_true rfl) ?_
  rintro _ _ ⟨rfl, rfl⟩
  by_cases hc3 : ¬ r1 = 0
  · rw [if_pos hc3] at h
    refine mv_G_br (tgt := 16) rfl rfl (by decide) (fun _ => ?_) (fun z => absurd hc3 z)
    refine mv_G_run 1 (F' := (17, [some (.ref 59), some (.int v1), some (.int v2), none, none], [.int v2], 0, 0, kjS f (mv_up I 59 0 (0 : Int32)) L)) rfl ?_
    by_cases hc4 : ¬ v2 = 0
    · rw [if_pos hc4] at h
      refine mv_G_br (tgt := 24) rfl rfl (by decide) (fun _ => ?_) (fun z => absurd hc4 z)
      refine mv_G_run 1 (F' := (25, [some (.ref 59), some (.int v1), some (.int v2), none, none], [.int (0 : Int32)], 0, 0, kjS f (mv_up I 59 0 (0 : Int32)) L)) rfl ?_
      exact kf145_25_ok _ _ d _ _ _ _ _ _ h
    · rw [if_neg hc4] at h
      refine mv_G_br (tgt := 24) rfl rfl (by decide) (fun z => absurd z hc4) (fun _ => ?_)
      refine mv_G_run 2 (F' := (25, [some (.ref 59), some (.int v1), some (.int v2), none, none], [.int (1 : Int32)], 0, 0, kjS f (mv_up I 59 0 (0 : Int32)) L)) rfl ?_
      exact kf145_25_ok _ _ d _ _ _ _ _ _ h
  · rw [if_neg hc3] at h
    refine mv_G_br (tgt := 16) rfl rfl (by decide) (fun z => absurd z hc3) (fun _ => ?_)
    refine mv_G_run 1 (F' := (15, [some (.ref 59), some (.int v1), some (.int v2), none, none], [.int (-1 : Int32)], 0, 0, kjS f (mv_up I 59 0 (0 : Int32)) L)) rfl ?_
    obtain rfl := Option.some.inj h
    exact mv_G_ret rfl rfl rfl (Nat.le_refl _) trivial ⟨rfl, rfl⟩
/-! KindJudgeModel.count(II)I on ('c', 59) -/
def kf146_161 (N : Nat) (k35 : Int32 → Int32 → Int32 → Int32 → Int32 → Int32 → kjI → kjL → Option (Int32 × kjI × kjL)) (v1 : Int32) (v2 : Int32) (v3 : Int32) (v4 : Int32) (v5 : Int32) (v6 : Int32) (I : kjI) (L : kjL) : Option (Int32 × kjI × kjL) :=
  k35 v1 v2 v3 v4 v5 (v6 + (1 : Int32)) I L
set_option maxRecDepth 100000 in
set_option maxHeartbeats 4000000 in
theorem kf146_161_ok (f : Bool) (N : Nat) (k35 : Int32 → Int32 → Int32 → Int32 → Int32 → Int32 → kjI → kjL → Option (Int32 × kjI × kjL)) (d : Nat) (hk35 : ∀ (v1 : Int32) (v2 : Int32) (v3 : Int32) (v4 : Int32) (v5 : Int32) (v6 : Int32) (I : kjI) (L : kjL) (r : Int32 × kjI × kjL), k35 v1 v2 v3 v4 v5 v6 I L = some r → mv_G kjP kjSta (mv_C kjP kjSta (d + 2)) kjM_146 (kjQwi f r) (35, [some (.ref 59), some (.int v1), some (.int v2), some (.int v3), some (.int v4), some (.int v5), some (.int v6), none], [], 0, 0, kjS f I L)) (v1 : Int32) (v2 : Int32) (v3 : Int32) (v4 : Int32) (v5 : Int32) (v6 : Int32) (I : kjI) (L : kjL) (r : Int32 × kjI × kjL) (h : kf146_161 N k35 v1 v2 v3 v4 v5 v6 I L = some r) : mv_G kjP kjSta (mv_C kjP kjSta (d + 2)) kjM_146 (kjQwi f r) (161, [some (.ref 59), some (.int v1), some (.int v2), some (.int v3), some (.int v4), some (.int v5), some (.int v6), none], [], 0, 0, kjS f I L) := by
  unfold kf146_161 at h
  refine mv_G_run 2 (F' := (35, [some (.ref 59), some (.int v1), some (.int v2), some (.int v3), some (.int v4), some (.int v5), some (.int (v6 + (1 : Int32))), none], [], 0, 0, kjS f I L)) rfl ?_
  exact hk35 v1 v2 v3 v4 v5 (v6 + (1 : Int32)) I L _ h
def kf146_159 (N : Nat) (k35 : Int32 → Int32 → Int32 → Int32 → Int32 → Int32 → kjI → kjL → Option (Int32 × kjI × kjL)) (v1 : Int32) (v2 : Int32) (v3 : Int32) (v4 : Int32) (v6 : Int32) (s0 : Int32) (I : kjI) (L : kjL) : Option (Int32 × kjI × kjL) :=
  kf146_161 N k35 v1 v2 v3 v4 s0 v6 I L
set_option maxRecDepth 100000 in
set_option maxHeartbeats 4000000 in
theorem kf146_159_ok (f : Bool) (N : Nat) (k35 : Int32 → Int32 → Int32 → Int32 → Int32 → Int32 → kjI → kjL → Option (Int32 × kjI × kjL)) (d : Nat) (hk35 : ∀ (v1 : Int32) (v2 : Int32) (v3 : Int32) (v4 : Int32) (v5 : Int32) (v6 : Int32) (I : kjI) (L : kjL) (r : Int32 × kjI × kjL), k35 v1 v2 v3 v4 v5 v6 I L = some r → mv_G kjP kjSta (mv_C kjP kjSta (d + 2)) kjM_146 (kjQwi f r) (35, [some (.ref 59), some (.int v1), some (.int v2), some (.int v3), some (.int v4), some (.int v5), some (.int v6), none], [], 0, 0, kjS f I L)) (v1 : Int32) (v2 : Int32) (v3 : Int32) (v4 : Int32) (v6 : Int32) (s0 : Int32) (I : kjI) (L : kjL) (r : Int32 × kjI × kjL) (h : kf146_159 N k35 v1 v2 v3 v4 v6 s0 I L = some r) : mv_G kjP kjSta (mv_C kjP kjSta (d + 2)) kjM_146 (kjQwi f r) (159, [some (.ref 59), some (.int v1), some (.int v2), some (.int v3), some (.int v4), none, some (.int v6), none], [.int s0], 0, 0, kjS f I L) := by
  unfold kf146_159 at h
  refine mv_G_run 1 (F' := (161, [some (.ref 59), some (.int v1), some (.int v2), some (.int v3), some (.int v4), some (.int s0), some (.int v6), none], [], 0, 0, kjS f I L)) rfl ?_
  exact kf146_161_ok _ _ _ d hk35 _ _ _ _ _ _ _ _ _ h
def kf146_99 (N : Nat) (k35 : Int32 → Int32 → Int32 → Int32 → Int32 → Int32 → kjI → kjL → Option (Int32 × kjI × kjL)) (v1 : Int32) (v2 : Int32) (v3 : Int32) (v5 : Int32) (v6 : Int32) (s0 : Int32) (s1 : Int32) (I : kjI) (L : kjL) : Option (Int32 × kjI × kjL) :=
  (kf141 I L v1 v6).bind fun r1 => if ¬ r1 = 0 then (bif mv_in (((120 : Int32) * v1) + v6) 1920 then ((kf133 I L v1 v6).bind fun r5 => (kf142 I L v1 v6).bind fun r7 => if (((I 78 (Int32.toNatClampNeg (((120 : Int32) * v1) + v6))) - r5) + r7) ≤ v5 then (kf146_159 N k35 v1 v2 v3 (s0 + s1) v6 v5 I L) else (kf146_159 N k35 v1 v2 v3 (s0 + s1) v6 (((I 78 (Int32.toNatClampNeg (((120 : Int32) * v1) + v6))) - r5) + r7) I L)) else none) else (kf146_161 N k35 v1 v2 v3 (s0 + s1) v5 v6 I L)
set_option maxRecDepth 100000 in
set_option maxHeartbeats 4000000 in
theorem kf146_99_ok (f : Bool) (N : Nat) (k35 : Int32 → Int32 → Int32 → Int32 → Int32 → Int32 → kjI → kjL → Option (Int32 × kjI × kjL)) (d : Nat) (hk35 : ∀ (v1 : Int32) (v2 : Int32) (v3 : Int32) (v4 : Int32) (v5 : Int32) (v6 : Int32) (I : kjI) (L : kjL) (r : Int32 × kjI × kjL), k35 v1 v2 v3 v4 v5 v6 I L = some r → mv_G kjP kjSta (mv_C kjP kjSta (d + 2)) kjM_146 (kjQwi f r) (35, [some (.ref 59), some (.int v1), some (.int v2), some (.int v3), some (.int v4), some (.int v5), some (.int v6), none], [], 0, 0, kjS f I L)) (v1 : Int32) (v2 : Int32) (v3 : Int32) (v5 : Int32) (v6 : Int32) (s0 : Int32) (s1 : Int32) (I : kjI) (L : kjL) (r : Int32 × kjI × kjL) (h : kf146_99 N k35 v1 v2 v3 v5 v6 s0 s1 I L = some r) : mv_G kjP kjSta (mv_C kjP kjSta (d + 2)) kjM_146 (kjQwi f r) (99, [some (.ref 59), some (.int v1), some (.int v2), some (.int v3), none, some (.int v5), some (.int v6), none], [.int s1, .int s0], 0, 0, kjS f I L) := by
  unfold kf146_99 at h
  refine mv_G_run 5 (F' := (106, [some (.ref 59), some (.int v1), some (.int v2), some (.int v3), some (.int (s0 + s1)), some (.int v5), some (.int v6), none], [.int v6, .int v1, .ref 59], 0, 0, kjS f I L)) rfl ?_
  obtain ⟨r1, hc2, h⟩ := mv_bd h
  refine mv_G_call (r := []) (kf141_ok _ _ _ _ _ _ _ hc2) rfl rfl rfl rfl rfl (Nat.le_of_ble_eq_true rfl) (Nat.le_of_ble_eq_true rfl) (Nat.le_of_ble_eq_true rfl) ?_
  rintro _ _ ⟨rfl, rfl⟩
  by_cases hc3 : ¬ r1 = 0
  · rw [if_pos hc3] at h
    refine mv_G_br (tgt := 115) rfl rfl (by decide) (fun _ => ?_) (fun z => absurd hc3 z)
    refine mv_G_run 7 (F' := (126, [some (.ref 59), some (.int v1), some (.int v2), some (.int v3), some (.int (s0 + s1)), some (.int v5), some (.int v6), none], [.int (((120 : Int32) * v1) + v6), .ref 78], 0, 0, kjS f I L)) rfl ?_
    obtain ⟨hi4, h⟩ := mv_bifs h
    refine mv_G_ald rfl rfl (mv_in_ok hi4) ?_
    refine mv_G_run 3 (F' := (131, [some (.ref 59), some (.int v1), some (.int v2), some (.int v3), some (.int (s0 + s1)), some (.int v5), some (.int v6), none], [.int v6, .int v1, .ref 59, .int (I 78 (Int32.toNatClampNeg (((120 : Int32) * v1) + v6)))], 0, 0, kjS f I L)) rfl ?_
    obtain ⟨r5, hc6, h⟩ := mv_bd h
    refine mv_G_call (r := [.int (I 78 (Int32.toNatClampNeg (((120 : Int32) * v1) + v6)))]) (kf133_ok _ _ _ _ _ _ _ hc6) rfl rfl rfl rfl rfl (Nat.le_of_ble_eq_true rfl) (Nat.le_of_ble_eq_true rfl) (Nat.le_of_ble_eq_true rfl) ?_
    rintro _ _ ⟨rfl, rfl⟩
    refine mv_G_run 4 (F' := (139, [some (.ref 59), some (.int v1), some (.int v2), some (.int v3), some (.int (s0 + s1)), some (.int v5), some (.int v6), none], [.int v6, .int v1, .ref 59, .int ((I 78 (Int32.toNatClampNeg (((120 : Int32) * v1) + v6))) - r5)], 0, 0, kjS f I L)) rfl ?_
    obtain ⟨r7, hc8, h⟩ := mv_bd h
    refine mv_G_call (r := [.int ((I 78 (Int32.toNatClampNeg (((120 : Int32) * v1) + v6))) - r5)]) (kf142_ok _ _ _ _ _ _ _ hc8) rfl rfl rfl rfl rfl (Nat.le_of_ble_eq_true rfl) (Nat.le_of_ble_eq_true rfl) (Nat.le_of_ble_eq_true rfl) ?_
    rintro _ _ ⟨rfl, rfl⟩
    refine mv_G_run 4 (F' := (149, [some (.ref 59), some (.int v1), some (.int v2), some (.int v3), some (.int (s0 + s1)), some (.int v5), some (.int v6), some (.int (((I 78 (Int32.toNatClampNeg (((120 : Int32) * v1) + v6))) - r5) + r7))], [.int v5, .int (((I 78 (Int32.toNatClampNeg (((120 : Int32) * v1) + v6))) - r5) + r7)], 0, 0, kjS f I L)) rfl ?_
    by_cases hc9 : (((I 78 (Int32.toNatClampNeg (((120 : Int32) * v1) + v6))) - r5) + r7) ≤ v5
    · rw [if_pos hc9] at h
      refine mv_G_br (tgt := 157) rfl rfl (by decide) (fun _ => ?_) (fun z => absurd hc9 z)
      refine mv_G_run 1 (F' := (159, [some (.ref 59), some (.int v1), some (.int v2), some (.int v3), some (.int (s0 + s1)), some (.int v5), some (.int v6), some (.int (((I 78 (Int32.toNatClampNeg (((120 : Int32) * v1) + v6))) - r5) + r7))], [.int v5], 0, 0, kjS f I L)) rfl ?_
      refine mv_G_fg (lc' := [some (.ref 59), some (.int v1), some (.int v2), some (.int v3), some (.int (s0 + s1)), none, some (.int v6), none]) (And.intro rfl (And.intro rfl (And.intro rfl (And.intro rfl (And.intro rfl (And.intro rfl trivial)))))) ?_
      exact kf146_159_ok _ _ _ d hk35 _ _ _ _ _ _ _ _ _ h
    · rw [if_neg hc9] at h
      refine mv_G_br (tgt := 157) rfl rfl (by decide) (fun z => absurd z hc9) (fun _ => ?_)
      refine mv_G_run 2 (F' := (159, [some (.ref 59), some (.int v1), some (.int v2), some (.int v3), some (.int (s0 + s1)), some (.int v5), some (.int v6), some (.int (((I 78 (Int32.toNatClampNeg (((120 : Int32) * v1) + v6))) - r5) + r7))], [.int (((I 78 (Int32.toNatClampNeg (((120 : Int32) * v1) + v6))) - r5) + r7)], 0, 0, kjS f I L)) rfl ?_
      refine mv_G_fg (lc' := [some (.ref 59), some (.int v1), some (.int v2), some (.int v3), some (.int (s0 + s1)), none, some (.int v6), none]) (And.intro rfl (And.intro rfl (And.intro rfl (And.intro rfl (And.intro rfl (And.intro rfl trivial)))))) ?_
      exact kf146_159_ok _ _ _ d hk35 _ _ _ _ _ _ _ _ _ h
  · rw [if_neg hc3] at h
    refine mv_G_br (tgt := 115) rfl rfl (by decide) (fun z => absurd z hc3) (fun _ => ?_)
    refine mv_G_run 1 (F' := (161, [some (.ref 59), some (.int v1), some (.int v2), some (.int v3), some (.int (s0 + s1)), some (.int v5), some (.int v6), none], [], 0, 0, kjS f I L)) rfl ?_
    exact kf146_161_ok _ _ _ d hk35 _ _ _ _ _ _ _ _ _ h
def kf146_80 (N : Nat) (k35 : Int32 → Int32 → Int32 → Int32 → Int32 → Int32 → kjI → kjL → Option (Int32 × kjI × kjL)) (v1 : Int32) (v2 : Int32) (v4 : Int32) (v5 : Int32) (v6 : Int32) (s0 : Int32) (s1 : Int32) (I : kjI) (L : kjL) : Option (Int32 × kjI × kjL) :=
  (kf141 I L v1 v6).bind fun r1 => if r1 = 0 then (kf146_99 N k35 v1 v2 (s0 + s1) v5 v6 v4 (1 : Int32) I L) else (kf146_99 N k35 v1 v2 (s0 + s1) v5 v6 v4 (0 : Int32) I L)
set_option maxRecDepth 100000 in
set_option maxHeartbeats 4000000 in
theorem kf146_80_ok (f : Bool) (N : Nat) (k35 : Int32 → Int32 → Int32 → Int32 → Int32 → Int32 → kjI → kjL → Option (Int32 × kjI × kjL)) (d : Nat) (hk35 : ∀ (v1 : Int32) (v2 : Int32) (v3 : Int32) (v4 : Int32) (v5 : Int32) (v6 : Int32) (I : kjI) (L : kjL) (r : Int32 × kjI × kjL), k35 v1 v2 v3 v4 v5 v6 I L = some r → mv_G kjP kjSta (mv_C kjP kjSta (d + 2)) kjM_146 (kjQwi f r) (35, [some (.ref 59), some (.int v1), some (.int v2), some (.int v3), some (.int v4), some (.int v5), some (.int v6), none], [], 0, 0, kjS f I L)) (v1 : Int32) (v2 : Int32) (v4 : Int32) (v5 : Int32) (v6 : Int32) (s0 : Int32) (s1 : Int32) (I : kjI) (L : kjL) (r : Int32 × kjI × kjL) (h : kf146_80 N k35 v1 v2 v4 v5 v6 s0 s1 I L = some r) : mv_G kjP kjSta (mv_C kjP kjSta (d + 2)) kjM_146 (kjQwi f r) (80, [some (.ref 59), some (.int v1), some (.int v2), none, some (.int v4), some (.int v5), some (.int v6), none], [.int s1, .int s0], 0, 0, kjS f I L) := by
  unfold kf146_80 at h
  refine mv_G_run 6 (F' := (88, [some (.ref 59), some (.int v1), some (.int v2), some (.int (s0 + s1)), some (.int v4), some (.int v5), some (.int v6), none], [.int v6, .int v1, .ref 59, .int v4], 0, 0, kjS f I L)) rfl ?_
  obtain ⟨r1, hc2, h⟩ := mv_bd h
  refine mv_G_call (r := [.int v4]) (kf141_ok _ _ _ _ _ _ _ hc2) rfl rfl rfl rfl rfl (Nat.le_of_ble_eq_true rfl) (Nat.le_of_ble_eq_true rfl) (Nat.le_of_ble_eq_true rfl) ?_
  rintro _ _ ⟨rfl, rfl⟩
  by_cases hc3 : r1 = 0
  · rw [if_pos hc3] at h
    refine mv_G_br (tgt := 98) rfl rfl (by decide) (fun _ => ?_) (fun z => absurd hc3 z)
    refine mv_G_run 1 (F' := (99, [some (.ref 59), some (.int v1), some (.int v2), some (.int (s0 + s1)), some (.int v4), some (.int v5), some (.int v6), none], [.int (1 : Int32), .int v4], 0, 0, kjS f I L)) rfl ?_
    refine mv_G_fg (lc' := [some (.ref 59), some (.int v1), some (.int v2), some (.int (s0 + s1)), none, some (.int v5), some (.int v6), none]) (And.intro rfl (And.intro rfl (And.intro rfl (And.intro rfl (And.intro rfl (And.intro rfl trivial)))))) ?_
    exact kf146_99_ok _ _ _ d hk35 _ _ _ _ _ _ _ _ _ _ h
  · rw [if_neg hc3] at h
    refine mv_G_br (tgt := 98) rfl rfl (by decide) (fun z => absurd z hc3) (fun _ => ?_)
    refine mv_G_run 2 (F' := (99, [some (.ref 59), some (.int v1), some (.int v2), some (.int (s0 + s1)), some (.int v4), some (.int v5), some (.int v6), none], [.int (0 : Int32), .int v4], 0, 0, kjS f I L)) rfl ?_
    refine mv_G_fg (lc' := [some (.ref 59), some (.int v1), some (.int v2), some (.int (s0 + s1)), none, some (.int v5), some (.int v6), none]) (And.intro rfl (And.intro rfl (And.intro rfl (And.intro rfl (And.intro rfl (And.intro rfl trivial)))))) ?_
    exact kf146_99_ok _ _ _ d hk35 _ _ _ _ _ _ _ _ _ _ h
def kf146_35 (N : Nat) : Nat → Int32 → Int32 → Int32 → Int32 → Int32 → Int32 → kjI → kjL → Option (Int32 × kjI × kjL)
  | 0, _, _, _, _, _, _, _, _ => none
  | n + 1, v1, v2, v3, v4, v5, v6, I, L => bif mv_in v1 16 then (if (I 74 (Int32.toNatClampNeg v1)) ≤ v6 then (if ¬ v2 = 0 then (if ¬ v2 = (1 : Int32) then (some (v5, I, L)) else (some (v4, I, L))) else (some (v3, I, L))) else (bif mv_in (((120 : Int32) * v1) + v6) 1920 then (if ¬ (I 76 (Int32.toNatClampNeg (((120 : Int32) * v1) + v6))) = 0 then ((kf141 I L v1 v6).bind fun r7 => if r7 = 0 then (kf146_80 N (fun v1 v2 v3 v4 v5 v6 I L => kf146_35 N n v1 v2 v3 v4 v5 v6 I L) v1 v2 v4 v5 v6 v3 (0 : Int32) I L) else (kf146_80 N (fun v1 v2 v3 v4 v5 v6 I L => kf146_35 N n v1 v2 v3 v4 v5 v6 I L) v1 v2 v4 v5 v6 v3 (1 : Int32) I L)) else (kf146_161 N (fun v1 v2 v3 v4 v5 v6 I L => kf146_35 N n v1 v2 v3 v4 v5 v6 I L) v1 v2 v3 v4 v5 v6 I L)) else none)) else none
set_option maxRecDepth 100000 in
set_option maxHeartbeats 4000000 in
theorem kf146_35_ok (f : Bool) (N : Nat) (d : Nat)  : ∀ (n : Nat) (v1 : Int32) (v2 : Int32) (v3 : Int32) (v4 : Int32) (v5 : Int32) (v6 : Int32) (I : kjI) (L : kjL) (r : Int32 × kjI × kjL), kf146_35 N n v1 v2 v3 v4 v5 v6 I L = some r → mv_G kjP kjSta (mv_C kjP kjSta (d + 2)) kjM_146 (kjQwi f r) (35, [some (.ref 59), some (.int v1), some (.int v2), some (.int v3), some (.int v4), some (.int v5), some (.int v6), none], [], 0, 0, kjS f I L) := by
  intro n
  induction n with
  | zero => intro v1 v2 v3 v4 v5 v6 I L r h; cases h
  | succ n ih =>
    have hk35 := ih
    intro v1 v2 v3 v4 v5 v6 I L r h
    unfold kf146_35 at h
    refine mv_G_run 4 (F' := (42, [some (.ref 59), some (.int v1), some (.int v2), some (.int v3), some (.int v4), some (.int v5), some (.int v6), none], [.int v1, .ref 74, .int v6], 0, 0, kjS f I L)) rfl ?_
    obtain ⟨hi1, h⟩ := mv_bifs h
    refine mv_G_ald rfl rfl (mv_in_ok hi1) ?_
    by_cases hc2 : (I 74 (Int32.toNatClampNeg v1)) ≤ v6
    · rw [if_pos hc2] at h
      refine mv_G_br (tgt := 167) rfl rfl (by decide) (fun _ => ?_) (fun z => absurd hc2 z)
      refine mv_G_run 1 (F' := (168, [some (.ref 59), some (.int v1), some (.int v2), some (.int v3), some (.int v4), some (.int v5), some (.int v6), none], [.int v2], 0, 0, kjS f I L)) rfl ?_
      by_cases hc3 : ¬ v2 = 0
      · rw [if_pos hc3] at h
        refine mv_G_br (tgt := 175) rfl rfl (by decide) (fun _ => ?_) (fun z => absurd hc3 z)
        refine mv_G_run 2 (F' := (177, [some (.ref 59), some (.int v1), some (.int v2), some (.int v3), some (.int v4), some (.int v5), some (.int v6), none], [.int (1 : Int32), .int v2], 0, 0, kjS f I L)) rfl ?_
        by_cases hc4 : ¬ v2 = (1 : Int32)
        · rw [if_pos hc4] at h
          refine mv_G_br (tgt := 185) rfl rfl (by decide) (fun _ => ?_) (fun z => absurd hc4 z)
          refine mv_G_run 1 (F' := (187, [some (.ref 59), some (.int v1), some (.int v2), some (.int v3), some (.int v4), some (.int v5), some (.int v6), none], [.int v5], 0, 0, kjS f I L)) rfl ?_
          obtain rfl := Option.some.inj h
          exact mv_G_ret rfl rfl rfl (Nat.le_refl _) trivial ⟨rfl, rfl⟩
        · rw [if_neg hc4] at h
          refine mv_G_br (tgt := 185) rfl rfl (by decide) (fun z => absurd z hc4) (fun _ => ?_)
          refine mv_G_run 2 (F' := (187, [some (.ref 59), some (.int v1), some (.int v2), some (.int v3), some (.int v4), some (.int v5), some (.int v6), none], [.int v4], 0, 0, kjS f I L)) rfl ?_
          obtain rfl := Option.some.inj h
          exact mv_G_ret rfl rfl rfl (Nat.le_refl _) trivial ⟨rfl, rfl⟩
      · rw [if_neg hc3] at h
        refine mv_G_br (tgt := 175) rfl rfl (by decide) (fun z => absurd z hc3) (fun _ => ?_)
        refine mv_G_run 2 (F' := (187, [some (.ref 59), some (.int v1), some (.int v2), some (.int v3), some (.int v4), some (.int v5), some (.int v6), none], [.int v3], 0, 0, kjS f I L)) rfl ?_
        obtain rfl := Option.some.inj h
        exact mv_G_ret rfl rfl rfl (Nat.le_refl _) trivial ⟨rfl, rfl⟩
    · rw [if_neg hc2] at h
      refine mv_G_br (tgt := 167) rfl rfl (by decide) (fun z => absurd z hc2) (fun _ => ?_)
      refine mv_G_run 7 (F' := (57, [some (.ref 59), some (.int v1), some (.int v2), some (.int v3), some (.int v4), some (.int v5), some (.int v6), none], [.int (((120 : Int32) * v1) + v6), .ref 76], 0, 0, kjS f I L)) rfl ?_
      obtain ⟨hi5, h⟩ := mv_bifs h
      refine mv_G_ald rfl rfl (mv_in_ok hi5) ?_
      by_cases hc6 : ¬ (I 76 (Int32.toNatClampNeg (((120 : Int32) * v1) + v6))) = 0
      · rw [if_pos hc6] at h
        refine mv_G_br (tgt := 64) rfl rfl (by decide) (fun _ => ?_) (fun z => absurd hc6 z)
        refine mv_G_run 4 (F' := (69, [some (.ref 59), some (.int v1), some (.int v2), some (.int v3), some (.int v4), some (.int v5), some (.int v6), none], [.int v6, .int v1, .ref 59, .int v3], 0, 0, kjS f I L)) rfl ?_
        obtain ⟨r7, hc8, h⟩ := mv_bd h
        refine mv_G_call (r := [.int v3]) (kf141_ok _ _ _ _ _ _ _ hc8) rfl rfl rfl rfl rfl (Nat.le_of_ble_eq_true rfl) (Nat.le_of_ble_eq_true rfl) (Nat.le_of_ble_eq_true rfl) ?_
        rintro _ _ ⟨rfl, rfl⟩
        by_cases hc9 : r7 = 0
        · rw [if_pos hc9] at h
          refine mv_G_br (tgt := 79) rfl rfl (by decide) (fun _ => ?_) (fun z => absurd hc9 z)
          refine mv_G_run 1 (F' := (80, [some (.ref 59), some (.int v1), some (.int v2), some (.int v3), some (.int v4), some (.int v5), some (.int v6), none], [.int (0 : Int32), .int v3], 0, 0, kjS f I L)) rfl ?_
          refine mv_G_fg (lc' := [some (.ref 59), some (.int v1), some (.int v2), none, some (.int v4), some (.int v5), some (.int v6), none]) (And.intro rfl (And.intro rfl (And.intro rfl (And.intro rfl (And.intro rfl (And.intro rfl trivial)))))) ?_
          exact kf146_80_ok _ _ _ d hk35 _ _ _ _ _ _ _ _ _ _ h
        · rw [if_neg hc9] at h
          refine mv_G_br (tgt := 79) rfl rfl (by decide) (fun z => absurd z hc9) (fun _ => ?_)
          refine mv_G_run 2 (F' := (80, [some (.ref 59), some (.int v1), some (.int v2), some (.int v3), some (.int v4), some (.int v5), some (.int v6), none], [.int (1 : Int32), .int v3], 0, 0, kjS f I L)) rfl ?_
          refine mv_G_fg (lc' := [some (.ref 59), some (.int v1), some (.int v2), none, some (.int v4), some (.int v5), some (.int v6), none]) (And.intro rfl (And.intro rfl (And.intro rfl (And.intro rfl (And.intro rfl (And.intro rfl trivial)))))) ?_
          exact kf146_80_ok _ _ _ d hk35 _ _ _ _ _ _ _ _ _ _ h
      · rw [if_neg hc6] at h
        refine mv_G_br (tgt := 64) rfl rfl (by decide) (fun z => absurd z hc6) (fun _ => ?_)
        refine mv_G_run 1 (F' := (161, [some (.ref 59), some (.int v1), some (.int v2), some (.int v3), some (.int v4), some (.int v5), some (.int v6), none], [], 0, 0, kjS f I L)) rfl ?_
        exact kf146_161_ok _ _ _ d hk35 _ _ _ _ _ _ _ _ _ h
def kf146 (N : Nat) (v1 : Int32) (v2 : Int32) (I : kjI) (L : kjL) : Option (Int32 × kjI × kjL) :=
  (kf139 (mv_up I 59 0 (0 : Int32)) L v1).bind fun r1 => if r1 = 0 then (some ((-1 : Int32), (mv_up I 59 0 (0 : Int32)), L)) else ((kf102 (mv_up I 59 0 (0 : Int32)) L v2 (0 : Int32) (2 : Int32)).bind fun r4 => if ¬ r4 = 0 then (kf146_35 N N v1 v2 (0 : Int32) (0 : Int32) (0 : Int32) (0 : Int32) (mv_up I 59 0 (0 : Int32)) L) else (some ((-1 : Int32), (mv_up I 59 0 (0 : Int32)), L)))
set_option maxRecDepth 100000 in
set_option maxHeartbeats 4000000 in
theorem kf146_ok (f : Bool) (N : Nat) (v1 : Int32) (v2 : Int32) (I : kjI) (L : kjL) (d : Nat) (r : Int32 × kjI × kjL) (h : kf146 N v1 v2 I L = some r) : mv_C kjP kjSta (d + 3) 146 [.ref 59, .int v1, .int v2] (kjS f I L) (kjQwi f r) := by
  unfold kf146 at h
  refine mv_C_in kjM_146 (lc := [some (.ref 59), some (.int v1), some (.int v2), none, none, none, none, none]) rfl rfl rfl ?_
  refine mv_G_run 5 (F' := (7, [some (.ref 59), some (.int v1), some (.int v2), none, none, none, none, none], [.int v1, .ref 59], 0, 0, kjS f (mv_up I 59 0 (0 : Int32)) L)) rfl ?_
  obtain ⟨r1, hc2, h⟩ := mv_bd h
  refine mv_G_call (r := []) (kf139_ok _ _ _ _ _ _ hc2) rfl rfl rfl rfl rfl (Nat.le_of_ble_eq_true rfl) (Nat.le_of_ble_eq_true rfl) (Nat.le_of_ble_eq_true rfl) ?_
  rintro _ _ ⟨rfl, rfl⟩
  by_cases hc3 : r1 = 0
  · rw [if_pos hc3] at h
    refine mv_G_br (tgt := 22) rfl rfl (by decide) (fun _ => ?_) (fun z => absurd hc3 z)
    refine mv_G_run 1 (F' := (23, [some (.ref 59), some (.int v1), some (.int v2), none, none, none, none, none], [.int (-1 : Int32)], 0, 0, kjS f (mv_up I 59 0 (0 : Int32)) L)) rfl ?_
    obtain rfl := Option.some.inj h
    exact mv_G_ret rfl rfl rfl (Nat.le_refl _) trivial ⟨rfl, rfl⟩
  · rw [if_neg hc3] at h
    refine mv_G_br (tgt := 22) rfl rfl (by decide) (fun z => absurd z hc3) (fun _ => ?_)
    refine mv_G_run 3 (F' := (16, [some (.ref 59), some (.int v1), some (.int v2), none, none, none, none, none], [.int (2 : Int32), .int (0 : Int32), .int v2], 0, 0, kjS f (mv_up I 59 0 (0 : Int32)) L)) rfl ?_
    obtain ⟨r4, hc5, h⟩ := mv_bd h
    refine mv_G_call (r := []) (kf102_ok _ _ _ _ _ _ _ _ hc5) rfl rfl rfl rfl rfl (Nat.le_of_ble_eq_true rfl) (Nat.le_of_ble_eq_true rfl) (Nat.le_of_ble_eq_true rfl) ?_
    rintro _ _ ⟨rfl, rfl⟩
    by_cases hc6 : ¬ r4 = 0
    · rw [if_pos hc6] at h
      refine mv_G_br (tgt := 24) rfl rfl (by decide) (fun _ => ?_) (fun z => absurd hc6 z)
      refine mv_G_run 8 (F' := (35, [some (.ref 59), some (.int v1), some (.int v2), some (.int (0 : Int32)), some (.int (0 : Int32)), some (.int (0 : Int32)), some (.int (0 : Int32)), none], [], 0, 0, kjS f (mv_up I 59 0 (0 : Int32)) L)) rfl ?_
      exact kf146_35_ok _ _ d _ _ _ _ _ _ _ _ _ _ h
    · rw [if_neg hc6] at h
      refine mv_G_br (tgt := 24) rfl rfl (by decide) (fun z => absurd z hc6) (fun _ => ?_)
      refine mv_G_run 1 (F' := (23, [some (.ref 59), some (.int v1), some (.int v2), none, none, none, none, none], [.int (-1 : Int32)], 0, 0, kjS f (mv_up I 59 0 (0 : Int32)) L)) rfl ?_
      obtain rfl := Option.some.inj h
      exact mv_G_ret rfl rfl rfl (Nat.le_refl _) trivial ⟨rfl, rfl⟩
/-! KindJudgeModel.isKind(I)Z on ('c', 59) -/
def kf147 (I : kjI) (L : kjL) (v1 : Int32) : Option (Int32) :=
  if v1 = (1 : Int32) then (some (1 : Int32)) else (if v1 = (2 : Int32) then (some (1 : Int32)) else (if v1 = (3 : Int32) then (some (1 : Int32)) else (if v1 = (15 : Int32) then (some (1 : Int32)) else ((kf102 I L v1 (16 : Int32) (((16 : Int32) + (I 59 12)) - (1 : Int32))).bind fun r5 => if r5 = 0 then (some (0 : Int32)) else (some (1 : Int32))))))
set_option maxRecDepth 100000 in
set_option maxHeartbeats 4000000 in
theorem kf147_ok (f : Bool) (I : kjI) (L : kjL) (v1 : Int32) (d : Nat) (r : Int32) (h : kf147 I L v1 = some r) : mv_C kjP kjSta (d + 2) 147 [.ref 59, .int v1] (kjS f I L) (kjQi f I L r) := by
  unfold kf147 at h
  refine mv_C_in kjM_147 (lc := [some (.ref 59), some (.int v1)]) rfl rfl rfl ?_
  refine mv_G_run 2 (F' := (2, [some (.ref 59), some (.int v1)], [.int (1 : Int32), .int v1], 0, 0, kjS f I L)) rfl ?_
  by_cases hc1 : v1 = (1 : Int32)
  · rw [if_pos hc1] at h
    refine mv_G_br (tgt := 39) rfl rfl (by decide) (fun _ => ?_) (fun z => absurd hc1 z)
    refine mv_G_run 2 (F' := (44, [some (.ref 59), some (.int v1)], [.int (1 : Int32)], 0, 0, kjS f I L)) rfl ?_
    obtain rfl := Option.some.inj h
    exact mv_G_ret rfl rfl rfl (Nat.le_refl _) (Or.inr rfl) ⟨rfl, rfl⟩
  · rw [if_neg hc1] at h
    refine mv_G_br (tgt := 39) rfl rfl (by decide) (fun z => absurd z hc1) (fun _ => ?_)
    refine mv_G_run 2 (F' := (7, [some (.ref 59), some (.int v1)], [.int (2 : Int32), .int v1], 0, 0, kjS f I L)) rfl ?_
    by_cases hc2 : v1 = (2 : Int32)
    · rw [if_pos hc2] at h
      refine mv_G_br (tgt := 39) rfl rfl (by decide) (fun _ => ?_) (fun z => absurd hc2 z)
      refine mv_G_run 2 (F' := (44, [some (.ref 59), some (.int v1)], [.int (1 : Int32)], 0, 0, kjS f I L)) rfl ?_
      obtain rfl := Option.some.inj h
      exact mv_G_ret rfl rfl rfl (Nat.le_refl _) (Or.inr rfl) ⟨rfl, rfl⟩
    · rw [if_neg hc2] at h
      refine mv_G_br (tgt := 39) rfl rfl (by decide) (fun z => absurd z hc2) (fun _ => ?_)
      refine mv_G_run 2 (F' := (12, [some (.ref 59), some (.int v1)], [.int (3 : Int32), .int v1], 0, 0, kjS f I L)) rfl ?_
      by_cases hc3 : v1 = (3 : Int32)
      · rw [if_pos hc3] at h
        refine mv_G_br (tgt := 39) rfl rfl (by decide) (fun _ => ?_) (fun z => absurd hc3 z)
        refine mv_G_run 2 (F' := (44, [some (.ref 59), some (.int v1)], [.int (1 : Int32)], 0, 0, kjS f I L)) rfl ?_
        obtain rfl := Option.some.inj h
        exact mv_G_ret rfl rfl rfl (Nat.le_refl _) (Or.inr rfl) ⟨rfl, rfl⟩
      · rw [if_neg hc3] at h
        refine mv_G_br (tgt := 39) rfl rfl (by decide) (fun z => absurd z hc3) (fun _ => ?_)
        refine mv_G_run 2 (F' := (18, [some (.ref 59), some (.int v1)], [.int (15 : Int32), .int v1], 0, 0, kjS f I L)) rfl ?_
        by_cases hc4 : v1 = (15 : Int32)
        · rw [if_pos hc4] at h
          refine mv_G_br (tgt := 39) rfl rfl (by decide) (fun _ => ?_) (fun z => absurd hc4 z)
          refine mv_G_run 2 (F' := (44, [some (.ref 59), some (.int v1)], [.int (1 : Int32)], 0, 0, kjS f I L)) rfl ?_
          obtain rfl := Option.some.inj h
          exact mv_G_ret rfl rfl rfl (Nat.le_refl _) (Or.inr rfl) ⟨rfl, rfl⟩
        · rw [if_neg hc4] at h
          refine mv_G_br (tgt := 39) rfl rfl (by decide) (fun z => absurd z hc4) (fun _ => ?_)
          refine mv_G_run 8 (F' := (33, [some (.ref 59), some (.int v1)], [.int (((16 : Int32) + (I 59 12)) - (1 : Int32)), .int (16 : Int32), .int v1], 0, 0, kjS f I L)) rfl ?_
          obtain ⟨r5, hc6, h⟩ := mv_bd h
          refine mv_G_call (r := []) (kf102_ok _ _ _ _ _ _ _ _ hc6) rfl rfl rfl rfl rfl (Nat.le_of_ble_eq_true rfl) (Nat.le_of_ble_eq_true rfl) (Nat.le_of_ble_eq_true rfl) ?_
          rintro _ _ ⟨rfl, rfl⟩
          by_cases hc7 : r5 = 0
          · rw [if_pos hc7] at h
            refine mv_G_br (tgt := 43) rfl rfl (by decide) (fun _ => ?_) (fun z => absurd hc7 z)
            refine mv_G_run 1 (F' := (44, [some (.ref 59), some (.int v1)], [.int (0 : Int32)], 0, 0, kjS f I L)) rfl ?_
            obtain rfl := Option.some.inj h
            exact mv_G_ret rfl rfl rfl (Nat.le_refl _) (Or.inl rfl) ⟨rfl, rfl⟩
          · rw [if_neg hc7] at h
            refine mv_G_br (tgt := 43) rfl rfl (by decide) (fun z => absurd z hc7) (fun _ => ?_)
            refine mv_G_run 2 (F' := (44, [some (.ref 59), some (.int v1)], [.int (1 : Int32)], 0, 0, kjS f I L)) rfl ?_
            obtain rfl := Option.some.inj h
            exact mv_G_ret rfl rfl rfl (Nat.le_refl _) (Or.inr rfl) ⟨rfl, rfl⟩
/-! KindJudgeModel.fits(II)I on ('c', 59) -/
def kf148 (N : Nat) (v1 : Int32) (v2 : Int32) (I : kjI) (L : kjL) : Option (Int32 × kjI × kjL) :=
  if ((mv_up I 59 0 (0 : Int32)) 59 8) = 0 then (some ((-1 : Int32), (mv_up I 59 0 (0 : Int32)), L)) else ((kf147 (mv_up I 59 0 (0 : Int32)) L v1).bind fun r2 => if r2 = 0 then (some ((-1 : Int32), (mv_up I 59 0 (0 : Int32)), L)) else ((kf147 (mv_up I 59 0 (0 : Int32)) L v2).bind fun r5 => if r5 = 0 then (some ((-1 : Int32), (mv_up I 59 0 (0 : Int32)), L)) else (if ¬ v2 = (3 : Int32) then ((kf135 N (mv_up I 59 0 (0 : Int32)) L v1 v2).bind fun r9 => if ¬ r9 = 0 then (some ((1 : Int32), (mv_up I 59 0 (0 : Int32)), L)) else (if ¬ v2 = (15 : Int32) then (some ((0 : Int32), (mv_up I 59 0 (0 : Int32)), L)) else (if v1 < (16 : Int32) then (some ((0 : Int32), (mv_up I 59 0 (0 : Int32)), L)) else (some ((1 : Int32), (mv_up I 59 0 (0 : Int32)), L))))) else (some ((-1 : Int32), (mv_up I 59 0 (0 : Int32)), L)))))
set_option maxRecDepth 100000 in
set_option maxHeartbeats 4000000 in
theorem kf148_ok (f : Bool) (N : Nat) (v1 : Int32) (v2 : Int32) (I : kjI) (L : kjL) (d : Nat) (r : Int32 × kjI × kjL) (h : kf148 N v1 v2 I L = some r) : mv_C kjP kjSta (d + 3) 148 [.ref 59, .int v1, .int v2] (kjS f I L) (kjQwi f r) := by
  unfold kf148 at h
  refine mv_C_in kjM_148 (lc := [some (.ref 59), some (.int v1), some (.int v2)]) rfl rfl rfl ?_
  refine mv_G_run 5 (F' := (9, [some (.ref 59), some (.int v1), some (.int v2)], [.int ((mv_up I 59 0 (0 : Int32)) 59 8)], 0, 0, kjS f (mv_up I 59 0 (0 : Int32)) L)) rfl ?_
  by_cases hc1 : ((mv_up I 59 0 (0 : Int32)) 59 8) = 0
  · rw [if_pos hc1] at h
    refine mv_G_br (tgt := 33) rfl rfl (by decide) (fun _ => ?_) (fun z => absurd hc1 z)
    refine mv_G_run 1 (F' := (34, [some (.ref 59), some (.int v1), some (.int v2)], [.int (-1 : Int32)], 0, 0, kjS f (mv_up I 59 0 (0 : Int32)) L)) rfl ?_
    obtain rfl := Option.some.inj h
    exact mv_G_ret rfl rfl rfl (Nat.le_refl _) trivial ⟨rfl, rfl⟩
  · rw [if_neg hc1] at h
    refine mv_G_br (tgt := 33) rfl rfl (by decide) (fun z => absurd z hc1) (fun _ => ?_)
    refine mv_G_run 2 (F' := (14, [some (.ref 59), some (.int v1), some (.int v2)], [.int v1, .ref 59], 0, 0, kjS f (mv_up I 59 0 (0 : Int32)) L)) rfl ?_
    obtain ⟨r2, hc3, h⟩ := mv_bd h
    refine mv_G_call (r := []) (kf147_ok _ _ _ _ _ _ hc3) rfl rfl rfl rfl rfl (Nat.le_of_ble_eq_true rfl) (Nat.le_of_ble_eq_true rfl) (Nat.le_of_ble_eq_true rfl) ?_
    rintro _ _ ⟨rfl, rfl⟩
    by_cases hc4 : r2 = 0
    · rw [if_pos hc4] at h
      refine mv_G_br (tgt := 33) rfl rfl (by decide) (fun _ => ?_) (fun z => absurd hc4 z)
      refine mv_G_run 1 (F' := (34, [some (.ref 59), some (.int v1), some (.int v2)], [.int (-1 : Int32)], 0, 0, kjS f (mv_up I 59 0 (0 : Int32)) L)) rfl ?_
      obtain rfl := Option.some.inj h
      exact mv_G_ret rfl rfl rfl (Nat.le_refl _) trivial ⟨rfl, rfl⟩
    · rw [if_neg hc4] at h
      refine mv_G_br (tgt := 33) rfl rfl (by decide) (fun z => absurd z hc4) (fun _ => ?_)
      refine mv_G_run 2 (F' := (22, [some (.ref 59), some (.int v1), some (.int v2)], [.int v2, .ref 59], 0, 0, kjS f (mv_up I 59 0 (0 : Int32)) L)) rfl ?_
      obtain ⟨r5, hc6, h⟩ := mv_bd h
      refine mv_G_call (r := []) (kf147_ok _ _ _ _ _ _ hc6) rfl rfl rfl rfl rfl (Nat.le_of_ble_eq_true rfl) (Nat.le_of_ble_eq_true rfl) (Nat.le_of_ble_eq_true rfl) ?_
      rintro _ _ ⟨rfl, rfl⟩
      by_cases hc7 : r5 = 0
      · rw [if_pos hc7] at h
        refine mv_G_br (tgt := 33) rfl rfl (by decide) (fun _ => ?_) (fun z => absurd hc7 z)
        refine mv_G_run 1 (F' := (34, [some (.ref 59), some (.int v1), some (.int v2)], [.int (-1 : Int32)], 0, 0, kjS f (mv_up I 59 0 (0 : Int32)) L)) rfl ?_
        obtain rfl := Option.some.inj h
        exact mv_G_ret rfl rfl rfl (Nat.le_refl _) trivial ⟨rfl, rfl⟩
      · rw [if_neg hc7] at h
        refine mv_G_br (tgt := 33) rfl rfl (by decide) (fun z => absurd z hc7) (fun _ => ?_)
        refine mv_G_run 2 (F' := (30, [some (.ref 59), some (.int v1), some (.int v2)], [.int (3 : Int32), .int v2], 0, 0, kjS f (mv_up I 59 0 (0 : Int32)) L)) rfl ?_
        by_cases hc8 : ¬ v2 = (3 : Int32)
        · rw [if_pos hc8] at h
          refine mv_G_br (tgt := 35) rfl rfl (by decide) (fun _ => ?_) (fun z => absurd hc8 z)
          refine mv_G_run 3 (F' := (38, [some (.ref 59), some (.int v1), some (.int v2)], [.int v2, .int v1, .ref 59], 0, 0, kjS f (mv_up I 59 0 (0 : Int32)) L)) rfl ?_
          obtain ⟨r9, hc10, h⟩ := mv_bd h
          refine mv_G_call (r := []) (kf135_ok _ _ _ _ _ _ _ _ hc10) rfl rfl rfl rfl rfl (Nat.le_of_ble_eq_true rfl) (Nat.le_of_ble_eq_true rfl) (Nat.le_of_ble_eq_true rfl) ?_
          rintro _ _ ⟨rfl, rfl⟩
          by_cases hc11 : ¬ r9 = 0
          · rw [if_pos hc11] at h
            refine mv_G_br (tgt := 56) rfl rfl (by decide) (fun _ => ?_) (fun z => absurd hc11 z)
            refine mv_G_run 2 (F' := (61, [some (.ref 59), some (.int v1), some (.int v2)], [.int (1 : Int32)], 0, 0, kjS f (mv_up I 59 0 (0 : Int32)) L)) rfl ?_
            obtain rfl := Option.some.inj h
            exact mv_G_ret rfl rfl rfl (Nat.le_refl _) trivial ⟨rfl, rfl⟩
          · rw [if_neg hc11] at h
            refine mv_G_br (tgt := 56) rfl rfl (by decide) (fun z => absurd z hc11) (fun _ => ?_)
            refine mv_G_run 2 (F' := (47, [some (.ref 59), some (.int v1), some (.int v2)], [.int (15 : Int32), .int v2], 0, 0, kjS f (mv_up I 59 0 (0 : Int32)) L)) rfl ?_
            by_cases hc12 : ¬ v2 = (15 : Int32)
            · rw [if_pos hc12] at h
              refine mv_G_br (tgt := 60) rfl rfl (by decide) (fun _ => ?_) (fun z => absurd hc12 z)
              refine mv_G_run 1 (F' := (61, [some (.ref 59), some (.int v1), some (.int v2)], [.int (0 : Int32)], 0, 0, kjS f (mv_up I 59 0 (0 : Int32)) L)) rfl ?_
              obtain rfl := Option.some.inj h
              exact mv_G_ret rfl rfl rfl (Nat.le_refl _) trivial ⟨rfl, rfl⟩
            · rw [if_neg hc12] at h
              refine mv_G_br (tgt := 60) rfl rfl (by decide) (fun z => absurd z hc12) (fun _ => ?_)
              refine mv_G_run 2 (F' := (53, [some (.ref 59), some (.int v1), some (.int v2)], [.int (16 : Int32), .int v1], 0, 0, kjS f (mv_up I 59 0 (0 : Int32)) L)) rfl ?_
              by_cases hc13 : v1 < (16 : Int32)
              · rw [if_pos hc13] at h
                refine mv_G_br (tgt := 60) rfl rfl (by decide) (fun _ => ?_) (fun z => absurd hc13 z)
                refine mv_G_run 1 (F' := (61, [some (.ref 59), some (.int v1), some (.int v2)], [.int (0 : Int32)], 0, 0, kjS f (mv_up I 59 0 (0 : Int32)) L)) rfl ?_
                obtain rfl := Option.some.inj h
                exact mv_G_ret rfl rfl rfl (Nat.le_refl _) trivial ⟨rfl, rfl⟩
              · rw [if_neg hc13] at h
                refine mv_G_br (tgt := 60) rfl rfl (by decide) (fun z => absurd z hc13) (fun _ => ?_)
                refine mv_G_run 2 (F' := (61, [some (.ref 59), some (.int v1), some (.int v2)], [.int (1 : Int32)], 0, 0, kjS f (mv_up I 59 0 (0 : Int32)) L)) rfl ?_
                obtain rfl := Option.some.inj h
                exact mv_G_ret rfl rfl rfl (Nat.le_refl _) trivial ⟨rfl, rfl⟩
        · rw [if_neg hc8] at h
          refine mv_G_br (tgt := 35) rfl rfl (by decide) (fun z => absurd z hc8) (fun _ => ?_)
          refine mv_G_run 1 (F' := (34, [some (.ref 59), some (.int v1), some (.int v2)], [.int (-1 : Int32)], 0, 0, kjS f (mv_up I 59 0 (0 : Int32)) L)) rfl ?_
          obtain rfl := Option.some.inj h
          exact mv_G_ret rfl rfl rfl (Nat.le_refl _) trivial ⟨rfl, rfl⟩
/-! KindJudgeModel.meet(II)I on ('c', 59) -/
def kf149_36 (N : Nat) (v1 : Int32) (v2 : Int32) (I : kjI) (L : kjL) : Option (Int32 × kjI × kjL) :=
  (kf126 N I L v1 v2).bind fun r1 => some (r1, I, L)
set_option maxRecDepth 100000 in
set_option maxHeartbeats 4000000 in
theorem kf149_36_ok (f : Bool) (N : Nat) (d : Nat)  (v1 : Int32) (v2 : Int32) (I : kjI) (L : kjL) (r : Int32 × kjI × kjL) (h : kf149_36 N v1 v2 I L = some r) : mv_G kjP kjSta (mv_C kjP kjSta (d + 3)) kjM_149 (kjQwi f r) (36, [some (.ref 59), some (.int v1), some (.int v2)], [], 0, 0, kjS f I L) := by
  unfold kf149_36 at h
  refine mv_G_run 3 (F' := (39, [some (.ref 59), some (.int v1), some (.int v2)], [.int v2, .int v1, .ref 59], 0, 0, kjS f I L)) rfl ?_
  obtain ⟨r1, hc2, h⟩ := mv_bd h
  refine mv_G_call (r := []) (kf126_ok _ _ _ _ _ _ _ _ hc2) rfl rfl rfl rfl rfl (Nat.le_of_ble_eq_true rfl) (Nat.le_of_ble_eq_true rfl) (Nat.le_of_ble_eq_true rfl) ?_
  rintro _ _ ⟨rfl, rfl⟩
  refine mv_G_run 1 (F' := (46, [some (.ref 59), some (.int v1), some (.int v2)], [.int r1], 0, 0, kjS f I L)) rfl ?_
  obtain rfl := Option.some.inj h
  exact mv_G_ret rfl rfl rfl (Nat.le_refl _) trivial ⟨rfl, rfl⟩
def kf149_24 (N : Nat) (v1 : Int32) (v2 : Int32) (I : kjI) (L : kjL) : Option (Int32 × kjI × kjL) :=
  if v2 = 0 then (kf149_36 N v1 v2 I L) else ((kf147 I L v2).bind fun r2 => if r2 = 0 then (some ((-1 : Int32), I, L)) else (kf149_36 N v1 v2 I L))
set_option maxRecDepth 100000 in
set_option maxHeartbeats 4000000 in
theorem kf149_24_ok (f : Bool) (N : Nat) (d : Nat)  (v1 : Int32) (v2 : Int32) (I : kjI) (L : kjL) (r : Int32 × kjI × kjL) (h : kf149_24 N v1 v2 I L = some r) : mv_G kjP kjSta (mv_C kjP kjSta (d + 3)) kjM_149 (kjQwi f r) (24, [some (.ref 59), some (.int v1), some (.int v2)], [], 0, 0, kjS f I L) := by
  unfold kf149_24 at h
  refine mv_G_run 1 (F' := (25, [some (.ref 59), some (.int v1), some (.int v2)], [.int v2], 0, 0, kjS f I L)) rfl ?_
  by_cases hc1 : v2 = 0
  · rw [if_pos hc1] at h
    refine mv_G_br (tgt := 36) rfl rfl (by decide) (fun _ => ?_) (fun z => absurd hc1 z)
    exact kf149_36_ok _ _ d _ _ _ _ _ h
  · rw [if_neg hc1] at h
    refine mv_G_br (tgt := 36) rfl rfl (by decide) (fun z => absurd z hc1) (fun _ => ?_)
    refine mv_G_run 2 (F' := (30, [some (.ref 59), some (.int v1), some (.int v2)], [.int v2, .ref 59], 0, 0, kjS f I L)) rfl ?_
    obtain ⟨r2, hc3, h⟩ := mv_bd h
    refine mv_G_call (r := []) (kf147_ok _ _ _ _ _ _ hc3) rfl rfl rfl rfl rfl (Nat.le_of_ble_eq_true rfl) (Nat.le_of_ble_eq_true rfl) (Nat.le_of_ble_eq_true rfl) ?_
    rintro _ _ ⟨rfl, rfl⟩
    by_cases hc4 : r2 = 0
    · rw [if_pos hc4] at h
      refine mv_G_br (tgt := 45) rfl rfl (by decide) (fun _ => ?_) (fun z => absurd hc4 z)
      refine mv_G_run 1 (F' := (46, [some (.ref 59), some (.int v1), some (.int v2)], [.int (-1 : Int32)], 0, 0, kjS f I L)) rfl ?_
      obtain rfl := Option.some.inj h
      exact mv_G_ret rfl rfl rfl (Nat.le_refl _) trivial ⟨rfl, rfl⟩
    · rw [if_neg hc4] at h
      refine mv_G_br (tgt := 45) rfl rfl (by decide) (fun z => absurd z hc4) (fun _ => ?_)
      exact kf149_36_ok _ _ d _ _ _ _ _ h
def kf149 (N : Nat) (v1 : Int32) (v2 : Int32) (I : kjI) (L : kjL) : Option (Int32 × kjI × kjL) :=
  if ((mv_up I 59 0 (0 : Int32)) 59 8) = 0 then (some ((-1 : Int32), (mv_up I 59 0 (0 : Int32)), L)) else (if v1 = 0 then (kf149_24 N v1 v2 (mv_up I 59 0 (0 : Int32)) L) else ((kf147 (mv_up I 59 0 (0 : Int32)) L v1).bind fun r3 => if r3 = 0 then (some ((-1 : Int32), (mv_up I 59 0 (0 : Int32)), L)) else (kf149_24 N v1 v2 (mv_up I 59 0 (0 : Int32)) L)))
set_option maxRecDepth 100000 in
set_option maxHeartbeats 4000000 in
theorem kf149_ok (f : Bool) (N : Nat) (v1 : Int32) (v2 : Int32) (I : kjI) (L : kjL) (d : Nat) (r : Int32 × kjI × kjL) (h : kf149 N v1 v2 I L = some r) : mv_C kjP kjSta (d + 4) 149 [.ref 59, .int v1, .int v2] (kjS f I L) (kjQwi f r) := by
  unfold kf149 at h
  refine mv_C_in kjM_149 (lc := [some (.ref 59), some (.int v1), some (.int v2)]) rfl rfl rfl ?_
  refine mv_G_run 5 (F' := (9, [some (.ref 59), some (.int v1), some (.int v2)], [.int ((mv_up I 59 0 (0 : Int32)) 59 8)], 0, 0, kjS f (mv_up I 59 0 (0 : Int32)) L)) rfl ?_
  by_cases hc1 : ((mv_up I 59 0 (0 : Int32)) 59 8) = 0
  · rw [if_pos hc1] at h
    refine mv_G_br (tgt := 45) rfl rfl (by decide) (fun _ => ?_) (fun z => absurd hc1 z)
    refine mv_G_run 1 (F' := (46, [some (.ref 59), some (.int v1), some (.int v2)], [.int (-1 : Int32)], 0, 0, kjS f (mv_up I 59 0 (0 : Int32)) L)) rfl ?_
    obtain rfl := Option.some.inj h
    exact mv_G_ret rfl rfl rfl (Nat.le_refl _) trivial ⟨rfl, rfl⟩
  · rw [if_neg hc1] at h
    refine mv_G_br (tgt := 45) rfl rfl (by decide) (fun z => absurd z hc1) (fun _ => ?_)
    refine mv_G_run 1 (F' := (13, [some (.ref 59), some (.int v1), some (.int v2)], [.int v1], 0, 0, kjS f (mv_up I 59 0 (0 : Int32)) L)) rfl ?_
    by_cases hc2 : v1 = 0
    · rw [if_pos hc2] at h
      refine mv_G_br (tgt := 24) rfl rfl (by decide) (fun _ => ?_) (fun z => absurd hc2 z)
      exact kf149_24_ok _ _ d _ _ _ _ _ h
    · rw [if_neg hc2] at h
      refine mv_G_br (tgt := 24) rfl rfl (by decide) (fun z => absurd z hc2) (fun _ => ?_)
      refine mv_G_run 2 (F' := (18, [some (.ref 59), some (.int v1), some (.int v2)], [.int v1, .ref 59], 0, 0, kjS f (mv_up I 59 0 (0 : Int32)) L)) rfl ?_
      obtain ⟨r3, hc4, h⟩ := mv_bd h
      refine mv_G_call (r := []) (kf147_ok _ _ _ _ _ _ hc4) rfl rfl rfl rfl rfl (Nat.le_of_ble_eq_true rfl) (Nat.le_of_ble_eq_true rfl) (Nat.le_of_ble_eq_true rfl) ?_
      rintro _ _ ⟨rfl, rfl⟩
      by_cases hc5 : r3 = 0
      · rw [if_pos hc5] at h
        refine mv_G_br (tgt := 45) rfl rfl (by decide) (fun _ => ?_) (fun z => absurd hc5 z)
        refine mv_G_run 1 (F' := (46, [some (.ref 59), some (.int v1), some (.int v2)], [.int (-1 : Int32)], 0, 0, kjS f (mv_up I 59 0 (0 : Int32)) L)) rfl ?_
        obtain rfl := Option.some.inj h
        exact mv_G_ret rfl rfl rfl (Nat.le_refl _) trivial ⟨rfl, rfl⟩
      · rw [if_neg hc5] at h
        refine mv_G_br (tgt := 45) rfl rfl (by decide) (fun z => absurd z hc5) (fun _ => ?_)
        exact kf149_24_ok _ _ d _ _ _ _ _ h
/-! KindJudgeModel.method(II)I on ('c', 59) -/
def kf150 (N : Nat) (v1 : Int32) (v2 : Int32) (I : kjI) (L : kjL) : Option (Int32 × kjI × kjL) :=
  if ((mv_up I 59 0 (0 : Int32)) 59 8) = 0 then (some ((-1 : Int32), (mv_up I 59 0 (0 : Int32)), L)) else ((kf102 (mv_up I 59 0 (0 : Int32)) L v1 (0 : Int32) (((mv_up I 59 0 (0 : Int32)) 59 12) - (1 : Int32))).bind fun r2 => if r2 = 0 then (some ((-1 : Int32), (mv_up I 59 0 (0 : Int32)), L)) else ((kf102 (mv_up I 59 0 (0 : Int32)) L v2 (0 : Int32) (((mv_up I 59 0 (0 : Int32)) 59 16) - (1 : Int32))).bind fun r5 => if r5 = 0 then (some ((-1 : Int32), (mv_up I 59 0 (0 : Int32)), L)) else ((kf125 N (mv_up I 59 0 (0 : Int32)) L v1 v2).bind fun r8 => some (r8, (mv_up I 59 0 (0 : Int32)), L))))
set_option maxRecDepth 100000 in
set_option maxHeartbeats 4000000 in
theorem kf150_ok (f : Bool) (N : Nat) (v1 : Int32) (v2 : Int32) (I : kjI) (L : kjL) (d : Nat) (r : Int32 × kjI × kjL) (h : kf150 N v1 v2 I L = some r) : mv_C kjP kjSta (d + 2) 150 [.ref 59, .int v1, .int v2] (kjS f I L) (kjQwi f r) := by
  unfold kf150 at h
  refine mv_C_in kjM_150 (lc := [some (.ref 59), some (.int v1), some (.int v2)]) rfl rfl rfl ?_
  refine mv_G_run 5 (F' := (9, [some (.ref 59), some (.int v1), some (.int v2)], [.int ((mv_up I 59 0 (0 : Int32)) 59 8)], 0, 0, kjS f (mv_up I 59 0 (0 : Int32)) L)) rfl ?_
  by_cases hc1 : ((mv_up I 59 0 (0 : Int32)) 59 8) = 0
  · rw [if_pos hc1] at h
    refine mv_G_br (tgt := 49) rfl rfl (by decide) (fun _ => ?_) (fun z => absurd hc1 z)
    refine mv_G_run 1 (F' := (50, [some (.ref 59), some (.int v1), some (.int v2)], [.int (-1 : Int32)], 0, 0, kjS f (mv_up I 59 0 (0 : Int32)) L)) rfl ?_
    obtain rfl := Option.some.inj h
    exact mv_G_ret rfl rfl rfl (Nat.le_refl _) trivial ⟨rfl, rfl⟩
  · rw [if_neg hc1] at h
    refine mv_G_br (tgt := 49) rfl rfl (by decide) (fun z => absurd z hc1) (fun _ => ?_)
    refine mv_G_run 6 (F' := (20, [some (.ref 59), some (.int v1), some (.int v2)], [.int (((mv_up I 59 0 (0 : Int32)) 59 12) - (1 : Int32)), .int (0 : Int32), .int v1], 0, 0, kjS f (mv_up I 59 0 (0 : Int32)) L)) rfl ?_
    obtain ⟨r2, hc3, h⟩ := mv_bd h
    refine mv_G_call (r := []) (kf102_ok _ _ _ _ _ _ _ _ hc3) rfl rfl rfl rfl rfl (Nat.le_of_ble_eq_true rfl) (Nat.le_of_ble_eq_true rfl) (Nat.le_of_ble_eq_true rfl) ?_
    rintro _ _ ⟨rfl, rfl⟩
    by_cases hc4 : r2 = 0
    · rw [if_pos hc4] at h
      refine mv_G_br (tgt := 49) rfl rfl (by decide) (fun _ => ?_) (fun z => absurd hc4 z)
      refine mv_G_run 1 (F' := (50, [some (.ref 59), some (.int v1), some (.int v2)], [.int (-1 : Int32)], 0, 0, kjS f (mv_up I 59 0 (0 : Int32)) L)) rfl ?_
      obtain rfl := Option.some.inj h
      exact mv_G_ret rfl rfl rfl (Nat.le_refl _) trivial ⟨rfl, rfl⟩
    · rw [if_neg hc4] at h
      refine mv_G_br (tgt := 49) rfl rfl (by decide) (fun z => absurd z hc4) (fun _ => ?_)
      refine mv_G_run 6 (F' := (34, [some (.ref 59), some (.int v1), some (.int v2)], [.int (((mv_up I 59 0 (0 : Int32)) 59 16) - (1 : Int32)), .int (0 : Int32), .int v2], 0, 0, kjS f (mv_up I 59 0 (0 : Int32)) L)) rfl ?_
      obtain ⟨r5, hc6, h⟩ := mv_bd h
      refine mv_G_call (r := []) (kf102_ok _ _ _ _ _ _ _ _ hc6) rfl rfl rfl rfl rfl (Nat.le_of_ble_eq_true rfl) (Nat.le_of_ble_eq_true rfl) (Nat.le_of_ble_eq_true rfl) ?_
      rintro _ _ ⟨rfl, rfl⟩
      by_cases hc7 : r5 = 0
      · rw [if_pos hc7] at h
        refine mv_G_br (tgt := 49) rfl rfl (by decide) (fun _ => ?_) (fun z => absurd hc7 z)
        refine mv_G_run 1 (F' := (50, [some (.ref 59), some (.int v1), some (.int v2)], [.int (-1 : Int32)], 0, 0, kjS f (mv_up I 59 0 (0 : Int32)) L)) rfl ?_
        obtain rfl := Option.some.inj h
        exact mv_G_ret rfl rfl rfl (Nat.le_refl _) trivial ⟨rfl, rfl⟩
      · rw [if_neg hc7] at h
        refine mv_G_br (tgt := 49) rfl rfl (by decide) (fun z => absurd z hc7) (fun _ => ?_)
        refine mv_G_run 3 (F' := (43, [some (.ref 59), some (.int v1), some (.int v2)], [.int v2, .int v1, .ref 59], 0, 0, kjS f (mv_up I 59 0 (0 : Int32)) L)) rfl ?_
        obtain ⟨r8, hc9, h⟩ := mv_bd h
        refine mv_G_call (r := []) (kf125_ok _ _ _ _ _ _ _ _ hc9) rfl rfl rfl rfl rfl (Nat.le_of_ble_eq_true rfl) (Nat.le_of_ble_eq_true rfl) (Nat.le_of_ble_eq_true rfl) ?_
        rintro _ _ ⟨rfl, rfl⟩
        refine mv_G_run 1 (F' := (50, [some (.ref 59), some (.int v1), some (.int v2)], [.int r8], 0, 0, kjS f (mv_up I 59 0 (0 : Int32)) L)) rfl ?_
        obtain rfl := Option.some.inj h
        exact mv_G_ret rfl rfl rfl (Nat.le_refl _) trivial ⟨rfl, rfl⟩
/-! KindJudgeModel.type(II)I on ('c', 59) -/
def kf151 (v1 : Int32) (v2 : Int32) (I : kjI) (L : kjL) : Option (Int32 × kjI × kjL) :=
  if ((mv_up I 59 0 (0 : Int32)) 59 8) = 0 then (some ((-1 : Int32), (mv_up I 59 0 (0 : Int32)), L)) else ((kf102 (mv_up I 59 0 (0 : Int32)) L v1 (0 : Int32) (((mv_up I 59 0 (0 : Int32)) 59 12) - (1 : Int32))).bind fun r2 => if ¬ r2 = 0 then (if ¬ v2 = 0 then (if ¬ v2 = (1 : Int32) then (bif mv_in v1 8 then ((kf102 (mv_up I 59 0 (0 : Int32)) L v2 (2 : Int32) ((1 : Int32) + ((mv_up I 59 0 (0 : Int32)) 64 (Int32.toNatClampNeg v1)))).bind fun r8 => if r8 = 0 then (some ((-1 : Int32), (mv_up I 59 0 (0 : Int32)), L)) else (bif mv_in ((((8 : Int32) * v1) + v2) - (2 : Int32)) 64 then (some (((mv_up I 59 0 (0 : Int32)) 65 (Int32.toNatClampNeg ((((8 : Int32) * v1) + v2) - (2 : Int32)))), (mv_up I 59 0 (0 : Int32)), L)) else none)) else none) else (bif mv_in v1 8 then (some (((mv_up I 59 0 (0 : Int32)) 64 (Int32.toNatClampNeg v1)), (mv_up I 59 0 (0 : Int32)), L)) else none)) else (bif mv_in v1 8 then (some (((mv_up I 59 0 (0 : Int32)) 63 (Int32.toNatClampNeg v1)), (mv_up I 59 0 (0 : Int32)), L)) else none)) else (some ((-1 : Int32), (mv_up I 59 0 (0 : Int32)), L)))
set_option maxRecDepth 100000 in
set_option maxHeartbeats 4000000 in
theorem kf151_ok (f : Bool) (v1 : Int32) (v2 : Int32) (I : kjI) (L : kjL) (d : Nat) (r : Int32 × kjI × kjL) (h : kf151 v1 v2 I L = some r) : mv_C kjP kjSta (d + 2) 151 [.ref 59, .int v1, .int v2] (kjS f I L) (kjQwi f r) := by
  unfold kf151 at h
  refine mv_C_in kjM_151 (lc := [some (.ref 59), some (.int v1), some (.int v2)]) rfl rfl rfl ?_
  refine mv_G_run 5 (F' := (9, [some (.ref 59), some (.int v1), some (.int v2)], [.int ((mv_up I 59 0 (0 : Int32)) 59 8)], 0, 0, kjS f (mv_up I 59 0 (0 : Int32)) L)) rfl ?_
  by_cases hc1 : ((mv_up I 59 0 (0 : Int32)) 59 8) = 0
  · rw [if_pos hc1] at h
    refine mv_G_br (tgt := 26) rfl rfl (by decide) (fun _ => ?_) (fun z => absurd hc1 z)
    refine mv_G_run 1 (F' := (27, [some (.ref 59), some (.int v1), some (.int v2)], [.int (-1 : Int32)], 0, 0, kjS f (mv_up I 59 0 (0 : Int32)) L)) rfl ?_
    obtain rfl := Option.some.inj h
    exact mv_G_ret rfl rfl rfl (Nat.le_refl _) trivial ⟨rfl, rfl⟩
  · rw [if_neg hc1] at h
    refine mv_G_br (tgt := 26) rfl rfl (by decide) (fun z => absurd z hc1) (fun _ => ?_)
    refine mv_G_run 6 (F' := (20, [some (.ref 59), some (.int v1), some (.int v2)], [.int (((mv_up I 59 0 (0 : Int32)) 59 12) - (1 : Int32)), .int (0 : Int32), .int v1], 0, 0, kjS f (mv_up I 59 0 (0 : Int32)) L)) rfl ?_
    obtain ⟨r2, hc3, h⟩ := mv_bd h
    refine mv_G_call (r := []) (kf102_ok _ _ _ _ _ _ _ _ hc3) rfl rfl rfl rfl rfl (Nat.le_of_ble_eq_true rfl) (Nat.le_of_ble_eq_true rfl) (Nat.le_of_ble_eq_true rfl) ?_
    rintro _ _ ⟨rfl, rfl⟩
    by_cases hc4 : ¬ r2 = 0
    · rw [if_pos hc4] at h
      refine mv_G_br (tgt := 28) rfl rfl (by decide) (fun _ => ?_) (fun z => absurd hc4 z)
      refine mv_G_run 1 (F' := (29, [some (.ref 59), some (.int v1), some (.int v2)], [.int v2], 0, 0, kjS f (mv_up I 59 0 (0 : Int32)) L)) rfl ?_
      by_cases hc5 : ¬ v2 = 0
      · rw [if_pos hc5] at h
        refine mv_G_br (tgt := 39) rfl rfl (by decide) (fun _ => ?_) (fun z => absurd hc5 z)
        refine mv_G_run 2 (F' := (41, [some (.ref 59), some (.int v1), some (.int v2)], [.int (1 : Int32), .int v2], 0, 0, kjS f (mv_up I 59 0 (0 : Int32)) L)) rfl ?_
        by_cases hc6 : ¬ v2 = (1 : Int32)
        · rw [if_pos hc6] at h
          refine mv_G_br (tgt := 51) rfl rfl (by decide) (fun _ => ?_) (fun z => absurd hc6 z)
          refine mv_G_run 6 (F' := (59, [some (.ref 59), some (.int v1), some (.int v2)], [.int v1, .ref 64, .int (1 : Int32), .int (2 : Int32), .int v2], 0, 0, kjS f (mv_up I 59 0 (0 : Int32)) L)) rfl ?_
          obtain ⟨hi7, h⟩ := mv_bifs h
          refine mv_G_ald rfl rfl (mv_in_ok hi7) ?_
          refine mv_G_run 1 (F' := (61, [some (.ref 59), some (.int v1), some (.int v2)], [.int ((1 : Int32) + ((mv_up I 59 0 (0 : Int32)) 64 (Int32.toNatClampNeg v1))), .int (2 : Int32), .int v2], 0, 0, kjS f (mv_up I 59 0 (0 : Int32)) L)) rfl ?_
          obtain ⟨r8, hc9, h⟩ := mv_bd h
          refine mv_G_call (r := []) (kf102_ok _ _ _ _ _ _ _ _ hc9) rfl rfl rfl rfl rfl (Nat.le_of_ble_eq_true rfl) (Nat.le_of_ble_eq_true rfl) (Nat.le_of_ble_eq_true rfl) ?_
          rintro _ _ ⟨rfl, rfl⟩
          by_cases hc10 : r8 = 0
          · rw [if_pos hc10] at h
            refine mv_G_br (tgt := 83) rfl rfl (by decide) (fun _ => ?_) (fun z => absurd hc10 z)
            refine mv_G_run 1 (F' := (84, [some (.ref 59), some (.int v1), some (.int v2)], [.int (-1 : Int32)], 0, 0, kjS f (mv_up I 59 0 (0 : Int32)) L)) rfl ?_
            obtain rfl := Option.some.inj h
            exact mv_G_ret rfl rfl rfl (Nat.le_refl _) trivial ⟨rfl, rfl⟩
          · rw [if_neg hc10] at h
            refine mv_G_br (tgt := 83) rfl rfl (by decide) (fun z => absurd z hc10) (fun _ => ?_)
            refine mv_G_run 9 (F' := (79, [some (.ref 59), some (.int v1), some (.int v2)], [.int ((((8 : Int32) * v1) + v2) - (2 : Int32)), .ref 65], 0, 0, kjS f (mv_up I 59 0 (0 : Int32)) L)) rfl ?_
            obtain ⟨hi11, h⟩ := mv_bifs h
            refine mv_G_ald rfl rfl (mv_in_ok hi11) ?_
            refine mv_G_run 1 (F' := (84, [some (.ref 59), some (.int v1), some (.int v2)], [.int ((mv_up I 59 0 (0 : Int32)) 65 (Int32.toNatClampNeg ((((8 : Int32) * v1) + v2) - (2 : Int32))))], 0, 0, kjS f (mv_up I 59 0 (0 : Int32)) L)) rfl ?_
            obtain rfl := Option.some.inj h
            exact mv_G_ret rfl rfl rfl (Nat.le_refl _) trivial ⟨rfl, rfl⟩
        · rw [if_neg hc6] at h
          refine mv_G_br (tgt := 51) rfl rfl (by decide) (fun z => absurd z hc6) (fun _ => ?_)
          refine mv_G_run 3 (F' := (49, [some (.ref 59), some (.int v1), some (.int v2)], [.int v1, .ref 64], 0, 0, kjS f (mv_up I 59 0 (0 : Int32)) L)) rfl ?_
          obtain ⟨hi12, h⟩ := mv_bifs h
          refine mv_G_ald rfl rfl (mv_in_ok hi12) ?_
          obtain rfl := Option.some.inj h
          exact mv_G_ret rfl rfl rfl (Nat.le_refl _) trivial ⟨rfl, rfl⟩
      · rw [if_neg hc5] at h
        refine mv_G_br (tgt := 39) rfl rfl (by decide) (fun z => absurd z hc5) (fun _ => ?_)
        refine mv_G_run 3 (F' := (37, [some (.ref 59), some (.int v1), some (.int v2)], [.int v1, .ref 63], 0, 0, kjS f (mv_up I 59 0 (0 : Int32)) L)) rfl ?_
        obtain ⟨hi13, h⟩ := mv_bifs h
        refine mv_G_ald rfl rfl (mv_in_ok hi13) ?_
        obtain rfl := Option.some.inj h
        exact mv_G_ret rfl rfl rfl (Nat.le_refl _) trivial ⟨rfl, rfl⟩
    · rw [if_neg hc4] at h
      refine mv_G_br (tgt := 28) rfl rfl (by decide) (fun z => absurd z hc4) (fun _ => ?_)
      refine mv_G_run 1 (F' := (27, [some (.ref 59), some (.int v1), some (.int v2)], [.int (-1 : Int32)], 0, 0, kjS f (mv_up I 59 0 (0 : Int32)) L)) rfl ?_
      obtain rfl := Option.some.inj h
      exact mv_G_ret rfl rfl rfl (Nat.le_refl _) trivial ⟨rfl, rfl⟩
/-! KindJudgeModel.total(I)I on ('c', 59) -/
def kf152 (v1 : Int32) (I : kjI) (L : kjL) : Option (Int32 × kjI × kjL) :=
  if (v1).toInt = 0 then (if ((mv_up I 59 0 (0 : Int32)) 59 8) = 0 then (some ((0 : Int32), (mv_up I 59 0 (0 : Int32)), L)) else (some (((mv_up I 59 0 (0 : Int32)) 59 20), (mv_up I 59 0 (0 : Int32)), L))) else (if (v1).toInt = 1 then (if ((mv_up I 59 0 (0 : Int32)) 59 8) = 0 then (some ((0 : Int32), (mv_up I 59 0 (0 : Int32)), L)) else (some (((mv_up I 59 0 (0 : Int32)) 59 12), (mv_up I 59 0 (0 : Int32)), L))) else (if (v1).toInt = 2 then (if ((mv_up I 59 0 (0 : Int32)) 59 8) = 0 then (some ((0 : Int32), (mv_up I 59 0 (0 : Int32)), L)) else (some (((mv_up I 59 0 (0 : Int32)) 59 16), (mv_up I 59 0 (0 : Int32)), L))) else (if (v1).toInt = 3 then (some (((mv_up I 59 0 (0 : Int32)) 59 2), (mv_up I 59 0 (0 : Int32)), L)) else (if (v1).toInt = 4 then (some (((mv_up I 59 0 (0 : Int32)) 59 1), (mv_up I 59 0 (0 : Int32)), L)) else (some ((-1 : Int32), (mv_up I 59 0 (0 : Int32)), L))))))
set_option maxRecDepth 100000 in
set_option maxHeartbeats 4000000 in
theorem kf152_ok (f : Bool) (v1 : Int32) (I : kjI) (L : kjL) (d : Nat) (r : Int32 × kjI × kjL) (h : kf152 v1 I L = some r) : mv_C kjP kjSta (d + 1) 152 [.ref 59, .int v1] (kjS f I L) (kjQwi f r) := by
  unfold kf152 at h
  refine mv_C_in kjM_152 (lc := [some (.ref 59), some (.int v1)]) rfl rfl rfl ?_
  refine mv_G_run 4 (F' := (6, [some (.ref 59), some (.int v1)], [.int v1], 0, 0, kjS f (mv_up I 59 0 (0 : Int32)) L)) rfl ?_
  by_cases hw1 : (v1).toInt = 0
  · rw [if_pos hw1] at h
    refine mv_G_sw (tgt := 40) (off := 34) rfl (by simp only [mv_sw, hw1]; rfl) (by decide) ?_
    refine mv_G_run 2 (F' := (44, [some (.ref 59), some (.int v1)], [.int ((mv_up I 59 0 (0 : Int32)) 59 8)], 0, 0, kjS f (mv_up I 59 0 (0 : Int32)) L)) rfl ?_
    by_cases hc2 : ((mv_up I 59 0 (0 : Int32)) 59 8) = 0
    · rw [if_pos hc2] at h
      refine mv_G_br (tgt := 54) rfl rfl (by decide) (fun _ => ?_) (fun z => absurd hc2 z)
      refine mv_G_run 1 (F' := (55, [some (.ref 59), some (.int v1)], [.int (0 : Int32)], 0, 0, kjS f (mv_up I 59 0 (0 : Int32)) L)) rfl ?_
      obtain rfl := Option.some.inj h
      exact mv_G_ret rfl rfl rfl (Nat.le_refl _) trivial ⟨rfl, rfl⟩
    · rw [if_neg hc2] at h
      refine mv_G_br (tgt := 54) rfl rfl (by decide) (fun z => absurd z hc2) (fun _ => ?_)
      refine mv_G_run 3 (F' := (55, [some (.ref 59), some (.int v1)], [.int ((mv_up I 59 0 (0 : Int32)) 59 20)], 0, 0, kjS f (mv_up I 59 0 (0 : Int32)) L)) rfl ?_
      obtain rfl := Option.some.inj h
      exact mv_G_ret rfl rfl rfl (Nat.le_refl _) trivial ⟨rfl, rfl⟩
  rw [if_neg hw1] at h
  by_cases hw3 : (v1).toInt = 1
  · rw [if_pos hw3] at h
    refine mv_G_sw (tgt := 56) (off := 50) rfl (by simp only [mv_sw, hw3]; rfl) (by decide) ?_
    refine mv_G_run 2 (F' := (60, [some (.ref 59), some (.int v1)], [.int ((mv_up I 59 0 (0 : Int32)) 59 8)], 0, 0, kjS f (mv_up I 59 0 (0 : Int32)) L)) rfl ?_
    by_cases hc4 : ((mv_up I 59 0 (0 : Int32)) 59 8) = 0
    · rw [if_pos hc4] at h
      refine mv_G_br (tgt := 70) rfl rfl (by decide) (fun _ => ?_) (fun z => absurd hc4 z)
      refine mv_G_run 1 (F' := (71, [some (.ref 59), some (.int v1)], [.int (0 : Int32)], 0, 0, kjS f (mv_up I 59 0 (0 : Int32)) L)) rfl ?_
      obtain rfl := Option.some.inj h
      exact mv_G_ret rfl rfl rfl (Nat.le_refl _) trivial ⟨rfl, rfl⟩
    · rw [if_neg hc4] at h
      refine mv_G_br (tgt := 70) rfl rfl (by decide) (fun z => absurd z hc4) (fun _ => ?_)
      refine mv_G_run 3 (F' := (71, [some (.ref 59), some (.int v1)], [.int ((mv_up I 59 0 (0 : Int32)) 59 12)], 0, 0, kjS f (mv_up I 59 0 (0 : Int32)) L)) rfl ?_
      obtain rfl := Option.some.inj h
      exact mv_G_ret rfl rfl rfl (Nat.le_refl _) trivial ⟨rfl, rfl⟩
  rw [if_neg hw3] at h
  by_cases hw5 : (v1).toInt = 2
  · rw [if_pos hw5] at h
    refine mv_G_sw (tgt := 72) (off := 66) rfl (by simp only [mv_sw, hw5]; rfl) (by decide) ?_
    refine mv_G_run 2 (F' := (76, [some (.ref 59), some (.int v1)], [.int ((mv_up I 59 0 (0 : Int32)) 59 8)], 0, 0, kjS f (mv_up I 59 0 (0 : Int32)) L)) rfl ?_
    by_cases hc6 : ((mv_up I 59 0 (0 : Int32)) 59 8) = 0
    · rw [if_pos hc6] at h
      refine mv_G_br (tgt := 86) rfl rfl (by decide) (fun _ => ?_) (fun z => absurd hc6 z)
      refine mv_G_run 1 (F' := (87, [some (.ref 59), some (.int v1)], [.int (0 : Int32)], 0, 0, kjS f (mv_up I 59 0 (0 : Int32)) L)) rfl ?_
      obtain rfl := Option.some.inj h
      exact mv_G_ret rfl rfl rfl (Nat.le_refl _) trivial ⟨rfl, rfl⟩
    · rw [if_neg hc6] at h
      refine mv_G_br (tgt := 86) rfl rfl (by decide) (fun z => absurd z hc6) (fun _ => ?_)
      refine mv_G_run 3 (F' := (87, [some (.ref 59), some (.int v1)], [.int ((mv_up I 59 0 (0 : Int32)) 59 16)], 0, 0, kjS f (mv_up I 59 0 (0 : Int32)) L)) rfl ?_
      obtain rfl := Option.some.inj h
      exact mv_G_ret rfl rfl rfl (Nat.le_refl _) trivial ⟨rfl, rfl⟩
  rw [if_neg hw5] at h
  by_cases hw7 : (v1).toInt = 3
  · rw [if_pos hw7] at h
    refine mv_G_sw (tgt := 88) (off := 82) rfl (by simp only [mv_sw, hw7]; rfl) (by decide) ?_
    refine mv_G_run 2 (F' := (92, [some (.ref 59), some (.int v1)], [.int ((mv_up I 59 0 (0 : Int32)) 59 2)], 0, 0, kjS f (mv_up I 59 0 (0 : Int32)) L)) rfl ?_
    obtain rfl := Option.some.inj h
    exact mv_G_ret rfl rfl rfl (Nat.le_refl _) trivial ⟨rfl, rfl⟩
  rw [if_neg hw7] at h
  by_cases hw8 : (v1).toInt = 4
  · rw [if_pos hw8] at h
    refine mv_G_sw (tgt := 93) (off := 87) rfl (by simp only [mv_sw, hw8]; rfl) (by decide) ?_
    refine mv_G_run 2 (F' := (97, [some (.ref 59), some (.int v1)], [.int ((mv_up I 59 0 (0 : Int32)) 59 1)], 0, 0, kjS f (mv_up I 59 0 (0 : Int32)) L)) rfl ?_
    obtain rfl := Option.some.inj h
    exact mv_G_ret rfl rfl rfl (Nat.le_refl _) trivial ⟨rfl, rfl⟩
  rw [if_neg hw8] at h
  refine mv_G_sw (tgt := 98) (off := 92) rfl (by
    have hz9 : ((v1).toInt < 0 ∨ 4 < (v1).toInt) := by omega
    rcases hz9 with hz9
    · exact if_pos hz9) (by decide) ?_
  refine mv_G_run 1 (F' := (99, [some (.ref 59), some (.int v1)], [.int (-1 : Int32)], 0, 0, kjS f (mv_up I 59 0 (0 : Int32)) L)) rfl ?_
  obtain rfl := Option.some.inj h
  exact mv_G_ret rfl rfl rfl (Nat.le_refl _) trivial ⟨rfl, rfl⟩
