/-! The constructors, by program (wip/p2/ctors.py). -/
def kcZ : kjI := fun _ _ => 0
def kcZL : kjL := fun _ _ => 0
def kcR : List (Nat × Nat × Nat) → Nat → Nat → Option Nat
  | [], _, _ => none
  | e :: r, a, b => if a = e.1 then (if b = e.2.1 then some e.2.2 else kcR r a b) else kcR r a b
def kcF : List (Nat × Nat × Nat) := [(59, 32, 80), (59, 31, 79), (59, 30, 78), (59, 29, 77), (59, 28, 76), (59, 27, 75), (59, 26, 74), (59, 25, 73), (59, 24, 72), (59, 23, 71), (59, 22, 70), (59, 21, 69), (59, 19, 68), (59, 18, 67), (59, 17, 66), (59, 15, 65), (59, 14, 64), (59, 13, 63), (59, 6, 62), (59, 4, 61), (59, 3, 60), (0, 1, 30), (30, 3, 55), (55, 1, 53), (55, 0, 33), (55, 4, 58), (55, 3, 57), (55, 2, 56), (30, 2, 53), (30, 1, 33), (30, 0, 31), (53, 1, 33), (53, 0, 31), (53, 2, 54), (33, 3, 52), (52, 0, 31), (33, 8, 51), (33, 7, 50), (33, 6, 49), (33, 5, 48), (33, 4, 47), (33, 2, 43), (43, 2, 46), (43, 1, 45), (43, 0, 44), (33, 1, 39), (39, 2, 42), (39, 1, 41), (39, 0, 40), (33, 0, 34), (34, 3, 38), (34, 2, 37), (34, 1, 36), (34, 0, 35), (31, 0, 32), (0, 0, 1), (1, 3, 26), (26, 1, 24), (26, 0, 4), (26, 4, 29), (26, 3, 28), (26, 2, 27), (1, 2, 24), (1, 1, 4), (1, 0, 2), (24, 1, 4), (24, 0, 2), (24, 2, 25), (4, 3, 23), (23, 0, 2), (4, 8, 22), (4, 7, 21), (4, 6, 20), (4, 5, 19), (4, 4, 18), (4, 2, 14), (14, 2, 17), (14, 1, 16), (14, 0, 15), (4, 1, 10), (10, 2, 13), (10, 1, 12), (10, 0, 11), (4, 0, 5), (5, 3, 9), (5, 2, 8), (5, 1, 7), (5, 0, 6), (2, 0, 3)]
def kcS (a t : Nat) : mv_S := (kjSH.take a, kcZ, kcZL, kcR (kcF.drop t))
def kcU (S : mv_S) (k j q : Nat) : mv_S := (S.1, S.2.1, S.2.2.1, mv_up S.2.2.2 k j (some q))
theorem kc_none {a y : Nat} : ∀ {l : List (Nat × Nat × Nat)}, l.all (fun e => Nat.blt e.1 a) = true → kcR l a y = none
  | [], _ => rfl
  | e :: r, h => by
    simp only [List.all_cons, Bool.and_eq_true] at h
    have h1 : e.1 < a := Nat.le_of_ble_eq_true h.1
    unfold kcR
    rw [if_neg (by omega)]
    exact kc_none h.2
theorem kc_new {a t : Nat} {sh : mv_Sh} (h1 : kjSH.take a ++ [sh] = kjSH.take (a + 1)) (h2 : (kjSH.take a).length = a) (h3 : (kcF.drop t).all (fun e => Nat.blt e.1 a) = true) : mv_new (kcS a t) sh = kcS (a + 1) t := by
  have e1 : mv_clr kcZ a 0 = kcZ := by
    funext x y
    unfold mv_clr kcZ
    split <;> rfl
  have e2 : mv_clr kcZL a 0 = kcZL := by
    funext x y
    unfold mv_clr kcZL
    split <;> rfl
  have e3 : mv_clr (kcR (kcF.drop t)) a none = kcR (kcF.drop t) := by
    funext x y
    unfold mv_clr
    split
    · rename_i e
      rw [e, kc_none h3]
    · rfl
  show (kjSH.take a ++ [sh], mv_clr kcZ (kjSH.take a).length 0, mv_clr kcZL (kjSH.take a).length 0, mv_clr (kcR (kcF.drop t)) (kjSH.take a).length none) = kcS (a + 1) t
  rw [h2, e1, e2, e3, h1]
  rfl
theorem kc_put {a t k j q : Nat} (h : kcF.drop t = (k, j, q) :: kcF.drop (t + 1)) : kcU (kcS a (t + 1)) k j q = kcS a t := by
  have e : mv_up (kcR (kcF.drop (t + 1))) k j (some q) = kcR (kcF.drop t) := by
    rw [h]
    funext x y
    rfl
  show (kjSH.take a, kcZ, kcZL, mv_up (kcR (kcF.drop (t + 1))) k j (some q)) = kcS a t
  rw [e]
  rfl
/-! KindJudge$Bytes.<init> on cell 2 -/
set_option maxRecDepth 100000 in
set_option maxHeartbeats 4000000 in
theorem kc_1_ok (d : Nat) : mv_C kjP kjSta (d + 2) 19 [.ref 2] (kcS 3 89) (fun v S => v = none ∧ S = kcS 4 88) := by
  refine mv_C_in kjM_19 (lc := [some (.ref 2)]) rfl rfl rfl ?_
  refine mv_G_run 5 (F' := (10, [some (.ref 2)], [.ref 3, .ref 2], 1, 1500, mv_new (kcS 3 89) (.inl (2, 1500)))) rfl ?_
  rw [kc_new (a := 3) (t := 89) rfl rfl rfl]
  refine mv_G_run 1 (F' := (13, [some (.ref 2)], [], 1, 1500, kcU (kcS 4 89) 2 0 3)) rfl ?_
  rw [kc_put (a := 4) (t := 88) rfl]
  exact mv_G_ret rfl rfl rfl (Nat.le_of_ble_eq_true rfl) trivial ⟨rfl, rfl⟩
/-! KindJudge$Classes.<init> on cell 5 -/
set_option maxRecDepth 100000 in
set_option maxHeartbeats 4000000 in
theorem kc_2_ok (d : Nat) : mv_C kjP kjSta (d + 2) 34 [.ref 5] (kcS 6 88) (fun v S => v = none ∧ S = kcS 10 84) := by
  refine mv_C_in kjM_34 (lc := [some (.ref 5)]) rfl rfl rfl ?_
  refine mv_G_run 5 (F' := (9, [some (.ref 5)], [.ref 6, .ref 5], 1, 8, mv_new (kcS 6 88) (.inl (0, 8)))) rfl ?_
  rw [kc_new (a := 6) (t := 88) rfl rfl rfl]
  refine mv_G_run 1 (F' := (12, [some (.ref 5)], [], 1, 8, kcU (kcS 7 88) 5 0 6)) rfl ?_
  rw [kc_put (a := 7) (t := 87) rfl]
  refine mv_G_run 3 (F' := (17, [some (.ref 5)], [.ref 7, .ref 5], 2, 16, mv_new (kcS 7 87) (.inl (0, 8)))) rfl ?_
  rw [kc_new (a := 7) (t := 87) rfl rfl rfl]
  refine mv_G_run 1 (F' := (20, [some (.ref 5)], [], 2, 16, kcU (kcS 8 87) 5 1 7)) rfl ?_
  rw [kc_put (a := 8) (t := 86) rfl]
  refine mv_G_run 3 (F' := (25, [some (.ref 5)], [.ref 8, .ref 5], 3, 80, mv_new (kcS 8 86) (.inl (0, 64)))) rfl ?_
  rw [kc_new (a := 8) (t := 86) rfl rfl rfl]
  refine mv_G_run 1 (F' := (28, [some (.ref 5)], [], 3, 80, kcU (kcS 9 86) 5 2 8)) rfl ?_
  rw [kc_put (a := 9) (t := 85) rfl]
  refine mv_G_run 3 (F' := (33, [some (.ref 5)], [.ref 9, .ref 5], 4, 88, mv_new (kcS 9 85) (.inl (0, 8)))) rfl ?_
  rw [kc_new (a := 9) (t := 85) rfl rfl rfl]
  refine mv_G_run 1 (F' := (36, [some (.ref 5)], [], 4, 88, kcU (kcS 10 85) 5 3 9)) rfl ?_
  rw [kc_put (a := 10) (t := 84) rfl]
  exact mv_G_ret rfl rfl rfl (Nat.le_of_ble_eq_true rfl) trivial ⟨rfl, rfl⟩
/-! KindJudge$Signatures.<init> on cell 10 -/
set_option maxRecDepth 100000 in
set_option maxHeartbeats 4000000 in
theorem kc_3_ok (d : Nat) : mv_C kjP kjSta (d + 2) 46 [.ref 10] (kcS 11 83) (fun v S => v = none ∧ S = kcS 14 80) := by
  refine mv_C_in kjM_46 (lc := [some (.ref 10)]) rfl rfl rfl ?_
  refine mv_G_run 5 (F' := (9, [some (.ref 10)], [.ref 11, .ref 10], 1, 16, mv_new (kcS 11 83) (.inl (0, 16)))) rfl ?_
  rw [kc_new (a := 11) (t := 83) rfl rfl rfl]
  refine mv_G_run 1 (F' := (12, [some (.ref 10)], [], 1, 16, kcU (kcS 12 83) 10 0 11)) rfl ?_
  rw [kc_put (a := 12) (t := 82) rfl]
  refine mv_G_run 3 (F' := (17, [some (.ref 10)], [.ref 12, .ref 10], 2, 80, mv_new (kcS 12 82) (.inl (0, 64)))) rfl ?_
  rw [kc_new (a := 12) (t := 82) rfl rfl rfl]
  refine mv_G_run 1 (F' := (20, [some (.ref 10)], [], 2, 80, kcU (kcS 13 82) 10 1 12)) rfl ?_
  rw [kc_put (a := 13) (t := 81) rfl]
  refine mv_G_run 3 (F' := (25, [some (.ref 10)], [.ref 13, .ref 10], 3, 96, mv_new (kcS 13 81) (.inl (0, 16)))) rfl ?_
  rw [kc_new (a := 13) (t := 81) rfl rfl rfl]
  refine mv_G_run 1 (F' := (28, [some (.ref 10)], [], 3, 96, kcU (kcS 14 81) 10 2 13)) rfl ?_
  rw [kc_put (a := 14) (t := 80) rfl]
  exact mv_G_ret rfl rfl rfl (Nat.le_of_ble_eq_true rfl) trivial ⟨rfl, rfl⟩
/-! KindJudge$Signatures.<init> on cell 14 -/
set_option maxRecDepth 100000 in
set_option maxHeartbeats 4000000 in
theorem kc_4_ok (d : Nat) : mv_C kjP kjSta (d + 2) 46 [.ref 14] (kcS 15 79) (fun v S => v = none ∧ S = kcS 18 76) := by
  refine mv_C_in kjM_46 (lc := [some (.ref 14)]) rfl rfl rfl ?_
  refine mv_G_run 5 (F' := (9, [some (.ref 14)], [.ref 15, .ref 14], 1, 16, mv_new (kcS 15 79) (.inl (0, 16)))) rfl ?_
  rw [kc_new (a := 15) (t := 79) rfl rfl rfl]
  refine mv_G_run 1 (F' := (12, [some (.ref 14)], [], 1, 16, kcU (kcS 16 79) 14 0 15)) rfl ?_
  rw [kc_put (a := 16) (t := 78) rfl]
  refine mv_G_run 3 (F' := (17, [some (.ref 14)], [.ref 16, .ref 14], 2, 80, mv_new (kcS 16 78) (.inl (0, 64)))) rfl ?_
  rw [kc_new (a := 16) (t := 78) rfl rfl rfl]
  refine mv_G_run 1 (F' := (20, [some (.ref 14)], [], 2, 80, kcU (kcS 17 78) 14 1 16)) rfl ?_
  rw [kc_put (a := 17) (t := 77) rfl]
  refine mv_G_run 3 (F' := (25, [some (.ref 14)], [.ref 17, .ref 14], 3, 96, mv_new (kcS 17 77) (.inl (0, 16)))) rfl ?_
  rw [kc_new (a := 17) (t := 77) rfl rfl rfl]
  refine mv_G_run 1 (F' := (28, [some (.ref 14)], [], 3, 96, kcU (kcS 18 77) 14 2 17)) rfl ?_
  rw [kc_put (a := 18) (t := 76) rfl]
  exact mv_G_ret rfl rfl rfl (Nat.le_of_ble_eq_true rfl) trivial ⟨rfl, rfl⟩
/-! KindJudge$Reader.<init> on cell 23 -/
set_option maxRecDepth 100000 in
set_option maxHeartbeats 4000000 in
theorem kc_5_ok (d : Nat) : mv_C kjP kjSta (d + 2) 53 [.ref 23, .ref 2] (kcS 24 70) (fun v S => v = none ∧ S = kcS 24 69) := by
  refine mv_C_in kjM_53 (lc := [some (.ref 23), some (.ref 2)]) rfl rfl rfl ?_
  refine mv_G_run 5 (F' := (9, [some (.ref 23), some (.ref 2)], [], 0, 0, kcU (kcS 24 70) 23 0 2)) rfl ?_
  rw [kc_put (a := 24) (t := 69) rfl]
  exact mv_G_ret rfl rfl rfl (Nat.le_of_ble_eq_true rfl) trivial ⟨rfl, rfl⟩
/-! KindJudge$Layout.<init> on cell 4 -/
set_option maxRecDepth 100000 in
set_option maxHeartbeats 4000000 in
theorem kc_6_ok (d : Nat) : mv_C kjP kjSta (d + 3) 23 [.ref 4, .ref 2] (kcS 5 88) (fun v S => v = none ∧ S = kcS 24 68) := by
  refine mv_C_in kjM_23 (lc := [some (.ref 4), some (.ref 2)]) rfl rfl rfl ?_
  refine mv_G_run 4 (F' := (8, [some (.ref 4), some (.ref 2)], [.ref 5, .ref 4], 1, 5, mv_new (kcS 5 88) (.inr 4))) rfl ?_
  rw [kc_new (a := 5) (t := 88) rfl rfl rfl]
  refine mv_G_run 1 (F' := (9, [some (.ref 4), some (.ref 2)], [.ref 5, .ref 5, .ref 4], 1, 5, kcS 6 88)) rfl ?_
  refine mv_G_call (r := [.ref 5, .ref 4]) (kc_2_ok _) rfl rfl rfl rfl rfl (Nat.le_of_ble_eq_true rfl) (Nat.le_of_ble_eq_true rfl) (Nat.le_of_ble_eq_true rfl) ?_
  rintro _ _ ⟨rfl, rfl⟩
  refine mv_G_run 1 (F' := (15, [some (.ref 4), some (.ref 2)], [], 5, 93, kcU (kcS 10 84) 4 0 5)) rfl ?_
  rw [kc_put (a := 10) (t := 83) rfl]
  refine mv_G_run 2 (F' := (19, [some (.ref 4), some (.ref 2)], [.ref 10, .ref 4], 6, 97, mv_new (kcS 10 83) (.inr 5))) rfl ?_
  rw [kc_new (a := 10) (t := 83) rfl rfl rfl]
  refine mv_G_run 1 (F' := (20, [some (.ref 4), some (.ref 2)], [.ref 10, .ref 10, .ref 4], 6, 97, kcS 11 83)) rfl ?_
  refine mv_G_call (r := [.ref 10, .ref 4]) (kc_3_ok _) rfl rfl rfl rfl rfl (Nat.le_of_ble_eq_true rfl) (Nat.le_of_ble_eq_true rfl) (Nat.le_of_ble_eq_true rfl) ?_
  rintro _ _ ⟨rfl, rfl⟩
  refine mv_G_run 1 (F' := (26, [some (.ref 4), some (.ref 2)], [], 9, 193, kcU (kcS 14 80) 4 1 10)) rfl ?_
  rw [kc_put (a := 14) (t := 79) rfl]
  refine mv_G_run 2 (F' := (30, [some (.ref 4), some (.ref 2)], [.ref 14, .ref 4], 10, 197, mv_new (kcS 14 79) (.inr 5))) rfl ?_
  rw [kc_new (a := 14) (t := 79) rfl rfl rfl]
  refine mv_G_run 1 (F' := (31, [some (.ref 4), some (.ref 2)], [.ref 14, .ref 14, .ref 4], 10, 197, kcS 15 79)) rfl ?_
  refine mv_G_call (r := [.ref 14, .ref 4]) (kc_4_ok _) rfl rfl rfl rfl rfl (Nat.le_of_ble_eq_true rfl) (Nat.le_of_ble_eq_true rfl) (Nat.le_of_ble_eq_true rfl) ?_
  rintro _ _ ⟨rfl, rfl⟩
  refine mv_G_run 1 (F' := (37, [some (.ref 4), some (.ref 2)], [], 13, 293, kcU (kcS 18 76) 4 2 14)) rfl ?_
  rw [kc_put (a := 18) (t := 75) rfl]
  refine mv_G_run 3 (F' := (42, [some (.ref 4), some (.ref 2)], [.ref 18, .ref 4], 14, 309, mv_new (kcS 18 75) (.inl (0, 16)))) rfl ?_
  rw [kc_new (a := 18) (t := 75) rfl rfl rfl]
  refine mv_G_run 1 (F' := (45, [some (.ref 4), some (.ref 2)], [], 14, 309, kcU (kcS 19 75) 4 4 18)) rfl ?_
  rw [kc_put (a := 19) (t := 74) rfl]
  refine mv_G_run 3 (F' := (50, [some (.ref 4), some (.ref 2)], [.ref 19, .ref 4], 15, 325, mv_new (kcS 19 74) (.inl (0, 16)))) rfl ?_
  rw [kc_new (a := 19) (t := 74) rfl rfl rfl]
  refine mv_G_run 1 (F' := (53, [some (.ref 4), some (.ref 2)], [], 15, 325, kcU (kcS 20 74) 4 5 19)) rfl ?_
  rw [kc_put (a := 20) (t := 73) rfl]
  refine mv_G_run 3 (F' := (58, [some (.ref 4), some (.ref 2)], [.ref 20, .ref 4], 16, 341, mv_new (kcS 20 73) (.inl (0, 16)))) rfl ?_
  rw [kc_new (a := 20) (t := 73) rfl rfl rfl]
  refine mv_G_run 1 (F' := (61, [some (.ref 4), some (.ref 2)], [], 16, 341, kcU (kcS 21 73) 4 6 20)) rfl ?_
  rw [kc_put (a := 21) (t := 72) rfl]
  refine mv_G_run 3 (F' := (66, [some (.ref 4), some (.ref 2)], [.ref 21, .ref 4], 17, 357, mv_new (kcS 21 72) (.inl (0, 16)))) rfl ?_
  rw [kc_new (a := 21) (t := 72) rfl rfl rfl]
  refine mv_G_run 1 (F' := (69, [some (.ref 4), some (.ref 2)], [], 17, 357, kcU (kcS 22 72) 4 7 21)) rfl ?_
  rw [kc_put (a := 22) (t := 71) rfl]
  refine mv_G_run 3 (F' := (74, [some (.ref 4), some (.ref 2)], [.ref 22, .ref 4], 18, 421, mv_new (kcS 22 71) (.inl (0, 64)))) rfl ?_
  rw [kc_new (a := 22) (t := 71) rfl rfl rfl]
  refine mv_G_run 1 (F' := (77, [some (.ref 4), some (.ref 2)], [], 18, 421, kcU (kcS 23 71) 4 8 22)) rfl ?_
  rw [kc_put (a := 23) (t := 70) rfl]
  refine mv_G_run 2 (F' := (81, [some (.ref 4), some (.ref 2)], [.ref 23, .ref 4], 19, 424, mv_new (kcS 23 70) (.inr 6))) rfl ?_
  rw [kc_new (a := 23) (t := 70) rfl rfl rfl]
  refine mv_G_run 2 (F' := (83, [some (.ref 4), some (.ref 2)], [.ref 2, .ref 23, .ref 23, .ref 4], 19, 424, kcS 24 70)) rfl ?_
  refine mv_G_call (r := [.ref 23, .ref 4]) (kc_5_ok _) rfl rfl rfl rfl rfl (Nat.le_of_ble_eq_true rfl) (Nat.le_of_ble_eq_true rfl) (Nat.le_of_ble_eq_true rfl) ?_
  rintro _ _ ⟨rfl, rfl⟩
  refine mv_G_run 1 (F' := (89, [some (.ref 4), some (.ref 2)], [], 19, 424, kcU (kcS 24 69) 4 3 23)) rfl ?_
  rw [kc_put (a := 24) (t := 68) rfl]
  exact mv_G_ret rfl rfl rfl (Nat.le_of_ble_eq_true rfl) trivial ⟨rfl, rfl⟩
/-! KindJudge$Code.<init> on cell 24 -/
set_option maxRecDepth 100000 in
set_option maxHeartbeats 4000000 in
theorem kc_7_ok (d : Nat) : mv_C kjP kjSta (d + 2) 63 [.ref 24, .ref 2, .ref 4] (kcS 25 68) (fun v S => v = none ∧ S = kcS 26 65) := by
  refine mv_C_in kjM_63 (lc := [some (.ref 24), some (.ref 2), some (.ref 4)]) rfl rfl rfl ?_
  refine mv_G_run 5 (F' := (10, [some (.ref 24), some (.ref 2), some (.ref 4)], [.ref 25, .ref 24], 1, 1500, mv_new (kcS 25 68) (.inl (1, 1500)))) rfl ?_
  rw [kc_new (a := 25) (t := 68) rfl rfl rfl]
  refine mv_G_run 1 (F' := (13, [some (.ref 24), some (.ref 2), some (.ref 4)], [], 1, 1500, kcU (kcS 26 68) 24 2 25)) rfl ?_
  rw [kc_put (a := 26) (t := 67) rfl]
  refine mv_G_run 3 (F' := (18, [some (.ref 24), some (.ref 2), some (.ref 4)], [], 1, 1500, kcU (kcS 26 67) 24 0 2)) rfl ?_
  rw [kc_put (a := 26) (t := 66) rfl]
  refine mv_G_run 3 (F' := (23, [some (.ref 24), some (.ref 2), some (.ref 4)], [], 1, 1500, kcU (kcS 26 66) 24 1 4)) rfl ?_
  rw [kc_put (a := 26) (t := 65) rfl]
  exact mv_G_ret rfl rfl rfl (Nat.le_of_ble_eq_true rfl) trivial ⟨rfl, rfl⟩
/-! KindJudge$Flow.<init> on cell 26 -/
set_option maxRecDepth 100000 in
set_option maxHeartbeats 4000000 in
theorem kc_8_ok (d : Nat) : mv_C kjP kjSta (d + 2) 77 [.ref 26, .ref 4, .ref 24] (kcS 27 62) (fun v S => v = none ∧ S = kcS 30 57) := by
  refine mv_C_in kjM_77 (lc := [some (.ref 26), some (.ref 4), some (.ref 24)]) rfl rfl rfl ?_
  refine mv_G_run 5 (F' := (10, [some (.ref 26), some (.ref 4), some (.ref 24)], [.ref 27, .ref 26], 1, 1500, mv_new (kcS 27 62) (.inl (2, 1500)))) rfl ?_
  rw [kc_new (a := 27) (t := 62) rfl rfl rfl]
  refine mv_G_run 1 (F' := (13, [some (.ref 26), some (.ref 4), some (.ref 24)], [], 1, 1500, kcU (kcS 28 62) 26 2 27)) rfl ?_
  rw [kc_put (a := 28) (t := 61) rfl]
  refine mv_G_run 3 (F' := (19, [some (.ref 26), some (.ref 4), some (.ref 24)], [.ref 28, .ref 26], 2, 3000, mv_new (kcS 28 61) (.inl (3, 1500)))) rfl ?_
  rw [kc_new (a := 28) (t := 61) rfl rfl rfl]
  refine mv_G_run 1 (F' := (22, [some (.ref 26), some (.ref 4), some (.ref 24)], [], 2, 3000, kcU (kcS 29 61) 26 3 28)) rfl ?_
  rw [kc_put (a := 29) (t := 60) rfl]
  refine mv_G_run 3 (F' := (27, [some (.ref 26), some (.ref 4), some (.ref 24)], [.ref 29, .ref 26], 3, 3120, mv_new (kcS 29 60) (.inl (1, 120)))) rfl ?_
  rw [kc_new (a := 29) (t := 60) rfl rfl rfl]
  refine mv_G_run 1 (F' := (30, [some (.ref 26), some (.ref 4), some (.ref 24)], [], 3, 3120, kcU (kcS 30 60) 26 4 29)) rfl ?_
  rw [kc_put (a := 30) (t := 59) rfl]
  refine mv_G_run 3 (F' := (35, [some (.ref 26), some (.ref 4), some (.ref 24)], [], 3, 3120, kcU (kcS 30 59) 26 0 4)) rfl ?_
  rw [kc_put (a := 30) (t := 58) rfl]
  refine mv_G_run 3 (F' := (40, [some (.ref 26), some (.ref 4), some (.ref 24)], [], 3, 3120, kcU (kcS 30 58) 26 1 24)) rfl ?_
  rw [kc_put (a := 30) (t := 57) rfl]
  exact mv_G_ret rfl rfl rfl (Nat.le_of_ble_eq_true rfl) trivial ⟨rfl, rfl⟩
/-! KindJudge$Book.<init> on cell 1 -/
set_option maxRecDepth 100000 in
set_option maxHeartbeats 4000000 in
theorem kc_9_ok (d : Nat) : mv_C kjP kjSta (d + 4) 18 [.ref 1] (kcS 2 89) (fun v S => v = none ∧ S = kcS 30 56) := by
  refine mv_C_in kjM_18 (lc := [some (.ref 1), none, none, none]) rfl rfl rfl ?_
  refine mv_G_run 3 (F' := (7, [some (.ref 1), none, none, none], [.ref 2], 1, 2, mv_new (kcS 2 89) (.inr 2))) rfl ?_
  rw [kc_new (a := 2) (t := 89) rfl rfl rfl]
  refine mv_G_run 1 (F' := (8, [some (.ref 1), none, none, none], [.ref 2, .ref 2], 1, 2, kcS 3 89)) rfl ?_
  refine mv_G_call (r := [.ref 2]) (kc_1_ok _) rfl rfl rfl rfl rfl (Nat.le_of_ble_eq_true rfl) (Nat.le_of_ble_eq_true rfl) (Nat.le_of_ble_eq_true rfl) ?_
  rintro _ _ ⟨rfl, rfl⟩
  refine mv_G_run 2 (F' := (15, [some (.ref 1), some (.ref 2), none, none], [.ref 4], 3, 1511, mv_new (kcS 4 88) (.inr 3))) rfl ?_
  rw [kc_new (a := 4) (t := 88) rfl rfl rfl]
  refine mv_G_run 2 (F' := (17, [some (.ref 1), some (.ref 2), none, none], [.ref 2, .ref 4, .ref 4], 3, 1511, kcS 5 88)) rfl ?_
  refine mv_G_call (r := [.ref 4]) (kc_6_ok _) rfl rfl rfl rfl rfl (Nat.le_of_ble_eq_true rfl) (Nat.le_of_ble_eq_true rfl) (Nat.le_of_ble_eq_true rfl) ?_
  rintro _ _ ⟨rfl, rfl⟩
  refine mv_G_run 2 (F' := (24, [some (.ref 1), some (.ref 2), some (.ref 4), none], [.ref 24], 23, 1938, mv_new (kcS 24 68) (.inr 7))) rfl ?_
  rw [kc_new (a := 24) (t := 68) rfl rfl rfl]
  refine mv_G_run 3 (F' := (27, [some (.ref 1), some (.ref 2), some (.ref 4), none], [.ref 4, .ref 2, .ref 24, .ref 24], 23, 1938, kcS 25 68)) rfl ?_
  refine mv_G_call (r := [.ref 24]) (kc_7_ok _) rfl rfl rfl rfl rfl (Nat.le_of_ble_eq_true rfl) (Nat.le_of_ble_eq_true rfl) (Nat.le_of_ble_eq_true rfl) ?_
  rintro _ _ ⟨rfl, rfl⟩
  refine mv_G_run 4 (F' := (36, [some (.ref 1), some (.ref 2), some (.ref 4), some (.ref 24)], [], 24, 3438, kcU (kcS 26 65) 1 0 2)) rfl ?_
  rw [kc_put (a := 26) (t := 64) rfl]
  refine mv_G_run 3 (F' := (41, [some (.ref 1), some (.ref 2), some (.ref 4), some (.ref 24)], [], 24, 3438, kcU (kcS 26 64) 1 1 4)) rfl ?_
  rw [kc_put (a := 26) (t := 63) rfl]
  refine mv_G_run 3 (F' := (46, [some (.ref 1), some (.ref 2), some (.ref 4), some (.ref 24)], [], 24, 3438, kcU (kcS 26 63) 1 2 24)) rfl ?_
  rw [kc_put (a := 26) (t := 62) rfl]
  refine mv_G_run 2 (F' := (50, [some (.ref 1), some (.ref 2), some (.ref 4), some (.ref 24)], [.ref 26, .ref 1], 25, 3450, mv_new (kcS 26 62) (.inr 8))) rfl ?_
  rw [kc_new (a := 26) (t := 62) rfl rfl rfl]
  refine mv_G_run 3 (F' := (53, [some (.ref 1), some (.ref 2), some (.ref 4), some (.ref 24)], [.ref 24, .ref 4, .ref 26, .ref 26, .ref 1], 25, 3450, kcS 27 62)) rfl ?_
  refine mv_G_call (r := [.ref 26, .ref 1]) (kc_8_ok _) rfl rfl rfl rfl rfl (Nat.le_of_ble_eq_true rfl) (Nat.le_of_ble_eq_true rfl) (Nat.le_of_ble_eq_true rfl) ?_
  rintro _ _ ⟨rfl, rfl⟩
  refine mv_G_run 1 (F' := (59, [some (.ref 1), some (.ref 2), some (.ref 4), some (.ref 24)], [], 28, 6570, kcU (kcS 30 57) 1 3 26)) rfl ?_
  rw [kc_put (a := 30) (t := 56) rfl]
  exact mv_G_ret rfl rfl rfl (Nat.le_of_ble_eq_true rfl) trivial ⟨rfl, rfl⟩
/-! KindJudge$Bytes.<init> on cell 31 -/
set_option maxRecDepth 100000 in
set_option maxHeartbeats 4000000 in
theorem kc_10_ok (d : Nat) : mv_C kjP kjSta (d + 2) 19 [.ref 31] (kcS 32 55) (fun v S => v = none ∧ S = kcS 33 54) := by
  refine mv_C_in kjM_19 (lc := [some (.ref 31)]) rfl rfl rfl ?_
  refine mv_G_run 5 (F' := (10, [some (.ref 31)], [.ref 32, .ref 31], 1, 1500, mv_new (kcS 32 55) (.inl (2, 1500)))) rfl ?_
  rw [kc_new (a := 32) (t := 55) rfl rfl rfl]
  refine mv_G_run 1 (F' := (13, [some (.ref 31)], [], 1, 1500, kcU (kcS 33 55) 31 0 32)) rfl ?_
  rw [kc_put (a := 33) (t := 54) rfl]
  exact mv_G_ret rfl rfl rfl (Nat.le_of_ble_eq_true rfl) trivial ⟨rfl, rfl⟩
/-! KindJudge$Classes.<init> on cell 34 -/
set_option maxRecDepth 100000 in
set_option maxHeartbeats 4000000 in
theorem kc_11_ok (d : Nat) : mv_C kjP kjSta (d + 2) 34 [.ref 34] (kcS 35 54) (fun v S => v = none ∧ S = kcS 39 50) := by
  refine mv_C_in kjM_34 (lc := [some (.ref 34)]) rfl rfl rfl ?_
  refine mv_G_run 5 (F' := (9, [some (.ref 34)], [.ref 35, .ref 34], 1, 8, mv_new (kcS 35 54) (.inl (0, 8)))) rfl ?_
  rw [kc_new (a := 35) (t := 54) rfl rfl rfl]
  refine mv_G_run 1 (F' := (12, [some (.ref 34)], [], 1, 8, kcU (kcS 36 54) 34 0 35)) rfl ?_
  rw [kc_put (a := 36) (t := 53) rfl]
  refine mv_G_run 3 (F' := (17, [some (.ref 34)], [.ref 36, .ref 34], 2, 16, mv_new (kcS 36 53) (.inl (0, 8)))) rfl ?_
  rw [kc_new (a := 36) (t := 53) rfl rfl rfl]
  refine mv_G_run 1 (F' := (20, [some (.ref 34)], [], 2, 16, kcU (kcS 37 53) 34 1 36)) rfl ?_
  rw [kc_put (a := 37) (t := 52) rfl]
  refine mv_G_run 3 (F' := (25, [some (.ref 34)], [.ref 37, .ref 34], 3, 80, mv_new (kcS 37 52) (.inl (0, 64)))) rfl ?_
  rw [kc_new (a := 37) (t := 52) rfl rfl rfl]
  refine mv_G_run 1 (F' := (28, [some (.ref 34)], [], 3, 80, kcU (kcS 38 52) 34 2 37)) rfl ?_
  rw [kc_put (a := 38) (t := 51) rfl]
  refine mv_G_run 3 (F' := (33, [some (.ref 34)], [.ref 38, .ref 34], 4, 88, mv_new (kcS 38 51) (.inl (0, 8)))) rfl ?_
  rw [kc_new (a := 38) (t := 51) rfl rfl rfl]
  refine mv_G_run 1 (F' := (36, [some (.ref 34)], [], 4, 88, kcU (kcS 39 51) 34 3 38)) rfl ?_
  rw [kc_put (a := 39) (t := 50) rfl]
  exact mv_G_ret rfl rfl rfl (Nat.le_of_ble_eq_true rfl) trivial ⟨rfl, rfl⟩
/-! KindJudge$Signatures.<init> on cell 39 -/
set_option maxRecDepth 100000 in
set_option maxHeartbeats 4000000 in
theorem kc_12_ok (d : Nat) : mv_C kjP kjSta (d + 2) 46 [.ref 39] (kcS 40 49) (fun v S => v = none ∧ S = kcS 43 46) := by
  refine mv_C_in kjM_46 (lc := [some (.ref 39)]) rfl rfl rfl ?_
  refine mv_G_run 5 (F' := (9, [some (.ref 39)], [.ref 40, .ref 39], 1, 16, mv_new (kcS 40 49) (.inl (0, 16)))) rfl ?_
  rw [kc_new (a := 40) (t := 49) rfl rfl rfl]
  refine mv_G_run 1 (F' := (12, [some (.ref 39)], [], 1, 16, kcU (kcS 41 49) 39 0 40)) rfl ?_
  rw [kc_put (a := 41) (t := 48) rfl]
  refine mv_G_run 3 (F' := (17, [some (.ref 39)], [.ref 41, .ref 39], 2, 80, mv_new (kcS 41 48) (.inl (0, 64)))) rfl ?_
  rw [kc_new (a := 41) (t := 48) rfl rfl rfl]
  refine mv_G_run 1 (F' := (20, [some (.ref 39)], [], 2, 80, kcU (kcS 42 48) 39 1 41)) rfl ?_
  rw [kc_put (a := 42) (t := 47) rfl]
  refine mv_G_run 3 (F' := (25, [some (.ref 39)], [.ref 42, .ref 39], 3, 96, mv_new (kcS 42 47) (.inl (0, 16)))) rfl ?_
  rw [kc_new (a := 42) (t := 47) rfl rfl rfl]
  refine mv_G_run 1 (F' := (28, [some (.ref 39)], [], 3, 96, kcU (kcS 43 47) 39 2 42)) rfl ?_
  rw [kc_put (a := 43) (t := 46) rfl]
  exact mv_G_ret rfl rfl rfl (Nat.le_of_ble_eq_true rfl) trivial ⟨rfl, rfl⟩
/-! KindJudge$Signatures.<init> on cell 43 -/
set_option maxRecDepth 100000 in
set_option maxHeartbeats 4000000 in
theorem kc_13_ok (d : Nat) : mv_C kjP kjSta (d + 2) 46 [.ref 43] (kcS 44 45) (fun v S => v = none ∧ S = kcS 47 42) := by
  refine mv_C_in kjM_46 (lc := [some (.ref 43)]) rfl rfl rfl ?_
  refine mv_G_run 5 (F' := (9, [some (.ref 43)], [.ref 44, .ref 43], 1, 16, mv_new (kcS 44 45) (.inl (0, 16)))) rfl ?_
  rw [kc_new (a := 44) (t := 45) rfl rfl rfl]
  refine mv_G_run 1 (F' := (12, [some (.ref 43)], [], 1, 16, kcU (kcS 45 45) 43 0 44)) rfl ?_
  rw [kc_put (a := 45) (t := 44) rfl]
  refine mv_G_run 3 (F' := (17, [some (.ref 43)], [.ref 45, .ref 43], 2, 80, mv_new (kcS 45 44) (.inl (0, 64)))) rfl ?_
  rw [kc_new (a := 45) (t := 44) rfl rfl rfl]
  refine mv_G_run 1 (F' := (20, [some (.ref 43)], [], 2, 80, kcU (kcS 46 44) 43 1 45)) rfl ?_
  rw [kc_put (a := 46) (t := 43) rfl]
  refine mv_G_run 3 (F' := (25, [some (.ref 43)], [.ref 46, .ref 43], 3, 96, mv_new (kcS 46 43) (.inl (0, 16)))) rfl ?_
  rw [kc_new (a := 46) (t := 43) rfl rfl rfl]
  refine mv_G_run 1 (F' := (28, [some (.ref 43)], [], 3, 96, kcU (kcS 47 43) 43 2 46)) rfl ?_
  rw [kc_put (a := 47) (t := 42) rfl]
  exact mv_G_ret rfl rfl rfl (Nat.le_of_ble_eq_true rfl) trivial ⟨rfl, rfl⟩
/-! KindJudge$Reader.<init> on cell 52 -/
set_option maxRecDepth 100000 in
set_option maxHeartbeats 4000000 in
theorem kc_14_ok (d : Nat) : mv_C kjP kjSta (d + 2) 53 [.ref 52, .ref 31] (kcS 53 36) (fun v S => v = none ∧ S = kcS 53 35) := by
  refine mv_C_in kjM_53 (lc := [some (.ref 52), some (.ref 31)]) rfl rfl rfl ?_
  refine mv_G_run 5 (F' := (9, [some (.ref 52), some (.ref 31)], [], 0, 0, kcU (kcS 53 36) 52 0 31)) rfl ?_
  rw [kc_put (a := 53) (t := 35) rfl]
  exact mv_G_ret rfl rfl rfl (Nat.le_of_ble_eq_true rfl) trivial ⟨rfl, rfl⟩
/-! KindJudge$Layout.<init> on cell 33 -/
set_option maxRecDepth 100000 in
set_option maxHeartbeats 4000000 in
theorem kc_15_ok (d : Nat) : mv_C kjP kjSta (d + 3) 23 [.ref 33, .ref 31] (kcS 34 54) (fun v S => v = none ∧ S = kcS 53 34) := by
  refine mv_C_in kjM_23 (lc := [some (.ref 33), some (.ref 31)]) rfl rfl rfl ?_
  refine mv_G_run 4 (F' := (8, [some (.ref 33), some (.ref 31)], [.ref 34, .ref 33], 1, 5, mv_new (kcS 34 54) (.inr 4))) rfl ?_
  rw [kc_new (a := 34) (t := 54) rfl rfl rfl]
  refine mv_G_run 1 (F' := (9, [some (.ref 33), some (.ref 31)], [.ref 34, .ref 34, .ref 33], 1, 5, kcS 35 54)) rfl ?_
  refine mv_G_call (r := [.ref 34, .ref 33]) (kc_11_ok _) rfl rfl rfl rfl rfl (Nat.le_of_ble_eq_true rfl) (Nat.le_of_ble_eq_true rfl) (Nat.le_of_ble_eq_true rfl) ?_
  rintro _ _ ⟨rfl, rfl⟩
  refine mv_G_run 1 (F' := (15, [some (.ref 33), some (.ref 31)], [], 5, 93, kcU (kcS 39 50) 33 0 34)) rfl ?_
  rw [kc_put (a := 39) (t := 49) rfl]
  refine mv_G_run 2 (F' := (19, [some (.ref 33), some (.ref 31)], [.ref 39, .ref 33], 6, 97, mv_new (kcS 39 49) (.inr 5))) rfl ?_
  rw [kc_new (a := 39) (t := 49) rfl rfl rfl]
  refine mv_G_run 1 (F' := (20, [some (.ref 33), some (.ref 31)], [.ref 39, .ref 39, .ref 33], 6, 97, kcS 40 49)) rfl ?_
  refine mv_G_call (r := [.ref 39, .ref 33]) (kc_12_ok _) rfl rfl rfl rfl rfl (Nat.le_of_ble_eq_true rfl) (Nat.le_of_ble_eq_true rfl) (Nat.le_of_ble_eq_true rfl) ?_
  rintro _ _ ⟨rfl, rfl⟩
  refine mv_G_run 1 (F' := (26, [some (.ref 33), some (.ref 31)], [], 9, 193, kcU (kcS 43 46) 33 1 39)) rfl ?_
  rw [kc_put (a := 43) (t := 45) rfl]
  refine mv_G_run 2 (F' := (30, [some (.ref 33), some (.ref 31)], [.ref 43, .ref 33], 10, 197, mv_new (kcS 43 45) (.inr 5))) rfl ?_
  rw [kc_new (a := 43) (t := 45) rfl rfl rfl]
  refine mv_G_run 1 (F' := (31, [some (.ref 33), some (.ref 31)], [.ref 43, .ref 43, .ref 33], 10, 197, kcS 44 45)) rfl ?_
  refine mv_G_call (r := [.ref 43, .ref 33]) (kc_13_ok _) rfl rfl rfl rfl rfl (Nat.le_of_ble_eq_true rfl) (Nat.le_of_ble_eq_true rfl) (Nat.le_of_ble_eq_true rfl) ?_
  rintro _ _ ⟨rfl, rfl⟩
  refine mv_G_run 1 (F' := (37, [some (.ref 33), some (.ref 31)], [], 13, 293, kcU (kcS 47 42) 33 2 43)) rfl ?_
  rw [kc_put (a := 47) (t := 41) rfl]
  refine mv_G_run 3 (F' := (42, [some (.ref 33), some (.ref 31)], [.ref 47, .ref 33], 14, 309, mv_new (kcS 47 41) (.inl (0, 16)))) rfl ?_
  rw [kc_new (a := 47) (t := 41) rfl rfl rfl]
  refine mv_G_run 1 (F' := (45, [some (.ref 33), some (.ref 31)], [], 14, 309, kcU (kcS 48 41) 33 4 47)) rfl ?_
  rw [kc_put (a := 48) (t := 40) rfl]
  refine mv_G_run 3 (F' := (50, [some (.ref 33), some (.ref 31)], [.ref 48, .ref 33], 15, 325, mv_new (kcS 48 40) (.inl (0, 16)))) rfl ?_
  rw [kc_new (a := 48) (t := 40) rfl rfl rfl]
  refine mv_G_run 1 (F' := (53, [some (.ref 33), some (.ref 31)], [], 15, 325, kcU (kcS 49 40) 33 5 48)) rfl ?_
  rw [kc_put (a := 49) (t := 39) rfl]
  refine mv_G_run 3 (F' := (58, [some (.ref 33), some (.ref 31)], [.ref 49, .ref 33], 16, 341, mv_new (kcS 49 39) (.inl (0, 16)))) rfl ?_
  rw [kc_new (a := 49) (t := 39) rfl rfl rfl]
  refine mv_G_run 1 (F' := (61, [some (.ref 33), some (.ref 31)], [], 16, 341, kcU (kcS 50 39) 33 6 49)) rfl ?_
  rw [kc_put (a := 50) (t := 38) rfl]
  refine mv_G_run 3 (F' := (66, [some (.ref 33), some (.ref 31)], [.ref 50, .ref 33], 17, 357, mv_new (kcS 50 38) (.inl (0, 16)))) rfl ?_
  rw [kc_new (a := 50) (t := 38) rfl rfl rfl]
  refine mv_G_run 1 (F' := (69, [some (.ref 33), some (.ref 31)], [], 17, 357, kcU (kcS 51 38) 33 7 50)) rfl ?_
  rw [kc_put (a := 51) (t := 37) rfl]
  refine mv_G_run 3 (F' := (74, [some (.ref 33), some (.ref 31)], [.ref 51, .ref 33], 18, 421, mv_new (kcS 51 37) (.inl (0, 64)))) rfl ?_
  rw [kc_new (a := 51) (t := 37) rfl rfl rfl]
  refine mv_G_run 1 (F' := (77, [some (.ref 33), some (.ref 31)], [], 18, 421, kcU (kcS 52 37) 33 8 51)) rfl ?_
  rw [kc_put (a := 52) (t := 36) rfl]
  refine mv_G_run 2 (F' := (81, [some (.ref 33), some (.ref 31)], [.ref 52, .ref 33], 19, 424, mv_new (kcS 52 36) (.inr 6))) rfl ?_
  rw [kc_new (a := 52) (t := 36) rfl rfl rfl]
  refine mv_G_run 2 (F' := (83, [some (.ref 33), some (.ref 31)], [.ref 31, .ref 52, .ref 52, .ref 33], 19, 424, kcS 53 36)) rfl ?_
  refine mv_G_call (r := [.ref 52, .ref 33]) (kc_14_ok _) rfl rfl rfl rfl rfl (Nat.le_of_ble_eq_true rfl) (Nat.le_of_ble_eq_true rfl) (Nat.le_of_ble_eq_true rfl) ?_
  rintro _ _ ⟨rfl, rfl⟩
  refine mv_G_run 1 (F' := (89, [some (.ref 33), some (.ref 31)], [], 19, 424, kcU (kcS 53 35) 33 3 52)) rfl ?_
  rw [kc_put (a := 53) (t := 34) rfl]
  exact mv_G_ret rfl rfl rfl (Nat.le_of_ble_eq_true rfl) trivial ⟨rfl, rfl⟩
/-! KindJudge$Code.<init> on cell 53 -/
set_option maxRecDepth 100000 in
set_option maxHeartbeats 4000000 in
theorem kc_16_ok (d : Nat) : mv_C kjP kjSta (d + 2) 63 [.ref 53, .ref 31, .ref 33] (kcS 54 34) (fun v S => v = none ∧ S = kcS 55 31) := by
  refine mv_C_in kjM_63 (lc := [some (.ref 53), some (.ref 31), some (.ref 33)]) rfl rfl rfl ?_
  refine mv_G_run 5 (F' := (10, [some (.ref 53), some (.ref 31), some (.ref 33)], [.ref 54, .ref 53], 1, 1500, mv_new (kcS 54 34) (.inl (1, 1500)))) rfl ?_
  rw [kc_new (a := 54) (t := 34) rfl rfl rfl]
  refine mv_G_run 1 (F' := (13, [some (.ref 53), some (.ref 31), some (.ref 33)], [], 1, 1500, kcU (kcS 55 34) 53 2 54)) rfl ?_
  rw [kc_put (a := 55) (t := 33) rfl]
  refine mv_G_run 3 (F' := (18, [some (.ref 53), some (.ref 31), some (.ref 33)], [], 1, 1500, kcU (kcS 55 33) 53 0 31)) rfl ?_
  rw [kc_put (a := 55) (t := 32) rfl]
  refine mv_G_run 3 (F' := (23, [some (.ref 53), some (.ref 31), some (.ref 33)], [], 1, 1500, kcU (kcS 55 32) 53 1 33)) rfl ?_
  rw [kc_put (a := 55) (t := 31) rfl]
  exact mv_G_ret rfl rfl rfl (Nat.le_of_ble_eq_true rfl) trivial ⟨rfl, rfl⟩
/-! KindJudge$Flow.<init> on cell 55 -/
set_option maxRecDepth 100000 in
set_option maxHeartbeats 4000000 in
theorem kc_17_ok (d : Nat) : mv_C kjP kjSta (d + 2) 77 [.ref 55, .ref 33, .ref 53] (kcS 56 28) (fun v S => v = none ∧ S = kcS 59 23) := by
  refine mv_C_in kjM_77 (lc := [some (.ref 55), some (.ref 33), some (.ref 53)]) rfl rfl rfl ?_
  refine mv_G_run 5 (F' := (10, [some (.ref 55), some (.ref 33), some (.ref 53)], [.ref 56, .ref 55], 1, 1500, mv_new (kcS 56 28) (.inl (2, 1500)))) rfl ?_
  rw [kc_new (a := 56) (t := 28) rfl rfl rfl]
  refine mv_G_run 1 (F' := (13, [some (.ref 55), some (.ref 33), some (.ref 53)], [], 1, 1500, kcU (kcS 57 28) 55 2 56)) rfl ?_
  rw [kc_put (a := 57) (t := 27) rfl]
  refine mv_G_run 3 (F' := (19, [some (.ref 55), some (.ref 33), some (.ref 53)], [.ref 57, .ref 55], 2, 3000, mv_new (kcS 57 27) (.inl (3, 1500)))) rfl ?_
  rw [kc_new (a := 57) (t := 27) rfl rfl rfl]
  refine mv_G_run 1 (F' := (22, [some (.ref 55), some (.ref 33), some (.ref 53)], [], 2, 3000, kcU (kcS 58 27) 55 3 57)) rfl ?_
  rw [kc_put (a := 58) (t := 26) rfl]
  refine mv_G_run 3 (F' := (27, [some (.ref 55), some (.ref 33), some (.ref 53)], [.ref 58, .ref 55], 3, 3120, mv_new (kcS 58 26) (.inl (1, 120)))) rfl ?_
  rw [kc_new (a := 58) (t := 26) rfl rfl rfl]
  refine mv_G_run 1 (F' := (30, [some (.ref 55), some (.ref 33), some (.ref 53)], [], 3, 3120, kcU (kcS 59 26) 55 4 58)) rfl ?_
  rw [kc_put (a := 59) (t := 25) rfl]
  refine mv_G_run 3 (F' := (35, [some (.ref 55), some (.ref 33), some (.ref 53)], [], 3, 3120, kcU (kcS 59 25) 55 0 33)) rfl ?_
  rw [kc_put (a := 59) (t := 24) rfl]
  refine mv_G_run 3 (F' := (40, [some (.ref 55), some (.ref 33), some (.ref 53)], [], 3, 3120, kcU (kcS 59 24) 55 1 53)) rfl ?_
  rw [kc_put (a := 59) (t := 23) rfl]
  exact mv_G_ret rfl rfl rfl (Nat.le_of_ble_eq_true rfl) trivial ⟨rfl, rfl⟩
/-! KindJudge$Book.<init> on cell 30 -/
set_option maxRecDepth 100000 in
set_option maxHeartbeats 4000000 in
theorem kc_18_ok (d : Nat) : mv_C kjP kjSta (d + 4) 18 [.ref 30] (kcS 31 55) (fun v S => v = none ∧ S = kcS 59 22) := by
  refine mv_C_in kjM_18 (lc := [some (.ref 30), none, none, none]) rfl rfl rfl ?_
  refine mv_G_run 3 (F' := (7, [some (.ref 30), none, none, none], [.ref 31], 1, 2, mv_new (kcS 31 55) (.inr 2))) rfl ?_
  rw [kc_new (a := 31) (t := 55) rfl rfl rfl]
  refine mv_G_run 1 (F' := (8, [some (.ref 30), none, none, none], [.ref 31, .ref 31], 1, 2, kcS 32 55)) rfl ?_
  refine mv_G_call (r := [.ref 31]) (kc_10_ok _) rfl rfl rfl rfl rfl (Nat.le_of_ble_eq_true rfl) (Nat.le_of_ble_eq_true rfl) (Nat.le_of_ble_eq_true rfl) ?_
  rintro _ _ ⟨rfl, rfl⟩
  refine mv_G_run 2 (F' := (15, [some (.ref 30), some (.ref 31), none, none], [.ref 33], 3, 1511, mv_new (kcS 33 54) (.inr 3))) rfl ?_
  rw [kc_new (a := 33) (t := 54) rfl rfl rfl]
  refine mv_G_run 2 (F' := (17, [some (.ref 30), some (.ref 31), none, none], [.ref 31, .ref 33, .ref 33], 3, 1511, kcS 34 54)) rfl ?_
  refine mv_G_call (r := [.ref 33]) (kc_15_ok _) rfl rfl rfl rfl rfl (Nat.le_of_ble_eq_true rfl) (Nat.le_of_ble_eq_true rfl) (Nat.le_of_ble_eq_true rfl) ?_
  rintro _ _ ⟨rfl, rfl⟩
  refine mv_G_run 2 (F' := (24, [some (.ref 30), some (.ref 31), some (.ref 33), none], [.ref 53], 23, 1938, mv_new (kcS 53 34) (.inr 7))) rfl ?_
  rw [kc_new (a := 53) (t := 34) rfl rfl rfl]
  refine mv_G_run 3 (F' := (27, [some (.ref 30), some (.ref 31), some (.ref 33), none], [.ref 33, .ref 31, .ref 53, .ref 53], 23, 1938, kcS 54 34)) rfl ?_
  refine mv_G_call (r := [.ref 53]) (kc_16_ok _) rfl rfl rfl rfl rfl (Nat.le_of_ble_eq_true rfl) (Nat.le_of_ble_eq_true rfl) (Nat.le_of_ble_eq_true rfl) ?_
  rintro _ _ ⟨rfl, rfl⟩
  refine mv_G_run 4 (F' := (36, [some (.ref 30), some (.ref 31), some (.ref 33), some (.ref 53)], [], 24, 3438, kcU (kcS 55 31) 30 0 31)) rfl ?_
  rw [kc_put (a := 55) (t := 30) rfl]
  refine mv_G_run 3 (F' := (41, [some (.ref 30), some (.ref 31), some (.ref 33), some (.ref 53)], [], 24, 3438, kcU (kcS 55 30) 30 1 33)) rfl ?_
  rw [kc_put (a := 55) (t := 29) rfl]
  refine mv_G_run 3 (F' := (46, [some (.ref 30), some (.ref 31), some (.ref 33), some (.ref 53)], [], 24, 3438, kcU (kcS 55 29) 30 2 53)) rfl ?_
  rw [kc_put (a := 55) (t := 28) rfl]
  refine mv_G_run 2 (F' := (50, [some (.ref 30), some (.ref 31), some (.ref 33), some (.ref 53)], [.ref 55, .ref 30], 25, 3450, mv_new (kcS 55 28) (.inr 8))) rfl ?_
  rw [kc_new (a := 55) (t := 28) rfl rfl rfl]
  refine mv_G_run 3 (F' := (53, [some (.ref 30), some (.ref 31), some (.ref 33), some (.ref 53)], [.ref 53, .ref 33, .ref 55, .ref 55, .ref 30], 25, 3450, kcS 56 28)) rfl ?_
  refine mv_G_call (r := [.ref 55, .ref 30]) (kc_17_ok _) rfl rfl rfl rfl rfl (Nat.le_of_ble_eq_true rfl) (Nat.le_of_ble_eq_true rfl) (Nat.le_of_ble_eq_true rfl) ?_
  rintro _ _ ⟨rfl, rfl⟩
  refine mv_G_run 1 (F' := (59, [some (.ref 30), some (.ref 31), some (.ref 33), some (.ref 53)], [], 28, 6570, kcU (kcS 59 23) 30 3 55)) rfl ?_
  rw [kc_put (a := 59) (t := 22) rfl]
  exact mv_G_ret rfl rfl rfl (Nat.le_of_ble_eq_true rfl) trivial ⟨rfl, rfl⟩
/-! KindJudge.<init> on cell 0 -/
set_option maxRecDepth 100000 in
set_option maxHeartbeats 4000000 in
theorem kc_19_ok (d : Nat) : mv_C kjP kjSta (d + 5) 0 [.ref 0] (kcS 1 89) (fun v S => v = none ∧ S = kcS 59 21) := by
  refine mv_C_in kjM_0 (lc := [some (.ref 0)]) rfl rfl rfl ?_
  refine mv_G_run 4 (F' := (8, [some (.ref 0)], [.ref 1, .ref 0], 1, 4, mv_new (kcS 1 89) (.inr 1))) rfl ?_
  rw [kc_new (a := 1) (t := 89) rfl rfl rfl]
  refine mv_G_run 1 (F' := (9, [some (.ref 0)], [.ref 1, .ref 1, .ref 0], 1, 4, kcS 2 89)) rfl ?_
  refine mv_G_call (r := [.ref 1, .ref 0]) (kc_9_ok _) rfl rfl rfl rfl rfl (Nat.le_of_ble_eq_true rfl) (Nat.le_of_ble_eq_true rfl) (Nat.le_of_ble_eq_true rfl) ?_
  rintro _ _ ⟨rfl, rfl⟩
  refine mv_G_run 1 (F' := (15, [some (.ref 0)], [], 29, 6574, kcU (kcS 30 56) 0 0 1)) rfl ?_
  rw [kc_put (a := 30) (t := 55) rfl]
  refine mv_G_run 2 (F' := (19, [some (.ref 0)], [.ref 30, .ref 0], 30, 6578, mv_new (kcS 30 55) (.inr 1))) rfl ?_
  rw [kc_new (a := 30) (t := 55) rfl rfl rfl]
  refine mv_G_run 1 (F' := (20, [some (.ref 0)], [.ref 30, .ref 30, .ref 0], 30, 6578, kcS 31 55)) rfl ?_
  refine mv_G_call (r := [.ref 30, .ref 0]) (kc_18_ok _) rfl rfl rfl rfl rfl (Nat.le_of_ble_eq_true rfl) (Nat.le_of_ble_eq_true rfl) (Nat.le_of_ble_eq_true rfl) ?_
  rintro _ _ ⟨rfl, rfl⟩
  refine mv_G_run 1 (F' := (26, [some (.ref 0)], [], 58, 13148, kcU (kcS 59 22) 0 1 30)) rfl ?_
  rw [kc_put (a := 59) (t := 21) rfl]
  exact mv_G_ret rfl rfl rfl (Nat.le_of_ble_eq_true rfl) trivial ⟨rfl, rfl⟩
/-! KindJudgeModel.<init> on cell 59 -/
set_option maxRecDepth 100000 in
set_option maxHeartbeats 4000000 in
theorem kc_20_ok (d : Nat) : mv_C kjP kjSta (d + 2) 100 [.ref 59] (kcS 60 21) (fun v S => v = none ∧ S = kcS 81 0) := by
  refine mv_C_in kjM_100 (lc := [some (.ref 59)]) rfl rfl rfl ?_
  refine mv_G_run 5 (F' := (10, [some (.ref 59)], [.ref 60, .ref 59], 1, 1500, mv_new (kcS 60 21) (.inl (0, 1500)))) rfl ?_
  rw [kc_new (a := 60) (t := 21) rfl rfl rfl]
  refine mv_G_run 1 (F' := (13, [some (.ref 59)], [], 1, 1500, kcU (kcS 61 21) 59 3 60)) rfl ?_
  rw [kc_put (a := 61) (t := 20) rfl]
  refine mv_G_run 3 (F' := (19, [some (.ref 59)], [.ref 61, .ref 59], 2, 3000, mv_new (kcS 61 20) (.inl (0, 1500)))) rfl ?_
  rw [kc_new (a := 61) (t := 20) rfl rfl rfl]
  refine mv_G_run 1 (F' := (22, [some (.ref 59)], [], 2, 3000, kcU (kcS 62 20) 59 4 61)) rfl ?_
  rw [kc_put (a := 62) (t := 19) rfl]
  refine mv_G_run 3 (F' := (28, [some (.ref 59)], [.ref 62, .ref 59], 3, 4500, mv_new (kcS 62 19) (.inl (0, 1500)))) rfl ?_
  rw [kc_new (a := 62) (t := 19) rfl rfl rfl]
  refine mv_G_run 1 (F' := (31, [some (.ref 59)], [], 3, 4500, kcU (kcS 63 19) 59 6 62)) rfl ?_
  rw [kc_put (a := 63) (t := 18) rfl]
  refine mv_G_run 3 (F' := (36, [some (.ref 59)], [.ref 63, .ref 59], 4, 4508, mv_new (kcS 63 18) (.inl (0, 8)))) rfl ?_
  rw [kc_new (a := 63) (t := 18) rfl rfl rfl]
  refine mv_G_run 1 (F' := (39, [some (.ref 59)], [], 4, 4508, kcU (kcS 64 18) 59 13 63)) rfl ?_
  rw [kc_put (a := 64) (t := 17) rfl]
  refine mv_G_run 3 (F' := (44, [some (.ref 59)], [.ref 64, .ref 59], 5, 4516, mv_new (kcS 64 17) (.inl (0, 8)))) rfl ?_
  rw [kc_new (a := 64) (t := 17) rfl rfl rfl]
  refine mv_G_run 1 (F' := (47, [some (.ref 59)], [], 5, 4516, kcU (kcS 65 17) 59 14 64)) rfl ?_
  rw [kc_put (a := 65) (t := 16) rfl]
  refine mv_G_run 3 (F' := (52, [some (.ref 59)], [.ref 65, .ref 59], 6, 4580, mv_new (kcS 65 16) (.inl (0, 64)))) rfl ?_
  rw [kc_new (a := 65) (t := 16) rfl rfl rfl]
  refine mv_G_run 1 (F' := (55, [some (.ref 59)], [], 6, 4580, kcU (kcS 66 16) 59 15 65)) rfl ?_
  rw [kc_put (a := 66) (t := 15) rfl]
  refine mv_G_run 3 (F' := (60, [some (.ref 59)], [.ref 66, .ref 59], 7, 4588, mv_new (kcS 66 15) (.inl (0, 8)))) rfl ?_
  rw [kc_new (a := 66) (t := 15) rfl rfl rfl]
  refine mv_G_run 1 (F' := (63, [some (.ref 59)], [], 7, 4588, kcU (kcS 67 15) 59 17 66)) rfl ?_
  rw [kc_put (a := 67) (t := 14) rfl]
  refine mv_G_run 3 (F' := (68, [some (.ref 59)], [.ref 67, .ref 59], 8, 4612, mv_new (kcS 67 14) (.inl (0, 24)))) rfl ?_
  rw [kc_new (a := 67) (t := 14) rfl rfl rfl]
  refine mv_G_run 1 (F' := (71, [some (.ref 59)], [], 8, 4612, kcU (kcS 68 14) 59 18 67)) rfl ?_
  rw [kc_put (a := 68) (t := 13) rfl]
  refine mv_G_run 3 (F' := (76, [some (.ref 59)], [.ref 68, .ref 59], 9, 4620, mv_new (kcS 68 13) (.inl (0, 8)))) rfl ?_
  rw [kc_new (a := 68) (t := 13) rfl rfl rfl]
  refine mv_G_run 1 (F' := (79, [some (.ref 59)], [], 9, 4620, kcU (kcS 69 13) 59 19 68)) rfl ?_
  rw [kc_put (a := 69) (t := 12) rfl]
  refine mv_G_run 3 (F' := (84, [some (.ref 59)], [.ref 69, .ref 59], 10, 4636, mv_new (kcS 69 12) (.inl (0, 16)))) rfl ?_
  rw [kc_new (a := 69) (t := 12) rfl rfl rfl]
  refine mv_G_run 1 (F' := (87, [some (.ref 59)], [], 10, 4636, kcU (kcS 70 12) 59 21 69)) rfl ?_
  rw [kc_put (a := 70) (t := 11) rfl]
  refine mv_G_run 3 (F' := (92, [some (.ref 59)], [.ref 70, .ref 59], 11, 4700, mv_new (kcS 70 11) (.inl (0, 64)))) rfl ?_
  rw [kc_new (a := 70) (t := 11) rfl rfl rfl]
  refine mv_G_run 1 (F' := (95, [some (.ref 59)], [], 11, 4700, kcU (kcS 71 11) 59 22 70)) rfl ?_
  rw [kc_put (a := 71) (t := 10) rfl]
  refine mv_G_run 3 (F' := (100, [some (.ref 59)], [.ref 71, .ref 59], 12, 4716, mv_new (kcS 71 10) (.inl (0, 16)))) rfl ?_
  rw [kc_new (a := 71) (t := 10) rfl rfl rfl]
  refine mv_G_run 1 (F' := (103, [some (.ref 59)], [], 12, 4716, kcU (kcS 72 10) 59 23 71)) rfl ?_
  rw [kc_put (a := 72) (t := 9) rfl]
  refine mv_G_run 3 (F' := (108, [some (.ref 59)], [.ref 72, .ref 59], 13, 4732, mv_new (kcS 72 9) (.inl (0, 16)))) rfl ?_
  rw [kc_new (a := 72) (t := 9) rfl rfl rfl]
  refine mv_G_run 1 (F' := (111, [some (.ref 59)], [], 13, 4732, kcU (kcS 73 9) 59 24 72)) rfl ?_
  rw [kc_put (a := 73) (t := 8) rfl]
  refine mv_G_run 3 (F' := (116, [some (.ref 59)], [.ref 73, .ref 59], 14, 4748, mv_new (kcS 73 8) (.inl (0, 16)))) rfl ?_
  rw [kc_new (a := 73) (t := 8) rfl rfl rfl]
  refine mv_G_run 1 (F' := (119, [some (.ref 59)], [], 14, 4748, kcU (kcS 74 8) 59 25 73)) rfl ?_
  rw [kc_put (a := 74) (t := 7) rfl]
  refine mv_G_run 3 (F' := (124, [some (.ref 59)], [.ref 74, .ref 59], 15, 4764, mv_new (kcS 74 7) (.inl (0, 16)))) rfl ?_
  rw [kc_new (a := 74) (t := 7) rfl rfl rfl]
  refine mv_G_run 1 (F' := (127, [some (.ref 59)], [], 15, 4764, kcU (kcS 75 7) 59 26 74)) rfl ?_
  rw [kc_put (a := 75) (t := 6) rfl]
  refine mv_G_run 3 (F' := (133, [some (.ref 59)], [.ref 75, .ref 59], 16, 6684, mv_new (kcS 75 6) (.inl (0, 1920)))) rfl ?_
  rw [kc_new (a := 75) (t := 6) rfl rfl rfl]
  refine mv_G_run 1 (F' := (136, [some (.ref 59)], [], 16, 6684, kcU (kcS 76 6) 59 27 75)) rfl ?_
  rw [kc_put (a := 76) (t := 5) rfl]
  refine mv_G_run 3 (F' := (142, [some (.ref 59)], [.ref 76, .ref 59], 17, 8604, mv_new (kcS 76 5) (.inl (1, 1920)))) rfl ?_
  rw [kc_new (a := 76) (t := 5) rfl rfl rfl]
  refine mv_G_run 1 (F' := (145, [some (.ref 59)], [], 17, 8604, kcU (kcS 77 5) 59 28 76)) rfl ?_
  rw [kc_put (a := 77) (t := 4) rfl]
  refine mv_G_run 3 (F' := (150, [some (.ref 59)], [.ref 77, .ref 59], 18, 8668, mv_new (kcS 77 4) (.inl (0, 64)))) rfl ?_
  rw [kc_new (a := 77) (t := 4) rfl rfl rfl]
  refine mv_G_run 1 (F' := (153, [some (.ref 59)], [], 18, 8668, kcU (kcS 78 4) 59 29 77)) rfl ?_
  rw [kc_put (a := 78) (t := 3) rfl]
  refine mv_G_run 3 (F' := (159, [some (.ref 59)], [.ref 78, .ref 59], 19, 10588, mv_new (kcS 78 3) (.inl (0, 1920)))) rfl ?_
  rw [kc_new (a := 78) (t := 3) rfl rfl rfl]
  refine mv_G_run 1 (F' := (162, [some (.ref 59)], [], 19, 10588, kcU (kcS 79 3) 59 30 78)) rfl ?_
  rw [kc_put (a := 79) (t := 2) rfl]
  refine mv_G_run 3 (F' := (168, [some (.ref 59)], [.ref 79, .ref 59], 20, 41308, mv_new (kcS 79 2) (.inl (0, 30720)))) rfl ?_
  rw [kc_new (a := 79) (t := 2) rfl rfl rfl]
  refine mv_G_run 1 (F' := (171, [some (.ref 59)], [], 20, 41308, kcU (kcS 80 2) 59 31 79)) rfl ?_
  rw [kc_put (a := 80) (t := 1) rfl]
  refine mv_G_run 3 (F' := (176, [some (.ref 59)], [.ref 80, .ref 59], 21, 41324, mv_new (kcS 80 1) (.inl (0, 16)))) rfl ?_
  rw [kc_new (a := 80) (t := 1) rfl rfl rfl]
  refine mv_G_run 1 (F' := (179, [some (.ref 59)], [], 21, 41324, kcU (kcS 81 1) 59 32 80)) rfl ?_
  rw [kc_put (a := 81) (t := 0) rfl]
  exact mv_G_ret rfl rfl rfl (Nat.le_of_ble_eq_true rfl) trivial ⟨rfl, rfl⟩
theorem kc_out {x y : Nat} : ∀ {l : List (Nat × Nat × Nat)}, (∀ e ∈ l, e.1 ≠ x ∨ e.2.1 ≠ y) → kcR l x y = none
  | [], _ => rfl
  | e :: r, h => by
    unfold kcR
    rw [kc_out (fun e' he' => h e' (List.mem_cons_of_mem _ he'))]
    rcases h e List.mem_cons_self with h1 | h1
    · rw [if_neg (fun z => h1 z.symm)]
    · split
      · rw [if_neg (fun z => h1 z.symm)]
      · rfl
set_option maxRecDepth 100000 in
theorem kc_small : ∀ x, x < 82 → ∀ y, y < 40 → kcR kcF x y = kjR false x y := by decide +kernel
set_option maxRecDepth 100000 in
theorem kc_rows : (kjRt false).length = 82 ∧ ∀ r ∈ kjRt false, r.length ≤ 40 := by decide +kernel
set_option maxRecDepth 100000 in
theorem kc_keys : ∀ e ∈ kcF, e.1 < 82 ∧ e.2.1 < 40 := by decide +kernel
theorem kc_end : kcS 82 0 = kjS false kcZ kcZL := by
  have e : kcR (kcF.drop 0) = kjR false := by
    rw [List.drop_zero]
    funext x y
    by_cases h : x < 82 ∧ y < 40
    · exact kc_small x h.1 y h.2
    · rw [kc_out (fun e he => by
        obtain ⟨h1, h2⟩ := kc_keys e he
        by_cases e1 : e.1 = x
        · refine Or.inr (fun e2 => h ⟨by omega, by omega⟩)
        · exact Or.inl e1)]
      unfold kjR
      by_cases hx : x < 82
      · have hr : ((kjRt false).getD x []).length ≤ 40 := by
          rw [List.getD_eq_getElem?_getD, List.getElem?_eq_getElem (by rw [kc_rows.1]; exact hx)]
          exact kc_rows.2 _ (List.getElem_mem _)
        rw [List.getD_eq_getElem?_getD (l := (kjRt false).getD x []), List.getElem?_eq_none (by omega)]
        rfl
      · have e0 : (kjRt false).getD x [] = [] := by
          rw [List.getD_eq_getElem?_getD, List.getElem?_eq_none (by rw [kc_rows.1]; omega)]
          rfl
        rw [e0]
        rfl
  show (kjSH.take 82, kcZ, kcZL, kcR (kcF.drop 0)) = kjS false kcZ kcZL
  rw [e]
  rfl
