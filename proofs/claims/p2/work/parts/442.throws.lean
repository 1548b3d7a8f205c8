/-! load and look of the class: where they throw, and where load returns (by program: wip/p2/gen/throws.py). -/
abbrev kt_U : Jvm.Cond := Jvm.Cond.isRef (.static "java/lang/Throwable" "UNASSIGNED_STACK" "[Ljava/lang/StackTraceElement;")
abbrev kt_V : Jvm.Cond := Jvm.Cond.isRef (.static "java/lang/Throwable" "SUPPRESSED_SENTINEL" "Ljava/util/List;")
abbrev kt_LU : Jvm.Cond := Jvm.Cond.laysStatic "java/lang/Throwable" "UNASSIGNED_STACK" "[Ljava/lang/StackTraceElement;"
abbrev kt_LV : Jvm.Cond := Jvm.Cond.laysStatic "java/lang/Throwable" "SUPPRESSED_SENTINEL" "Ljava/util/List;"
def kt_ok (Fw : List Jvm.Cond) (a : Jvm.Cond) : Bool := mv_has lw_tbl a || (Fw.any (fun x => decide (x = a)) || (decide (a = kt_U) || (decide (a = kt_V) || (decide (a = kt_LU) || decide (a = kt_LV)))))
theorem kt_at {l Fw : List Jvm.Cond} (h : l.all (kt_ok Fw) = true) : ∀ a ∈ l, a ∈ kjTs ∨ a ∈ Fw ∨ a = kt_U ∨ a = kt_V ∨ a = kt_LU ∨ a = kt_LV := by
  intro a ha
  have h1 := List.all_eq_true.mp h a ha
  simp only [kt_ok, Bool.or_eq_true] at h1
  rcases h1 with h1 | h1 | h1 | h1 | h1 | h1
  · exact Or.inl (mv_has_in (fun _ h => h) h1)
  · exact Or.inr (Or.inl (mv_any_in h1))
  · exact Or.inr (Or.inr (Or.inl (of_decide_eq_true h1)))
  · exact Or.inr (Or.inr (Or.inr (Or.inl (of_decide_eq_true h1))))
  · exact Or.inr (Or.inr (Or.inr (Or.inr (Or.inl (of_decide_eq_true h1)))))
  · exact Or.inr (Or.inr (Or.inr (Or.inr (Or.inr (of_decide_eq_true h1)))))
abbrev kt_Y : String := "java/lang/RuntimeException"
abbrev kt_N : List String := ["java/lang/Exception"]
abbrev kt_I : String := "java/lang/IllegalArgumentException"
abbrev kt_E : String := "java/util/NoSuchElementException"
/-- the words of casts and declarations -/
def kt_F : List Jvm.Cond := [.castable kt_I kt_I, .castable kt_E kt_E, .declares ⟨"java/lang/RuntimeException", "<init>", "(Ljava/lang/String;)V"⟩, .declares ⟨"java/lang/Exception", "<init>", "(Ljava/lang/String;)V"⟩, .declares ⟨"java/lang/Throwable", "<init>", "(Ljava/lang/String;)V"⟩]
theorem kt_Fo : mv_Fo kt_F := by
  intro w hw
  simp only [kt_F, List.mem_cons, List.not_mem_nil, or_false] at hw
  rcases hw with rfl | rfl | rfl | rfl | rfl
  · exact Or.inl ⟨_, _, rfl⟩
  · exact Or.inl ⟨_, _, rfl⟩
  · exact Or.inr ⟨_, rfl⟩
  · exact Or.inr ⟨_, rfl⟩
  · exact Or.inr ⟨_, rfl⟩
set_option maxRecDepth 100000 in
set_option maxHeartbeats 4000000 in
theorem kt_Fin : kt_F.all (fun a => lw_tbl.any (fun x => decide (x = a))) = true := by decide +kernel
set_option maxRecDepth 100000 in
set_option maxHeartbeats 4000000 in
theorem kt_a2 : (mv_Xat "KindJudge" 43 kt_I 7 prog_13_method_2_code kt_Y kt_N).all (kt_ok kt_F) = true := by decide +kernel
set_option maxRecDepth 100000 in
set_option maxHeartbeats 4000000 in
theorem kt_a5 : (mv_Xat "KindJudge" 102 kt_E 13 prog_18_method_4_code kt_Y kt_N).all (kt_ok kt_F) = true := by decide +kernel
set_option maxRecDepth 100000 in
set_option maxHeartbeats 4000000 in
theorem kt_w2 : [Jvm.Cond.classLink "KindJudge" 39 kt_I, Jvm.Cond.instantiable kt_I 6, Jvm.Cond.initialized kt_I].all (mv_has lw_tbl) = true := by decide +kernel
set_option maxRecDepth 100000 in
set_option maxHeartbeats 4000000 in
theorem kt_w5 : [Jvm.Cond.classLink "KindJudge" 98 kt_E, Jvm.Cond.instantiable kt_E 6, Jvm.Cond.initialized kt_E].all (mv_has lw_tbl) = true := by decide +kernel
theorem kt_all {l : List Jvm.Cond} (h : l.all (mv_has lw_tbl) = true) : ∀ a ∈ l, a ∈ kjTs := fun a ha => mv_has_in (fun _ h => h) (List.all_eq_true.mp h a ha)
set_option maxRecDepth 100000 in
set_option maxHeartbeats 4000000 in
theorem kt_thr2 : mv_Thr kjTs kt_F kjM_2 21 kt_I kt_Y kt_N 39 41 43 7 prog_13_method_2_code :=
  ⟨by decide +kernel, by decide +kernel, by decide +kernel, by decide +kernel, by decide +kernel, by decide +kernel, by decide +kernel, by decide +kernel, ⟨by decide +kernel, by decide +kernel, by decide +kernel, by decide +kernel⟩, kt_all kt_w2 _ (List.Mem.head _), kt_all kt_w2 _ (List.Mem.tail _ (List.Mem.head _)), kt_all kt_w2 _ (List.Mem.tail _ (List.Mem.tail _ (List.Mem.head _))), kt_at kt_a2⟩
set_option maxRecDepth 100000 in
set_option maxHeartbeats 4000000 in
theorem kt_thr5 : mv_Thr kjTs kt_F kjM_5 24 kt_E kt_Y kt_N 98 100 102 13 prog_18_method_4_code :=
  ⟨by decide +kernel, by decide +kernel, by decide +kernel, by decide +kernel, by decide +kernel, by decide +kernel, by decide +kernel, by decide +kernel, ⟨by decide +kernel, by decide +kernel, by decide +kernel, by decide +kernel⟩, kt_all kt_w5 _ (List.Mem.head _), kt_all kt_w5 _ (List.Mem.tail _ (List.Mem.head _)), kt_all kt_w5 _ (List.Mem.tail _ (List.Mem.tail _ (List.Mem.head _))), kt_at kt_a5⟩
theorem kjR_swap (f : Bool) : mv_up (mv_up (kjR f) 0 0 (some (kb (!f) 1))) 0 1 (some (kb f 1)) = kjR (!f) := by
  funext a b
  match a, b with
  | 0, 0 => cases f <;> rfl
  | 0, 1 => cases f <;> rfl
  | 0, b + 2 =>
    unfold mv_up
    rw [if_pos rfl, if_neg (by omega), if_pos rfl, if_neg (by omega)]
    cases f <;> rfl
  | a + 1, b =>
    unfold mv_up
    rw [if_neg (by omega), if_neg (by omega)]
    cases f <;> rfl
set_option maxRecDepth 100000 in
set_option maxHeartbeats 4000000 in
theorem kt_loadF {N : Nat} {I I1 : kjI} {L L1 : kjL} (h1 : kf13 false N I L = some (I1, L1)) (h2 : ¬ I1 0 3 = 0) : mv_Gs kjP kjSta (mv_C kjP kjSta 7) kjM_2 (fun F => ∃ (lc : mv_L) (S' : mv_S), F = (21, lc, [], 0, 0, S') ∧ S' = kjS false (mv_up I1 (kb true 2) 1 (0 : Int32)) L1) (0, mv_ent (mv_ml kjM_2) [.ref 0], [], 0, 0, kjS false I L) := by
  refine mv_Gs_run 1 (F' := (1, [some (.ref 0), none], [.ref 0], 0, 0, kjS false I L)) rfl ?_
  refine mv_Gs_call (r := []) (kf13_ok _ _ _ _ 0 _ h1) rfl rfl rfl rfl rfl (Nat.le_of_ble_eq_true rfl) (Nat.le_of_ble_eq_true rfl) (Nat.le_of_ble_eq_true rfl) ?_
  rintro _ _ ⟨rfl, rfl⟩
  refine mv_Gs_run 2 (F' := (8, [some (.ref 0), none], [.int (I1 0 3)], 0, 0, kjS false I1 L1)) rfl ?_
  refine mv_Gs_br (tgt := 31) rfl rfl (by decide) (fun z => absurd z h2) (fun _ => ?_)
  refine mv_Gs_run 3 (F' := (18, [some (.ref 0), none], [.ref (kb true 2)], 0, 0, kjS false I1 L1)) rfl ?_
  refine mv_Gs_call (r := []) (kf21_ok false true I1 L1 6 _ rfl) rfl rfl rfl rfl rfl (Nat.le_of_ble_eq_true rfl) (Nat.le_of_ble_eq_true rfl) (Nat.le_of_ble_eq_true rfl) ?_
  rintro _ _ ⟨rfl, rfl⟩
  exact mv_Gs_stop ⟨_, _, rfl, rfl⟩
set_option maxRecDepth 100000 in
set_option maxHeartbeats 4000000 in
theorem kt_backF {N : Nat} {I I1 : kjI} {L L1 : kjL} (h1 : kf13 false N I L = some (I1, L1)) (h2 : I1 0 3 = 0) : mv_C kjP kjSta 8 2 [.ref 0] (kjS false I L) (kjQwi true ((mv_up (mv_up I1 (kb false 2) 1 (0 : Int32)) 0 2 ((mv_up I1 (kb false 2) 1 (0 : Int32)) 0 2 + (1 : Int32))) (kb true 14) 3, (mv_up (mv_up I1 (kb false 2) 1 (0 : Int32)) 0 2 ((mv_up I1 (kb false 2) 1 (0 : Int32)) 0 2 + (1 : Int32))), L1)) := by
  refine mv_C_in kjM_2 (lc := [some (.ref 0), none]) rfl rfl rfl ?_
  refine mv_G_run 1 (F' := (1, [some (.ref 0), none], [.ref 0], 0, 0, kjS false I L)) rfl ?_
  refine mv_G_call (r := []) (kf13_ok _ _ _ _ 0 _ h1) rfl rfl rfl rfl rfl (Nat.le_of_ble_eq_true rfl) (Nat.le_of_ble_eq_true rfl) (Nat.le_of_ble_eq_true rfl) ?_
  rintro _ _ ⟨rfl, rfl⟩
  refine mv_G_run 2 (F' := (8, [some (.ref 0), none], [.int (I1 0 3)], 0, 0, kjS false I1 L1)) rfl ?_
  refine mv_G_br (tgt := 31) rfl rfl (by decide) (fun _ => ?_) (fun z => absurd h2 z)
  refine mv_G_run 10 (F' := (49, [some (.ref 0), some (.ref (kb false 1))], [], 0, 0, (kjSH, I1, L1, mv_up (mv_up (kjR false) 0 0 (some (kb (!false) 1))) 0 1 (some (kb false 1))))) rfl ?_
  rw [kjR_swap]
  refine mv_G_run 3 (F' := (56, [some (.ref 0), some (.ref (kb false 1))], [.ref (kb false 2)], 0, 0, kjS true I1 L1)) rfl ?_
  refine mv_G_call (r := []) (kf21_ok true false I1 L1 6 _ rfl) rfl rfl rfl rfl rfl (Nat.le_of_ble_eq_true rfl) (Nat.le_of_ble_eq_true rfl) (Nat.le_of_ble_eq_true rfl) ?_
  rintro _ _ ⟨rfl, rfl⟩
  refine mv_G_run 6 (F' := (69, [some (.ref 0), some (.ref (kb false 1))], [], 0, 0, kjS true (mv_up (mv_up I1 (kb false 2) 1 (0 : Int32)) 0 2 ((mv_up I1 (kb false 2) 1 (0 : Int32)) 0 2 + (1 : Int32))) L1)) rfl ?_
  refine mv_G_run 5 (F' := (82, [some (.ref 0), some (.ref (kb false 1))], [.int ((mv_up (mv_up I1 (kb false 2) 1 (0 : Int32)) 0 2 ((mv_up I1 (kb false 2) 1 (0 : Int32)) 0 2 + (1 : Int32))) (kb true 14) 3)], 0, 0, kjS true (mv_up (mv_up I1 (kb false 2) 1 (0 : Int32)) 0 2 ((mv_up I1 (kb false 2) 1 (0 : Int32)) 0 2 + (1 : Int32))) L1)) rfl ?_
  exact mv_G_ret rfl rfl rfl (Nat.le_of_ble_eq_true rfl) trivial ⟨rfl, rfl⟩
set_option maxRecDepth 100000 in
set_option maxHeartbeats 4000000 in
theorem kt_lookF {I : kjI} {L : kjL} (v1 v2 v3 : Int32) (hx : v3 < 0 ∨ (5 : Int32) < v3 ∨ kf66 false I L v1 v2 = some 0) : mv_Gs kjP kjSta (mv_C kjP kjSta 7) kjM_5 (fun F => ∃ (lc : mv_L) (S' : mv_S), F = (24, lc, [], 0, 0, S') ∧ S' = kjS false I L) (0, mv_ent (mv_ml kjM_5) [.ref 0, .int v1, .int v2, .int v3], [], 0, 0, kjS false I L) := by
  refine mv_Gs_run 1 (F' := (1, [some (.ref 0), some (.int v1), some (.int v2), some (.int v3), none, none, none], [.int v3], 0, 0, kjS false I L)) rfl ?_
  refine mv_Gs_br (tgt := 24) rfl rfl (by decide) (fun _ => mv_Gs_stop ⟨_, _, rfl, rfl⟩) (fun n1 => ?_)
  refine mv_Gs_run 2 (F' := (6, [some (.ref 0), some (.int v1), some (.int v2), some (.int v3), none, none, none], [.int 5, .int v3], 0, 0, kjS false I L)) rfl ?_
  refine mv_Gs_br (tgt := 24) rfl rfl (by decide) (fun _ => mv_Gs_stop ⟨_, _, rfl, rfl⟩) (fun n2 => ?_)
  refine mv_Gs_run 5 (F' := (18, [some (.ref 0), some (.int v1), some (.int v2), some (.int v3), none, none, none], [.int v2, .int v1, .ref (kb false 24)], 0, 0, kjS false I L)) rfl ?_
  have h66 : kf66 false I L v1 v2 = some 0 := by
    rcases hx with h | h | h
    · exact absurd h n1
    · exact absurd h n2
    · exact h
  refine mv_Gs_call (r := []) (kf66_ok false false I L v1 v2 4 _ h66) rfl rfl rfl rfl rfl (Nat.le_of_ble_eq_true rfl) (Nat.le_of_ble_eq_true rfl) (Nat.le_of_ble_eq_true rfl) ?_
  rintro _ _ ⟨rfl, rfl⟩
  refine mv_Gs_br (tgt := 34) rfl rfl (by decide) (fun z => absurd rfl z) (fun _ => ?_)
  exact mv_Gs_stop ⟨_, _, rfl, rfl⟩
set_option maxRecDepth 100000 in
set_option maxHeartbeats 4000000 in
theorem kt_loadT {N : Nat} {I I1 : kjI} {L L1 : kjL} (h1 : kf13 true N I L = some (I1, L1)) (h2 : ¬ I1 0 3 = 0) : mv_Gs kjP kjSta (mv_C kjP kjSta 7) kjM_2 (fun F => ∃ (lc : mv_L) (S' : mv_S), F = (21, lc, [], 0, 0, S') ∧ S' = kjS true (mv_up I1 (kb false 2) 1 (0 : Int32)) L1) (0, mv_ent (mv_ml kjM_2) [.ref 0], [], 0, 0, kjS true I L) := by
  refine mv_Gs_run 1 (F' := (1, [some (.ref 0), none], [.ref 0], 0, 0, kjS true I L)) rfl ?_
  refine mv_Gs_call (r := []) (kf13_ok _ _ _ _ 0 _ h1) rfl rfl rfl rfl rfl (Nat.le_of_ble_eq_true rfl) (Nat.le_of_ble_eq_true rfl) (Nat.le_of_ble_eq_true rfl) ?_
  rintro _ _ ⟨rfl, rfl⟩
  refine mv_Gs_run 2 (F' := (8, [some (.ref 0), none], [.int (I1 0 3)], 0, 0, kjS true I1 L1)) rfl ?_
  refine mv_Gs_br (tgt := 31) rfl rfl (by decide) (fun z => absurd z h2) (fun _ => ?_)
  refine mv_Gs_run 3 (F' := (18, [some (.ref 0), none], [.ref (kb false 2)], 0, 0, kjS true I1 L1)) rfl ?_
  refine mv_Gs_call (r := []) (kf21_ok true false I1 L1 6 _ rfl) rfl rfl rfl rfl rfl (Nat.le_of_ble_eq_true rfl) (Nat.le_of_ble_eq_true rfl) (Nat.le_of_ble_eq_true rfl) ?_
  rintro _ _ ⟨rfl, rfl⟩
  exact mv_Gs_stop ⟨_, _, rfl, rfl⟩
set_option maxRecDepth 100000 in
set_option maxHeartbeats 4000000 in
theorem kt_backT {N : Nat} {I I1 : kjI} {L L1 : kjL} (h1 : kf13 true N I L = some (I1, L1)) (h2 : I1 0 3 = 0) : mv_C kjP kjSta 8 2 [.ref 0] (kjS true I L) (kjQwi false ((mv_up (mv_up I1 (kb true 2) 1 (0 : Int32)) 0 2 ((mv_up I1 (kb true 2) 1 (0 : Int32)) 0 2 + (1 : Int32))) (kb false 14) 3, (mv_up (mv_up I1 (kb true 2) 1 (0 : Int32)) 0 2 ((mv_up I1 (kb true 2) 1 (0 : Int32)) 0 2 + (1 : Int32))), L1)) := by
  refine mv_C_in kjM_2 (lc := [some (.ref 0), none]) rfl rfl rfl ?_
  refine mv_G_run 1 (F' := (1, [some (.ref 0), none], [.ref 0], 0, 0, kjS true I L)) rfl ?_
  refine mv_G_call (r := []) (kf13_ok _ _ _ _ 0 _ h1) rfl rfl rfl rfl rfl (Nat.le_of_ble_eq_true rfl) (Nat.le_of_ble_eq_true rfl) (Nat.le_of_ble_eq_true rfl) ?_
  rintro _ _ ⟨rfl, rfl⟩
  refine mv_G_run 2 (F' := (8, [some (.ref 0), none], [.int (I1 0 3)], 0, 0, kjS true I1 L1)) rfl ?_
  refine mv_G_br (tgt := 31) rfl rfl (by decide) (fun _ => ?_) (fun z => absurd h2 z)
  refine mv_G_run 10 (F' := (49, [some (.ref 0), some (.ref (kb true 1))], [], 0, 0, (kjSH, I1, L1, mv_up (mv_up (kjR true) 0 0 (some (kb (!true) 1))) 0 1 (some (kb true 1))))) rfl ?_
  rw [kjR_swap]
  refine mv_G_run 3 (F' := (56, [some (.ref 0), some (.ref (kb true 1))], [.ref (kb true 2)], 0, 0, kjS false I1 L1)) rfl ?_
  refine mv_G_call (r := []) (kf21_ok false true I1 L1 6 _ rfl) rfl rfl rfl rfl rfl (Nat.le_of_ble_eq_true rfl) (Nat.le_of_ble_eq_true rfl) (Nat.le_of_ble_eq_true rfl) ?_
  rintro _ _ ⟨rfl, rfl⟩
  refine mv_G_run 6 (F' := (69, [some (.ref 0), some (.ref (kb true 1))], [], 0, 0, kjS false (mv_up (mv_up I1 (kb true 2) 1 (0 : Int32)) 0 2 ((mv_up I1 (kb true 2) 1 (0 : Int32)) 0 2 + (1 : Int32))) L1)) rfl ?_
  refine mv_G_run 5 (F' := (82, [some (.ref 0), some (.ref (kb true 1))], [.int ((mv_up (mv_up I1 (kb true 2) 1 (0 : Int32)) 0 2 ((mv_up I1 (kb true 2) 1 (0 : Int32)) 0 2 + (1 : Int32))) (kb false 14) 3)], 0, 0, kjS false (mv_up (mv_up I1 (kb true 2) 1 (0 : Int32)) 0 2 ((mv_up I1 (kb true 2) 1 (0 : Int32)) 0 2 + (1 : Int32))) L1)) rfl ?_
  exact mv_G_ret rfl rfl rfl (Nat.le_of_ble_eq_true rfl) trivial ⟨rfl, rfl⟩
set_option maxRecDepth 100000 in
set_option maxHeartbeats 4000000 in
theorem kt_lookT {I : kjI} {L : kjL} (v1 v2 v3 : Int32) (hx : v3 < 0 ∨ (5 : Int32) < v3 ∨ kf66 true I L v1 v2 = some 0) : mv_Gs kjP kjSta (mv_C kjP kjSta 7) kjM_5 (fun F => ∃ (lc : mv_L) (S' : mv_S), F = (24, lc, [], 0, 0, S') ∧ S' = kjS true I L) (0, mv_ent (mv_ml kjM_5) [.ref 0, .int v1, .int v2, .int v3], [], 0, 0, kjS true I L) := by
  refine mv_Gs_run 1 (F' := (1, [some (.ref 0), some (.int v1), some (.int v2), some (.int v3), none, none, none], [.int v3], 0, 0, kjS true I L)) rfl ?_
  refine mv_Gs_br (tgt := 24) rfl rfl (by decide) (fun _ => mv_Gs_stop ⟨_, _, rfl, rfl⟩) (fun n1 => ?_)
  refine mv_Gs_run 2 (F' := (6, [some (.ref 0), some (.int v1), some (.int v2), some (.int v3), none, none, none], [.int 5, .int v3], 0, 0, kjS true I L)) rfl ?_
  refine mv_Gs_br (tgt := 24) rfl rfl (by decide) (fun _ => mv_Gs_stop ⟨_, _, rfl, rfl⟩) (fun n2 => ?_)
  refine mv_Gs_run 5 (F' := (18, [some (.ref 0), some (.int v1), some (.int v2), some (.int v3), none, none, none], [.int v2, .int v1, .ref (kb true 24)], 0, 0, kjS true I L)) rfl ?_
  have h66 : kf66 true I L v1 v2 = some 0 := by
    rcases hx with h | h | h
    · exact absurd h n1
    · exact absurd h n2
    · exact h
  refine mv_Gs_call (r := []) (kf66_ok true true I L v1 v2 4 _ h66) rfl rfl rfl rfl rfl (Nat.le_of_ble_eq_true rfl) (Nat.le_of_ble_eq_true rfl) (Nat.le_of_ble_eq_true rfl) ?_
  rintro _ _ ⟨rfl, rfl⟩
  refine mv_Gs_br (tgt := 34) rfl rfl (by decide) (fun z => absurd rfl z) (fun _ => ?_)
  exact mv_Gs_stop ⟨_, _, rfl, rfl⟩
theorem kt_back {f : Bool} {N : Nat} {I I1 : kjI} {L L1 : kjL} (h1 : kf13 f N I L = some (I1, L1)) (h2 : I1 0 3 = 0) : ∃ x y : Int32, mv_C kjP kjSta 8 2 [.ref 0] (kjS f I L) (kjQwi (!f) (x, mv_up (mv_up I1 (kb f 2) 1 (0 : Int32)) 0 2 y, L1)) := by
  cases f
  · exact ⟨_, _, kt_backF h1 h2⟩
  · exact ⟨_, _, kt_backT h1 h2⟩
section KT
variable (l : Launch) (hfl : l.flags.contains noTraceFlag = true) (A : Nat → Prop) (D : va_G) (cA : Nat → ClassId) (ad : Nat → Nat)
theorem kt_load_met (hfl : l.flags.contains noTraceFlag = true) {f : Bool} {N : Nat} {I I1 : kjI} {L L1 : kjL} (h1 : kf13 f N I L = some (I1, L1)) (h2 : ¬ I1 0 3 = 0) (text : String) (sa : Nat) :
    MetFree l kjM_2.1 (headSpec (Jvm.Cond.code kjM_2.1 (mv_cc kjM_2) (mv_ml kjM_2) (mv_rt kjM_2) :: kjTs) { frames := 7, cells := 1, slots := 6, locals := 176 }) (mv_PreT A D kjCl kjKd cA ad kjNw kjSta kjStn [.ref 0] (kjS f I L) kt_F "KindJudge" 41 text sa) (fun _ _ _ _ _ => True) (mv_PT A D kjCl kjKd cA ad kt_I (fun S' => S' = kjS f (mv_up I1 (kb (!f) 2) 1 (0 : Int32)) L1)) :=
  mv_soundT kjSy l hfl A D cA ad (d := 7) (i := 2) (as := [.ref 0]) (M := kjM_2) rfl rfl ⟨rfl, rfl⟩ kt_Fo kt_thr2 ⟨by decide, by decide⟩ ⟨by decide, by decide⟩ (by
    cases f
    · exact kt_loadF h1 h2
    · exact kt_loadT h1 h2)
theorem kt_look_met (hfl : l.flags.contains noTraceFlag = true) {f : Bool} {I : kjI} {L : kjL} (v1 v2 v3 : Int32) (hx : v3 < 0 ∨ (5 : Int32) < v3 ∨ kf66 f I L v1 v2 = some 0) (text : String) (sa : Nat) :
    MetFree l kjM_5.1 (headSpec (Jvm.Cond.code kjM_5.1 (mv_cc kjM_5) (mv_ml kjM_5) (mv_rt kjM_5) :: kjTs) { frames := 7, cells := 1, slots := 6, locals := 176 }) (mv_PreT A D kjCl kjKd cA ad kjNw kjSta kjStn [.ref 0, .int v1, .int v2, .int v3] (kjS f I L) kt_F "KindJudge" 100 text sa) (fun _ _ _ _ _ => True) (mv_PT A D kjCl kjKd cA ad kt_E (fun S' => S' = kjS f I L)) :=
  mv_soundT kjSy l hfl A D cA ad (d := 7) (i := 5) (as := [.ref 0, .int v1, .int v2, .int v3]) (M := kjM_5) rfl rfl ⟨rfl, rfl⟩ kt_Fo kt_thr5 ⟨by decide, by decide⟩ ⟨by decide, by decide⟩ (by
    cases f
    · exact kt_lookF v1 v2 v3 hx
    · exact kt_lookT v1 v2 v3 hx)
end KT
