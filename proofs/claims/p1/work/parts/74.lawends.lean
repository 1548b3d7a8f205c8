/-! The law's walk, by program (wip/p1/law.py): the end of a turn, and each case. -/
section KW
variable {p : Program} {l : Launch} {e : Env} {s : State} {m : MethodId} {below : List Frame} {meth : Method} {c : Code} {b L : Nat} {xs : Nat → Int32} {D : va_G} {cA : Nat → ClassId} {ad : Nat → Nat}
set_option maxRecDepth 100000 in
set_option maxHeartbeats 4000000 in
theorem kw_end (C : kw_C p s m meth c b 4 xs D cA ad) {vc vs : Nat} {S : mv_S} {k5 k6 : Option Value} : kw_W p l e s m below meth c b D cA ad (614, [some (.ref 200000), some (.ref 0), some (.ref 59), some (.ref 81), some (.int (0 : Int32)), k5, k6], [], vc, vs, S) := by
  refine kw_go C ?_
  refine mv_Gs_run 4 (F' := (26, [some (.ref 200000), some (.ref 0), some (.ref 59), some (.ref 81), some (.int (4 : Int32)), k5, k6], [.ref 200000, .int (4 : Int32)], vc, vs, S)) rfl ?_
  refine mv_Gs_stop (kw_len C (by decide +kernel) (kw_go C ?_))
  refine mv_Gs_run 2 (F' := (29, [some (.ref 200000), some (.ref 0), some (.ref 59), some (.ref 81), some (.int (4 : Int32)), k5, k6], [.int (Int32.ofNat 4 - 4), .int (4 : Int32)], vc, vs, S)) rfl ?_
  refine mv_Gs_br (tgt := 620) rfl rfl (by decide) (fun _ => ?_) (fun z => absurd (by decide) z)
  refine mv_Gs_run 1 (F' := (621, [some (.ref 200000), some (.ref 0), some (.ref 59), some (.ref 81), some (.int (4 : Int32)), k5, k6], [.int (1 : Int32)], vc, vs, S)) rfl ?_
  exact mv_Gs_stop (kw_ret C (by decide +kernel))
set_option maxRecDepth 100000 in
set_option maxHeartbeats 4000000 in
theorem kw_fault (C : kw_C p s m meth c b 4 xs D cA ad) : kw_W p l e s m below meth c b D cA ad (213, [some (.ref 200000), some (.ref 0), some (.ref 59), some (.ref 81), some (.int (0 : Int32)), none, none], [], 82, 54516, kjS false kcZ kcZL) := by
  refine kw_go C ?_
  obtain ⟨r, h1, h2⟩ := k1_fault (xs (Int32.toNatClampNeg (1 : Int32)))
  refine mv_Gs_run 5 (F' := (219, [some (.ref 200000), some (.ref 0), some (.ref 59), some (.ref 81), some (.int (0 : Int32)), none, none], [.int (1 : Int32), .ref 200000, .ref 0], 82, 54516, kjS false kcZ kcZL)) rfl ?_
  refine mv_Gs_stop (kw_ld C kw_in1 (by decide +kernel) (kw_go C ?_))
  refine mv_Gs_call (r := []) (kf3_ok _ _ _ _ _ _ h1) rfl rfl rfl rfl rfl (Nat.le_of_ble_eq_true rfl) (Nat.le_of_ble_eq_true rfl) (Nat.le_of_ble_eq_true rfl) ?_
  rintro _ _ ⟨rfl, rfl⟩
  refine mv_Gs_run 5 (F' := (229, [some (.ref 200000), some (.ref 0), some (.ref 59), some (.ref 81), some (.int (0 : Int32)), none, none], [.int (1 : Int32), .ref 200000, .ref 59, .int r], 82, 54516, kjS false kcZ kcZL)) rfl ?_
  refine mv_Gs_stop (kw_ld C kw_in1 (by decide +kernel) (kw_go C ?_))
  refine mv_Gs_call (r := [.int r]) (kf125_ok _ _ _ _ _ _ h2) rfl rfl rfl rfl rfl (Nat.le_of_ble_eq_true rfl) (Nat.le_of_ble_eq_true rfl) (Nat.le_of_ble_eq_true rfl) ?_
  rintro _ _ ⟨rfl, rfl⟩
  refine mv_Gs_br (tgt := 614) rfl rfl (by decide) (fun _ => ?_) (fun z => absurd rfl z)
  exact mv_Gs_stop (kw_end C)
set_option maxRecDepth 100000 in
set_option maxHeartbeats 4000000 in
theorem kw_kind (C : kw_C p s m meth c b 4 xs D cA ad) : kw_W p l e s m below meth c b D cA ad (238, [some (.ref 200000), some (.ref 0), some (.ref 59), some (.ref 81), some (.int (0 : Int32)), none, none], [], 82, 54516, kjS false kcZ kcZL) := by
  refine kw_go C ?_
  refine mv_Gs_run 5 (F' := (244, [some (.ref 200000), some (.ref 0), some (.ref 59), some (.ref 81), some (.int (0 : Int32)), none, none], [.int (1 : Int32), .ref 200000, .ref 0], 82, 54516, kjS false kcZ kcZL)) rfl ?_
  refine mv_Gs_stop (kw_ld C kw_in1 (by decide +kernel) (kw_go C ?_))
  refine mv_Gs_run 4 (F' := (250, [some (.ref 200000), some (.ref 0), some (.ref 59), some (.ref 81), some (.int (0 : Int32)), none, none], [.int (2 : Int32), .ref 200000, .int (xs (Int32.toNatClampNeg (1 : Int32))), .ref 0], 82, 54516, kjS false kcZ kcZL)) rfl ?_
  refine mv_Gs_stop (kw_ld C kw_in2 (by decide +kernel) (kw_go C ?_))
  refine mv_Gs_run 4 (F' := (256, [some (.ref 200000), some (.ref 0), some (.ref 59), some (.ref 81), some (.int (0 : Int32)), none, none], [.int (3 : Int32), .ref 200000, .int (xs (Int32.toNatClampNeg (2 : Int32))), .int (xs (Int32.toNatClampNeg (1 : Int32))), .ref 0], 82, 54516, kjS false kcZ kcZL)) rfl ?_
  refine mv_Gs_stop (kw_ld C kw_in3 (by decide +kernel) (kw_go C ?_))
  refine mv_Gs_call (r := []) (kf4_ok _ _ _ _ _ _ _ _ (k1_kind (xs (Int32.toNatClampNeg (1 : Int32))) (xs (Int32.toNatClampNeg (2 : Int32))) (xs (Int32.toNatClampNeg (3 : Int32))))) rfl rfl rfl rfl rfl (Nat.le_of_ble_eq_true rfl) (Nat.le_of_ble_eq_true rfl) (Nat.le_of_ble_eq_true rfl) ?_
  rintro _ _ ⟨rfl, rfl⟩
  refine mv_Gs_run 5 (F' := (266, [some (.ref 200000), some (.ref 0), some (.ref 59), some (.ref 81), some (.int (0 : Int32)), none, none], [.int (1 : Int32), .ref 200000, .ref 59, .int (-1 : Int32)], 82, 54516, kjS false kcZ kcZL)) rfl ?_
  refine mv_Gs_stop (kw_ld C kw_in1 (by decide +kernel) (kw_go C ?_))
  refine mv_Gs_run 4 (F' := (272, [some (.ref 200000), some (.ref 0), some (.ref 59), some (.ref 81), some (.int (0 : Int32)), none, none], [.int (2 : Int32), .ref 200000, .int (xs (Int32.toNatClampNeg (1 : Int32))), .ref 59, .int (-1 : Int32)], 82, 54516, kjS false kcZ kcZL)) rfl ?_
  refine mv_Gs_stop (kw_ld C kw_in2 (by decide +kernel) (kw_go C ?_))
  refine mv_Gs_run 4 (F' := (278, [some (.ref 200000), some (.ref 0), some (.ref 59), some (.ref 81), some (.int (0 : Int32)), none, none], [.int (3 : Int32), .ref 200000, .int (xs (Int32.toNatClampNeg (2 : Int32))), .int (xs (Int32.toNatClampNeg (1 : Int32))), .ref 59, .int (-1 : Int32)], 82, 54516, kjS false kcZ kcZL)) rfl ?_
  refine mv_Gs_stop (kw_ld C kw_in3 (by decide +kernel) (kw_go C ?_))
  refine mv_Gs_call (r := [.int (-1 : Int32)]) (kf139_ok _ _ _ _ _ _ _ _ (k1_mkind (xs (Int32.toNatClampNeg (1 : Int32))) (xs (Int32.toNatClampNeg (2 : Int32))) (xs (Int32.toNatClampNeg (3 : Int32))))) rfl rfl rfl rfl rfl (Nat.le_of_ble_eq_true rfl) (Nat.le_of_ble_eq_true rfl) (Nat.le_of_ble_eq_true rfl) ?_
  rintro _ _ ⟨rfl, rfl⟩
  refine mv_Gs_br (tgt := 614) rfl rfl (by decide) (fun _ => ?_) (fun z => absurd rfl z)
  exact mv_Gs_stop (kw_end C)
set_option maxRecDepth 100000 in
set_option maxHeartbeats 4000000 in
theorem kw_ways (C : kw_C p s m meth c b 4 xs D cA ad) : kw_W p l e s m below meth c b D cA ad (367, [some (.ref 200000), some (.ref 0), some (.ref 59), some (.ref 81), some (.int (0 : Int32)), none, none], [], 82, 54516, kjS false kcZ kcZL) := by
  refine kw_go C ?_
  refine mv_Gs_run 5 (F' := (373, [some (.ref 200000), some (.ref 0), some (.ref 59), some (.ref 81), some (.int (0 : Int32)), none, none], [.int (1 : Int32), .ref 200000, .ref 0], 82, 54516, kjS false kcZ kcZL)) rfl ?_
  refine mv_Gs_stop (kw_ld C kw_in1 (by decide +kernel) (kw_go C ?_))
  refine mv_Gs_run 4 (F' := (379, [some (.ref 200000), some (.ref 0), some (.ref 59), some (.ref 81), some (.int (0 : Int32)), none, none], [.int (2 : Int32), .ref 200000, .int (xs (Int32.toNatClampNeg (1 : Int32))), .ref 0], 82, 54516, kjS false kcZ kcZL)) rfl ?_
  refine mv_Gs_stop (kw_ld C kw_in2 (by decide +kernel) (kw_go C ?_))
  refine mv_Gs_call (r := []) (kf6_ok _ _ _ _ _ _ _ (k1_ways (xs (Int32.toNatClampNeg (1 : Int32))) (xs (Int32.toNatClampNeg (2 : Int32))))) rfl rfl rfl rfl rfl (Nat.le_of_ble_eq_true rfl) (Nat.le_of_ble_eq_true rfl) (Nat.le_of_ble_eq_true rfl) ?_
  rintro _ _ ⟨rfl, rfl⟩
  refine mv_Gs_run 5 (F' := (389, [some (.ref 200000), some (.ref 0), some (.ref 59), some (.ref 81), some (.int (0 : Int32)), none, none], [.int (1 : Int32), .ref 200000, .ref 59, .int (-1 : Int32)], 82, 54516, kjS false kcZ kcZL)) rfl ?_
  refine mv_Gs_stop (kw_ld C kw_in1 (by decide +kernel) (kw_go C ?_))
  refine mv_Gs_run 4 (F' := (395, [some (.ref 200000), some (.ref 0), some (.ref 59), some (.ref 81), some (.int (0 : Int32)), none, none], [.int (2 : Int32), .ref 200000, .int (xs (Int32.toNatClampNeg (1 : Int32))), .ref 59, .int (-1 : Int32)], 82, 54516, kjS false kcZ kcZL)) rfl ?_
  refine mv_Gs_stop (kw_ld C kw_in2 (by decide +kernel) (kw_go C ?_))
  refine mv_Gs_call (r := [.int (-1 : Int32)]) (kf146_ok _ _ _ _ _ _ _ (k1_mways (xs (Int32.toNatClampNeg (1 : Int32))) (xs (Int32.toNatClampNeg (2 : Int32))))) rfl rfl rfl rfl rfl (Nat.le_of_ble_eq_true rfl) (Nat.le_of_ble_eq_true rfl) (Nat.le_of_ble_eq_true rfl) ?_
  rintro _ _ ⟨rfl, rfl⟩
  refine mv_Gs_br (tgt := 614) rfl rfl (by decide) (fun _ => ?_) (fun z => absurd rfl z)
  exact mv_Gs_stop (kw_end C)
set_option maxRecDepth 100000 in
set_option maxHeartbeats 4000000 in
theorem kw_count (C : kw_C p s m meth c b 4 xs D cA ad) : kw_W p l e s m below meth c b D cA ad (404, [some (.ref 200000), some (.ref 0), some (.ref 59), some (.ref 81), some (.int (0 : Int32)), none, none], [], 82, 54516, kjS false kcZ kcZL) := by
  refine kw_go C ?_
  refine mv_Gs_run 5 (F' := (410, [some (.ref 200000), some (.ref 0), some (.ref 59), some (.ref 81), some (.int (0 : Int32)), none, none], [.int (1 : Int32), .ref 200000, .ref 0], 82, 54516, kjS false kcZ kcZL)) rfl ?_
  refine mv_Gs_stop (kw_ld C kw_in1 (by decide +kernel) (kw_go C ?_))
  refine mv_Gs_run 4 (F' := (416, [some (.ref 200000), some (.ref 0), some (.ref 59), some (.ref 81), some (.int (0 : Int32)), none, none], [.int (2 : Int32), .ref 200000, .int (xs (Int32.toNatClampNeg (1 : Int32))), .ref 0], 82, 54516, kjS false kcZ kcZL)) rfl ?_
  refine mv_Gs_stop (kw_ld C kw_in2 (by decide +kernel) (kw_go C ?_))
  refine mv_Gs_call (r := []) (kf7_ok _ _ _ _ _ _ _ (k1_count (xs (Int32.toNatClampNeg (1 : Int32))) (xs (Int32.toNatClampNeg (2 : Int32))))) rfl rfl rfl rfl rfl (Nat.le_of_ble_eq_true rfl) (Nat.le_of_ble_eq_true rfl) (Nat.le_of_ble_eq_true rfl) ?_
  rintro _ _ ⟨rfl, rfl⟩
  refine mv_Gs_run 5 (F' := (426, [some (.ref 200000), some (.ref 0), some (.ref 59), some (.ref 81), some (.int (0 : Int32)), none, none], [.int (1 : Int32), .ref 200000, .ref 59, .int (-1 : Int32)], 82, 54516, kjS false kcZ kcZL)) rfl ?_
  refine mv_Gs_stop (kw_ld C kw_in1 (by decide +kernel) (kw_go C ?_))
  refine mv_Gs_run 4 (F' := (432, [some (.ref 200000), some (.ref 0), some (.ref 59), some (.ref 81), some (.int (0 : Int32)), none, none], [.int (2 : Int32), .ref 200000, .int (xs (Int32.toNatClampNeg (1 : Int32))), .ref 59, .int (-1 : Int32)], 82, 54516, kjS false kcZ kcZL)) rfl ?_
  refine mv_Gs_stop (kw_ld C kw_in2 (by decide +kernel) (kw_go C ?_))
  refine mv_Gs_call (r := [.int (-1 : Int32)]) (kf147_ok _ _ _ _ _ _ _ (k1_mcount (xs (Int32.toNatClampNeg (1 : Int32))) (xs (Int32.toNatClampNeg (2 : Int32))))) rfl rfl rfl rfl rfl (Nat.le_of_ble_eq_true rfl) (Nat.le_of_ble_eq_true rfl) (Nat.le_of_ble_eq_true rfl) ?_
  rintro _ _ ⟨rfl, rfl⟩
  refine mv_Gs_br (tgt := 614) rfl rfl (by decide) (fun _ => ?_) (fun z => absurd rfl z)
  exact mv_Gs_stop (kw_end C)
set_option maxRecDepth 100000 in
set_option maxHeartbeats 4000000 in
theorem kw_fits (C : kw_C p s m meth c b 4 xs D cA ad) : kw_W p l e s m below meth c b D cA ad (441, [some (.ref 200000), some (.ref 0), some (.ref 59), some (.ref 81), some (.int (0 : Int32)), none, none], [], 82, 54516, kjS false kcZ kcZL) := by
  refine kw_go C ?_
  refine mv_Gs_run 5 (F' := (447, [some (.ref 200000), some (.ref 0), some (.ref 59), some (.ref 81), some (.int (0 : Int32)), none, none], [.int (1 : Int32), .ref 200000, .ref 0], 82, 54516, kjS false kcZ kcZL)) rfl ?_
  refine mv_Gs_stop (kw_ld C kw_in1 (by decide +kernel) (kw_go C ?_))
  refine mv_Gs_run 4 (F' := (453, [some (.ref 200000), some (.ref 0), some (.ref 59), some (.ref 81), some (.int (0 : Int32)), none, none], [.int (2 : Int32), .ref 200000, .int (xs (Int32.toNatClampNeg (1 : Int32))), .ref 0], 82, 54516, kjS false kcZ kcZL)) rfl ?_
  refine mv_Gs_stop (kw_ld C kw_in2 (by decide +kernel) (kw_go C ?_))
  refine mv_Gs_call (r := []) (kf8_ok _ _ _ _ _ _ _ (k1_fits (xs (Int32.toNatClampNeg (1 : Int32))) (xs (Int32.toNatClampNeg (2 : Int32))))) rfl rfl rfl rfl rfl (Nat.le_of_ble_eq_true rfl) (Nat.le_of_ble_eq_true rfl) (Nat.le_of_ble_eq_true rfl) ?_
  rintro _ _ ⟨rfl, rfl⟩
  refine mv_Gs_run 5 (F' := (463, [some (.ref 200000), some (.ref 0), some (.ref 59), some (.ref 81), some (.int (0 : Int32)), none, none], [.int (1 : Int32), .ref 200000, .ref 59, .int (-1 : Int32)], 82, 54516, kjS false kcZ kcZL)) rfl ?_
  refine mv_Gs_stop (kw_ld C kw_in1 (by decide +kernel) (kw_go C ?_))
  refine mv_Gs_run 4 (F' := (469, [some (.ref 200000), some (.ref 0), some (.ref 59), some (.ref 81), some (.int (0 : Int32)), none, none], [.int (2 : Int32), .ref 200000, .int (xs (Int32.toNatClampNeg (1 : Int32))), .ref 59, .int (-1 : Int32)], 82, 54516, kjS false kcZ kcZL)) rfl ?_
  refine mv_Gs_stop (kw_ld C kw_in2 (by decide +kernel) (kw_go C ?_))
  refine mv_Gs_call (r := [.int (-1 : Int32)]) (kf149_ok _ _ _ _ _ _ _ (k1_mfits (xs (Int32.toNatClampNeg (1 : Int32))) (xs (Int32.toNatClampNeg (2 : Int32))))) rfl rfl rfl rfl rfl (Nat.le_of_ble_eq_true rfl) (Nat.le_of_ble_eq_true rfl) (Nat.le_of_ble_eq_true rfl) ?_
  rintro _ _ ⟨rfl, rfl⟩
  refine mv_Gs_br (tgt := 614) rfl rfl (by decide) (fun _ => ?_) (fun z => absurd rfl z)
  exact mv_Gs_stop (kw_end C)
set_option maxRecDepth 100000 in
set_option maxHeartbeats 4000000 in
theorem kw_meet (C : kw_C p s m meth c b 4 xs D cA ad) : kw_W p l e s m below meth c b D cA ad (478, [some (.ref 200000), some (.ref 0), some (.ref 59), some (.ref 81), some (.int (0 : Int32)), none, none], [], 82, 54516, kjS false kcZ kcZL) := by
  refine kw_go C ?_
  refine mv_Gs_run 5 (F' := (484, [some (.ref 200000), some (.ref 0), some (.ref 59), some (.ref 81), some (.int (0 : Int32)), none, none], [.int (1 : Int32), .ref 200000, .ref 0], 82, 54516, kjS false kcZ kcZL)) rfl ?_
  refine mv_Gs_stop (kw_ld C kw_in1 (by decide +kernel) (kw_go C ?_))
  refine mv_Gs_run 4 (F' := (490, [some (.ref 200000), some (.ref 0), some (.ref 59), some (.ref 81), some (.int (0 : Int32)), none, none], [.int (2 : Int32), .ref 200000, .int (xs (Int32.toNatClampNeg (1 : Int32))), .ref 0], 82, 54516, kjS false kcZ kcZL)) rfl ?_
  refine mv_Gs_stop (kw_ld C kw_in2 (by decide +kernel) (kw_go C ?_))
  refine mv_Gs_call (r := []) (kf9_ok _ _ _ _ _ _ _ (k1_meet (xs (Int32.toNatClampNeg (1 : Int32))) (xs (Int32.toNatClampNeg (2 : Int32))))) rfl rfl rfl rfl rfl (Nat.le_of_ble_eq_true rfl) (Nat.le_of_ble_eq_true rfl) (Nat.le_of_ble_eq_true rfl) ?_
  rintro _ _ ⟨rfl, rfl⟩
  refine mv_Gs_run 5 (F' := (500, [some (.ref 200000), some (.ref 0), some (.ref 59), some (.ref 81), some (.int (0 : Int32)), none, none], [.int (1 : Int32), .ref 200000, .ref 59, .int (-1 : Int32)], 82, 54516, kjS false kcZ kcZL)) rfl ?_
  refine mv_Gs_stop (kw_ld C kw_in1 (by decide +kernel) (kw_go C ?_))
  refine mv_Gs_run 4 (F' := (506, [some (.ref 200000), some (.ref 0), some (.ref 59), some (.ref 81), some (.int (0 : Int32)), none, none], [.int (2 : Int32), .ref 200000, .int (xs (Int32.toNatClampNeg (1 : Int32))), .ref 59, .int (-1 : Int32)], 82, 54516, kjS false kcZ kcZL)) rfl ?_
  refine mv_Gs_stop (kw_ld C kw_in2 (by decide +kernel) (kw_go C ?_))
  refine mv_Gs_call (r := [.int (-1 : Int32)]) (kf150_ok _ _ _ _ _ _ _ (k1_mmeet (xs (Int32.toNatClampNeg (1 : Int32))) (xs (Int32.toNatClampNeg (2 : Int32))))) rfl rfl rfl rfl rfl (Nat.le_of_ble_eq_true rfl) (Nat.le_of_ble_eq_true rfl) (Nat.le_of_ble_eq_true rfl) ?_
  rintro _ _ ⟨rfl, rfl⟩
  refine mv_Gs_br (tgt := 614) rfl rfl (by decide) (fun _ => ?_) (fun z => absurd rfl z)
  exact mv_Gs_stop (kw_end C)
set_option maxRecDepth 100000 in
set_option maxHeartbeats 4000000 in
theorem kw_method (C : kw_C p s m meth c b 4 xs D cA ad) : kw_W p l e s m below meth c b D cA ad (515, [some (.ref 200000), some (.ref 0), some (.ref 59), some (.ref 81), some (.int (0 : Int32)), none, none], [], 82, 54516, kjS false kcZ kcZL) := by
  refine kw_go C ?_
  refine mv_Gs_run 5 (F' := (521, [some (.ref 200000), some (.ref 0), some (.ref 59), some (.ref 81), some (.int (0 : Int32)), none, none], [.int (1 : Int32), .ref 200000, .ref 0], 82, 54516, kjS false kcZ kcZL)) rfl ?_
  refine mv_Gs_stop (kw_ld C kw_in1 (by decide +kernel) (kw_go C ?_))
  refine mv_Gs_run 4 (F' := (527, [some (.ref 200000), some (.ref 0), some (.ref 59), some (.ref 81), some (.int (0 : Int32)), none, none], [.int (2 : Int32), .ref 200000, .int (xs (Int32.toNatClampNeg (1 : Int32))), .ref 0], 82, 54516, kjS false kcZ kcZL)) rfl ?_
  refine mv_Gs_stop (kw_ld C kw_in2 (by decide +kernel) (kw_go C ?_))
  refine mv_Gs_call (r := []) (kf10_ok _ _ _ _ _ _ _ (k1_method (xs (Int32.toNatClampNeg (1 : Int32))) (xs (Int32.toNatClampNeg (2 : Int32))))) rfl rfl rfl rfl rfl (Nat.le_of_ble_eq_true rfl) (Nat.le_of_ble_eq_true rfl) (Nat.le_of_ble_eq_true rfl) ?_
  rintro _ _ ⟨rfl, rfl⟩
  refine mv_Gs_run 5 (F' := (537, [some (.ref 200000), some (.ref 0), some (.ref 59), some (.ref 81), some (.int (0 : Int32)), none, none], [.int (1 : Int32), .ref 200000, .ref 59, .int (-1 : Int32)], 82, 54516, kjS false kcZ kcZL)) rfl ?_
  refine mv_Gs_stop (kw_ld C kw_in1 (by decide +kernel) (kw_go C ?_))
  refine mv_Gs_run 4 (F' := (543, [some (.ref 200000), some (.ref 0), some (.ref 59), some (.ref 81), some (.int (0 : Int32)), none, none], [.int (2 : Int32), .ref 200000, .int (xs (Int32.toNatClampNeg (1 : Int32))), .ref 59, .int (-1 : Int32)], 82, 54516, kjS false kcZ kcZL)) rfl ?_
  refine mv_Gs_stop (kw_ld C kw_in2 (by decide +kernel) (kw_go C ?_))
  refine mv_Gs_call (r := [.int (-1 : Int32)]) (kf151_ok _ _ _ _ _ _ _ (k1_mmethod (xs (Int32.toNatClampNeg (1 : Int32))) (xs (Int32.toNatClampNeg (2 : Int32))))) rfl rfl rfl rfl rfl (Nat.le_of_ble_eq_true rfl) (Nat.le_of_ble_eq_true rfl) (Nat.le_of_ble_eq_true rfl) ?_
  rintro _ _ ⟨rfl, rfl⟩
  refine mv_Gs_br (tgt := 614) rfl rfl (by decide) (fun _ => ?_) (fun z => absurd rfl z)
  exact mv_Gs_stop (kw_end C)
set_option maxRecDepth 100000 in
set_option maxHeartbeats 4000000 in
theorem kw_type (C : kw_C p s m meth c b 4 xs D cA ad) : kw_W p l e s m below meth c b D cA ad (552, [some (.ref 200000), some (.ref 0), some (.ref 59), some (.ref 81), some (.int (0 : Int32)), none, none], [], 82, 54516, kjS false kcZ kcZL) := by
  refine kw_go C ?_
  refine mv_Gs_run 5 (F' := (558, [some (.ref 200000), some (.ref 0), some (.ref 59), some (.ref 81), some (.int (0 : Int32)), none, none], [.int (1 : Int32), .ref 200000, .ref 0], 82, 54516, kjS false kcZ kcZL)) rfl ?_
  refine mv_Gs_stop (kw_ld C kw_in1 (by decide +kernel) (kw_go C ?_))
  refine mv_Gs_run 4 (F' := (564, [some (.ref 200000), some (.ref 0), some (.ref 59), some (.ref 81), some (.int (0 : Int32)), none, none], [.int (2 : Int32), .ref 200000, .int (xs (Int32.toNatClampNeg (1 : Int32))), .ref 0], 82, 54516, kjS false kcZ kcZL)) rfl ?_
  refine mv_Gs_stop (kw_ld C kw_in2 (by decide +kernel) (kw_go C ?_))
  refine mv_Gs_call (r := []) (kf11_ok _ _ _ _ _ _ _ (k1_type (xs (Int32.toNatClampNeg (1 : Int32))) (xs (Int32.toNatClampNeg (2 : Int32))))) rfl rfl rfl rfl rfl (Nat.le_of_ble_eq_true rfl) (Nat.le_of_ble_eq_true rfl) (Nat.le_of_ble_eq_true rfl) ?_
  rintro _ _ ⟨rfl, rfl⟩
  refine mv_Gs_run 5 (F' := (574, [some (.ref 200000), some (.ref 0), some (.ref 59), some (.ref 81), some (.int (0 : Int32)), none, none], [.int (1 : Int32), .ref 200000, .ref 59, .int (-1 : Int32)], 82, 54516, kjS false kcZ kcZL)) rfl ?_
  refine mv_Gs_stop (kw_ld C kw_in1 (by decide +kernel) (kw_go C ?_))
  refine mv_Gs_run 4 (F' := (580, [some (.ref 200000), some (.ref 0), some (.ref 59), some (.ref 81), some (.int (0 : Int32)), none, none], [.int (2 : Int32), .ref 200000, .int (xs (Int32.toNatClampNeg (1 : Int32))), .ref 59, .int (-1 : Int32)], 82, 54516, kjS false kcZ kcZL)) rfl ?_
  refine mv_Gs_stop (kw_ld C kw_in2 (by decide +kernel) (kw_go C ?_))
  refine mv_Gs_call (r := [.int (-1 : Int32)]) (kf152_ok _ _ _ _ _ _ _ (k1_mtype (xs (Int32.toNatClampNeg (1 : Int32))) (xs (Int32.toNatClampNeg (2 : Int32))))) rfl rfl rfl rfl rfl (Nat.le_of_ble_eq_true rfl) (Nat.le_of_ble_eq_true rfl) (Nat.le_of_ble_eq_true rfl) ?_
  rintro _ _ ⟨rfl, rfl⟩
  refine mv_Gs_br (tgt := 614) rfl rfl (by decide) (fun _ => ?_) (fun z => absurd rfl z)
  exact mv_Gs_stop (kw_end C)
set_option maxRecDepth 100000 in
set_option maxHeartbeats 4000000 in
theorem kw_total (C : kw_C p s m meth c b 4 xs D cA ad) : kw_W p l e s m below meth c b D cA ad (589, [some (.ref 200000), some (.ref 0), some (.ref 59), some (.ref 81), some (.int (0 : Int32)), none, none], [], 82, 54516, kjS false kcZ kcZL) := by
  refine kw_go C ?_
  obtain ⟨r, h1, h2⟩ := k1_total (xs (Int32.toNatClampNeg (1 : Int32)))
  refine mv_Gs_run 5 (F' := (595, [some (.ref 200000), some (.ref 0), some (.ref 59), some (.ref 81), some (.int (0 : Int32)), none, none], [.int (1 : Int32), .ref 200000, .ref 0], 82, 54516, kjS false kcZ kcZL)) rfl ?_
  refine mv_Gs_stop (kw_ld C kw_in1 (by decide +kernel) (kw_go C ?_))
  refine mv_Gs_call (r := []) (kf12_ok _ _ _ _ _ _ h1) rfl rfl rfl rfl rfl (Nat.le_of_ble_eq_true rfl) (Nat.le_of_ble_eq_true rfl) (Nat.le_of_ble_eq_true rfl) ?_
  rintro _ _ ⟨rfl, rfl⟩
  refine mv_Gs_run 5 (F' := (605, [some (.ref 200000), some (.ref 0), some (.ref 59), some (.ref 81), some (.int (0 : Int32)), none, none], [.int (1 : Int32), .ref 200000, .ref 59, .int r], 82, 54516, kjS false kcZ kcZL)) rfl ?_
  refine mv_Gs_stop (kw_ld C kw_in1 (by decide +kernel) (kw_go C ?_))
  refine mv_Gs_call (r := [.int r]) (kf153_ok _ _ _ _ _ _ h2) rfl rfl rfl rfl rfl (Nat.le_of_ble_eq_true rfl) (Nat.le_of_ble_eq_true rfl) (Nat.le_of_ble_eq_true rfl) ?_
  rintro _ _ ⟨rfl, rfl⟩
  refine mv_Gs_br (tgt := 614) rfl rfl (by decide) (fun _ => ?_) (fun z => absurd rfl z)
  exact mv_Gs_stop (kw_end C)
set_option maxRecDepth 100000 in
set_option maxHeartbeats 4000000 in
theorem kw_put (C : kw_C p s m meth c b 4 xs D cA ad) : kw_W p l e s m below meth c b D cA ad (100, [some (.ref 200000), some (.ref 0), some (.ref 59), some (.ref 81), some (.int (0 : Int32)), none, none], [], 82, 54516, kjS false kcZ kcZL) := by
  refine kw_go C ?_
  obtain ⟨r, I1, J1, h1, h2⟩ := k1_put (((Int32.toInt64 (xs (Int32.toNatClampNeg (1 : Int32)))) <<< (Int32.toInt64 (32 : Int32) &&& 63)) ||| ((Int32.toInt64 (xs (Int32.toNatClampNeg (2 : Int32)))) &&& (4294967295 : Int64))) (xs (Int32.toNatClampNeg (3 : Int32)))
  refine mv_Gs_run 5 (F' := (106, [some (.ref 200000), some (.ref 0), some (.ref 59), some (.ref 81), some (.int (0 : Int32)), none, none], [.int (1 : Int32), .ref 200000, .ref 0], 82, 54516, kjS false kcZ kcZL)) rfl ?_
  refine mv_Gs_stop (kw_ld C kw_in1 (by decide +kernel) (kw_go C ?_))
  refine mv_Gs_run 7 (F' := (116, [some (.ref 200000), some (.ref 0), some (.ref 59), some (.ref 81), some (.int (0 : Int32)), none, none], [.int (2 : Int32), .ref 200000, .long ((Int32.toInt64 (xs (Int32.toNatClampNeg (1 : Int32)))) <<< (Int32.toInt64 (32 : Int32) &&& 63)), .ref 0], 82, 54516, kjS false kcZ kcZL)) rfl ?_
  refine mv_Gs_stop (kw_ld C kw_in2 (by decide +kernel) (kw_go C ?_))
  refine mv_Gs_run 8 (F' := (128, [some (.ref 200000), some (.ref 0), some (.ref 59), some (.ref 81), some (.int (0 : Int32)), none, none], [.int (3 : Int32), .ref 200000, .long (((Int32.toInt64 (xs (Int32.toNatClampNeg (1 : Int32)))) <<< (Int32.toInt64 (32 : Int32) &&& 63)) ||| ((Int32.toInt64 (xs (Int32.toNatClampNeg (2 : Int32)))) &&& (4294967295 : Int64))), .ref 0], 82, 54516, kjS false kcZ kcZL)) rfl ?_
  refine mv_Gs_stop (kw_ld C kw_in3 (by decide +kernel) (kw_go C ?_))
  refine mv_Gs_call (r := []) (kf1_ok _ _ _ _ _ _ _ _ h1) rfl rfl rfl rfl rfl (Nat.le_of_ble_eq_true rfl) (Nat.le_of_ble_eq_true rfl) (Nat.le_of_ble_eq_true rfl) ?_
  rintro _ _ ⟨rfl, rfl⟩
  refine mv_Gs_run 5 (F' := (138, [some (.ref 200000), some (.ref 0), some (.ref 59), some (.ref 81), some (.int (0 : Int32)), none, none], [.int (1 : Int32), .ref 200000, .ref 59, .int r], 82, 54516, kjS false I1 kcZL)) rfl ?_
  refine mv_Gs_stop (kw_ld C kw_in1 (by decide +kernel) (kw_go C ?_))
  refine mv_Gs_run 7 (F' := (148, [some (.ref 200000), some (.ref 0), some (.ref 59), some (.ref 81), some (.int (0 : Int32)), none, none], [.int (2 : Int32), .ref 200000, .long ((Int32.toInt64 (xs (Int32.toNatClampNeg (1 : Int32)))) <<< (Int32.toInt64 (32 : Int32) &&& 63)), .ref 59, .int r], 82, 54516, kjS false I1 kcZL)) rfl ?_
  refine mv_Gs_stop (kw_ld C kw_in2 (by decide +kernel) (kw_go C ?_))
  refine mv_Gs_run 8 (F' := (160, [some (.ref 200000), some (.ref 0), some (.ref 59), some (.ref 81), some (.int (0 : Int32)), none, none], [.int (3 : Int32), .ref 200000, .long (((Int32.toInt64 (xs (Int32.toNatClampNeg (1 : Int32)))) <<< (Int32.toInt64 (32 : Int32) &&& 63)) ||| ((Int32.toInt64 (xs (Int32.toNatClampNeg (2 : Int32)))) &&& (4294967295 : Int64))), .ref 59, .int r], 82, 54516, kjS false I1 kcZL)) rfl ?_
  refine mv_Gs_stop (kw_ld C kw_in3 (by decide +kernel) (kw_go C ?_))
  refine mv_Gs_call (r := [.int r]) (kf104_ok _ _ _ _ _ _ _ _ h2) rfl rfl rfl rfl rfl (Nat.le_of_ble_eq_true rfl) (Nat.le_of_ble_eq_true rfl) (Nat.le_of_ble_eq_true rfl) ?_
  rintro _ _ ⟨rfl, rfl⟩
  refine mv_Gs_br (tgt := 614) rfl rfl (by decide) (fun _ => ?_) (fun z => absurd rfl z)
  exact mv_Gs_stop (kw_end C)
set_option maxRecDepth 100000 in
set_option maxHeartbeats 4000000 in
theorem kw_load (C : kw_C p s m meth c b 4 xs D cA ad) (hfl : l.flags.contains noTraceFlag = true) (hex : ∃ (text : String) (sa : Nat), mv_Ex kt_F "KindJudge" 41 text sa (kw_A s) s) : kw_W p l e s m below meth c b D cA ad (169, [some (.ref 200000), some (.ref 0), some (.ref 59), some (.ref 81), some (.int (0 : Int32)), none, none], [], 82, 54516, kjS false kcZ kcZL) := by
  refine kw_go C ?_
  obtain ⟨I1, J1, h1, h2, h3, h4⟩ := k1_load
  refine mv_Gs_run 2 (F' := (171, [some (.ref 200000), some (.ref 0), some (.ref 59), some (.ref 81), some (.int (0 : Int32)), none, none], [.ref 81, .ref 0], 82, 54516, kjS false kcZ kcZL)) rfl ?_
  refine mv_Gs_stop (kw_cload C hfl hex (by decide) h1 h2 kw_lc0 (fun C => kw_go C ?_))
  refine mv_Gs_run 2 (F' := (177, [some (.ref 200000), some (.ref 0), some (.ref 59), some (.ref 81), some (.int (0 : Int32)), some (.int (1 : Int32)), none], [.ref 59], 83, 54522, kjS false (mv_up I1 31 1 0) kcZL)) rfl ?_
  refine mv_Gs_call (r := []) (kf123_ok _ _ _ _ _ h3) rfl rfl rfl rfl rfl (Nat.le_of_ble_eq_true rfl) (Nat.le_of_ble_eq_true rfl) (Nat.le_of_ble_eq_true rfl) ?_
  rintro _ _ ⟨rfl, rfl⟩
  refine mv_Gs_run 2 (F' := (183, [some (.ref 200000), some (.ref 0), some (.ref 59), some (.ref 81), some (.int (0 : Int32)), some (.int (1 : Int32)), some (.int (0 : Int32))], [.ref 59], 83, 54522, kjS false J1 kcZL)) rfl ?_
  refine mv_Gs_call (r := []) (kf101_ok _ _ _ _ _ rfl) rfl rfl rfl rfl rfl (Nat.le_of_ble_eq_true rfl) (Nat.le_of_ble_eq_true rfl) (Nat.le_of_ble_eq_true rfl) ?_
  rintro _ _ ⟨rfl, rfl⟩
  refine mv_Gs_run 1 (F' := (188, [some (.ref 200000), some (.ref 0), some (.ref 59), some (.ref 81), some (.int (0 : Int32)), some (.int (1 : Int32)), some (.int (0 : Int32))], [.int (1 : Int32), .int (J1 59 0)], 83, 54522, kjS false J1 kcZL)) rfl ?_
  refine mv_Gs_br (tgt := 193) rfl rfl (by decide) (fun _ => ?_) (fun z => absurd h4 z)
  refine mv_Gs_run 1 (F' := (195, [some (.ref 200000), some (.ref 0), some (.ref 59), some (.ref 81), some (.int (0 : Int32)), some (.int (1 : Int32)), some (.int (0 : Int32))], [.int (1 : Int32)], 83, 54522, kjS false J1 kcZL)) rfl ?_
  refine mv_Gs_br (tgt := 210) rfl rfl (by decide) (fun _ => ?_) (fun z => absurd (by decide) z)
  refine mv_Gs_run 1 (F' := (614, [some (.ref 200000), some (.ref 0), some (.ref 59), some (.ref 81), some (.int (0 : Int32)), some (.int (1 : Int32)), some (.int (0 : Int32))], [], 83, 54522, kjS false J1 kcZL)) rfl ?_
  exact mv_Gs_stop (kw_end C)
set_option maxRecDepth 100000 in
set_option maxHeartbeats 4000000 in
theorem kw_look (C : kw_C p s m meth c b 4 xs D cA ad) (hfl : l.flags.contains noTraceFlag = true) (hex : ∃ (text : String) (sa : Nat), mv_Ex kt_F "KindJudge" 100 text sa (kw_A s) s) : kw_W p l e s m below meth c b D cA ad (287, [some (.ref 200000), some (.ref 0), some (.ref 59), some (.ref 81), some (.int (0 : Int32)), none, none], [], 82, 54516, kjS false kcZ kcZL) := by
  refine kw_go C ?_
  refine mv_Gs_run 5 (F' := (293, [some (.ref 200000), some (.ref 0), some (.ref 59), some (.ref 81), some (.int (0 : Int32)), none, none], [.int (1 : Int32), .ref 200000, .ref 0], 82, 54516, kjS false kcZ kcZL)) rfl ?_
  refine mv_Gs_stop (kw_ld C kw_in1 (by decide +kernel) (kw_go C ?_))
  refine mv_Gs_run 4 (F' := (299, [some (.ref 200000), some (.ref 0), some (.ref 59), some (.ref 81), some (.int (0 : Int32)), none, none], [.int (2 : Int32), .ref 200000, .int (xs (Int32.toNatClampNeg (1 : Int32))), .ref 0], 82, 54516, kjS false kcZ kcZL)) rfl ?_
  refine mv_Gs_stop (kw_ld C kw_in2 (by decide +kernel) (kw_go C ?_))
  refine mv_Gs_run 4 (F' := (305, [some (.ref 200000), some (.ref 0), some (.ref 59), some (.ref 81), some (.int (0 : Int32)), none, none], [.int (3 : Int32), .ref 200000, .int (xs (Int32.toNatClampNeg (2 : Int32))), .int (xs (Int32.toNatClampNeg (1 : Int32))), .ref 0], 82, 54516, kjS false kcZ kcZL)) rfl ?_
  refine mv_Gs_stop (kw_ld C kw_in3 (by decide +kernel) (kw_go C ?_))
  refine mv_Gs_run 1 (F' := (307, [some (.ref 200000), some (.ref 0), some (.ref 59), some (.ref 81), some (.int (0 : Int32)), none, none], [.ref 81, .int (xs (Int32.toNatClampNeg (3 : Int32))), .int (xs (Int32.toNatClampNeg (2 : Int32))), .int (xs (Int32.toNatClampNeg (1 : Int32))), .ref 0], 82, 54516, kjS false kcZ kcZL)) rfl ?_
  refine mv_Gs_stop (kw_clook C hfl hex (by decide) kw_lc0 (fun C => kw_go C ?_))
  refine mv_Gs_run 6 (F' := (318, [some (.ref 200000), some (.ref 0), some (.ref 59), some (.ref 81), some (.int (0 : Int32)), some (.int (1 : Int32)), none], [.int (1 : Int32), .ref 200000, .ref 59], 83, 54522, kjS false kcZ kcZL)) rfl ?_
  refine mv_Gs_stop (kw_ld C kw_in1 (by decide +kernel) (kw_go C ?_))
  refine mv_Gs_run 4 (F' := (324, [some (.ref 200000), some (.ref 0), some (.ref 59), some (.ref 81), some (.int (0 : Int32)), some (.int (1 : Int32)), none], [.int (2 : Int32), .ref 200000, .int (xs (Int32.toNatClampNeg (1 : Int32))), .ref 59], 83, 54522, kjS false kcZ kcZL)) rfl ?_
  refine mv_Gs_stop (kw_ld C kw_in2 (by decide +kernel) (kw_go C ?_))
  refine mv_Gs_run 4 (F' := (330, [some (.ref 200000), some (.ref 0), some (.ref 59), some (.ref 81), some (.int (0 : Int32)), some (.int (1 : Int32)), none], [.int (3 : Int32), .ref 200000, .int (xs (Int32.toNatClampNeg (2 : Int32))), .int (xs (Int32.toNatClampNeg (1 : Int32))), .ref 59], 83, 54522, kjS false kcZ kcZL)) rfl ?_
  refine mv_Gs_stop (kw_ld C kw_in3 (by decide +kernel) (kw_go C ?_))
  refine mv_Gs_call (r := []) (kf144_ok _ _ _ _ _ _ _ _ (k1_mlook (xs (Int32.toNatClampNeg (1 : Int32))) (xs (Int32.toNatClampNeg (2 : Int32))) (xs (Int32.toNatClampNeg (3 : Int32))))) rfl rfl rfl rfl rfl (Nat.le_of_ble_eq_true rfl) (Nat.le_of_ble_eq_true rfl) (Nat.le_of_ble_eq_true rfl) ?_
  rintro _ _ ⟨rfl, rfl⟩
  refine mv_Gs_run 2 (F' := (337, [some (.ref 200000), some (.ref 0), some (.ref 59), some (.ref 81), some (.int (0 : Int32)), some (.int (1 : Int32)), some (.int (0 : Int32))], [.ref 59], 83, 54522, kjS false (mv_up kcZ 59 0 1) kcZL)) rfl ?_
  refine mv_Gs_call (r := []) (kf101_ok _ _ _ _ _ rfl) rfl rfl rfl rfl rfl (Nat.le_of_ble_eq_true rfl) (Nat.le_of_ble_eq_true rfl) (Nat.le_of_ble_eq_true rfl) ?_
  rintro _ _ ⟨rfl, rfl⟩
  refine mv_Gs_run 1 (F' := (342, [some (.ref 200000), some (.ref 0), some (.ref 59), some (.ref 81), some (.int (0 : Int32)), some (.int (1 : Int32)), some (.int (0 : Int32))], [.int (1 : Int32), .int (mv_up kcZ 59 0 1 59 0)], 83, 54522, kjS false (mv_up kcZ 59 0 1) kcZL)) rfl ?_
  refine mv_Gs_br (tgt := 347) rfl rfl (by decide) (fun _ => ?_) (fun z => absurd rfl z)
  refine mv_Gs_run 1 (F' := (349, [some (.ref 200000), some (.ref 0), some (.ref 59), some (.ref 81), some (.int (0 : Int32)), some (.int (1 : Int32)), some (.int (0 : Int32))], [.int (1 : Int32)], 83, 54522, kjS false (mv_up kcZ 59 0 1) kcZL)) rfl ?_
  refine mv_Gs_br (tgt := 364) rfl rfl (by decide) (fun _ => ?_) (fun z => absurd (by decide) z)
  refine mv_Gs_run 1 (F' := (614, [some (.ref 200000), some (.ref 0), some (.ref 59), some (.ref 81), some (.int (0 : Int32)), some (.int (1 : Int32)), some (.int (0 : Int32))], [], 83, 54522, kjS false (mv_up kcZ 59 0 1) kcZL)) rfl ?_
  exact mv_Gs_stop (kw_end C)
end KW
