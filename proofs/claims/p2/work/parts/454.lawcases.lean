/-! The law's walk, by program (wip/p2/gen/law.py): each case. -/
section KW
variable {p : Program} {l : Launch} {e : Env} {s : State} {m : MethodId} {below : List Frame} {meth : Method} {c : Code} {b L : Nat} {xs : Nat → Int32} {D : va_G} {cA : Nat → ClassId} {ad : Nat → Nat} {f : Bool} {I : kjI} {K : kjL} {i : Int32} {vc vs : Nat}
set_option maxRecDepth 100000 in
set_option maxHeartbeats 4000000 in
theorem kw_fault (C : kw_C p s m meth c b L xs D cA ad) (hv : vp_in i L ∧ vp_in (i + (1 : Int32)) L ∧ vp_in (i + (2 : Int32)) L ∧ vp_in (i + (3 : Int32)) L) (hcs : vc ≤ 1108 ∧ vs ≤ 62720) (hI : kInv f I) (hE : kw_Go p l e s m below meth c b D cA i ad vc vs) : kw_W p l e s m below meth c b D cA ad (185, [some (.ref 200000), some (.ref 0), some (.ref 59), some (.ref 81), some (.int i), none, none], [], vc, vs, kjS f I K) := by
  refine kw_go C ?_
  obtain ⟨r, q, h1, h2, h3⟩ := kI_fault (L := K) (xs (Int32.toNatClampNeg (i + (1 : Int32)))) hI
  refine mv_Gs_run 5 (F' := (191, [some (.ref 200000), some (.ref 0), some (.ref 59), some (.ref 81), some (.int i), none, none], [.int (i + (1 : Int32)), .ref 200000, .ref 0], vc, vs, kjS f I K)) rfl ?_
  refine mv_Gs_stop (kw_ld C hv.2.1 (by decide +kernel) (kw_go C ?_))
  refine mv_Gs_call (r := []) (kf3_ok _ _ _ _ _ _ h1) rfl rfl rfl rfl rfl (Nat.le_of_ble_eq_true rfl) (kw_h6 hcs.1 rfl) (kw_h7 hcs.2 rfl) ?_
  rintro _ _ ⟨rfl, rfl⟩
  refine mv_Gs_run 6 (F' := (202, [some (.ref 200000), some (.ref 0), some (.ref 59), some (.ref 81), some (.int i), none, none], [.int (i + (1 : Int32)), .ref 200000, .ref 59], vc, vs, kjS f I K)) rfl ?_
  refine mv_Gs_stop (kw_ld C hv.2.1 (by decide +kernel) (kw_go C ?_))
  refine mv_Gs_call (r := []) (kf124_ok _ _ _ _ _ _ h2) rfl rfl rfl rfl rfl (Nat.le_of_ble_eq_true rfl) (kw_h6 hcs.1 rfl) (kw_h7 hcs.2 rfl) ?_
  rintro _ _ ⟨rfl, rfl⟩
  refine mv_Gs_run 2 (F' := (558, [some (.ref 200000), some (.ref 0), some (.ref 59), some (.ref 81), some (.int i), none, none], [], vc, vs, kjS f q.2.1 q.2.2)) rfl ?_
  exact mv_Gs_stop (hE _ _ _ h3 none none)
set_option maxRecDepth 100000 in
set_option maxHeartbeats 4000000 in
theorem kw_kind (C : kw_C p s m meth c b L xs D cA ad) (hv : vp_in i L ∧ vp_in (i + (1 : Int32)) L ∧ vp_in (i + (2 : Int32)) L ∧ vp_in (i + (3 : Int32)) L) (hcs : vc ≤ 1108 ∧ vs ≤ 62720) (hI : kInv f I) (hE : kw_Go p l e s m below meth c b D cA i ad vc vs) : kw_W p l e s m below meth c b D cA ad (210, [some (.ref 200000), some (.ref 0), some (.ref 59), some (.ref 81), some (.int i), none, none], [], vc, vs, kjS f I K) := by
  refine kw_go C ?_
  obtain ⟨r, q, h1, h2, h3⟩ := kI_kind (L := K) (xs (Int32.toNatClampNeg (i + (1 : Int32)))) (xs (Int32.toNatClampNeg (i + (2 : Int32)))) (xs (Int32.toNatClampNeg (i + (3 : Int32)))) hI
  refine mv_Gs_run 5 (F' := (216, [some (.ref 200000), some (.ref 0), some (.ref 59), some (.ref 81), some (.int i), none, none], [.int (i + (1 : Int32)), .ref 200000, .ref 0], vc, vs, kjS f I K)) rfl ?_
  refine mv_Gs_stop (kw_ld C hv.2.1 (by decide +kernel) (kw_go C ?_))
  refine mv_Gs_run 4 (F' := (222, [some (.ref 200000), some (.ref 0), some (.ref 59), some (.ref 81), some (.int i), none, none], [.int (i + (2 : Int32)), .ref 200000, .int (xs (Int32.toNatClampNeg (i + (1 : Int32)))), .ref 0], vc, vs, kjS f I K)) rfl ?_
  refine mv_Gs_stop (kw_ld C hv.2.2.1 (by decide +kernel) (kw_go C ?_))
  refine mv_Gs_run 4 (F' := (228, [some (.ref 200000), some (.ref 0), some (.ref 59), some (.ref 81), some (.int i), none, none], [.int (i + (3 : Int32)), .ref 200000, .int (xs (Int32.toNatClampNeg (i + (2 : Int32)))), .int (xs (Int32.toNatClampNeg (i + (1 : Int32)))), .ref 0], vc, vs, kjS f I K)) rfl ?_
  refine mv_Gs_stop (kw_ld C hv.2.2.2 (by decide +kernel) (kw_go C ?_))
  refine mv_Gs_call (r := []) (kf4_ok _ _ _ _ _ _ _ _ h1) rfl rfl rfl rfl rfl (Nat.le_of_ble_eq_true rfl) (kw_h6 hcs.1 rfl) (kw_h7 hcs.2 rfl) ?_
  rintro _ _ ⟨rfl, rfl⟩
  refine mv_Gs_run 6 (F' := (239, [some (.ref 200000), some (.ref 0), some (.ref 59), some (.ref 81), some (.int i), none, none], [.int (i + (1 : Int32)), .ref 200000, .ref 59], vc, vs, kjS f I K)) rfl ?_
  refine mv_Gs_stop (kw_ld C hv.2.1 (by decide +kernel) (kw_go C ?_))
  refine mv_Gs_run 4 (F' := (245, [some (.ref 200000), some (.ref 0), some (.ref 59), some (.ref 81), some (.int i), none, none], [.int (i + (2 : Int32)), .ref 200000, .int (xs (Int32.toNatClampNeg (i + (1 : Int32)))), .ref 59], vc, vs, kjS f I K)) rfl ?_
  refine mv_Gs_stop (kw_ld C hv.2.2.1 (by decide +kernel) (kw_go C ?_))
  refine mv_Gs_run 4 (F' := (251, [some (.ref 200000), some (.ref 0), some (.ref 59), some (.ref 81), some (.int i), none, none], [.int (i + (3 : Int32)), .ref 200000, .int (xs (Int32.toNatClampNeg (i + (2 : Int32)))), .int (xs (Int32.toNatClampNeg (i + (1 : Int32)))), .ref 59], vc, vs, kjS f I K)) rfl ?_
  refine mv_Gs_stop (kw_ld C hv.2.2.2 (by decide +kernel) (kw_go C ?_))
  refine mv_Gs_call (r := []) (kf138_ok _ _ _ _ _ _ _ _ h2) rfl rfl rfl rfl rfl (Nat.le_of_ble_eq_true rfl) (kw_h6 hcs.1 rfl) (kw_h7 hcs.2 rfl) ?_
  rintro _ _ ⟨rfl, rfl⟩
  refine mv_Gs_run 2 (F' := (558, [some (.ref 200000), some (.ref 0), some (.ref 59), some (.ref 81), some (.int i), none, none], [], vc, vs, kjS f q.2.1 q.2.2)) rfl ?_
  exact mv_Gs_stop (hE _ _ _ h3 none none)
set_option maxRecDepth 100000 in
set_option maxHeartbeats 4000000 in
theorem kw_ways (C : kw_C p s m meth c b L xs D cA ad) (hv : vp_in i L ∧ vp_in (i + (1 : Int32)) L ∧ vp_in (i + (2 : Int32)) L ∧ vp_in (i + (3 : Int32)) L) (hcs : vc ≤ 1108 ∧ vs ≤ 62720) (hI : kInv f I) (hE : kw_Go p l e s m below meth c b D cA i ad vc vs) : kw_W p l e s m below meth c b D cA ad (311, [some (.ref 200000), some (.ref 0), some (.ref 59), some (.ref 81), some (.int i), none, none], [], vc, vs, kjS f I K) := by
  refine kw_go C ?_
  obtain ⟨r, q, h1, h2, h3⟩ := kI_ways (L := K) (xs (Int32.toNatClampNeg (i + (1 : Int32)))) (xs (Int32.toNatClampNeg (i + (2 : Int32)))) hI
  refine mv_Gs_run 5 (F' := (317, [some (.ref 200000), some (.ref 0), some (.ref 59), some (.ref 81), some (.int i), none, none], [.int (i + (1 : Int32)), .ref 200000, .ref 0], vc, vs, kjS f I K)) rfl ?_
  refine mv_Gs_stop (kw_ld C hv.2.1 (by decide +kernel) (kw_go C ?_))
  refine mv_Gs_run 4 (F' := (323, [some (.ref 200000), some (.ref 0), some (.ref 59), some (.ref 81), some (.int i), none, none], [.int (i + (2 : Int32)), .ref 200000, .int (xs (Int32.toNatClampNeg (i + (1 : Int32)))), .ref 0], vc, vs, kjS f I K)) rfl ?_
  refine mv_Gs_stop (kw_ld C hv.2.2.1 (by decide +kernel) (kw_go C ?_))
  refine mv_Gs_call (r := []) (kf6_ok _ _ _ _ _ _ _ _ h1) rfl rfl rfl rfl rfl (Nat.le_of_ble_eq_true rfl) (kw_h6 hcs.1 rfl) (kw_h7 hcs.2 rfl) ?_
  rintro _ _ ⟨rfl, rfl⟩
  refine mv_Gs_run 6 (F' := (334, [some (.ref 200000), some (.ref 0), some (.ref 59), some (.ref 81), some (.int i), none, none], [.int (i + (1 : Int32)), .ref 200000, .ref 59], vc, vs, kjS f I K)) rfl ?_
  refine mv_Gs_stop (kw_ld C hv.2.1 (by decide +kernel) (kw_go C ?_))
  refine mv_Gs_run 4 (F' := (340, [some (.ref 200000), some (.ref 0), some (.ref 59), some (.ref 81), some (.int i), none, none], [.int (i + (2 : Int32)), .ref 200000, .int (xs (Int32.toNatClampNeg (i + (1 : Int32)))), .ref 59], vc, vs, kjS f I K)) rfl ?_
  refine mv_Gs_stop (kw_ld C hv.2.2.1 (by decide +kernel) (kw_go C ?_))
  refine mv_Gs_call (r := []) (kf145_ok _ _ _ _ _ _ _ _ h2) rfl rfl rfl rfl rfl (Nat.le_of_ble_eq_true rfl) (kw_h6 hcs.1 rfl) (kw_h7 hcs.2 rfl) ?_
  rintro _ _ ⟨rfl, rfl⟩
  refine mv_Gs_run 2 (F' := (558, [some (.ref 200000), some (.ref 0), some (.ref 59), some (.ref 81), some (.int i), none, none], [], vc, vs, kjS f q.2.1 q.2.2)) rfl ?_
  exact mv_Gs_stop (hE _ _ _ h3 none none)
set_option maxRecDepth 100000 in
set_option maxHeartbeats 4000000 in
theorem kw_count (C : kw_C p s m meth c b L xs D cA ad) (hv : vp_in i L ∧ vp_in (i + (1 : Int32)) L ∧ vp_in (i + (2 : Int32)) L ∧ vp_in (i + (3 : Int32)) L) (hcs : vc ≤ 1108 ∧ vs ≤ 62720) (hI : kInv f I) (hE : kw_Go p l e s m below meth c b D cA i ad vc vs) : kw_W p l e s m below meth c b D cA ad (348, [some (.ref 200000), some (.ref 0), some (.ref 59), some (.ref 81), some (.int i), none, none], [], vc, vs, kjS f I K) := by
  refine kw_go C ?_
  obtain ⟨r, q, h1, h2, h3⟩ := kI_count (L := K) (xs (Int32.toNatClampNeg (i + (1 : Int32)))) (xs (Int32.toNatClampNeg (i + (2 : Int32)))) hI
  refine mv_Gs_run 5 (F' := (354, [some (.ref 200000), some (.ref 0), some (.ref 59), some (.ref 81), some (.int i), none, none], [.int (i + (1 : Int32)), .ref 200000, .ref 0], vc, vs, kjS f I K)) rfl ?_
  refine mv_Gs_stop (kw_ld C hv.2.1 (by decide +kernel) (kw_go C ?_))
  refine mv_Gs_run 4 (F' := (360, [some (.ref 200000), some (.ref 0), some (.ref 59), some (.ref 81), some (.int i), none, none], [.int (i + (2 : Int32)), .ref 200000, .int (xs (Int32.toNatClampNeg (i + (1 : Int32)))), .ref 0], vc, vs, kjS f I K)) rfl ?_
  refine mv_Gs_stop (kw_ld C hv.2.2.1 (by decide +kernel) (kw_go C ?_))
  refine mv_Gs_call (r := []) (kf7_ok _ _ _ _ _ _ _ _ h1) rfl rfl rfl rfl rfl (Nat.le_of_ble_eq_true rfl) (kw_h6 hcs.1 rfl) (kw_h7 hcs.2 rfl) ?_
  rintro _ _ ⟨rfl, rfl⟩
  refine mv_Gs_run 6 (F' := (371, [some (.ref 200000), some (.ref 0), some (.ref 59), some (.ref 81), some (.int i), none, none], [.int (i + (1 : Int32)), .ref 200000, .ref 59], vc, vs, kjS f r.2.1 r.2.2)) rfl ?_
  refine mv_Gs_stop (kw_ld C hv.2.1 (by decide +kernel) (kw_go C ?_))
  refine mv_Gs_run 4 (F' := (377, [some (.ref 200000), some (.ref 0), some (.ref 59), some (.ref 81), some (.int i), none, none], [.int (i + (2 : Int32)), .ref 200000, .int (xs (Int32.toNatClampNeg (i + (1 : Int32)))), .ref 59], vc, vs, kjS f r.2.1 r.2.2)) rfl ?_
  refine mv_Gs_stop (kw_ld C hv.2.2.1 (by decide +kernel) (kw_go C ?_))
  refine mv_Gs_call (r := []) (kf146_ok _ _ _ _ _ _ _ _ h2) rfl rfl rfl rfl rfl (Nat.le_of_ble_eq_true rfl) (kw_h6 hcs.1 rfl) (kw_h7 hcs.2 rfl) ?_
  rintro _ _ ⟨rfl, rfl⟩
  refine mv_Gs_run 2 (F' := (558, [some (.ref 200000), some (.ref 0), some (.ref 59), some (.ref 81), some (.int i), none, none], [], vc, vs, kjS f q.2.1 q.2.2)) rfl ?_
  exact mv_Gs_stop (hE _ _ _ h3 none none)
set_option maxRecDepth 100000 in
set_option maxHeartbeats 4000000 in
theorem kw_fits (C : kw_C p s m meth c b L xs D cA ad) (hv : vp_in i L ∧ vp_in (i + (1 : Int32)) L ∧ vp_in (i + (2 : Int32)) L ∧ vp_in (i + (3 : Int32)) L) (hcs : vc ≤ 1108 ∧ vs ≤ 62720) (hI : kInv f I) (hE : kw_Go p l e s m below meth c b D cA i ad vc vs) : kw_W p l e s m below meth c b D cA ad (385, [some (.ref 200000), some (.ref 0), some (.ref 59), some (.ref 81), some (.int i), none, none], [], vc, vs, kjS f I K) := by
  refine kw_go C ?_
  obtain ⟨r, q, h1, h2, h3⟩ := kI_fits (L := K) (xs (Int32.toNatClampNeg (i + (1 : Int32)))) (xs (Int32.toNatClampNeg (i + (2 : Int32)))) hI
  refine mv_Gs_run 5 (F' := (391, [some (.ref 200000), some (.ref 0), some (.ref 59), some (.ref 81), some (.int i), none, none], [.int (i + (1 : Int32)), .ref 200000, .ref 0], vc, vs, kjS f I K)) rfl ?_
  refine mv_Gs_stop (kw_ld C hv.2.1 (by decide +kernel) (kw_go C ?_))
  refine mv_Gs_run 4 (F' := (397, [some (.ref 200000), some (.ref 0), some (.ref 59), some (.ref 81), some (.int i), none, none], [.int (i + (2 : Int32)), .ref 200000, .int (xs (Int32.toNatClampNeg (i + (1 : Int32)))), .ref 0], vc, vs, kjS f I K)) rfl ?_
  refine mv_Gs_stop (kw_ld C hv.2.2.1 (by decide +kernel) (kw_go C ?_))
  refine mv_Gs_call (r := []) (kf8_ok _ _ _ _ _ _ _ h1) rfl rfl rfl rfl rfl (Nat.le_of_ble_eq_true rfl) (kw_h6 hcs.1 rfl) (kw_h7 hcs.2 rfl) ?_
  rintro _ _ ⟨rfl, rfl⟩
  refine mv_Gs_run 6 (F' := (408, [some (.ref 200000), some (.ref 0), some (.ref 59), some (.ref 81), some (.int i), none, none], [.int (i + (1 : Int32)), .ref 200000, .ref 59], vc, vs, kjS f I K)) rfl ?_
  refine mv_Gs_stop (kw_ld C hv.2.1 (by decide +kernel) (kw_go C ?_))
  refine mv_Gs_run 4 (F' := (414, [some (.ref 200000), some (.ref 0), some (.ref 59), some (.ref 81), some (.int i), none, none], [.int (i + (2 : Int32)), .ref 200000, .int (xs (Int32.toNatClampNeg (i + (1 : Int32)))), .ref 59], vc, vs, kjS f I K)) rfl ?_
  refine mv_Gs_stop (kw_ld C hv.2.2.1 (by decide +kernel) (kw_go C ?_))
  refine mv_Gs_call (r := []) (kf148_ok _ _ _ _ _ _ _ _ h2) rfl rfl rfl rfl rfl (Nat.le_of_ble_eq_true rfl) (kw_h6 hcs.1 rfl) (kw_h7 hcs.2 rfl) ?_
  rintro _ _ ⟨rfl, rfl⟩
  refine mv_Gs_run 2 (F' := (558, [some (.ref 200000), some (.ref 0), some (.ref 59), some (.ref 81), some (.int i), none, none], [], vc, vs, kjS f q.2.1 q.2.2)) rfl ?_
  exact mv_Gs_stop (hE _ _ _ h3 none none)
set_option maxRecDepth 100000 in
set_option maxHeartbeats 4000000 in
theorem kw_meet (C : kw_C p s m meth c b L xs D cA ad) (hv : vp_in i L ∧ vp_in (i + (1 : Int32)) L ∧ vp_in (i + (2 : Int32)) L ∧ vp_in (i + (3 : Int32)) L) (hcs : vc ≤ 1108 ∧ vs ≤ 62720) (hI : kInv f I) (hE : kw_Go p l e s m below meth c b D cA i ad vc vs) : kw_W p l e s m below meth c b D cA ad (422, [some (.ref 200000), some (.ref 0), some (.ref 59), some (.ref 81), some (.int i), none, none], [], vc, vs, kjS f I K) := by
  refine kw_go C ?_
  obtain ⟨r, q, h1, h2, h3⟩ := kI_meet (L := K) (xs (Int32.toNatClampNeg (i + (1 : Int32)))) (xs (Int32.toNatClampNeg (i + (2 : Int32)))) hI
  refine mv_Gs_run 5 (F' := (428, [some (.ref 200000), some (.ref 0), some (.ref 59), some (.ref 81), some (.int i), none, none], [.int (i + (1 : Int32)), .ref 200000, .ref 0], vc, vs, kjS f I K)) rfl ?_
  refine mv_Gs_stop (kw_ld C hv.2.1 (by decide +kernel) (kw_go C ?_))
  refine mv_Gs_run 4 (F' := (434, [some (.ref 200000), some (.ref 0), some (.ref 59), some (.ref 81), some (.int i), none, none], [.int (i + (2 : Int32)), .ref 200000, .int (xs (Int32.toNatClampNeg (i + (1 : Int32)))), .ref 0], vc, vs, kjS f I K)) rfl ?_
  refine mv_Gs_stop (kw_ld C hv.2.2.1 (by decide +kernel) (kw_go C ?_))
  refine mv_Gs_call (r := []) (kf9_ok _ _ _ _ _ _ _ _ h1) rfl rfl rfl rfl rfl (Nat.le_of_ble_eq_true rfl) (kw_h6 hcs.1 rfl) (kw_h7 hcs.2 rfl) ?_
  rintro _ _ ⟨rfl, rfl⟩
  refine mv_Gs_run 6 (F' := (445, [some (.ref 200000), some (.ref 0), some (.ref 59), some (.ref 81), some (.int i), none, none], [.int (i + (1 : Int32)), .ref 200000, .ref 59], vc, vs, kjS f I K)) rfl ?_
  refine mv_Gs_stop (kw_ld C hv.2.1 (by decide +kernel) (kw_go C ?_))
  refine mv_Gs_run 4 (F' := (451, [some (.ref 200000), some (.ref 0), some (.ref 59), some (.ref 81), some (.int i), none, none], [.int (i + (2 : Int32)), .ref 200000, .int (xs (Int32.toNatClampNeg (i + (1 : Int32)))), .ref 59], vc, vs, kjS f I K)) rfl ?_
  refine mv_Gs_stop (kw_ld C hv.2.2.1 (by decide +kernel) (kw_go C ?_))
  refine mv_Gs_call (r := []) (kf149_ok _ _ _ _ _ _ _ _ h2) rfl rfl rfl rfl rfl (Nat.le_of_ble_eq_true rfl) (kw_h6 hcs.1 rfl) (kw_h7 hcs.2 rfl) ?_
  rintro _ _ ⟨rfl, rfl⟩
  refine mv_Gs_run 2 (F' := (558, [some (.ref 200000), some (.ref 0), some (.ref 59), some (.ref 81), some (.int i), none, none], [], vc, vs, kjS f q.2.1 q.2.2)) rfl ?_
  exact mv_Gs_stop (hE _ _ _ h3 none none)
set_option maxRecDepth 100000 in
set_option maxHeartbeats 4000000 in
theorem kw_method (C : kw_C p s m meth c b L xs D cA ad) (hv : vp_in i L ∧ vp_in (i + (1 : Int32)) L ∧ vp_in (i + (2 : Int32)) L ∧ vp_in (i + (3 : Int32)) L) (hcs : vc ≤ 1108 ∧ vs ≤ 62720) (hI : kInv f I) (hE : kw_Go p l e s m below meth c b D cA i ad vc vs) : kw_W p l e s m below meth c b D cA ad (459, [some (.ref 200000), some (.ref 0), some (.ref 59), some (.ref 81), some (.int i), none, none], [], vc, vs, kjS f I K) := by
  refine kw_go C ?_
  obtain ⟨r, q, h1, h2, h3⟩ := kI_method (L := K) (xs (Int32.toNatClampNeg (i + (1 : Int32)))) (xs (Int32.toNatClampNeg (i + (2 : Int32)))) hI
  refine mv_Gs_run 5 (F' := (465, [some (.ref 200000), some (.ref 0), some (.ref 59), some (.ref 81), some (.int i), none, none], [.int (i + (1 : Int32)), .ref 200000, .ref 0], vc, vs, kjS f I K)) rfl ?_
  refine mv_Gs_stop (kw_ld C hv.2.1 (by decide +kernel) (kw_go C ?_))
  refine mv_Gs_run 4 (F' := (471, [some (.ref 200000), some (.ref 0), some (.ref 59), some (.ref 81), some (.int i), none, none], [.int (i + (2 : Int32)), .ref 200000, .int (xs (Int32.toNatClampNeg (i + (1 : Int32)))), .ref 0], vc, vs, kjS f I K)) rfl ?_
  refine mv_Gs_stop (kw_ld C hv.2.2.1 (by decide +kernel) (kw_go C ?_))
  refine mv_Gs_call (r := []) (kf10_ok _ _ _ _ _ _ _ h1) rfl rfl rfl rfl rfl (Nat.le_of_ble_eq_true rfl) (kw_h6 hcs.1 rfl) (kw_h7 hcs.2 rfl) ?_
  rintro _ _ ⟨rfl, rfl⟩
  refine mv_Gs_run 6 (F' := (482, [some (.ref 200000), some (.ref 0), some (.ref 59), some (.ref 81), some (.int i), none, none], [.int (i + (1 : Int32)), .ref 200000, .ref 59], vc, vs, kjS f I K)) rfl ?_
  refine mv_Gs_stop (kw_ld C hv.2.1 (by decide +kernel) (kw_go C ?_))
  refine mv_Gs_run 4 (F' := (488, [some (.ref 200000), some (.ref 0), some (.ref 59), some (.ref 81), some (.int i), none, none], [.int (i + (2 : Int32)), .ref 200000, .int (xs (Int32.toNatClampNeg (i + (1 : Int32)))), .ref 59], vc, vs, kjS f I K)) rfl ?_
  refine mv_Gs_stop (kw_ld C hv.2.2.1 (by decide +kernel) (kw_go C ?_))
  refine mv_Gs_call (r := []) (kf150_ok _ _ _ _ _ _ _ _ h2) rfl rfl rfl rfl rfl (Nat.le_of_ble_eq_true rfl) (kw_h6 hcs.1 rfl) (kw_h7 hcs.2 rfl) ?_
  rintro _ _ ⟨rfl, rfl⟩
  refine mv_Gs_run 2 (F' := (558, [some (.ref 200000), some (.ref 0), some (.ref 59), some (.ref 81), some (.int i), none, none], [], vc, vs, kjS f q.2.1 q.2.2)) rfl ?_
  exact mv_Gs_stop (hE _ _ _ h3 none none)
set_option maxRecDepth 100000 in
set_option maxHeartbeats 4000000 in
theorem kw_type (C : kw_C p s m meth c b L xs D cA ad) (hv : vp_in i L ∧ vp_in (i + (1 : Int32)) L ∧ vp_in (i + (2 : Int32)) L ∧ vp_in (i + (3 : Int32)) L) (hcs : vc ≤ 1108 ∧ vs ≤ 62720) (hI : kInv f I) (hE : kw_Go p l e s m below meth c b D cA i ad vc vs) : kw_W p l e s m below meth c b D cA ad (496, [some (.ref 200000), some (.ref 0), some (.ref 59), some (.ref 81), some (.int i), none, none], [], vc, vs, kjS f I K) := by
  refine kw_go C ?_
  obtain ⟨r, q, h1, h2, h3⟩ := kI_type (L := K) (xs (Int32.toNatClampNeg (i + (1 : Int32)))) (xs (Int32.toNatClampNeg (i + (2 : Int32)))) hI
  refine mv_Gs_run 5 (F' := (502, [some (.ref 200000), some (.ref 0), some (.ref 59), some (.ref 81), some (.int i), none, none], [.int (i + (1 : Int32)), .ref 200000, .ref 0], vc, vs, kjS f I K)) rfl ?_
  refine mv_Gs_stop (kw_ld C hv.2.1 (by decide +kernel) (kw_go C ?_))
  refine mv_Gs_run 4 (F' := (508, [some (.ref 200000), some (.ref 0), some (.ref 59), some (.ref 81), some (.int i), none, none], [.int (i + (2 : Int32)), .ref 200000, .int (xs (Int32.toNatClampNeg (i + (1 : Int32)))), .ref 0], vc, vs, kjS f I K)) rfl ?_
  refine mv_Gs_stop (kw_ld C hv.2.2.1 (by decide +kernel) (kw_go C ?_))
  refine mv_Gs_call (r := []) (kf11_ok _ _ _ _ _ _ _ h1) rfl rfl rfl rfl rfl (Nat.le_of_ble_eq_true rfl) (kw_h6 hcs.1 rfl) (kw_h7 hcs.2 rfl) ?_
  rintro _ _ ⟨rfl, rfl⟩
  refine mv_Gs_run 6 (F' := (519, [some (.ref 200000), some (.ref 0), some (.ref 59), some (.ref 81), some (.int i), none, none], [.int (i + (1 : Int32)), .ref 200000, .ref 59], vc, vs, kjS f I K)) rfl ?_
  refine mv_Gs_stop (kw_ld C hv.2.1 (by decide +kernel) (kw_go C ?_))
  refine mv_Gs_run 4 (F' := (525, [some (.ref 200000), some (.ref 0), some (.ref 59), some (.ref 81), some (.int i), none, none], [.int (i + (2 : Int32)), .ref 200000, .int (xs (Int32.toNatClampNeg (i + (1 : Int32)))), .ref 59], vc, vs, kjS f I K)) rfl ?_
  refine mv_Gs_stop (kw_ld C hv.2.2.1 (by decide +kernel) (kw_go C ?_))
  refine mv_Gs_call (r := []) (kf151_ok _ _ _ _ _ _ _ h2) rfl rfl rfl rfl rfl (Nat.le_of_ble_eq_true rfl) (kw_h6 hcs.1 rfl) (kw_h7 hcs.2 rfl) ?_
  rintro _ _ ⟨rfl, rfl⟩
  refine mv_Gs_run 2 (F' := (558, [some (.ref 200000), some (.ref 0), some (.ref 59), some (.ref 81), some (.int i), none, none], [], vc, vs, kjS f q.2.1 q.2.2)) rfl ?_
  exact mv_Gs_stop (hE _ _ _ h3 none none)
set_option maxRecDepth 100000 in
set_option maxHeartbeats 4000000 in
theorem kw_total (C : kw_C p s m meth c b L xs D cA ad) (hv : vp_in i L ∧ vp_in (i + (1 : Int32)) L ∧ vp_in (i + (2 : Int32)) L ∧ vp_in (i + (3 : Int32)) L) (hcs : vc ≤ 1108 ∧ vs ≤ 62720) (hI : kInv f I) (hE : kw_Go p l e s m below meth c b D cA i ad vc vs) : kw_W p l e s m below meth c b D cA ad (533, [some (.ref 200000), some (.ref 0), some (.ref 59), some (.ref 81), some (.int i), none, none], [], vc, vs, kjS f I K) := by
  refine kw_go C ?_
  obtain ⟨r, q, h1, h2, h3⟩ := kI_total (L := K) (xs (Int32.toNatClampNeg (i + (1 : Int32)))) hI
  refine mv_Gs_run 5 (F' := (539, [some (.ref 200000), some (.ref 0), some (.ref 59), some (.ref 81), some (.int i), none, none], [.int (i + (1 : Int32)), .ref 200000, .ref 0], vc, vs, kjS f I K)) rfl ?_
  refine mv_Gs_stop (kw_ld C hv.2.1 (by decide +kernel) (kw_go C ?_))
  refine mv_Gs_call (r := []) (kf12_ok _ _ _ _ _ _ h1) rfl rfl rfl rfl rfl (Nat.le_of_ble_eq_true rfl) (kw_h6 hcs.1 rfl) (kw_h7 hcs.2 rfl) ?_
  rintro _ _ ⟨rfl, rfl⟩
  refine mv_Gs_run 6 (F' := (550, [some (.ref 200000), some (.ref 0), some (.ref 59), some (.ref 81), some (.int i), none, none], [.int (i + (1 : Int32)), .ref 200000, .ref 59], vc, vs, kjS f I K)) rfl ?_
  refine mv_Gs_stop (kw_ld C hv.2.1 (by decide +kernel) (kw_go C ?_))
  refine mv_Gs_call (r := []) (kf152_ok _ _ _ _ _ _ h2) rfl rfl rfl rfl rfl (Nat.le_of_ble_eq_true rfl) (kw_h6 hcs.1 rfl) (kw_h7 hcs.2 rfl) ?_
  rintro _ _ ⟨rfl, rfl⟩
  refine mv_Gs_run 2 (F' := (558, [some (.ref 200000), some (.ref 0), some (.ref 59), some (.ref 81), some (.int i), none, none], [], vc, vs, kjS f q.2.1 q.2.2)) rfl ?_
  exact mv_Gs_stop (hE _ _ _ h3 none none)
set_option maxRecDepth 100000 in
set_option maxHeartbeats 4000000 in
theorem kw_put (C : kw_C p s m meth c b L xs D cA ad) (hv : vp_in i L ∧ vp_in (i + (1 : Int32)) L ∧ vp_in (i + (2 : Int32)) L ∧ vp_in (i + (3 : Int32)) L) (hcs : vc ≤ 1108 ∧ vs ≤ 62720) (hI : kInv f I) (hE : kw_Go p l e s m below meth c b D cA i ad vc vs) : kw_W p l e s m below meth c b D cA ad (100, [some (.ref 200000), some (.ref 0), some (.ref 59), some (.ref 81), some (.int i), none, none], [], vc, vs, kjS f I K) := by
  refine kw_go C ?_
  obtain ⟨z, I1, J1, h1, h2, h3⟩ := kI_put (L := K) (((Int32.toInt64 (xs (Int32.toNatClampNeg (i + (1 : Int32))))) <<< (Int32.toInt64 (32 : Int32) &&& 63)) ||| ((Int32.toInt64 (xs (Int32.toNatClampNeg (i + (2 : Int32))))) &&& (4294967295 : Int64))) (xs (Int32.toNatClampNeg (i + (3 : Int32)))) hI
  refine mv_Gs_run 5 (F' := (106, [some (.ref 200000), some (.ref 0), some (.ref 59), some (.ref 81), some (.int i), none, none], [.int (i + (1 : Int32)), .ref 200000, .ref 0], vc, vs, kjS f I K)) rfl ?_
  refine mv_Gs_stop (kw_ld C hv.2.1 (by decide +kernel) (kw_go C ?_))
  refine mv_Gs_run 7 (F' := (116, [some (.ref 200000), some (.ref 0), some (.ref 59), some (.ref 81), some (.int i), none, none], [.int (i + (2 : Int32)), .ref 200000, .long ((Int32.toInt64 (xs (Int32.toNatClampNeg (i + (1 : Int32))))) <<< (Int32.toInt64 (32 : Int32) &&& 63)), .ref 0], vc, vs, kjS f I K)) rfl ?_
  refine mv_Gs_stop (kw_ld C hv.2.2.1 (by decide +kernel) (kw_go C ?_))
  refine mv_Gs_run 8 (F' := (128, [some (.ref 200000), some (.ref 0), some (.ref 59), some (.ref 81), some (.int i), none, none], [.int (i + (3 : Int32)), .ref 200000, .long (((Int32.toInt64 (xs (Int32.toNatClampNeg (i + (1 : Int32))))) <<< (Int32.toInt64 (32 : Int32) &&& 63)) ||| ((Int32.toInt64 (xs (Int32.toNatClampNeg (i + (2 : Int32))))) &&& (4294967295 : Int64))), .ref 0], vc, vs, kjS f I K)) rfl ?_
  refine mv_Gs_stop (kw_ld C hv.2.2.2 (by decide +kernel) (kw_go C ?_))
  refine mv_Gs_call (r := []) (kf1_ok _ _ _ _ _ _ _ _ h1) rfl rfl rfl rfl rfl (Nat.le_of_ble_eq_true rfl) (kw_h6 hcs.1 rfl) (kw_h7 hcs.2 rfl) ?_
  rintro _ _ ⟨rfl, rfl⟩
  refine mv_Gs_run 5 (F' := (138, [some (.ref 200000), some (.ref 0), some (.ref 59), some (.ref 81), some (.int i), none, none], [.int (i + (1 : Int32)), .ref 200000, .ref 59, .int z], vc, vs, kjS f I1 K)) rfl ?_
  refine mv_Gs_stop (kw_ld C hv.2.1 (by decide +kernel) (kw_go C ?_))
  refine mv_Gs_run 7 (F' := (148, [some (.ref 200000), some (.ref 0), some (.ref 59), some (.ref 81), some (.int i), none, none], [.int (i + (2 : Int32)), .ref 200000, .long ((Int32.toInt64 (xs (Int32.toNatClampNeg (i + (1 : Int32))))) <<< (Int32.toInt64 (32 : Int32) &&& 63)), .ref 59, .int z], vc, vs, kjS f I1 K)) rfl ?_
  refine mv_Gs_stop (kw_ld C hv.2.2.1 (by decide +kernel) (kw_go C ?_))
  refine mv_Gs_run 8 (F' := (160, [some (.ref 200000), some (.ref 0), some (.ref 59), some (.ref 81), some (.int i), none, none], [.int (i + (3 : Int32)), .ref 200000, .long (((Int32.toInt64 (xs (Int32.toNatClampNeg (i + (1 : Int32))))) <<< (Int32.toInt64 (32 : Int32) &&& 63)) ||| ((Int32.toInt64 (xs (Int32.toNatClampNeg (i + (2 : Int32))))) &&& (4294967295 : Int64))), .ref 59, .int z], vc, vs, kjS f I1 K)) rfl ?_
  refine mv_Gs_stop (kw_ld C hv.2.2.2 (by decide +kernel) (kw_go C ?_))
  refine mv_Gs_call (r := [.int z]) (kf103_ok _ _ _ _ _ _ _ _ h2) rfl rfl rfl rfl rfl (Nat.le_of_ble_eq_true rfl) (kw_h6 hcs.1 rfl) (kw_h7 hcs.2 rfl) ?_
  rintro _ _ ⟨rfl, rfl⟩
  refine mv_Gs_br (tgt := 558) rfl rfl (by decide) (fun _ => ?_) (fun z => absurd rfl z)
  exact mv_Gs_stop (hE _ _ _ h3 none none)
set_option maxRecDepth 100000 in
set_option maxHeartbeats 4000000 in
theorem kw_load (C : kw_C p s m meth c b L xs D cA ad) (hv : vp_in i L ∧ vp_in (i + (1 : Int32)) L ∧ vp_in (i + (2 : Int32)) L ∧ vp_in (i + (3 : Int32)) L) (hfl : l.flags.contains noTraceFlag = true) (hex : ∃ (text : String) (sa : Nat), mv_Ex kt_F "KindJudge" 41 text sa (kw_A s) s) (hcs : vc + 1 ≤ 1108 ∧ vs + 6 ≤ 62720) (hE2 : kw_Go p l e s m below meth c b D cA i (kw_up ad) (vc + 1) (vs + 6)) (hI : kInv f I) (hE : kw_Go p l e s m below meth c b D cA i ad vc vs) : kw_W p l e s m below meth c b D cA ad (169, [some (.ref 200000), some (.ref 0), some (.ref 59), some (.ref 81), some (.int i), none, none], [], vc, vs, kjS f I K) := by
  refine kw_go C ?_
  obtain ⟨⟨I1, L1⟩, h1, h2, h3⟩ := kI_load (L := K) hI
  refine mv_Gs_run 2 (F' := (171, [some (.ref 200000), some (.ref 0), some (.ref 59), some (.ref 81), some (.int i), none, none], [.ref 81, .ref 0], vc, vs, kjS f I K)) rfl ?_
  by_cases h0 : I1 0 3 = 0
  · have hcs0 : vc ≤ 1108 ∧ vs ≤ 62720 := ⟨by omega, by omega⟩
    obtain ⟨x, y, hb⟩ := kt_back h1 h0
    obtain ⟨q, g1, g2⟩ := h3 (mv_up L1 81 (Int32.toNatClampNeg (0 : Int32)) (Int32.toInt64 x)) y
    refine mv_Gs_stop (kw_cloadR C hcs hb (kw_go C ?_))
    refine mv_Gs_run 2 (F' := (177, [some (.ref 200000), some (.ref 0), some (.ref 59), some (.ref 81), some (.int i), some (.int (0 : Int32)), none], [.ref 59], vc, vs, kjS (!f) (mv_up (mv_up I1 (kb f 2) 1 (0 : Int32)) 0 2 y) (mv_up L1 81 (Int32.toNatClampNeg (0 : Int32)) (Int32.toInt64 x)))) rfl ?_
    refine mv_Gs_call (r := []) (kf122_ok _ _ _ _ _ _ g1) rfl rfl rfl rfl rfl (Nat.le_of_ble_eq_true rfl) (kw_h6 hcs0.1 rfl) (kw_h7 hcs0.2 rfl) ?_
    rintro _ _ ⟨rfl, rfl⟩
    refine mv_Gs_run 2 (F' := (558, [some (.ref 200000), some (.ref 0), some (.ref 59), some (.ref 81), some (.int i), some (.int (0 : Int32)), some (.int q.1)], [], vc, vs, kjS (!f) q.2.1 q.2.2)) rfl ?_
    exact mv_Gs_stop (hE _ _ _ g2 _ _)
  · skip
    obtain ⟨q, g1, g2⟩ := h2 L1
    refine mv_Gs_stop (kw_cload C hfl hex hcs h1 h0 kw_lc (fun C => kw_go C ?_))
    refine mv_Gs_run 2 (F' := (177, [some (.ref 200000), some (.ref 0), some (.ref 59), some (.ref 81), some (.int i), some (.int (1 : Int32)), none], [.ref 59], vc + 1, vs + 6, kjS f (mv_up I1 (kb (!f) 2) 1 (0 : Int32)) L1)) rfl ?_
    refine mv_Gs_call (r := []) (kf122_ok _ _ _ _ _ _ g1) rfl rfl rfl rfl rfl (Nat.le_of_ble_eq_true rfl) (kw_h6 hcs.1 rfl) (kw_h7 hcs.2 rfl) ?_
    rintro _ _ ⟨rfl, rfl⟩
    refine mv_Gs_run 2 (F' := (558, [some (.ref 200000), some (.ref 0), some (.ref 59), some (.ref 81), some (.int i), some (.int (1 : Int32)), some (.int q.1)], [], vc + 1, vs + 6, kjS f q.2.1 q.2.2)) rfl ?_
    exact mv_Gs_stop (hE2 _ _ _ g2 _ _)
set_option maxRecDepth 100000 in
set_option maxHeartbeats 4000000 in
theorem kw_look (C : kw_C p s m meth c b L xs D cA ad) (hv : vp_in i L ∧ vp_in (i + (1 : Int32)) L ∧ vp_in (i + (2 : Int32)) L ∧ vp_in (i + (3 : Int32)) L) (hfl : l.flags.contains noTraceFlag = true) (hex : ∃ (text : String) (sa : Nat), mv_Ex kt_F "KindJudge" 100 text sa (kw_A s) s) (hcs : vc + 1 ≤ 1108 ∧ vs + 6 ≤ 62720) (hE2 : kw_Go p l e s m below meth c b D cA i (kw_up ad) (vc + 1) (vs + 6)) (hI : kInv f I) (hE : kw_Go p l e s m below meth c b D cA i ad vc vs) : kw_W p l e s m below meth c b D cA ad (259, [some (.ref 200000), some (.ref 0), some (.ref 59), some (.ref 81), some (.int i), none, none], [], vc, vs, kjS f I K) := by
  refine kw_go C ?_
  obtain ⟨h1, h2⟩ := kI_look (L := K) (xs (Int32.toNatClampNeg (i + (1 : Int32)))) (xs (Int32.toNatClampNeg (i + (2 : Int32)))) (xs (Int32.toNatClampNeg (i + (3 : Int32)))) hI
  refine mv_Gs_run 5 (F' := (265, [some (.ref 200000), some (.ref 0), some (.ref 59), some (.ref 81), some (.int i), none, none], [.int (i + (1 : Int32)), .ref 200000, .ref 0], vc, vs, kjS f I K)) rfl ?_
  refine mv_Gs_stop (kw_ld C hv.2.1 (by decide +kernel) (kw_go C ?_))
  refine mv_Gs_run 4 (F' := (271, [some (.ref 200000), some (.ref 0), some (.ref 59), some (.ref 81), some (.int i), none, none], [.int (i + (2 : Int32)), .ref 200000, .int (xs (Int32.toNatClampNeg (i + (1 : Int32)))), .ref 0], vc, vs, kjS f I K)) rfl ?_
  refine mv_Gs_stop (kw_ld C hv.2.2.1 (by decide +kernel) (kw_go C ?_))
  refine mv_Gs_run 4 (F' := (277, [some (.ref 200000), some (.ref 0), some (.ref 59), some (.ref 81), some (.int i), none, none], [.int (i + (3 : Int32)), .ref 200000, .int (xs (Int32.toNatClampNeg (i + (2 : Int32)))), .int (xs (Int32.toNatClampNeg (i + (1 : Int32)))), .ref 0], vc, vs, kjS f I K)) rfl ?_
  refine mv_Gs_stop (kw_ld C hv.2.2.2 (by decide +kernel) (kw_go C ?_))
  refine mv_Gs_run 1 (F' := (279, [some (.ref 200000), some (.ref 0), some (.ref 59), some (.ref 81), some (.int i), none, none], [.ref 81, .int (xs (Int32.toNatClampNeg (i + (3 : Int32)))), .int (xs (Int32.toNatClampNeg (i + (2 : Int32)))), .int (xs (Int32.toNatClampNeg (i + (1 : Int32)))), .ref 0], vc, vs, kjS f I K)) rfl ?_
  rcases h1 with h0 | h0
  · have hcs0 : vc ≤ 1108 ∧ vs ≤ 62720 := ⟨by omega, by omega⟩
    obtain ⟨x, hb⟩ := h0
    obtain ⟨q, g1, g2⟩ := h2 (mv_up K 81 (Int32.toNatClampNeg (0 : Int32)) (Int32.toInt64 x))
    refine mv_Gs_stop (kw_clookR C hcs hb (kw_go C ?_))
    refine mv_Gs_run 6 (F' := (290, [some (.ref 200000), some (.ref 0), some (.ref 59), some (.ref 81), some (.int i), some (.int (0 : Int32)), none], [.int (i + (1 : Int32)), .ref 200000, .ref 59], vc, vs, kjS f I (mv_up K 81 (Int32.toNatClampNeg (0 : Int32)) (Int32.toInt64 x)))) rfl ?_
    refine mv_Gs_stop (kw_ld C hv.2.1 (by decide +kernel) (kw_go C ?_))
    refine mv_Gs_run 4 (F' := (296, [some (.ref 200000), some (.ref 0), some (.ref 59), some (.ref 81), some (.int i), some (.int (0 : Int32)), none], [.int (i + (2 : Int32)), .ref 200000, .int (xs (Int32.toNatClampNeg (i + (1 : Int32)))), .ref 59], vc, vs, kjS f I (mv_up K 81 (Int32.toNatClampNeg (0 : Int32)) (Int32.toInt64 x)))) rfl ?_
    refine mv_Gs_stop (kw_ld C hv.2.2.1 (by decide +kernel) (kw_go C ?_))
    refine mv_Gs_run 4 (F' := (302, [some (.ref 200000), some (.ref 0), some (.ref 59), some (.ref 81), some (.int i), some (.int (0 : Int32)), none], [.int (i + (3 : Int32)), .ref 200000, .int (xs (Int32.toNatClampNeg (i + (2 : Int32)))), .int (xs (Int32.toNatClampNeg (i + (1 : Int32)))), .ref 59], vc, vs, kjS f I (mv_up K 81 (Int32.toNatClampNeg (0 : Int32)) (Int32.toInt64 x)))) rfl ?_
    refine mv_Gs_stop (kw_ld C hv.2.2.2 (by decide +kernel) (kw_go C ?_))
    refine mv_Gs_call (r := []) (kf143_ok _ _ _ _ _ _ _ _ g1) rfl rfl rfl rfl rfl (Nat.le_of_ble_eq_true rfl) (kw_h6 hcs0.1 rfl) (kw_h7 hcs0.2 rfl) ?_
    rintro _ _ ⟨rfl, rfl⟩
    refine mv_Gs_run 2 (F' := (558, [some (.ref 200000), some (.ref 0), some (.ref 59), some (.ref 81), some (.int i), some (.int (0 : Int32)), some (.int q.1)], [], vc, vs, kjS f q.2.1 q.2.2)) rfl ?_
    exact mv_Gs_stop (hE _ _ _ g2 _ _)
  · skip
    obtain ⟨q, g1, g2⟩ := h2 K
    refine mv_Gs_stop (kw_clook C hfl hex hcs h0 kw_lc (fun C => kw_go C ?_))
    refine mv_Gs_run 6 (F' := (290, [some (.ref 200000), some (.ref 0), some (.ref 59), some (.ref 81), some (.int i), some (.int (1 : Int32)), none], [.int (i + (1 : Int32)), .ref 200000, .ref 59], vc + 1, vs + 6, kjS f I K)) rfl ?_
    refine mv_Gs_stop (kw_ld C hv.2.1 (by decide +kernel) (kw_go C ?_))
    refine mv_Gs_run 4 (F' := (296, [some (.ref 200000), some (.ref 0), some (.ref 59), some (.ref 81), some (.int i), some (.int (1 : Int32)), none], [.int (i + (2 : Int32)), .ref 200000, .int (xs (Int32.toNatClampNeg (i + (1 : Int32)))), .ref 59], vc + 1, vs + 6, kjS f I K)) rfl ?_
    refine mv_Gs_stop (kw_ld C hv.2.2.1 (by decide +kernel) (kw_go C ?_))
    refine mv_Gs_run 4 (F' := (302, [some (.ref 200000), some (.ref 0), some (.ref 59), some (.ref 81), some (.int i), some (.int (1 : Int32)), none], [.int (i + (3 : Int32)), .ref 200000, .int (xs (Int32.toNatClampNeg (i + (2 : Int32)))), .int (xs (Int32.toNatClampNeg (i + (1 : Int32)))), .ref 59], vc + 1, vs + 6, kjS f I K)) rfl ?_
    refine mv_Gs_stop (kw_ld C hv.2.2.2 (by decide +kernel) (kw_go C ?_))
    refine mv_Gs_call (r := []) (kf143_ok _ _ _ _ _ _ _ _ g1) rfl rfl rfl rfl rfl (Nat.le_of_ble_eq_true rfl) (kw_h6 hcs.1 rfl) (kw_h7 hcs.2 rfl) ?_
    rintro _ _ ⟨rfl, rfl⟩
    refine mv_Gs_run 2 (F' := (558, [some (.ref 200000), some (.ref 0), some (.ref 59), some (.ref 81), some (.int i), some (.int (1 : Int32)), some (.int q.1)], [], vc + 1, vs + 6, kjS f q.2.1 q.2.2)) rfl ?_
    exact mv_Gs_stop (hE2 _ _ _ g2 _ _)
end KW
