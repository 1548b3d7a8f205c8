/-! A turn, and the start. -/
section KW
variable {p : Program} {l : Launch} {e : Env} {s : State} {m : MethodId} {below : List Frame} {meth : Method} {c : Code} {b L : Nat} {xs : Nat → Int32} {D : va_G} {cA : Nat → ClassId} {ad : Nat → Nat}
set_option maxRecDepth 100000 in
set_option maxHeartbeats 4000000 in
theorem kw_turn (C : kw_C p s m meth c b 4 xs D cA ad) (hfl : l.flags.contains noTraceFlag = true) (hx1 : ∃ (text : String) (sa : Nat), mv_Ex kt_F "KindJudge" 41 text sa (kw_A s) s) (hx2 : ∃ (text : String) (sa : Nat), mv_Ex kt_F "KindJudge" 100 text sa (kw_A s) s) : kw_W p l e s m below meth c b D cA ad (32, [some (.ref 200000), some (.ref 0), some (.ref 59), some (.ref 81), some (.int (0 : Int32)), none, none], [], 82, 54516, kjS false kcZ kcZL) := by
  refine kw_go C ?_
  refine mv_Gs_run 2 (F' := (35, [some (.ref 200000), some (.ref 0), some (.ref 59), some (.ref 81), some (.int (0 : Int32)), none, none], [.int (0 : Int32), .ref 200000], 82, 54516, kjS false kcZ kcZL)) rfl ?_
  refine mv_Gs_stop (kw_ld C kw_in0 (by decide +kernel) (kw_go C ?_))
  refine mv_Gs_run 2 (F' := (39, [some (.ref 200000), some (.ref 0), some (.ref 59), some (.ref 81), some (.int (0 : Int32)), none, none], [.int ((xs (Int32.toNatClampNeg (0 : Int32))) &&& (15 : Int32))], 82, 54516, kjS false kcZ kcZL)) rfl ?_
  by_cases h0 : (((xs (Int32.toNatClampNeg (0 : Int32))) &&& (15 : Int32))).toInt = 0
  · refine mv_Gs_rule (Or.inr (Or.inr ⟨39, _, _, _, _, _, _, _, _, _, _, _, rfl, rfl, Or.inr (Or.inl ⟨_, _, 61, 100, rfl, (by simp only [mv_sw, h0]; rfl), by decide, mv_Gs_stop (kw_put C)⟩)⟩))
  by_cases h1 : (((xs (Int32.toNatClampNeg (0 : Int32))) &&& (15 : Int32))).toInt = 1
  · refine mv_Gs_rule (Or.inr (Or.inr ⟨39, _, _, _, _, _, _, _, _, _, _, _, rfl, rfl, Or.inr (Or.inl ⟨_, _, 130, 169, rfl, (by simp only [mv_sw, h1]; rfl), by decide, mv_Gs_stop (kw_load C hfl hx1)⟩)⟩))
  by_cases h2 : (((xs (Int32.toNatClampNeg (0 : Int32))) &&& (15 : Int32))).toInt = 2
  · refine mv_Gs_rule (Or.inr (Or.inr ⟨39, _, _, _, _, _, _, _, _, _, _, _, rfl, rfl, Or.inr (Or.inl ⟨_, _, 174, 213, rfl, (by simp only [mv_sw, h2]; rfl), by decide, mv_Gs_stop (kw_fault C)⟩)⟩))
  by_cases h3 : (((xs (Int32.toNatClampNeg (0 : Int32))) &&& (15 : Int32))).toInt = 3
  · refine mv_Gs_rule (Or.inr (Or.inr ⟨39, _, _, _, _, _, _, _, _, _, _, _, rfl, rfl, Or.inr (Or.inl ⟨_, _, 199, 238, rfl, (by simp only [mv_sw, h3]; rfl), by decide, mv_Gs_stop (kw_kind C)⟩)⟩))
  by_cases h4 : (((xs (Int32.toNatClampNeg (0 : Int32))) &&& (15 : Int32))).toInt = 4
  · refine mv_Gs_rule (Or.inr (Or.inr ⟨39, _, _, _, _, _, _, _, _, _, _, _, rfl, rfl, Or.inr (Or.inl ⟨_, _, 248, 287, rfl, (by simp only [mv_sw, h4]; rfl), by decide, mv_Gs_stop (kw_look C hfl hx2)⟩)⟩))
  by_cases h5 : (((xs (Int32.toNatClampNeg (0 : Int32))) &&& (15 : Int32))).toInt = 5
  · refine mv_Gs_rule (Or.inr (Or.inr ⟨39, _, _, _, _, _, _, _, _, _, _, _, rfl, rfl, Or.inr (Or.inl ⟨_, _, 328, 367, rfl, (by simp only [mv_sw, h5]; rfl), by decide, mv_Gs_stop (kw_ways C)⟩)⟩))
  by_cases h6 : (((xs (Int32.toNatClampNeg (0 : Int32))) &&& (15 : Int32))).toInt = 6
  · refine mv_Gs_rule (Or.inr (Or.inr ⟨39, _, _, _, _, _, _, _, _, _, _, _, rfl, rfl, Or.inr (Or.inl ⟨_, _, 365, 404, rfl, (by simp only [mv_sw, h6]; rfl), by decide, mv_Gs_stop (kw_count C)⟩)⟩))
  by_cases h7 : (((xs (Int32.toNatClampNeg (0 : Int32))) &&& (15 : Int32))).toInt = 7
  · refine mv_Gs_rule (Or.inr (Or.inr ⟨39, _, _, _, _, _, _, _, _, _, _, _, rfl, rfl, Or.inr (Or.inl ⟨_, _, 402, 441, rfl, (by simp only [mv_sw, h7]; rfl), by decide, mv_Gs_stop (kw_fits C)⟩)⟩))
  by_cases h8 : (((xs (Int32.toNatClampNeg (0 : Int32))) &&& (15 : Int32))).toInt = 8
  · refine mv_Gs_rule (Or.inr (Or.inr ⟨39, _, _, _, _, _, _, _, _, _, _, _, rfl, rfl, Or.inr (Or.inl ⟨_, _, 439, 478, rfl, (by simp only [mv_sw, h8]; rfl), by decide, mv_Gs_stop (kw_meet C)⟩)⟩))
  by_cases h9 : (((xs (Int32.toNatClampNeg (0 : Int32))) &&& (15 : Int32))).toInt = 9
  · refine mv_Gs_rule (Or.inr (Or.inr ⟨39, _, _, _, _, _, _, _, _, _, _, _, rfl, rfl, Or.inr (Or.inl ⟨_, _, 476, 515, rfl, (by simp only [mv_sw, h9]; rfl), by decide, mv_Gs_stop (kw_method C)⟩)⟩))
  by_cases h10 : (((xs (Int32.toNatClampNeg (0 : Int32))) &&& (15 : Int32))).toInt = 10
  · refine mv_Gs_rule (Or.inr (Or.inr ⟨39, _, _, _, _, _, _, _, _, _, _, _, rfl, rfl, Or.inr (Or.inl ⟨_, _, 513, 552, rfl, (by simp only [mv_sw, h10]; rfl), by decide, mv_Gs_stop (kw_type C)⟩)⟩))
  by_cases h11 : (((xs (Int32.toNatClampNeg (0 : Int32))) &&& (15 : Int32))).toInt = 11
  · refine mv_Gs_rule (Or.inr (Or.inr ⟨39, _, _, _, _, _, _, _, _, _, _, _, rfl, rfl, Or.inr (Or.inl ⟨_, _, 550, 589, rfl, (by simp only [mv_sw, h11]; rfl), by decide, mv_Gs_stop (kw_total C)⟩)⟩))
  have hz : (((xs (Int32.toNatClampNeg (0 : Int32))) &&& (15 : Int32))).toInt < 0 ∨ 11 < (((xs (Int32.toNatClampNeg (0 : Int32))) &&& (15 : Int32))).toInt := by omega
  refine mv_Gs_rule (Or.inr (Or.inr ⟨39, _, _, _, _, _, _, _, _, _, _, _, rfl, rfl, Or.inr (Or.inl ⟨_, _, 575, 614, rfl, if_pos hz, by decide, mv_Gs_stop (kw_end C)⟩)⟩))
set_option maxRecDepth 100000 in
set_option maxHeartbeats 4000000 in
theorem kw_start (C : kw_C p s m meth c b L xs D cA ad) (hL : L ≤ 4) (hfl : l.flags.contains noTraceFlag = true) (hx1 : ∃ (text : String) (sa : Nat), mv_Ex kt_F "KindJudge" 41 text sa (kw_A s) s) (hx2 : ∃ (text : String) (sa : Nat), mv_Ex kt_F "KindJudge" 100 text sa (kw_A s) s) : kw_W p l e s m below meth c b D cA ad (0, [some (.ref 200000), none, none, none, none, none, none], [], 0, 0, kcS 0 89) := by
  refine kw_go C ?_
  refine mv_Gs_run 1 (F' := (3, [some (.ref 200000), none, none, none, none, none, none], [.ref 0], 1, 6, mv_new (kcS 0 89) (.inr 0))) rfl ?_
  rw [kc_new (a := 0) (t := 89) rfl rfl rfl]
  refine mv_Gs_run 1 (F' := (4, [some (.ref 200000), none, none, none, none, none, none], [.ref 0, .ref 0], 1, 6, (kcS 1 89))) rfl ?_
  refine mv_Gs_call (r := [.ref 0]) (kc_19_ok _) rfl rfl rfl rfl rfl (Nat.le_of_ble_eq_true rfl) (Nat.le_of_ble_eq_true rfl) (Nat.le_of_ble_eq_true rfl) ?_
  rintro _ _ ⟨rfl, rfl⟩
  refine mv_Gs_run 2 (F' := (11, [some (.ref 200000), some (.ref 0), none, none, none, none, none], [.ref 59], 60, 13191, mv_new (kcS 59 21) (.inr 9))) rfl ?_
  rw [kc_new (a := 59) (t := 21) rfl rfl rfl]
  refine mv_Gs_run 1 (F' := (12, [some (.ref 200000), some (.ref 0), none, none, none, none, none], [.ref 59, .ref 59], 60, 13191, (kcS 60 21))) rfl ?_
  refine mv_Gs_call (r := [.ref 59]) (kc_20_ok _) rfl rfl rfl rfl rfl (Nat.le_of_ble_eq_true rfl) (Nat.le_of_ble_eq_true rfl) (Nat.le_of_ble_eq_true rfl) ?_
  rintro _ _ ⟨rfl, rfl⟩
  refine mv_Gs_run 3 (F' := (19, [some (.ref 200000), some (.ref 0), some (.ref 59), none, none, none, none], [.ref 81], 82, 54516, mv_new (kcS 81 0) (.inl (3, 1)))) rfl ?_
  rw [kc_new (a := 81) (t := 0) rfl rfl rfl]
  rw [kc_end]
  refine mv_Gs_run 5 (F' := (26, [some (.ref 200000), some (.ref 0), some (.ref 59), some (.ref 81), some (.int (0 : Int32)), none, none], [.ref 200000, .int (0 : Int32)], 82, 54516, kjS false kcZ kcZL)) rfl ?_
  refine mv_Gs_stop (kw_len C (by decide +kernel) (kw_go C ?_))
  refine mv_Gs_run 2 (F' := (29, [some (.ref 200000), some (.ref 0), some (.ref 59), some (.ref 81), some (.int (0 : Int32)), none, none], [.int (Int32.ofNat L - 4), .int (0 : Int32)], 82, 54516, kjS false kcZ kcZL)) rfl ?_
  by_cases hL4 : L = 4
  · subst hL4
    exact mv_Gs_br (tgt := 620) rfl rfl (by decide) (fun z => absurd z (by decide)) (fun _ => mv_Gs_stop (kw_turn C hfl hx1 hx2))
  have hlt : Int32.ofNat L - 4 < 0 := by
    rcases (show L = 0 ∨ L = 1 ∨ L = 2 ∨ L = 3 by omega) with rfl | rfl | rfl | rfl <;> decide
  refine mv_Gs_br (tgt := 620) rfl rfl (by decide) (fun _ => ?_) (fun z => absurd hlt z)
  refine mv_Gs_run 1 (F' := (621, [some (.ref 200000), some (.ref 0), some (.ref 59), some (.ref 81), some (.int (0 : Int32)), none, none], [.int (1 : Int32)], 82, 54516, kjS false kcZ kcZL)) rfl ?_
  exact mv_Gs_stop (kw_ret C (by decide +kernel))
end KW
