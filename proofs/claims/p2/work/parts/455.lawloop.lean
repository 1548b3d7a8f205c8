/-! A turn, the loop, and the start. -/
section KW
variable {p : Program} {l : Launch} {e : Env} {s : State} {m : MethodId} {below : List Frame} {meth : Method} {c : Code} {b L : Nat} {xs : Nat → Int32} {D : va_G} {cA : Nat → ClassId} {ad : Nat → Nat} {f : Bool} {I : kjI} {K : kjL} {i : Int32} {vc vs : Nat}
set_option maxRecDepth 100000 in
set_option maxHeartbeats 4000000 in
theorem kw_turn (C : kw_C p s m meth c b L xs D cA ad) (hv : vp_in i L ∧ vp_in (i + (1 : Int32)) L ∧ vp_in (i + (2 : Int32)) L ∧ vp_in (i + (3 : Int32)) L) (hfl : l.flags.contains noTraceFlag = true) (hx1 : ∃ (text : String) (sa : Nat), mv_Ex kt_F "KindJudge" 41 text sa (kw_A s) s) (hx2 : ∃ (text : String) (sa : Nat), mv_Ex kt_F "KindJudge" 100 text sa (kw_A s) s) (hcs : vc + 1 ≤ 1108 ∧ vs + 6 ≤ 62720) (hE2 : kw_Go p l e s m below meth c b D cA i (kw_up ad) (vc + 1) (vs + 6)) (hI : kInv f I) (hE : kw_Go p l e s m below meth c b D cA i ad vc vs) : kw_W p l e s m below meth c b D cA ad (32, [some (.ref 200000), some (.ref 0), some (.ref 59), some (.ref 81), some (.int i), none, none], [], vc, vs, kjS f I K) := by
  refine kw_go C ?_
  have hcs0 : vc ≤ 1108 ∧ vs ≤ 62720 := ⟨by omega, by omega⟩
  refine mv_Gs_run 2 (F' := (35, [some (.ref 200000), some (.ref 0), some (.ref 59), some (.ref 81), some (.int i), none, none], [.int i, .ref 200000], vc, vs, kjS f I K)) rfl ?_
  refine mv_Gs_stop (kw_ld C hv.1 (by decide +kernel) (kw_go C ?_))
  refine mv_Gs_run 2 (F' := (39, [some (.ref 200000), some (.ref 0), some (.ref 59), some (.ref 81), some (.int i), none, none], [.int ((xs (Int32.toNatClampNeg i)) &&& (15 : Int32))], vc, vs, kjS f I K)) rfl ?_
  by_cases h0 : (((xs (Int32.toNatClampNeg i)) &&& (15 : Int32))).toInt = 0
  · exact mv_Gs_rule (Or.inr (Or.inr ⟨39, _, _, _, _, _, _, _, _, _, _, _, rfl, rfl, Or.inr (Or.inl ⟨_, _, 61, 100, rfl, (by simp only [mv_sw, h0]; rfl), by decide, mv_Gs_stop (kw_put C hv hcs0 hI hE)⟩)⟩))
  by_cases h1 : (((xs (Int32.toNatClampNeg i)) &&& (15 : Int32))).toInt = 1
  · exact mv_Gs_rule (Or.inr (Or.inr ⟨39, _, _, _, _, _, _, _, _, _, _, _, rfl, rfl, Or.inr (Or.inl ⟨_, _, 130, 169, rfl, (by simp only [mv_sw, h1]; rfl), by decide, mv_Gs_stop (kw_load C hv hfl hx1 hcs hE2 hI hE)⟩)⟩))
  by_cases h2 : (((xs (Int32.toNatClampNeg i)) &&& (15 : Int32))).toInt = 2
  · exact mv_Gs_rule (Or.inr (Or.inr ⟨39, _, _, _, _, _, _, _, _, _, _, _, rfl, rfl, Or.inr (Or.inl ⟨_, _, 146, 185, rfl, (by simp only [mv_sw, h2]; rfl), by decide, mv_Gs_stop (kw_fault C hv hcs0 hI hE)⟩)⟩))
  by_cases h3 : (((xs (Int32.toNatClampNeg i)) &&& (15 : Int32))).toInt = 3
  · exact mv_Gs_rule (Or.inr (Or.inr ⟨39, _, _, _, _, _, _, _, _, _, _, _, rfl, rfl, Or.inr (Or.inl ⟨_, _, 171, 210, rfl, (by simp only [mv_sw, h3]; rfl), by decide, mv_Gs_stop (kw_kind C hv hcs0 hI hE)⟩)⟩))
  by_cases h4 : (((xs (Int32.toNatClampNeg i)) &&& (15 : Int32))).toInt = 4
  · exact mv_Gs_rule (Or.inr (Or.inr ⟨39, _, _, _, _, _, _, _, _, _, _, _, rfl, rfl, Or.inr (Or.inl ⟨_, _, 220, 259, rfl, (by simp only [mv_sw, h4]; rfl), by decide, mv_Gs_stop (kw_look C hv hfl hx2 hcs hE2 hI hE)⟩)⟩))
  by_cases h5 : (((xs (Int32.toNatClampNeg i)) &&& (15 : Int32))).toInt = 5
  · exact mv_Gs_rule (Or.inr (Or.inr ⟨39, _, _, _, _, _, _, _, _, _, _, _, rfl, rfl, Or.inr (Or.inl ⟨_, _, 272, 311, rfl, (by simp only [mv_sw, h5]; rfl), by decide, mv_Gs_stop (kw_ways C hv hcs0 hI hE)⟩)⟩))
  by_cases h6 : (((xs (Int32.toNatClampNeg i)) &&& (15 : Int32))).toInt = 6
  · exact mv_Gs_rule (Or.inr (Or.inr ⟨39, _, _, _, _, _, _, _, _, _, _, _, rfl, rfl, Or.inr (Or.inl ⟨_, _, 309, 348, rfl, (by simp only [mv_sw, h6]; rfl), by decide, mv_Gs_stop (kw_count C hv hcs0 hI hE)⟩)⟩))
  by_cases h7 : (((xs (Int32.toNatClampNeg i)) &&& (15 : Int32))).toInt = 7
  · exact mv_Gs_rule (Or.inr (Or.inr ⟨39, _, _, _, _, _, _, _, _, _, _, _, rfl, rfl, Or.inr (Or.inl ⟨_, _, 346, 385, rfl, (by simp only [mv_sw, h7]; rfl), by decide, mv_Gs_stop (kw_fits C hv hcs0 hI hE)⟩)⟩))
  by_cases h8 : (((xs (Int32.toNatClampNeg i)) &&& (15 : Int32))).toInt = 8
  · exact mv_Gs_rule (Or.inr (Or.inr ⟨39, _, _, _, _, _, _, _, _, _, _, _, rfl, rfl, Or.inr (Or.inl ⟨_, _, 383, 422, rfl, (by simp only [mv_sw, h8]; rfl), by decide, mv_Gs_stop (kw_meet C hv hcs0 hI hE)⟩)⟩))
  by_cases h9 : (((xs (Int32.toNatClampNeg i)) &&& (15 : Int32))).toInt = 9
  · exact mv_Gs_rule (Or.inr (Or.inr ⟨39, _, _, _, _, _, _, _, _, _, _, _, rfl, rfl, Or.inr (Or.inl ⟨_, _, 420, 459, rfl, (by simp only [mv_sw, h9]; rfl), by decide, mv_Gs_stop (kw_method C hv hcs0 hI hE)⟩)⟩))
  by_cases h10 : (((xs (Int32.toNatClampNeg i)) &&& (15 : Int32))).toInt = 10
  · exact mv_Gs_rule (Or.inr (Or.inr ⟨39, _, _, _, _, _, _, _, _, _, _, _, rfl, rfl, Or.inr (Or.inl ⟨_, _, 457, 496, rfl, (by simp only [mv_sw, h10]; rfl), by decide, mv_Gs_stop (kw_type C hv hcs0 hI hE)⟩)⟩))
  by_cases h11 : (((xs (Int32.toNatClampNeg i)) &&& (15 : Int32))).toInt = 11
  · exact mv_Gs_rule (Or.inr (Or.inr ⟨39, _, _, _, _, _, _, _, _, _, _, _, rfl, rfl, Or.inr (Or.inl ⟨_, _, 494, 533, rfl, (by simp only [mv_sw, h11]; rfl), by decide, mv_Gs_stop (kw_total C hv hcs0 hI hE)⟩)⟩))
  have hz : (((xs (Int32.toNatClampNeg i)) &&& (15 : Int32))).toInt < 0 ∨ 11 < (((xs (Int32.toNatClampNeg i)) &&& (15 : Int32))).toInt := by omega
  exact mv_Gs_rule (Or.inr (Or.inr ⟨39, _, _, _, _, _, _, _, _, _, _, _, rfl, rfl, Or.inr (Or.inl ⟨_, _, 519, 558, rfl, if_pos hz, by decide, mv_Gs_stop (hE _ _ _ hI none none)⟩)⟩))
set_option maxRecDepth 100000 in
set_option maxHeartbeats 4000000 in
theorem kw_head (C : kw_C p s m meth c b L xs D cA ad) (hL : L ≤ 2048) {i : Nat} (hi : i ≤ 2048) {S : mv_S} (k : i + 4 ≤ L → kw_W p l e s m below meth c b D cA ad (32, [some (.ref 200000), some (.ref 0), some (.ref 59), some (.ref 81), some (.int (w (i : Int))), none, none], [], vc, vs, S)) : kw_W p l e s m below meth c b D cA ad (23, [some (.ref 200000), some (.ref 0), some (.ref 59), some (.ref 81), some (.int (w (i : Int))), none, none], [], vc, vs, S) := by
  refine kw_go C ?_
  refine mv_Gs_run 2 (F' := (26, [some (.ref 200000), some (.ref 0), some (.ref 59), some (.ref 81), some (.int (w (i : Int))), none, none], [.ref 200000, .int (w (i : Int))], vc, vs, S)) rfl ?_
  refine mv_Gs_stop (kw_len C (by decide +kernel) (kw_go C ?_))
  refine mv_Gs_run 2 (F' := (29, [some (.ref 200000), some (.ref 0), some (.ref 59), some (.ref 81), some (.int (w (i : Int))), none, none], [.int (Int32.ofNat L - (4 : Int32)), .int (w (i : Int))], vc, vs, S)) rfl ?_
  refine mv_Gs_br (tgt := 564) rfl rfl (by decide) (fun _ => ?_) (fun z => mv_Gs_stop (k ?_))
  · refine mv_Gs_run 1 (F' := (565, [some (.ref 200000), some (.ref 0), some (.ref 59), some (.ref 81), some (.int (w (i : Int))), none, none], [.int (1 : Int32)], vc, vs, S)) rfl ?_
    exact mv_Gs_stop (kw_ret C (by decide +kernel))
  · have z : ¬ (Int32.ofNat L - (4 : Int32) < w (i : Int)) := z
    rw [kw_ofNat (by omega), Int32.lt_iff_toInt_lt, t_sub (by rw [w_nti (by omega), lt04]; omega), w_nti (by omega), w_nti (by omega), lt04] at z
    omega
set_option maxRecDepth 100000 in
set_option maxHeartbeats 4000000 in
theorem kw_next (C : kw_C p s m meth c b L xs D cA ad) {i : Nat} (hi : i ≤ 2048) (k : ∀ (f : Bool) (I : kjI) (K : kjL), kInv f I → kw_W p l e s m below meth c b D cA ad (23, [some (.ref 200000), some (.ref 0), some (.ref 59), some (.ref 81), some (.int (w ((i + 4 : Nat) : Int))), none, none], [], vc, vs, kjS f I K)) : kw_Go p l e s m below meth c b D cA (w (i : Int)) ad vc vs := by
  intro f I K hI k5 k6
  refine kw_go C ?_
  refine mv_Gs_rule (Or.inr (Or.inl ⟨[some (.ref 200000), some (.ref 0), some (.ref 59), some (.ref 81), some (.int (w (i : Int))), none, none], ⟨rfl, rfl, rfl, rfl, rfl, trivial⟩, ?_⟩))
  have e : w (i : Int) + (4 : Int32) = w ((i + 4 : Nat) : Int) := kw_add4 i
  refine mv_Gs_run 2 (F' := (23, [some (.ref 200000), some (.ref 0), some (.ref 59), some (.ref 81), some (.int (w (i : Int) + (4 : Int32))), none, none], [], vc, vs, kjS f I K)) rfl ?_
  rw [e]
  exact mv_Gs_stop (k f I K hI)
set_option maxRecDepth 100000 in
set_option maxHeartbeats 4000000 in
theorem kw_loop (hL : L ≤ 2048) (hfl : l.flags.contains noTraceFlag = true) (hx1 : ∃ (text : String) (sa : Nat), mv_Ex kt_F "KindJudge" 41 text sa (kw_A s) s) (hx2 : ∃ (text : String) (sa : Nat), mv_Ex kt_F "KindJudge" 100 text sa (kw_A s) s) : ∀ (t i vc vs : Nat) (ad : Nat → Nat) (f : Bool) (I : kjI) (K : kjL), kw_C p s m meth c b L xs D cA ad → L ≤ i + 4 * t → i ≤ 2048 → vc + t ≤ 594 → vs + 6 * t ≤ 57588 → kInv f I → kw_W p l e s m below meth c b D cA ad (23, [some (.ref 200000), some (.ref 0), some (.ref 59), some (.ref 81), some (.int (w (i : Int))), none, none], [], vc, vs, kjS f I K) := by
  intro t
  induction t with
  | zero => exact fun i vc vs ad f I K C h1 h2 h3 h4 hI => kw_head C hL h2 (fun z => by omega)
  | succ t ih =>
    intro i vc vs ad f I K C h1 h2 h3 h4 hI
    refine kw_head C hL h2 (fun z => ?_)
    refine kw_turn C ⟨kw_at0 (by omega) hL, kw_at (k := 1) (by omega) hL, kw_at (k := 2) (by omega) hL, kw_at (k := 3) (by omega) hL⟩ hfl hx1 hx2 ⟨by omega, by omega⟩ ?_ hI ?_
    · exact kw_next (kw_C_up C) h2 (fun f' I' K' hI' => ih (i + 4) (vc + 1) (vs + 6) (kw_up ad) f' I' K' (kw_C_up C) (by omega) (by omega) (by omega) (by omega) hI')
    · exact kw_next C h2 (fun f' I' K' hI' => ih (i + 4) vc vs ad f' I' K' C (by omega) (by omega) (by omega) (by omega) hI')
set_option maxRecDepth 100000 in
set_option maxHeartbeats 4000000 in
theorem kw_start (C : kw_C p s m meth c b L xs D cA ad) (hL : L ≤ 2048) (hfl : l.flags.contains noTraceFlag = true) (hx1 : ∃ (text : String) (sa : Nat), mv_Ex kt_F "KindJudge" 41 text sa (kw_A s) s) (hx2 : ∃ (text : String) (sa : Nat), mv_Ex kt_F "KindJudge" 100 text sa (kw_A s) s) : kw_W p l e s m below meth c b D cA ad (0, [some (.ref 200000), none, none, none, none, none, none], [], 0, 0, kcS 0 89) := by
  refine kw_go C ?_
  refine mv_Gs_run 1 (F' := (3, [some (.ref 200000), none, none, none, none, none, none], [.ref 0], 1, 6, mv_new (kcS 0 89) (.inr 0))) rfl ?_
  rw [kc_new (a := 0) (t := 89) rfl rfl rfl]
  refine mv_Gs_run 1 (F' := (4, [some (.ref 200000), none, none, none, none, none, none], [.ref 0, .ref 0], 1, 6, (kcS 1 89))) rfl ?_
  refine mv_Gs_call (r := [.ref 0]) (kc_19_ok _) rfl rfl rfl rfl rfl (Nat.le_of_ble_eq_true rfl) (Nat.le_of_ble_eq_true rfl) (Nat.le_of_ble_eq_true rfl) ?_
  rintro _ _ ⟨rfl, rfl⟩
  refine mv_Gs_run 2 (F' := (11, [some (.ref 200000), some (.ref 0), none, none, none, none, none], [.ref 59], 60, 13191, mv_new (kcS 59 21) (.inr 9))) rfl ?_
  rw [kc_new (a := 59) (t := 21) rfl rfl rfl]
  refine mv_Gs_run 1 (F' := (12, [some (.ref 200000), some (.ref 0), none, none, none, none, none], [.ref 59, .ref 59], 60, 13191, (kcS 60 21))) rfl ?_
  refine mv_Gs_call (r := [.ref 59]) (kc_20_ok _) rfl rfl rfl rfl rfl (Nat.le_of_ble_eq_true rfl) (Nat.le_of_ble_eq_true rfl) (Nat.le_of_ble_eq_true rfl) ?_
  rintro _ _ ⟨rfl, rfl⟩
  refine mv_Gs_run 3 (F' := (19, [some (.ref 200000), some (.ref 0), some (.ref 59), none, none, none, none], [.ref 81], 82, 54516, mv_new (kcS 81 0) (.inl (3, 1)))) rfl ?_
  rw [kc_new (a := 81) (t := 0) rfl rfl rfl]
  rw [kc_end]
  refine mv_Gs_run 3 (F' := (23, [some (.ref 200000), some (.ref 0), some (.ref 59), some (.ref 81), some (.int (0 : Int32)), none, none], [], 82, 54516, kjS false kcZ kcZL)) rfl ?_
  exact mv_Gs_stop (kw_loop hL hfl hx1 hx2 512 0 82 54516 ad false kcZ kcZL C (by omega) (by omega) (by omega) (by omega) kI_start)
end KW
