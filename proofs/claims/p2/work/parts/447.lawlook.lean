/-! The law's own look. -/
set_option maxRecDepth 100000 in
set_option maxHeartbeats 4000000 in
theorem kl_look (l : Launch) (hfl : l.flags.contains noTraceFlag = true) (A : Nat → Prop) (D : va_G) (cA : Nat → ClassId) (ad : Nat → Nat) {f : Bool} {I : kjI} {L : kjL} (w1 w2 w3 : Int32) (hx : w3 < 0 ∨ (5 : Int32) < w3 ∨ kf66 f I L w1 w2 = some 0) (text : String) (sa : Nat) :
    Met l kl_nk (kl_ck :: kjTs) { frames := 8, cells := 1, slots := 6, locals := 210 } (mv_PreT A D kjCl kjKd cA ad kjNw kjSta kjStn [.ref 0, .int w1, .int w2, .int w3, .ref 81] (kjS f I L) kt_F "KindJudge" 100 text sa) (kl_Pst A D cA ad (fun S' => S' = kjS f I L)) 1 6 A := by
  refine MetFree.of_bodyS (code := method_4_code) (maxLocals := 6) (ret := some .int) (by decide) ?_ ?_
  · intro args s m h hn
    obtain ⟨m', meth, c, hn', g1, g2, g3, g4, -, g5, g6, -⟩ := Cond.codeWith_spec (atoms_spec (ws := kl_ck :: kjTs) h _ List.mem_cons_self)
    cases hn.symm.trans hn'
    exact ⟨meth, c, g1, g2, g3, g4, g5, g6⟩
  · intro p e s m args below meth c s₁ B hml hv _
    have hv0 := hv
    obtain ⟨⟨rfl, v1, v2, v3, v4, v5, v6, v7⟩, hex⟩ := hv
    have hts : ∀ w ∈ kl_ck :: kjTs, w.before _ s = true := atoms_spec (ws := kl_ck :: kjTs) B.pre
    have htk : ∀ w ∈ kjTs, w.before _ s = true := fun w hw => hts w (List.mem_cons_of_mem _ hw)
    have hown : s.vm.findClass "KindJudgeLaw" = some m.cls := findClass_of_methodNamed B.named
    obtain ⟨m', meth', c', hn', g1, g2, -, -, g5, -⟩ := Cond.codeWith_spec (hts _ List.mem_cons_self)
    cases hn'.symm.trans B.named
    cases g1.symm.trans B.method
    have hcc : c' = c := by
      have h3 := B.here.code
      rw [State.code?_eq] at h3
      have h4 : s₁.vm.method? m = some meth := by rw [B.state]; exact B.method
      rw [h4] at h3
      exact Option.some.inj (g2.symm.trans h3)
    subst hcc
    obtain ⟨x, hx1, hx2, hx3, hx4, hx5⟩ := kl_one g5
    have hh0 : s₁.heap = s.heap := by rw [B.state]; rfl
    have K : W p l e { frames := 8, cells := 1, slots := 6, locals := 210 } s m ([Value.ref 0, .int w1, .int w2, .int w3, .ref 81].map (mv_tr ad)).toArray below meth c' s.heap [] 0 0 (MQ below (kl_Pst A D cA ad (fun S' => S' = kjS f I L)) ([Value.ref 0, .int w1, .int w2, .int w3, .ref 81].map (mv_tr ad)).toArray s 1 6 A) (entryFrame m ([Value.ref 0, .int w1, .int w2, .int w3, .ref 81].map (mv_tr ad)).toArray 6) := by
      have hl := lv_entry ([Value.ref 0, .int w1, .int w2, .int w3, .ref 81].map (mv_tr ad)) (n := 6) (Nat.le_of_ble_eq_true rfl)
      rw [lg_entry_eq]
      generalize (lg_sl ([Value.ref 0, .int w1, .int w2, .int w3, .ref 81].map (mv_tr ad)) ++ List.replicate (6 - (lg_sl ([Value.ref 0, .int w1, .int w2, .int w3, .ref 81].map (mv_tr ad))).length) Slot.unset).toArray = ls at hl ⊢
      have hl : lv_has ls 6 [(0, .ref (ad 0)), (1, .int w1), (2, .int w2), (3, .int w3), (4, .ref (ad 81))] := hl
      refine lv_aload B.exec B.bytes (i := 4) (x := ad 81) (by decide +kernel) (lv_at hl 4 rfl) ?_
      refine lv_iconst B.exec B.bytes (n := 0) (v := 0) (by decide +kernel) rfl ?_
      refine lv_aload_n B.exec B.bytes (k := 0) (i := 0) (x := ad 0) (by decide +kernel) rfl (lv_at hl 0 rfl) ?_
      refine lv_iload_n B.exec B.bytes (k := 1) (i := 1) (x := w1) (by decide +kernel) rfl (lv_at hl 1 rfl) ?_
      refine lv_iload_n B.exec B.bytes (k := 2) (i := 2) (x := w2) (by decide +kernel) rfl (lv_at hl 2 rfl) ?_
      refine lv_iload_n B.exec B.bytes (k := 3) (i := 3) (x := w3) (by decide +kernel) rfl (lv_at hl 3 rfl) ?_
      refine mv_callT (x := x) (pc := 7) (cells := 0) (slots := 0) (locs := []) (R := { frames := 8, cells := 1, slots := 6, locals := 210 }) (own := "KindJudgeLaw") (index := 15) (bytes := mv_cc kjM_5) (maxL := 7) (ret := some .int) (As := [.int w1, .int w2, .int w3]) (rest := [.int 0, .ref (ad 81)]) (b := ad 0) B.exec B.bytes (hml.trans hl.1.symm) (kt_look_met l A D cA ad hfl w1 w2 w3 hx text sa) (mv_PreT_blind mv_nest_all kt_Fo _) ⟨rfl, rfl⟩ (Nat.le_of_ble_eq_true rfl) (Nat.le_of_ble_eq_true rfl) (Nat.le_of_ble_eq_true rfl) (Nat.le_of_ble_eq_true rfl)
        (fun w hw a' U hW => ?_) List.mem_cons_self hown (htk _ (kl_in 4 rfl)) (htk _ (kl_in 5 rfl)) (htk _ (kl_in 6 rfl)) (htk _ (kjSy.2.2.2.1 5 kjM_5 rfl).2.2.1) (fun a' U hW => word_at hW (kjSy.2.1 _ (kl_in 8 rfl)) (htk _ (kl_in 8 rfl))) ⟨by decide, by decide⟩ ?_ (fun U hU hW => ?_) (kl_len (n := 3) (by decide +kernel)) (Nat.le_of_ble_eq_true rfl) (by decide +kernel) hx1 ?_ (by rw [hx5]; decide) (by rw [hx5]; exact htk _ (kl_in 7 rfl)) ?_
      · rcases List.mem_cons.mp hw with rfl | hw
        · exact word_at hW (kjSy.2.1 _ (kjSy.2.2.2.1 5 kjM_5 rfl).2.2.1) (htk _ (kjSy.2.2.2.1 5 kjM_5 rfl).2.2.1)
        · exact word_at hW (kjSy.2.1 _ hw) (htk _ hw)
      · exact va_recv (q0 := 0) (ci := 0) v2 v5 rfl (mv_ws_get (k := 0) (sh := .inr 0) rfl)
      · refine ⟨⟨rfl, mv_Nw_warm mv_nest_all hW v1, va_K.moved hW.alike v2, mv_Sts_go hW.alike va_S.rf hU v3, fun q hq => v4 q (by rw [← hU]; exact hq), by rw [hU]; exact v5, v6, by rw [hU]; exact v7⟩, mv_Ex_go kt_Fo hW va_S.rf hU hex⟩
      · simp [covers, hx2, hx3]
      · intro S' ax t Lq q1 q2 q3 q4 q5 q6 q7
        rw [hx4]
        refine lv_astore B.exec B.bytes (i := 5) (by decide +kernel) hl (by decide) rfl (fun ls' hl' => ?_)
        refine lv_iconst B.exec B.bytes (n := 1) (v := 1) (by decide +kernel) rfl ?_
        refine W.iret B.exec B.bytes B.returns (fun t' ht' _ => ?_) (fun q hq => q7 q (by simpa using hq)) (by decide +kernel) B.notSynchronized
        exact ⟨S', q1, rfl, by rw [ht']; exact q2, q3, ⟨by rw [ht']; exact q4, fun q a b => by rw [ht']; exact q5 q a b⟩, by rw [ht']; exact q6⟩
    obtain ⟨t, a1, o, b1, b2, b3⟩ := K s₁ hh0 (Stand.of_body B)
    exact ⟨t, o, a1, b1, b2, ⟨b3.1, b3.2⟩⟩
/-! The law's own load where nothing is thrown. -/
def kjTl_load : List mv_E := [(0, .aload_n 1, 1, 0, 0, 0, 0), (1, .iconst 0, 1, 0, 0, 0, 0), (2, .aload_n 0, 1, 0, 0, 0, 0), (3, .invokevirtual 7, 3, 2, 1, 0, 0), (6, .i2l, 1, 0, 0, 0, 0), (7, .lastore, 1, 0, 0, 0, 0), (8, .goto 6, 3, 0, 0, 0, 0), (14, .iconst 0, 1, 0, 0, 0, 0), (15, .ireturn, 1, 0, 0, 0, 0)]
def kjMl_load : mv_Me := (kl_nl, method_3_code, 3, (some .int), "KindJudgeLaw", kjTl_load, 0, 0, 8, 210)
def kjWl_load : List Jvm.Cond := [(Jvm.Cond.initialized "KindJudgeLaw"), (Jvm.Cond.methodLink "KindJudgeLaw" (7 : Nat) ({ cls := "KindJudge", name := "load", desc := "()I" } : Jvm.MethodName)), (Jvm.Cond.instanceMethod ({ cls := "KindJudge", name := "load", desc := "()I" } : Jvm.MethodName)), (Jvm.Cond.selects "KindJudge" ({ cls := "KindJudge", name := "load", desc := "()I" } : Jvm.MethodName) ({ cls := "KindJudge", name := "load", desc := "()I" } : Jvm.MethodName))]
set_option maxRecDepth 100000 in
set_option maxHeartbeats 4000000 in
theorem kjSl_load : ∀ w ∈ kjWl_load, w ∈ lw_tbl := mv_sub_of [64, 526, 527, 528] (by decide +kernel)
set_option maxRecDepth 100000 in
set_option maxHeartbeats 4000000 in
theorem kjKl_load : kjTl_load.all (mv_rowB kjWl_load kjCl kjKd kjP kjStn kjMl_load) = true := by decide +kernel
theorem kjRl_load : mv_Ro kjCl kjKd kjTs kjNw kjP kjStn kjMl_load := by
  intro e he
  have h := List.all_eq_true.mp kjKl_load e he
  unfold mv_rowB at h
  rw [Bool.and_eq_true] at h
  exact ⟨of_decide_eq_true h.1, mv_rwB_ok kjSl_load h.2⟩
set_option maxRecDepth 100000 in
set_option maxHeartbeats 4000000 in
theorem kl_loadR (l : Launch) (A : Nat → Prop) (D : va_G) (cA : Nat → ClassId) (ad : Nat → Nat) {f g : Bool} {I J : kjI} {L K : kjL} {x : Int32} (hb : mv_C kjP kjSta 8 2 [.ref 0] (kjS f I L) (kjQwi g (x, J, K))) :
    Met l kl_nl (kl_cl :: kjTs) { frames := 8, cells := 0, slots := 0, locals := 210 } (mv_Pre A D kjCl kjKd cA ad kjNw kjSta kjStn [.ref 0, .ref 81] (kjS f I L)) (mv_Pst A D kjCl kjKd cA ad 0 (fun v S => v = some (.int (0 : Int32)) ∧ S = kjS g J (mv_up K 81 (Int32.toNatClampNeg (0 : Int32)) (Int32.toInt64 x)))) 0 0 A := by
  refine mv_soundW (M := kjMl_load) (d := 8) kjSy l A D cA ad (by decide) rfl kjRl_load rfl ?_
  show mv_G kjP kjSta (mv_C kjP kjSta 8) kjMl_load _ (0, [some (.ref 0), some (.ref 81), none], [], 0, 0, kjS f I L)
  refine mv_G_run 3 (F' := (3, [some (.ref 0), some (.ref 81), none], [.ref 0, .int (0 : Int32), .ref 81], 0, 0, kjS f I L)) rfl ?_
  refine mv_G_call (r := [.int (0 : Int32), .ref 81]) hb rfl rfl rfl rfl rfl (Nat.le_of_ble_eq_true rfl) (Nat.le_of_ble_eq_true rfl) (Nat.le_of_ble_eq_true rfl) ?_
  rintro _ _ ⟨rfl, rfl⟩
  refine mv_G_run 1 (F' := (7, [some (.ref 0), some (.ref 81), none], [.long (Int32.toInt64 x), .int (0 : Int32), .ref 81], 0, 0, kjS g J K)) rfl ?_
  refine mv_G_ast (N := 1) (S' := kjS g J (mv_up K 81 (Int32.toNatClampNeg (0 : Int32)) (Int32.toInt64 x))) rfl rfl (by unfold vp_in; decide) ?_
  refine mv_G_run 2 (F' := (15, [some (.ref 0), some (.ref 81), none], [.int (0 : Int32)], 0, 0, kjS g J (mv_up K 81 (Int32.toNatClampNeg (0 : Int32)) (Int32.toInt64 x)))) rfl ?_
  exact mv_G_ret rfl rfl rfl (Nat.le_of_ble_eq_true rfl) trivial ⟨rfl, rfl⟩
/-! The law's own look where nothing is thrown. -/
def kjTl_look : List mv_E := [(0, .aload 4, 2, 0, 0, 0, 0), (2, .iconst 0, 1, 0, 0, 0, 0), (3, .aload_n 0, 1, 0, 0, 0, 0), (4, .iload_n 1, 1, 0, 0, 0, 0), (5, .iload_n 2, 1, 0, 0, 0, 0), (6, .iload_n 3, 1, 0, 0, 0, 0), (7, .invokevirtual 15, 3, 5, 4, 0, 0), (10, .i2l, 1, 0, 0, 0, 0), (11, .lastore, 1, 0, 0, 0, 0), (12, .goto 7, 3, 0, 0, 0, 0), (19, .iconst 0, 1, 0, 0, 0, 0), (20, .ireturn, 1, 0, 0, 0, 0)]
def kjMl_look : mv_Me := (kl_nk, method_4_code, 6, (some .int), "KindJudgeLaw", kjTl_look, 0, 0, 8, 210)
def kjWl_look : List Jvm.Cond := [(Jvm.Cond.initialized "KindJudgeLaw"), (Jvm.Cond.methodLink "KindJudgeLaw" (15 : Nat) ({ cls := "KindJudge", name := "look", desc := "(III)I" } : Jvm.MethodName)), (Jvm.Cond.instanceMethod ({ cls := "KindJudge", name := "look", desc := "(III)I" } : Jvm.MethodName)), (Jvm.Cond.selects "KindJudge" ({ cls := "KindJudge", name := "look", desc := "(III)I" } : Jvm.MethodName) ({ cls := "KindJudge", name := "look", desc := "(III)I" } : Jvm.MethodName))]
set_option maxRecDepth 100000 in
set_option maxHeartbeats 4000000 in
theorem kjSl_look : ∀ w ∈ kjWl_look, w ∈ lw_tbl := mv_sub_of [64, 800, 801, 802] (by decide +kernel)
set_option maxRecDepth 100000 in
set_option maxHeartbeats 4000000 in
theorem kjKl_look : kjTl_look.all (mv_rowB kjWl_look kjCl kjKd kjP kjStn kjMl_look) = true := by decide +kernel
theorem kjRl_look : mv_Ro kjCl kjKd kjTs kjNw kjP kjStn kjMl_look := by
  intro e he
  have h := List.all_eq_true.mp kjKl_look e he
  unfold mv_rowB at h
  rw [Bool.and_eq_true] at h
  exact ⟨of_decide_eq_true h.1, mv_rwB_ok kjSl_look h.2⟩
set_option maxRecDepth 100000 in
set_option maxHeartbeats 4000000 in
theorem kl_lookR (l : Launch) (A : Nat → Prop) (D : va_G) (cA : Nat → ClassId) (ad : Nat → Nat) {f g : Bool} {I J : kjI} {L K : kjL} {x w1 w2 w3 : Int32} (hb : mv_C kjP kjSta 8 5 [.ref 0, .int w1, .int w2, .int w3] (kjS f I L) (kjQwi g (x, J, K))) :
    Met l kl_nk (kl_ck :: kjTs) { frames := 8, cells := 0, slots := 0, locals := 210 } (mv_Pre A D kjCl kjKd cA ad kjNw kjSta kjStn [.ref 0, .int w1, .int w2, .int w3, .ref 81] (kjS f I L)) (mv_Pst A D kjCl kjKd cA ad 0 (fun v S => v = some (.int (0 : Int32)) ∧ S = kjS g J (mv_up K 81 (Int32.toNatClampNeg (0 : Int32)) (Int32.toInt64 x)))) 0 0 A := by
  refine mv_soundW (M := kjMl_look) (d := 8) kjSy l A D cA ad (by decide) rfl kjRl_look rfl ?_
  show mv_G kjP kjSta (mv_C kjP kjSta 8) kjMl_look _ (0, [some (.ref 0), some (.int w1), some (.int w2), some (.int w3), some (.ref 81), none], [], 0, 0, kjS f I L)
  refine mv_G_run 6 (F' := (7, [some (.ref 0), some (.int w1), some (.int w2), some (.int w3), some (.ref 81), none], [.int w3, .int w2, .int w1, .ref 0, .int (0 : Int32), .ref 81], 0, 0, kjS f I L)) rfl ?_
  refine mv_G_call (r := [.int (0 : Int32), .ref 81]) hb rfl rfl rfl rfl rfl (Nat.le_of_ble_eq_true rfl) (Nat.le_of_ble_eq_true rfl) (Nat.le_of_ble_eq_true rfl) ?_
  rintro _ _ ⟨rfl, rfl⟩
  refine mv_G_run 1 (F' := (11, [some (.ref 0), some (.int w1), some (.int w2), some (.int w3), some (.ref 81), none], [.long (Int32.toInt64 x), .int (0 : Int32), .ref 81], 0, 0, kjS g J K)) rfl ?_
  refine mv_G_ast (N := 1) (S' := kjS g J (mv_up K 81 (Int32.toNatClampNeg (0 : Int32)) (Int32.toInt64 x))) rfl rfl (by unfold vp_in; decide) ?_
  refine mv_G_run 2 (F' := (20, [some (.ref 0), some (.int w1), some (.int w2), some (.int w3), some (.ref 81), none], [.int (0 : Int32)], 0, 0, kjS g J (mv_up K 81 (Int32.toNatClampNeg (0 : Int32)) (Int32.toInt64 x)))) rfl ?_
  exact mv_G_ret rfl rfl rfl (Nat.le_of_ble_eq_true rfl) trivial ⟨rfl, rfl⟩
