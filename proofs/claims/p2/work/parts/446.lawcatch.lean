/-! The law's own load and look, which catch. -/
section KL
variable {A : Nat → Prop} {D : va_G} {cl : List vw_C} {kd : List (List Nat)} {cA : Nat → ClassId} {ad : Nat → Nat} {Nw Fw : List Jvm.Cond} {sta : Nat → List Int32} {stn : List (String × String × String)} {as : List Value} {S : mv_S} {own text : String} {is sa : Nat} {s U : State} {H : Heap} {locs : List Loc}
theorem mv_Ex_go (hF : mv_Fo Fw) (hW : s.WarmedH U.vm) (hS : va_S A s.heap H locs) (hU : U.heap = H) (h : mv_Ex Fw own is text sa A s) : mv_Ex Fw own is text sa A U := by
  obtain ⟨x0, x1, x2, x3, x4, x5⟩ := h
  have hk : ∀ a : Nat, a < s.heap.size → ¬ A a → U.heap[a]? = s.heap[a]? := fun a ha hn => by rw [hU]; exact hS.2.1 a ha hn
  exact ⟨mv_Fo_warm hF hW x0, vk_R.warm hW x1, (x2.moved hW.alike).kept hk, (x3.moved hW.alike).kept hk, (x4.moved hW.alike).kept hk, (x5.moved hW.alike).kept hk⟩
theorem mv_PreT_blind (hN : ∀ w ∈ Nw, (∃ a i b n d h, w = Jvm.Cond.fieldLinkNest a i b n d h) ∨ ∃ a i x h, w = Jvm.Cond.methodLinkNest a i x h) (hF : mv_Fo Fw) (as : List Value) : FrameBlind (mv_PreT A D cl kd cA ad Nw sta stn as S Fw own is text sa) := by
  intro a U g mk h
  obtain ⟨h0, x0, x1, x2, x3, x4, x5⟩ := h
  refine ⟨mv_Pre_blind hN as a U g mk h0, fun w hw => va_Nw.same (u := U) (U := U.calling g mk a) (mv_Fo_tab hF hw) rfl (x0 w hw), vk_R.same (u := U) (U := U.calling g mk a) rfl x1, ?_, ?_, ?_, ?_⟩
  · exact va_Zq.moved (u := U) (U := U.calling g mk a) (Vm.Alike.refl U.vm) x2
  · exact va_Zq.moved (u := U) (U := U.calling g mk a) (Vm.Alike.refl U.vm) x3
  · exact mv_Ls.moved (u := U) (U := U.calling g mk a) (Vm.Alike.refl U.vm) x4
  · exact mv_Ls.moved (u := U) (U := U.calling g mk a) (Vm.Alike.refl U.vm) x5
end KL
def kl_Pst (A : Nat → Prop) (D : va_G) (cA : Nat → ClassId) (ad : Nat → Nat) (Qt : mv_S → Prop) : Array Value → State → Outcome → State → Prop :=
  fun _ st oc t => ∃ S' : mv_S, Qt S' ∧ oc = .returned (some (.int 1)) ∧ va_P D kjCl (mv_ws kjKd cA ad S') t.heap ∧ va_D A (mv_ws kjKd cA ad S') ∧ va_F A st t ∧ t.heap.size = st.heap.size + 1
abbrev kl_nl : MethodName := ⟨"KindJudgeLaw", "load", "(LKindJudge;[J)I"⟩
abbrev kl_nk : MethodName := ⟨"KindJudgeLaw", "look", "(LKindJudge;III[J)I"⟩
abbrev kl_cl : Jvm.Cond := .codeWith kl_nl method_3_code 3 (some .int) [(0, 8, 11, 13)]
abbrev kl_ck : Jvm.Cond := .codeWith kl_nk method_4_code 6 (some .int) [(0, 12, 15, 19)]
def kl_W : List Jvm.Cond := [.methodLink "KindJudgeLaw" 7 kjM_2.1, .instanceMethod kjM_2.1, .selects "KindJudge" kjM_2.1 kjM_2.1, .classLink "KindJudgeLaw" 13 kt_I, .methodLink "KindJudgeLaw" 15 kjM_5.1, .instanceMethod kjM_5.1, .selects "KindJudge" kjM_5.1 kjM_5.1, .classLink "KindJudgeLaw" 19 kt_E, .initialized "KindJudge", .initialized "KindJudgeLaw", .methodLink "KindJudgeLaw" 32 kl_nl, .methodLink "KindJudgeLaw" 47 kl_nk, .static kl_nl, .static kl_nk, kl_cl, kl_ck]
set_option maxRecDepth 100000 in
set_option maxHeartbeats 4000000 in
theorem kl_Wok : kl_W.all (mv_has lw_tbl) = true := by decide +kernel
theorem kl_in (k : Nat) {w : Jvm.Cond} (h : kl_W[k]? = some w) : w ∈ kjTs := kt_all kl_Wok w (List.mem_of_getElem? h)
theorem kl_len {y : MethodName} {n : Nat} (h : (parseMethodDescriptor y.desc).map (fun d => d.parameters.length) = some n) : ∀ sig, parseMethodDescriptor y.desc = some sig → n = sig.parameters.length := by
  intro sig hs
  rw [hs] at h
  exact (Option.some.inj h).symm
theorem kl_one {l : List ExceptionTableEntry} {a b c d : Nat} (h : l.map (fun h => (h.startPc, h.endPc, h.handlerPc, h.catchType)) = [(a, b, c, d)]) : ∃ x, l = [x] ∧ x.startPc = a ∧ x.endPc = b ∧ x.handlerPc = c ∧ x.catchType = d := by
  match l, h with
  | [x], h =>
    simp only [List.map_cons, List.map_nil, List.cons.injEq, Prod.mk.injEq, and_true] at h
    exact ⟨x, rfl, h.1, h.2.1, h.2.2.1, h.2.2.2⟩
set_option maxRecDepth 100000 in
set_option maxHeartbeats 4000000 in
theorem kl_load (l : Launch) (hfl : l.flags.contains noTraceFlag = true) (A : Nat → Prop) (D : va_G) (cA : Nat → ClassId) (ad : Nat → Nat) {f : Bool} {N : Nat} {I I1 : kjI} {L L1 : kjL} (h1 : kf13 f N I L = some (I1, L1)) (h2 : ¬ I1 0 3 = 0) (text : String) (sa : Nat) :
    Met l kl_nl (kl_cl :: kjTs) { frames := 8, cells := 1, slots := 6, locals := 210 } (mv_PreT A D kjCl kjKd cA ad kjNw kjSta kjStn [.ref 0, .ref 81] (kjS f I L) kt_F "KindJudge" 41 text sa) (kl_Pst A D cA ad (fun S' => S' = kjS f (mv_up I1 (kb (!f) 2) 1 (0 : Int32)) L1)) 1 6 A := by
  refine MetFree.of_bodyS (code := method_3_code) (maxLocals := 3) (ret := some .int) (by decide) ?_ ?_
  · intro args s m h hn
    obtain ⟨m', meth, c, hn', g1, g2, g3, g4, -, g5, g6, -⟩ := Cond.codeWith_spec (atoms_spec (ws := kl_cl :: kjTs) h _ List.mem_cons_self)
    cases hn.symm.trans hn'
    exact ⟨meth, c, g1, g2, g3, g4, g5, g6⟩
  · intro p e s m args below meth c s₁ B hml hv _
    have hv0 := hv
    obtain ⟨⟨rfl, v1, v2, v3, v4, v5, v6, v7⟩, hex⟩ := hv
    have hts : ∀ w ∈ kl_cl :: kjTs, w.before _ s = true := atoms_spec (ws := kl_cl :: kjTs) B.pre
    have htk : ∀ w ∈ kjTs, w.before _ s = true := fun w hw => hts w (List.mem_cons_of_mem _ hw)
    have hown : s.vm.findClass "KindJudgeLaw" = some m.cls := findClass_of_methodNamed B.named
    obtain ⟨m', meth', c', hn', g1, g2, -, -, g5, -⟩ := Cond.codeWith_spec (hts _ List.mem_cons_self)
    cases hn'.symm.trans B.named
    cases g1.symm.trans B.method
    have hcc : c' = c := by
      have h3 := B.here.code
      rw [State.code?_eq] at h3
      have h4 : s₁.vm.method? m = some meth := by rw [B.state]; exact B.method
      rw [h4] at h3
      exact Option.some.inj (g2.symm.trans h3)
    subst hcc
    obtain ⟨x, hx1, hx2, hx3, hx4, hx5⟩ := kl_one g5
    have hh0 : s₁.heap = s.heap := by rw [B.state]; rfl
    have K : W p l e { frames := 8, cells := 1, slots := 6, locals := 210 } s m ([Value.ref 0, .ref 81].map (mv_tr ad)).toArray below meth c' s.heap [] 0 0 (MQ below (kl_Pst A D cA ad (fun S' => S' = kjS f (mv_up I1 (kb (!f) 2) 1 (0 : Int32)) L1)) ([Value.ref 0, .ref 81].map (mv_tr ad)).toArray s 1 6 A) (entryFrame m ([Value.ref 0, .ref 81].map (mv_tr ad)).toArray 3) := by
      have hl := lv_entry ([Value.ref 0, .ref 81].map (mv_tr ad)) (n := 3) (Nat.le_of_ble_eq_true rfl)
      rw [lg_entry_eq]
      generalize (lg_sl ([Value.ref 0, .ref 81].map (mv_tr ad)) ++ List.replicate (3 - (lg_sl ([Value.ref 0, .ref 81].map (mv_tr ad))).length) Slot.unset).toArray = ls at hl ⊢
      have hl : lv_has ls 3 [(0, .ref (ad 0)), (1, .ref (ad 81))] := hl
      refine lv_aload_n B.exec B.bytes (k := 1) (i := 1) (x := ad 81) (by decide +kernel) rfl (hl.2.2 _ (List.Mem.tail _ (List.Mem.head _))) ?_
      refine lv_iconst B.exec B.bytes (n := 0) (v := 0) (by decide +kernel) rfl ?_
      refine lv_aload_n B.exec B.bytes (k := 0) (i := 0) (x := ad 0) (by decide +kernel) rfl (hl.2.2 _ (List.Mem.head _)) ?_
      refine mv_callT (x := x) (pc := 3) (cells := 0) (slots := 0) (locs := []) (R := { frames := 8, cells := 1, slots := 6, locals := 210 }) (own := "KindJudgeLaw") (index := 7) (bytes := mv_cc kjM_2) (maxL := 2) (ret := some .int) (As := []) (rest := [.int 0, .ref (ad 81)]) (b := ad 0) B.exec B.bytes (hml.trans hl.1.symm) (kt_load_met l A D cA ad hfl h1 h2 text sa) (mv_PreT_blind mv_nest_all kt_Fo _) ⟨rfl, rfl⟩ (Nat.le_of_ble_eq_true rfl) (Nat.le_of_ble_eq_true rfl) (Nat.le_of_ble_eq_true rfl) (Nat.le_of_ble_eq_true rfl)
        (fun w hw a' U hW => ?_) List.mem_cons_self hown (htk _ (kl_in 0 rfl)) (htk _ (kl_in 1 rfl)) (htk _ (kl_in 2 rfl)) (htk _ (kjSy.2.2.2.1 2 kjM_2 rfl).2.2.1) (fun a' U hW => word_at hW (kjSy.2.1 _ (kl_in 8 rfl)) (htk _ (kl_in 8 rfl))) ⟨by decide, by decide⟩ ?_ (fun U hU hW => ?_) (kl_len (n := 0) (by decide +kernel)) (Nat.le_of_ble_eq_true rfl) (by decide +kernel) hx1 ?_ (by rw [hx5]; decide) (by rw [hx5]; exact htk _ (kl_in 3 rfl)) ?_
      · rcases List.mem_cons.mp hw with rfl | hw
        · exact word_at hW (kjSy.2.1 _ (kjSy.2.2.2.1 2 kjM_2 rfl).2.2.1) (htk _ (kjSy.2.2.2.1 2 kjM_2 rfl).2.2.1)
        · exact word_at hW (kjSy.2.1 _ hw) (htk _ hw)
      · exact va_recv (q0 := 0) (ci := 0) v2 v5 rfl (mv_ws_get (k := 0) (sh := .inr 0) rfl)
      · refine ⟨⟨rfl, mv_Nw_warm mv_nest_all hW v1, va_K.moved hW.alike v2, mv_Sts_go hW.alike va_S.rf hU v3, fun q hq => v4 q (by rw [← hU]; exact hq), by rw [hU]; exact v5, v6, by rw [hU]; exact v7⟩, mv_Ex_go kt_Fo hW va_S.rf hU hex⟩
      · simp [covers, hx2, hx3]
      · intro S' ax t Lq q1 q2 q3 q4 q5 q6 q7
        rw [hx4]
        refine lv_astore_n B.exec B.bytes (k := 2) (i := 2) (by decide +kernel) rfl hl (by decide) rfl (fun ls' hl' => ?_)
        refine lv_iconst B.exec B.bytes (n := 1) (v := 1) (by decide +kernel) rfl ?_
        refine W.iret B.exec B.bytes B.returns (fun t' ht' _ => ?_) (fun q hq => q7 q (by simpa using hq)) (by decide +kernel) B.notSynchronized
        exact ⟨S', q1, rfl, by rw [ht']; exact q2, q3, ⟨by rw [ht']; exact q4, fun q a b => by rw [ht']; exact q5 q a b⟩, by rw [ht']; exact q6⟩
    obtain ⟨t, a1, o, b1, b2, b3⟩ := K s₁ hh0 (Stand.of_body B)
    exact ⟨t, o, a1, b1, b2, ⟨b3.1, b3.2⟩⟩
