/-! The small machine's answers are the great one's. -/
def mv_mlk (Ts Nw : List Jvm.Cond) (own : String) (idx : Nat) (y : MethodName) : Prop := Jvm.Cond.methodLink own idx y ∈ Ts ∨ ∃ h, Jvm.Cond.methodLinkNest own idx y h ∈ Nw
def mv_np (y : MethodName) (n : Nat) : Prop := (parseMethodDescriptor y.desc).map (fun d => d.parameters.length) = some n
/-- a callee's room in its caller's -/
def mv_rm (M Mj : mv_Me) : Prop := mv_fr Mj + 1 ≤ mv_fr M ∧ 8 + (mv_ml Mj + 11) + mv_lo Mj ≤ mv_lo M
/-- what a row of a method's table must keep to -/
def mv_Rw (cl : List vw_C) (kd : List (List Nat)) (Ts Nw : List Jvm.Cond) (prog : List mv_Me) (stn : List (String × String × String)) (M : mv_Me) (i : ClassFile.Instr) (n a b c d : Nat) : Prop := match i with
  | .getfield idx => n = 3 ∧ ∃ (C : String) (T : u_T) (N : Nat), cl[a]? = some (C, T, N) ∧ (kd.getD a [])[b]? = some c ∧ mv_lnk Ts Nw (mv_ow M) idx (T b).1 (T b).2.1 (T b).2.2.1
  | .putfield idx => n = 3 ∧ ∃ (C : String) (T : u_T) (N : Nat), cl[a]? = some (C, T, N) ∧ (kd.getD a [])[b]? = some c ∧ (((T b).2.2.2 = false ∧ mv_lnk Ts Nw (mv_ow M) idx (T b).1 (T b).2.1 (T b).2.2.1) ∨ ((T b).2.2.2 = true ∧ M.1.name = "<init>" ∧ (T b).1 = (mv_ow M) ∧ Jvm.Cond.fieldLink (mv_ow M) idx (T b).1 (T b).2.1 (T b).2.2.1 ∈ Ts))
  | .new idx => n = 3 ∧ ∃ (C : String) (T : u_T), cl[a]? = some (C, T, b) ∧ Jvm.Cond.classLink (mv_ow M) idx C ∈ Ts ∧ Jvm.Cond.instantiable C b ∈ Ts ∧ Jvm.Cond.initialized C ∈ Ts
  | .newarray t => n = 2 ∧ c ≤ 3 ∧ Op.newarray.typeOf t = mv_ty c ∧ Jvm.Cond.arrayClass (mv_ty c) ∈ Ts
  | .ldc idx => n = 2 ∧ Jvm.Cond.constant (mv_ow M) idx (Int32.ofNat a) ∈ Ts
  | .ldc_w idx => n = 3 ∧ Jvm.Cond.constant (mv_ow M) idx (Int32.ofNat a) ∈ Ts
  | .ldc2_w idx => n = 3 ∧ Jvm.Cond.constantLong (mv_ow M) idx (Int64.ofNat a) ∈ Ts
  | .getstatic idx => n = 3 ∧ ∃ q, stn[a]? = some q ∧ Jvm.Cond.fieldLink (mv_ow M) idx q.1 q.2.1 q.2.2 ∈ Ts
  | .invokespecial idx => n = 3 ∧ (c = 3 → 1 ≤ mv_fr M ∧ 20 ≤ mv_lo M ∧ Jvm.Cond.methodLink (mv_ow M) idx Lib.objectInit ∈ Ts ∧ Jvm.Cond.instanceMethod Lib.objectInit ∈ Ts ∧ Jvm.Cond.code Lib.objectInit ⟨#[0xb1]⟩ 1 none ∈ Ts) ∧ (c = 2 → ∃ (Mj : mv_Me) (np : Nat), prog[a]? = some Mj ∧ mv_rm M Mj ∧ (mv_rt Mj) = none ∧ b = np + 1 ∧ mv_np Mj.1 np ∧ mv_mlk Ts Nw (mv_ow M) idx Mj.1 ∧ Mj.1.name = "<init>" ∧ Jvm.Cond.instanceMethod Mj.1 ∈ Ts)
  | .invokestatic idx => n = 3 ∧ (c = 4 → 1 ≤ mv_fr M ∧ 21 ≤ mv_lo M ∧ Jvm.Cond.methodLink (mv_ow M) idx Lib.Math.max.name ∈ Ts ∧ Jvm.Cond.static Lib.Math.max.name ∈ Ts ∧ Jvm.Cond.initialized "java/lang/Math" ∈ Ts ∧ Jvm.Cond.code Lib.Math.max.name Lib.Math.max.code 2 (some .int) ∈ Ts) ∧ (c = 5 → 1 ≤ mv_fr M ∧ 21 ≤ mv_lo M ∧ Jvm.Cond.methodLink (mv_ow M) idx Lib.Math.min.name ∈ Ts ∧ Jvm.Cond.static Lib.Math.min.name ∈ Ts ∧ Jvm.Cond.initialized "java/lang/Math" ∈ Ts ∧ Jvm.Cond.code Lib.Math.min.name Lib.Math.min.code 2 (some .int) ∈ Ts) ∧ (c = 1 → ∃ (Mj : mv_Me), prog[a]? = some Mj ∧ mv_rm M Mj ∧ mv_np Mj.1 b ∧ mv_mlk Ts Nw (mv_ow M) idx Mj.1 ∧ Jvm.Cond.static Mj.1 ∈ Ts)
  | .invokevirtual idx => n = 3 ∧ (c = 0 → ∃ (Mj : mv_Me) (np : Nat) (T : u_T) (N : Nat), prog[a]? = some Mj ∧ mv_rm M Mj ∧ b = np + 1 ∧ mv_np Mj.1 np ∧ cl[d]? = some (Mj.1.cls, T, N) ∧ mv_mlk Ts Nw (mv_ow M) idx Mj.1 ∧ Jvm.Cond.instanceMethod Mj.1 ∈ Ts ∧ Jvm.Cond.selects Mj.1.cls Mj.1 Mj.1 ∈ Ts)
  | .lookupswitch _ _ => True
  | .tableswitch _ _ _ _ => True
  | i => n = mv_len i
/-- what a method must keep to -/
def mv_Mk (cl : List vw_C) (kd : List (List Nat)) (Ts Nw : List Jvm.Cond) (prog : List mv_Me) (stn : List (String × String × String)) (M : mv_Me) : Prop :=
  Jvm.plainName M.1.cls = true ∧ M.1.cls = (mv_ow M) ∧ Jvm.Cond.code M.1 (mv_cc M) (mv_ml M) (mv_rt M) ∈ Ts ∧ Jvm.Cond.initialized M.1.cls ∈ Ts ∧ M.1.cls ≠ "java/lang/invoke/MethodHandle" ∧ M.1.cls ≠ "java/lang/invoke/VarHandle" ∧ ∀ e ∈ (mv_tb M), decode (mv_cc M) e.1 = .ok (e.2.1, e.2.2.1) ∧ mv_Rw cl kd Ts Nw prog stn M e.2.1 e.2.2.1 e.2.2.2.1 e.2.2.2.2.1 e.2.2.2.2.2.1 e.2.2.2.2.2.2
/-- the rows of a method's table keep to it -/
def mv_Ro (cl : List vw_C) (kd : List (List Nat)) (Ts Nw : List Jvm.Cond) (prog : List mv_Me) (stn : List (String × String × String)) (M : mv_Me) : Prop :=
  ∀ e ∈ (mv_tb M), decode (mv_cc M) e.1 = .ok (e.2.1, e.2.2.1) ∧ mv_Rw cl kd Ts Nw prog stn M e.2.1 e.2.2.1 e.2.2.2.1 e.2.2.2.2.1 e.2.2.2.2.2.1 e.2.2.2.2.2.2
/-- the system: its classes, words, methods, tables -/
def mv_Sy (cl : List vw_C) (kd : List (List Nat)) (Ts Nw : List Jvm.Cond) (prog : List mv_Me) (sta : Nat → List Int32) (stn : List (String × String × String)) : Prop :=
  mv_Cl cl kd Ts ∧ (∀ w ∈ Ts, (w.onTables && w.keeps) = true ∨ ∃ ty, w = .arrayClass ty) ∧ (∀ w ∈ Nw, (∃ a i b n d h, w = Jvm.Cond.fieldLinkNest a i b n d h) ∨ ∃ a i x h, w = Jvm.Cond.methodLinkNest a i x h) ∧ (∀ (i : Nat) (M : mv_Me), prog[i]? = some M → mv_Mk cl kd Ts Nw prog stn M) ∧ ∀ k, 100000 ≤ k → (sta (k - 100000)).length = 0 ∨ ∃ q, stn[k - 100000]? = some q
theorem mv_at_mem : ∀ {t : List mv_E} {pc : Nat} {x : ClassFile.Instr × Nat × Nat × Nat × Nat × Nat}, mv_at t pc = some x → (pc, x) ∈ t
  | [], _, _, h => by cases h
  | e :: r, pc, x, h => by
    unfold mv_at at h
    cases hb : Nat.beq e.1 pc with
    | true =>
      rw [hb] at h
      have e1 : e.2 = x := Option.some.inj h
      have e2 : e.1 = pc := Nat.eq_of_beq_eq_true hb
      rw [← e1, ← e2]
      exact List.mem_cons_self
    | false =>
      rw [hb] at h
      exact List.mem_cons_of_mem _ (mv_at_mem h)
def mv_Pre (A : Nat → Prop) (D : va_G) (cl : List vw_C) (kd : List (List Nat)) (cA : Nat → ClassId) (ad : Nat → Nat) (Nw : List Jvm.Cond) (sta : Nat → List Int32) (stn : List (String × String × String)) (as : List Value) (S : mv_S) : Array Value → State → Prop :=
  va_Pc (as.map (mv_tr ad)) (fun U => (∀ w ∈ Nw, va_Nw w U) ∧ va_K D cl (mv_tys cA) U ∧ mv_Sts A ad sta stn U ∧ (∀ q, U.heap.size ≤ q → A q) ∧ va_P D cl (mv_ws kd cA ad S) U.heap ∧ va_D A (mv_ws kd cA ad S) ∧ ∀ k, S.1.length ≤ k → k < 100000 → ad k + S.1.length = U.heap.size + k)
def mv_Pst (A : Nat → Prop) (D : va_G) (cl : List vw_C) (kd : List (List Nat)) (cA : Nat → ClassId) (ad : Nat → Nat) (mc : Nat) (Q : Option Value → mv_S → Prop) : Array Value → State → Outcome → State → Prop :=
  fun _ st oc t => ∃ (v : Option Value) (S' : mv_S), Q v S' ∧ oc = .returned (v.map (mv_tr ad)) ∧ va_P D cl (mv_ws kd cA ad S') t.heap ∧ va_D A (mv_ws kd cA ad S') ∧ va_F A st t ∧ t.heap.size = st.heap.size + mc ∧ ∀ k, S'.1.length ≤ k → k < 100000 → ad k + S'.1.length = t.heap.size + k
def mv_Rm (M : mv_Me) : Room := { frames := mv_fr M, cells := mv_mc M, slots := mv_ms M, locals := mv_lo M }
section MVT
variable {p : Program} {l : Launch} {e : Env} {R : Room} {s : State} {m : MethodId} {args : Array Value} {below : List Frame} {meth : Method} {cod : Code} {H : Heap} {locs : List Loc} {cells slots : Nat} {Qz : State → Prop}
variable {pc : Nat} {ls : Array Slot} {ad : Nat → Nat} {A : Nat → Prop} {D : va_G} {cl : List vw_C} {kd : List (List Nat)} {cA : Nat → ClassId} {Ts Nw : List Jvm.Cond} {sta : Nat → List Int32} {stn : List (String × String × String)} {prog : List mv_Me} {M : mv_Me} {S S' : mv_S} {st r : List Value}
theorem mv_callx {mc ms : Nat} {g0 : List Value} {rest : List Value} {Qa : State → Outcome → State → Prop} {free : Addr → Prop} (hr : va_Run p l e R s m args below meth cod H locs cells slots mc ms (F0 m pc ls g0) rest Qa free)
    (kk : ∀ (v : Option Value) (st0 t : State) (H1 : Heap) (L : List Loc), st0.heap = H → t.heap = H1 → Qa st0 (.returned v) t → (∀ q ∈ L, free q.base) → W p l e R s m args below meth cod H1 (locs ++ L) (cells + mc) (slots + ms) Qz (F0 m (pc + 3) ls (v.toList ++ rest))) : W p l e R s m args below meth cod H locs cells slots Qz (F0 m pc ls g0) := by
  intro T hT X
  obtain ⟨v, st0, t, T', L, h0, X', hL, e1, e2, hq, sts⟩ := hr T hT X
  obtain ⟨t2, a1, b1⟩ := kk v st0 t T'.heap L h0 e1.symm hq hL T' rfl X'
  exact ⟨t2, sts t2 a1, b1⟩
theorem mv_Nw_warm (hN : ∀ w ∈ Nw, (∃ a i b n d h, w = Jvm.Cond.fieldLinkNest a i b n d h) ∨ ∃ a i x h, w = Jvm.Cond.methodLinkNest a i x h) {U : State} (hW : s.WarmedH U.vm) (h : ∀ w ∈ Nw, va_Nw w s) : ∀ w ∈ Nw, va_Nw w U := by
  intro w hw
  rcases hN w hw with ⟨a, i, b, n, d, h', rfl⟩ | ⟨a, i, x, h', rfl⟩
  · exact va_Nw.warmF hW (h _ hw)
  · exact va_Nw.warmM hW (h _ hw)
theorem mv_Sts_go {U : State} (hvm : s.vm.Alike U.vm) (hS : va_S A s.heap H locs) (hU : U.heap = H) (h : mv_Sts A ad sta stn s) : mv_Sts A ad sta stn U := by
  intro t q hq
  obtain ⟨h1, h2⟩ := h t q hq
  rw [hU]
  exact ⟨(h1.moved hvm).kept (fun a ha hn => hS.2.1 a ha hn), (h2.moved hvm).kept (fun a ha hn => hS.2.1 a ha hn)⟩
theorem mv_Pre_blind (hN : ∀ w ∈ Nw, (∃ a i b n d h, w = Jvm.Cond.fieldLinkNest a i b n d h) ∨ ∃ a i x h, w = Jvm.Cond.methodLinkNest a i x h) (as : List Value) : FrameBlind (mv_Pre A D cl kd cA ad Nw sta stn as S) := by
  intro a U g mk h
  obtain ⟨h0, h1, h2, h3, h4, h5, h6, h7⟩ := h
  refine ⟨h0, fun w hw => ?_, va_K.moved (u := U) (U := U.calling g mk a) (Vm.Alike.refl U.vm) h2, fun t q hq => ?_, h4, h5, h6, h7⟩
  · rcases hN w hw with ⟨a, i, b, n, d, h', rfl⟩ | ⟨a, i, x, h', rfl⟩
    · exact va_Nw.same rfl rfl (h1 _ hw)
    · exact va_Nw.same rfl rfl (h1 _ hw)
  · obtain ⟨g1, g2⟩ := h3 t q hq
    exact ⟨va_Z.moved (u := U) (U := U.calling g mk a) (Vm.Alike.refl U.vm) g1, va_T.moved (u := U) (U := U.calling g mk a) (Vm.Alike.refl U.vm) g2⟩
/-- a call -/
theorem mv_call_ok (Y : mv_Sy cl kd Ts Nw prog sta stn) (X : mv_Cx p s m args meth cod A D cl cA ad Ts Nw sta stn M) (hH1 : va_P D cl (mv_ws kd cA ad S) H) (hH2 : va_D A (mv_ws kd cA ad S)) (hH3 : va_S A s.heap H locs) (hH5 : ∀ k, S.1.length ≤ k → k < 100000 → ad k + S.1.length = H.size + k) (hl : ls.size = (mv_ml M)) (hR : mv_fr M ≤ R.frames ∧ mv_lo M ≤ R.locals) {i : ClassFile.Instr} {n a b c d : Nat} {Mj : mv_Me} {as : List Value} {Q' : Option Value → mv_S → Prop}
    (hd : decode (mv_cc M) pc = .ok (i, n)) (hrw : mv_Rw cl kd Ts Nw prog stn M i n a b c d) (hj : prog[a]? = some Mj) (hb : as.length = b) (hc : mv_isCall i c d S as = true) (hcat : (r.map fun v => v.category).sum ≤ 8) (hc1 : cells + (mv_mc Mj) ≤ R.cells) (hc2 : slots + (mv_ms Mj) ≤ R.slots)
    (hM : Met l Mj.1 (Jvm.Cond.code Mj.1 (mv_cc Mj) (mv_ml Mj) (mv_rt Mj) :: Ts) (mv_Rm Mj) (mv_Pre A D cl kd cA ad Nw sta stn as S) (mv_Pst A D cl kd cA ad (mv_mc Mj) Q') (mv_mc Mj) (mv_ms Mj) A)
    (kk : ∀ (v : Option Value) (S' : mv_S) (H1 : Heap) (locs1 : List Loc), Q' v S' → va_P D cl (mv_ws kd cA ad S') H1 → va_D A (mv_ws kd cA ad S') → va_S A s.heap H1 locs1 → H1.size = H.size + mv_mc Mj → (∀ k, S'.1.length ≤ k → k < 100000 → ad k + S'.1.length = H1.size + k) → W p l e R s m args below meth cod H1 locs1 (cells + (mv_mc Mj)) (slots + (mv_ms Mj)) Qz (F0 m (pc + 3) ls ((v.toList ++ r).map (mv_tr ad)))) :
    W p l e R s m args below meth cod H locs cells slots Qz (F0 m pc ls ((as.reverse ++ r).map (mv_tr ad))) := by
  obtain ⟨hx, hcb, hml, hown, hts, hnw, hK, hA, -, -, -, hsts⟩ := id X
  obtain ⟨Y1, Y2, Y3, Y4, -⟩ := Y
  obtain ⟨j1, j2, j3, j4, j5, j6, -⟩ := Y4 a Mj hj
  have hG : GoodIn Ts (Jvm.Cond.code Mj.1 (mv_cc Mj) (mv_ml Mj) (mv_rt Mj) :: Ts) := fun w hw => by
    rcases List.mem_cons.mp hw with rfl | hw
    · exact ⟨j3, Y2 _ j3⟩
    · exact ⟨hw, Y2 _ hw⟩
  have hfit : mv_rm M Mj → (mv_Rm Mj).frames + 1 ≤ R.frames ∧ 8 + ((mv_ml Mj) + 11) + (mv_Rm Mj).locals ≤ R.locals := fun h => ⟨Nat.le_trans h.1 hR.1, Nat.le_trans h.2 hR.2⟩
  have hpre : ∀ U : State, U.heap = H → s.WarmedH U.vm → mv_Pre A D cl kd cA ad Nw sta stn as S (as.map (mv_tr ad)).toArray U := fun U hU hW =>
    ⟨rfl, mv_Nw_warm Y3 hW hnw, va_K.moved hW.alike hK, mv_Sts_go hW.alike hH3 hU hsts, fun q hq => hA q (Nat.le_trans hH3.1 (by rw [← hU]; exact hq)), by rw [hU]; exact hH1, hH2, by rw [hU]; exact hH5⟩
  have hroom : (((r.map (mv_tr ad))).map fun v => v.category).sum ≤ 8 := by rw [mv_tr_sum]; exact hcat
  have fin : ∀ (v : Option Value) (st0 t : State) (H1 : Heap) (L : List Loc), st0.heap = H → t.heap = H1 → mv_Pst A D cl kd cA ad (mv_mc Mj) Q' (as.map (mv_tr ad)).toArray st0 (.returned v) t → (∀ q ∈ L, A q.base) → W p l e R s m args below meth cod H1 (locs ++ L) (cells + (mv_mc Mj)) (slots + (mv_ms Mj)) Qz (F0 m (pc + 3) ls (v.toList ++ r.map (mv_tr ad))) := by
    intro v st0 t H1 L h0 h1 hq hL
    obtain ⟨v', S', g1, g2, g3, g4, g5, g6, g7⟩ := hq
    cases g2
    rw [h1] at g3 g6 g7
    rw [h0] at g6
    have hF : va_S A H H1 (locs ++ L) := by
      obtain ⟨f1, f2⟩ := g5
      rw [h0, h1] at f1
      refine ⟨f1, fun q q1 q2 => ?_, fun q hq => ?_⟩
      · have := f2 q (by rw [h0]; exact q1) q2
        rw [h0, h1] at this
        exact this
      · rcases List.mem_append.mp hq with h | h
        · exact hH3.2.2 q h
        · exact hL q h
    have key := kk v' S' H1 (locs ++ L) g1 g3 g4 (mv_S_trans hH3 hF) g6 g7
    have e9 : ((v'.toList ++ r).map (mv_tr ad)) = (v'.map (mv_tr ad)).toList ++ r.map (mv_tr ad) := by
      cases v' <;> simp
    rw [e9] at key
    exact key
  rw [List.map_append, List.map_reverse]
  cases i
  case invokevirtual idx =>
    obtain ⟨rfl, hrw⟩ := hrw
    match c, as, hc with
    | 0, .ref k :: As, hc =>
      obtain ⟨Mk, np, T, N, g1, g9, g2, g3, g4, g5, g6, g7⟩ := hrw rfl
      cases Option.some.inj (g1.symm.trans hj)
      have hk : S.1[k]? = some (.inr d) := by
        unfold mv_isCall at hc
        simp only at hc
        split at hc
        · rename_i ci hci
          rw [hci, Nat.eq_of_beq_eq_true hc]
        · cases hc
      have hn : (As.map (mv_tr ad)).length = np := by
        rw [List.length_map]
        simp only [List.length_cons] at hb
        omega
      have hrec := va_recv hK hH1 g4 (mv_ws_get hk)
      have hst : (F0 m pc ls ((Value.ref k :: As).map (mv_tr ad)).reverse).stack = _ := rfl
      rcases g5 with g5 | ⟨h, g5⟩
      · refine mv_callx (va_runV (As := As.map (mv_tr ad)) (rest := r.map (mv_tr ad)) (b := ad k) ⟨hx, hcb, hml, hown, hts⟩ hM ⟨callB_of np hts hG rfl rfl rfl (hts _ j4) (hts _ g5) ⟨j5, j6, g3⟩ (hfit g9), hts _ g6, hts _ g7⟩ ⟨mv_Pre_blind Y3 _, hrec, hpre⟩ rfl hn hl (by simp [mv_tr]) (lv_room hroom) hd ⟨hc1, hc2⟩) fin
      · refine mv_callx (va_runVN (As := As.map (mv_tr ad)) (rest := r.map (mv_tr ad)) (b := ad k) ⟨hx, hcb, hml, hown, hts⟩ hM ⟨va_cnB np hts hG rfl rfl rfl (hnw _ g5) (hts _ j4) ⟨j5, j6, g3⟩ (hfit g9), hts _ g6, hts _ g7⟩ ⟨mv_Pre_blind Y3 _, hrec, hpre⟩ rfl hn hl (by simp [mv_tr]) (lv_room hroom) hd ⟨hc1, hc2⟩) fin
  case invokestatic idx =>
    obtain ⟨rfl, -, -, hrw⟩ := hrw
    match c, hc with
    | 1, hc =>
      obtain ⟨Mk, g1, g9, g3, g5, g6⟩ := hrw rfl
      cases Option.some.inj (g1.symm.trans hj)
      have hn : (as.map (mv_tr ad)).length = b := by rw [List.length_map]; exact hb
      rcases g5 with g5 | ⟨h, g5⟩
      · exact mv_callx (va_runS (As := as.map (mv_tr ad)) (rest := r.map (mv_tr ad)) ⟨hx, hcb, hml, hown, hts⟩ hM ⟨callB_of b hts hG rfl rfl rfl (hts _ j4) (hts _ g5) ⟨j5, j6, g3⟩ (hfit g9), hts _ g6⟩ ⟨mv_Pre_blind Y3 _, hpre⟩ rfl hn hl rfl (lv_room hroom) hd ⟨hc1, hc2⟩) fin
      · exact mv_callx (va_runSN (As := as.map (mv_tr ad)) (rest := r.map (mv_tr ad)) ⟨hx, hcb, hml, hown, hts⟩ hM ⟨va_cnB b hts hG rfl rfl rfl (hnw _ g5) (hts _ j4) ⟨j5, j6, g3⟩ (hfit g9), hts _ g6, trivial⟩ ⟨mv_Pre_blind Y3 _, hpre⟩ rfl hn hl rfl (lv_room hroom) hd ⟨hc1, hc2⟩) fin
  case invokespecial idx =>
    obtain ⟨rfl, -, hrw⟩ := hrw
    match c, as, hc with
    | 2, .ref k :: As, hc =>
      obtain ⟨Mk, np, g1, g9, g0, g2, g3, g5, g6, g7⟩ := hrw rfl
      cases Option.some.inj (g1.symm.trans hj)
      have hn : (As.map (mv_tr ad)).length = np := by
        rw [List.length_map]
        simp only [List.length_cons] at hb
        omega
      rw [g0] at hM hG
      rcases g5 with g5 | ⟨h, g5⟩
      · exact mv_callx (va_runI (As := As.map (mv_tr ad)) (rest := r.map (mv_tr ad)) (b := ad k) ⟨hx, hcb, hml, hown, hts⟩ hM ⟨callB_of np hts hG rfl rfl rfl (hts _ j4) (hts _ g5) ⟨j5, j6, g3⟩ (hfit g9), g6, hts _ g7⟩ ⟨mv_Pre_blind Y3 _, hpre⟩ rfl hn hl (by simp [mv_tr]) (lv_room hroom) hd ⟨hc1, hc2⟩) fin
      · exact mv_callx (va_runIN (As := As.map (mv_tr ad)) (rest := r.map (mv_tr ad)) (b := ad k) ⟨hx, hcb, hml, hown, hts⟩ hM ⟨va_cnB np hts hG rfl rfl rfl (hnw _ g5) (hts _ j4) ⟨j5, j6, g3⟩ (hfit g9), g6, hts _ g7⟩ ⟨mv_Pre_blind Y3 _, hpre⟩ rfl hn hl (by simp [mv_tr]) (lv_room hroom) hd ⟨hc1, hc2⟩) fin
  all_goals (exact absurd hc (by simp [mv_isCall]))
end MVT
