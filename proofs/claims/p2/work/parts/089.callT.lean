/-! A call of a method that throws, in a method that catches it. -/
section MVJ
variable {p : Program} {l : Launch} {e : Env} {R : Room} {s : State} {m : MethodId} {args : Array Value} {below : List Frame} {meth : Method} {cod : Code} {H : Heap} {locs : List Loc} {cells slots : Nat} {Qz : State → Prop}
variable {pc : Nat} {ls : Array Slot} {ad : Nat → Nat} {A : Nat → Prop} {D : va_G} {cl : List vw_C} {kd : List (List Nat)} {cA : Nat → ClassId}
set_option maxHeartbeats 2000000 in
theorem mv_callT (hx : p.tables.exec = Jvm.exec) {cc : ByteArray} (hb : cod.code = cc) (hml : cod.maxLocals = ls.size) {own cls : String} {index : Nat} {y : MethodName} {bytes : ByteArray} {maxL : Nat} {ret : Option FieldType} {ws : List Jvm.Cond} {rm : Room} {Pc : Array Value → State → Prop} {Qt : mv_S → Prop}
    (hM : MetFree l y (headSpec ws rm) Pc (fun _ _ _ _ _ => True) (mv_PT A D cl kd cA ad cls Qt)) (hblind : FrameBlind Pc) (hrc : rm.cells = 1 ∧ rm.slots = 6) (hfr : rm.frames + 1 ≤ R.frames) (hlo : 8 + (maxL + 11) + rm.locals ≤ R.locals) (hc1 : cells + 1 ≤ R.cells) (hc2 : slots + 6 ≤ R.slots)
    (hws : ∀ w ∈ ws, ∀ (a' : Array Value) (U : State), s.WarmedH U.vm → w.before a' U = true) (hcw : Jvm.Cond.code y bytes maxL ret ∈ ws)
    (hown : s.vm.findClass own = some m.cls) (hlink : (Jvm.Cond.methodLink own index y).before args s = true) (hinst : (Jvm.Cond.instanceMethod y).before args s = true) (hsel : (Jvm.Cond.selects y.cls y y).before args s = true) (hcode : (Jvm.Cond.code y bytes maxL ret).before args s = true) (hini : ∀ (a' : Array Value) (U : State), s.WarmedH U.vm → (Jvm.Cond.initialized y.cls).before a' U = true) (hy : y.cls ≠ "java/lang/invoke/MethodHandle" ∧ y.cls ≠ "java/lang/invoke/VarHandle")
    {b : Addr} {As rest : List Value} (hrec : ∃ cellB : Cell, H[b]? = some cellB ∧ cellB.vm.isStatics = false ∧ s.vm.findClass y.cls = some cellB.cls) (hpre : ∀ U : State, U.heap = H → s.WarmedH U.vm → Pc (Value.ref b :: As).toArray U)
    (hlen : ∀ sig, parseMethodDescriptor y.desc = some sig → As.length = sig.parameters.length) (hcat : (rest.map fun v => v.category).sum ≤ 8) (hdg : decode cc pc = .ok (.invokevirtual index, 3))
    {x : ExceptionTableEntry} (htab : cod.exceptionTable.toList = [x]) (hcov : covers x pc = true) (hct : x.catchType ≠ 0) (hclink : (Jvm.Cond.classLink own x.catchType cls).before args s = true)
    (kk : ∀ (S' : mv_S) (ax : Addr) (t : State) (L : List Loc), Qt S' → va_P D cl (mv_ws kd cA ad S') t.heap → va_D A (mv_ws kd cA ad S') → H.size ≤ t.heap.size → (∀ q, q < H.size → ¬ A q → t.heap[q]? = H[q]?) → t.heap.size = H.size + 1 → (∀ q ∈ L, A q.base) → W p l e R s m args below meth cod t.heap (locs ++ L) (cells + 1) (slots + 6) Qz (F0 m x.handlerPc ls [.ref ax])) :
    W p l e R s m args below meth cod H locs cells slots Qz (F0 m pc ls (As.reverse ++ .ref b :: rest)) := by
  intro T hT X
  obtain ⟨cellB, hcB, hoB, hclB⟩ := hrec
  obtain ⟨mk, methM, hnamed, hmethM, hstM, habM⟩ := Cond.instanceMethod_spec hinst
  obtain ⟨methM', cM, hmethM', hcM, -, hlM, -, -, -, hsigM⟩ := Cond.code_spec hnamed hcode
  cases hmethM.symm.trans hmethM'
  obtain ⟨c2, r2, m2, q1, q2, q3, q4, kP, hkP, hkPi⟩ := Cond.selects_spec hsel
  cases hclB.symm.trans q1
  cases (State.methodFound?_of_named hnamed hy).symm.trans q2
  cases hnamed.symm.trans q3
  have hselP : selectMethod e.platform s.vm cellB.cls mk = .method mk := by rw [Launch.admits_selectMethod X.admits]; exact q4
  have hcBT : T.heap[b]? = some cellB := by rw [hT]; exact hcB
  obtain ⟨vm₁, X₁, hstep₁⟩ := X.invokevirtual hx hown hlink hnamed hmethM hstM hkP hkPi hy (a := b) (cell := cellB) hcBT
    (fun z h => by rw [h] at hoB; cases hoB) hselP hmethM habM hkP hkPi (g := F0 m pc ls (As.reverse ++ .ref b :: rest)) rfl (argsL := As) (rest := rest) (hlen _ hsigM) rfl (by rw [hb]; exact hdg)
  have hU : (T.setVm vm₁).heap = H := hT
  generalize hUe : T.setVm vm₁ = U at X₁ hstep₁ hU
  generalize hae : (Value.ref b :: As).toArray = a at hstep₁ hpre
  have hWU : s.WarmedH U.vm := X₁.warmed
  have hn := X₁.named hnamed
  have hpU : Pc a U := hpre U hU hWU
  have h1 : (headSpec ws rm).pre.before a U = true := atoms_intro fun w hw => hws w hw _ _ hWU
  have h2 := hws _ hcw a U hWU
  obtain ⟨methY, cY, hmY, hcY, -, hlY, -⟩ := Cond.code_spec hn h2
  obtain ⟨kY, hkY, -⟩ := className_of_methodNamed hn
  have hinitY : kY.init = .initialized := Cond.initialized_spec (findClass_of_methodNamed hn) hkY (hini a U hWU)
  have hA : At U m cod below := X₁.here
  have happ : (headSpec ws rm).appliesLoose y e.platform (U.calling (F0 m pc ls rest) mk a) = true :=
    Spec.appliesLoose_calling (g := F0 m pc ls rest) hA (by rw [hb]; exact hdg) hn hkY hinitY
      (X₁.room_calling (g := F0 m pc ls rest) (R' := rm) hml.symm hmY hcY hfr (by rw [hlY]; have hz : (F0 m pc ls rest).monitorRoom = 0 := rfl; show 2 * (F0 m pc ls rest).monitorRoom + (rest.map fun v => v.category).sum + (maxL + 11) + rm.locals ≤ R.locals; omega) (by rw [hrc.1]; exact hc1) (by rw [hrc.2]; exact hc2)) h1
  obtain ⟨mid, hmid⟩ := hA.above
  have hfrm : (U.setTop (F0 m pc ls rest)).frames = (.java (F0 m pc ls rest) :: mid) ++ below := by rw [State.frames_setTop' _ hA.top, hmid]; rfl
  obtain ⟨o, s₂, hsteps, -, hend, hq⟩ := Steps.callFree hM p X.admits X.cas X.clock (acts := []) hfrm happ (hblind a U (F0 m pc ls rest) mk hpU) trivial
  have hq' : mv_PT A D cl kd cA ad cls Qt a (U.calling (F0 m pc ls rest) mk a) o s₂ := hq
  rw [State.frames_setTop' _ hA.top] at hend
  obtain ⟨S', ax, ce, L, k1, rfl, hW₂, ⟨e2, q2, q3, q4, q5, q6⟩, k2, k3, k4, k5, k6, k7, k8, k9, k10⟩ := hq'
  have hend' : s₂.frames = .throwing ax :: (.java (F0 m pc ls rest) :: U.frames.tail) := hend
  have e3 : s₂ = ({ (U.calling (F0 m pc ls rest) mk a).setFrames s₂.frames with heap := s₂.heap, slotsUsed := s₂.slotsUsed } : State).setVm s₂.vm := by
    have : s₂ = ({ s₂ with vm := (U.calling (F0 m pc ls rest) mk a).vm } : State).setVm s₂.vm := rfl
    rw [e2] at this
    exact this
  have hW' : U.WarmedH s₂.vm := hW₂
  obtain ⟨g₀, hg0⟩ := Option.isSome_iff_exists.mp hA.top
  obtain ⟨r, hr⟩ := State.topJava?_eq_some.mp hg0
  have hs₂ : s₂ = ((({ U with heap := s₂.heap, slotsUsed := s₂.slotsUsed } : State).setVm s₂.vm).setTop (F0 m pc ls rest)).pushFrame (.throwing ax) := by
    have hr' : (({ U with heap := s₂.heap, slotsUsed := s₂.slotsUsed } : State).setVm s₂.vm).frames = .java g₀ :: r := hr
    refine e3.trans ?_
    rw [hend', State.calling_eq hA.top, State.setFrames_setFrames, State.setTop_of_frames _ hr', hr]
    rw [State.pushFrame, State.setFrames_setFrames, State.frames_setFrames _ (by obtain ⟨t, ht, -⟩ := State.frames_cons hr'; exact (Array.getElem?_eq_some_iff.mp ht).1)]
    rfl
  have hsame : U.sameButNew ({ U with heap := s₂.heap, slotsUsed := s₂.slotsUsed } : State) L 1 6 := by
    refine ⟨?_, q2, q3, q4, q5, q6⟩
    obtain ⟨t, ht, -⟩ := State.frames_cons hr
    show ({ U with heap := s₂.heap, slotsUsed := s₂.slotsUsed } : State) = { U.setFrames U.frames with heap := s₂.heap, slotsUsed := s₂.slotsUsed }
    rw [State.setFrames_self ht]
  have hWs : s.WarmedH s₂.vm := State.WarmedH.trans X₁.warmed hW'
  obtain ⟨ci, hci, hlk⟩ := Cond.classLink_spec hown hclink e.platform (by rw [X.admits.platform])
  obtain ⟨gv, gw, -⟩ := State.classEntry (e := e) (vm₀ := s₂.vm) hWs hlk
  have kci : ce.cls = ci := by
    have h1 : U.vm.findClass cls = some ce.cls := k8
    rw [X₁.warmed.alike.findClass] at h1
    exact Option.some.inj (h1.symm.trans hci)
  have Z : Stand p l e R s m args below meth cod ((({ U with heap := s₂.heap, slotsUsed := s₂.slotsUsed } : State).setVm s₂.vm).setVm (s₂.vm.noted m.cls x.catchType (.cls ci))) (locs ++ L) (cells + 1) (slots + 6) :=
    ⟨X.admits, X.cas, X.clock, X.frames, X.room, X.hears, X.method, X.code, ((X₁.here.setHeapUsed s₂.heap s₂.slotsUsed).setVm hW'.alike).setVm (Vm.Alike.trans (Vm.Alike.symm hWs.alike) gw.alike), X₁.tail, gw, X₁.limits, X₁.bytes, X₁.same.trans (hsame.setVm s.vm)⟩
  have hA2 : At (({ U with heap := s₂.heap, slotsUsed := s₂.slotsUsed } : State).setVm s₂.vm) m cod below := (X₁.here.setHeapUsed s₂.heap s₂.slotsUsed).setVm hW'.alike
  have hHs : (U.calling (F0 m pc ls rest) mk a).heap = H := hU
  obtain ⟨tg, ht1, ht2⟩ := kk S' ax s₂ L k1 k3 k4 (by rw [← hHs]; exact k5.1) (fun q q1 q2 => by rw [← hHs] at q1 ⊢; exact k5.2 q q1 q2) (by rw [← hHs]; exact k6) k2 ((({ U with heap := s₂.heap, slotsUsed := s₂.slotsUsed } : State).setVm s₂.vm).setVm (s₂.vm.noted m.cls x.catchType (.cls ci))) rfl Z
  refine ⟨tg, hstep₁ _ fun acts => ?_, ht2⟩
  rw [doInvoke_state]
  refine hsteps.trans ?_
  rw [hs₂]
  refine mv_caught (g := F0 m pc ls rest) hA2 (vm' := s₂.vm.noted m.cls x.catchType (.cls ci)) (fun Q E d acts => ?_) ht1
  have hal := gw.alike
  have hms : s₂.vm.method? m = some meth := by rw [hWs.alike.method?]; exact X.method
  have hkc : ∃ k, (s₂.vm.noted m.cls x.catchType (.cls ci)).classes[ci]? = some k := by
    refine Vm.classAt_of_findClass (name := cls) ?_
    rw [hal.findClass]
    exact hci
  refine mv_fhs (meth := meth) (code := cod) hms X.code htab hcov hct gv (by rw [Vm.size_noted]; exact Nat.le_refl _) (cell := ce) k7 (fun k h => by rw [k10] at h; cases h) (by rw [kci]; exact hkc) hkc ?_
  have h9 : U.vm.assignable ce.cls ce.cls = true := k9
  rw [X₁.warmed.alike.assignable] at h9
  rw [hal.assignable, ← kci]
  exact h9
end MVJ
