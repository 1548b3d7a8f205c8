/-! A 'throw new' of a class whose constructor passes the message on by any of its links (IllegalArgumentException by 7, NoSuchElementException by 13), without stack traces. -/
/-- the words of the thrown class itself -/
def mv_Xtl (own : String) (ic : Nat) (X : String) : List Jvm.Cond :=
  [.methodLink own ic (Bundle.initS X), .instantiable X 6, .castable X X, .selects X Bundle.tFill0 Bundle.tFill0, .selects X Bundle.tFill Bundle.tFill,
   .lays X "java/lang/Throwable" "cause" "Ljava/lang/Throwable;", .lays X "java/lang/Throwable" "stackTrace" "[Ljava/lang/StackTraceElement;", .lays X "java/lang/Throwable" "suppressedExceptions" "Ljava/util/List;", .lays X "java/lang/Throwable" "detailMessage" "Ljava/lang/String;", .lays X "java/lang/Throwable" "backtrace" "Ljava/lang/Object;",
   .isRef (.static "java/lang/Throwable" "UNASSIGNED_STACK" "[Ljava/lang/StackTraceElement;"), .isRef (.static "java/lang/Throwable" "SUPPRESSED_SENTINEL" "Ljava/util/List;"),
   .fieldLink "java/lang/Throwable" 198 "java/lang/Throwable" "backtrace" "Ljava/lang/Object;", .lays "java/lang/Throwable" "java/lang/Throwable" "backtrace" "Ljava/lang/Object;"]
/-- all words of such a throw: Throwable's, the first link's, the further links', the class's own -/
def mv_Xat (own : String) (ic : Nat) (X : String) (ix : Nat) (rx : ByteArray) (Y : String) (r : List String) : List Jvm.Cond :=
  Bundle.throwableAtoms ++ (Bundle.throwableSAtoms ++ (Bundle.passSAtoms X Y ix rx ++ (Bundle.chainSAtoms Y r ++ mv_Xtl own ic X)))
section MVC
variable {p : Program} {l : Launch} {e : Env} {R : Room} {s : State} {m : MethodId} {args : Array Value} {below : List Frame} {meth : Method} {cod : Code} {T : State} {cells slots : Nat}
set_option maxHeartbeats 2000000 in
theorem mv_ctor (X : Stand p l e R s m args below meth cod T [] cells slots) (hx : p.tables.exec = Jvm.exec) (htr : e.platform.stackTraces = false) {own cls Y : String} {r : List String} {ic ix : Nat} {rx : ByteArray}
    (hown : s.vm.findClass own = some m.cls) (hcls : Bundle.fit cls = true) (hY : Bundle.fit Y = true) (hr : ∀ n ∈ r, Bundle.fit n = true)
    (x0 : decode rx 0 = .ok (.aload_n 0, 1)) (x1 : decode rx 1 = .ok (.aload_n 1, 1)) (x2 : decode rx 2 = .ok (.invokespecial ix, 3)) (x5 : decode rx 5 = .ok (.return_, 1))
    (h : ∀ w ∈ mv_Xat own ic cls ix rx Y r, w.before args s = true)
    {a : Addr} {cX : ClassId} {kX : Class} (hfX : s.vm.findClass cls = some cX) (hkX : s.vm.classes[cX]? = some kX) (hcell : T.heap[a]? = some (freshCell cX kX)) (hnew : s.heap.size ≤ a) {msg : Value} (hmsg : msg.isRef = true)
    {pc : Nat} {ls : Array Slot} (hsize : ls.size = cod.maxLocals) (d6 : decode cod.code pc = .ok (.invokespecial ic, 3)) (d9 : decode cod.code (pc + 3) = .ok (.athrow, 1)) (hout : ∀ q ∈ cod.exceptionTable.toList, covers q (pc + 3) = false)
    (hRf : r.length + 4 < R.frames) (hRl : 13 * (r.length + 2) + 43 ≤ R.locals) (hlocks : meth.locks = false) :
    ∃ (U : State) (ce : Cell), Steps p.tables e below (T.setTop (F0 m pc ls [msg, .ref a, .ref a])) U ∧ U.status = .running ∧ Ended U below (.threw a) ∧ s.WarmedH U.vm ∧ s.sameButNew ({ U with vm := s.vm } : State) [] cells slots ∧
      U.heap[a]? = some ce ∧ s.vm.findClass cls = some ce.cls ∧ s.vm.assignable ce.cls ce.cls = true ∧ ce.vm = .none := by
  have hpl : e.platform.magicAccessors = ({} : Platform).magicAccessors := by rw [X.admits.platform]
  have m1 : ∀ w ∈ Bundle.throwableAtoms, w.before args s = true := fun w hw => h w (List.mem_append_left _ hw)
  have m2 : ∀ w ∈ Bundle.throwableSAtoms, w.before args s = true := fun w hw => h w (List.mem_append_right _ (List.mem_append_left _ hw))
  have m3 : ∀ w ∈ Bundle.passSAtoms cls Y ix rx, w.before args s = true := fun w hw => h w (List.mem_append_right _ (List.mem_append_right _ (List.mem_append_left _ hw)))
  have m4 : ∀ w ∈ Bundle.chainSAtoms Y r, w.before args s = true := fun w hw => h w (List.mem_append_right _ (List.mem_append_right _ (List.mem_append_right _ (List.mem_append_left _ hw))))
  have m5 : ∀ w ∈ mv_Xtl own ic cls, w.before args s = true := fun w hw => h w (List.mem_append_right _ (List.mem_append_right _ (List.mem_append_right _ (List.mem_append_right _ hw))))
  obtain ⟨TC, Z0, L, -, Ti⟩ := ThrowableC.of_atoms (args := args) (pl := e.platform) (by rw [X.admits.platform]) (by rw [X.admits.platform]) hpl m1
  obtain ⟨Z, M, LZ, LM, hnZ⟩ := Init0T.ofS_atoms (args := args) hpl L Ti m2
  obtain ⟨P1, L1, hP1, hsup⟩ := PassC.ofS_atoms (args := args) (s := s) hpl (X := cls) (Y := Y) (Bundle.fit_spec hcls).1 (Bundle.fit_spec hY).2 x0 x1 x2 x5 m3
  obtain ⟨P2, Ps, hlen, L2, hLs, hP2, hk2, hpass⟩ := Bundle.chainS (args := args) hpl hnZ r Y hY hr m4
  have e12 : P1.sup = P2.m := Option.some.inj (hsup.symm.trans hP2)
  have hfd : s.vm.findClass cls = some P1.m.cls := findClass_of_methodNamed hP1
  cases Option.some.inj (hfX.symm.trans hfd)
  obtain ⟨c1, k1, hc1, hk, hord, -, -, -⟩ := Cond.instantiable_spec (m5 (.instantiable cls 6) (by simp [mv_Xtl]))
  cases Option.some.inj (hc1.symm.trans hfd)
  cases Option.some.inj (hkX.symm.trans hk)
  have sel : ∀ (y : MethodName) (f : MethodId), s.methodNamed? y = some f → (y.cls ≠ "java/lang/invoke/MethodHandle" ∧ y.cls ≠ "java/lang/invoke/VarHandle") → (Jvm.Cond.selects cls y y).before args s = true → selectMethod e.platform s.vm P1.m.cls f = .method f := by
    intro y f hf hy hs
    obtain ⟨c2, r2, f2, q1, q2, q3, q4, -⟩ := Cond.selects_spec hs
    cases Option.some.inj (q1.symm.trans hfd)
    cases Option.some.inj (q2.symm.trans (State.methodFound?_of_named hf hy))
    cases Option.some.inj (q3.symm.trans hf)
    rw [Launch.admits_selectMethod X.admits]
    exact q4
  have sel0 := sel Bundle.tFill0 TC.fill0 Ti.fill0 (by decide) (m5 _ (by simp [mv_Xtl]))
  have selF := sel Bundle.tFill TC.fill Ti.fill (by decide) (m5 _ (by simp [mv_Xtl]))
  obtain ⟨cS, hcS, hisS⟩ := Ti.statics
  obtain ⟨u0, hu0⟩ := Cond.staticRefV Ti.unassigned L.unassignedStatic L.statics hcS hisS (m5 (.isRef (.static "java/lang/Throwable" "UNASSIGNED_STACK" "[Ljava/lang/StackTraceElement;")) (by simp [mv_Xtl]))
  obtain ⟨u1, hu1⟩ := Cond.staticRefV Ti.sentinel L.sentinelStatic L.statics hcS hisS (m5 (.isRef (.static "java/lang/Throwable" "SUPPRESSED_SENTINEL" "Ljava/util/List;")) (by simp [mv_Xtl]))
  obtain ⟨ci, ii, fB, b1, b2, b3, b4, -, hnB, htB, hfB⟩ := Cond.ownField (t := .object "java/lang/Object") Ti.found L.cls (by decide +kernel) (m5 (.fieldLink "java/lang/Throwable" 198 "java/lang/Throwable" "backtrace" "Ljava/lang/Object;") (by simp [mv_Xtl])) (m5 (.lays "java/lang/Throwable" "java/lang/Throwable" "backtrace" "Ljava/lang/Object;") (by simp [mv_Xtl])) e.platform hpl
  obtain ⟨cW, hcW, heW, -, hkeep⟩ := X.same.2.2.2.2.2 TC.aS cS hcS
  have hcW' : T.heap[TC.aS]? = some cW := hcW
  have hkp : ∀ i : Nat, cW.slots[i]? = cS.slots[i]? := fun i => hkeep i (by simp)
  have hknW : cW.vm ≠ .unknown := by
    rw [heW]
    intro hu
    have hu' : cS.vm = .unknown := hu
    rw [hu'] at hisS
    cases hisS
  have hneS : TC.aS ≠ a := Nat.ne_of_lt (Nat.lt_of_lt_of_le (Array.getElem?_eq_some_iff.mp hcS).1 hnew)
  obtain ⟨iM, hfM⟩ := Ti.msg
  obtain ⟨tC, dC, gC, nC⟩ := Cond.laysAt hfd hk Ti.cause (m5 (.lays cls "java/lang/Throwable" "cause" "Ljava/lang/Throwable;") (by simp [mv_Xtl]))
  obtain ⟨tS, dS, gS, nS⟩ := Cond.laysAt hfd hk Ti.stack (m5 (.lays cls "java/lang/Throwable" "stackTrace" "[Ljava/lang/StackTraceElement;") (by simp [mv_Xtl]))
  obtain ⟨tP, dP, gP, nP⟩ := Cond.laysAt hfd hk Ti.supp (m5 (.lays cls "java/lang/Throwable" "suppressedExceptions" "Ljava/util/List;") (by simp [mv_Xtl]))
  obtain ⟨tM, dM, gM, nM⟩ := Cond.laysAt hfd hk hfM (m5 (.lays cls "java/lang/Throwable" "detailMessage" "Ljava/lang/String;") (by simp [mv_Xtl]))
  obtain ⟨tB, dB, gB, nB⟩ := Cond.laysAt hfd hk hfB (m5 (.lays cls "java/lang/Throwable" "backtrace" "Ljava/lang/Object;") (by simp [mv_Xtl]))
  have sBC := Cond.laysApart gB gC nB nC (by rw [hnB, Ti.causeName]; decide)
  have sBS := Cond.laysApart gB gS nB nS (by rw [hnB, Ti.stackName]; decide)
  have sBP := Cond.laysApart gB gP nB nP (by rw [hnB, Ti.suppName]; decide)
  have hskip : SkipFacts TC e.platform s (fun u => u) u0 ((preparedCellV TC.toThrowableT (freshCell P1.m.cls kX) a u0 u1).withEntry T.cur) := by
    refine ⟨{ ci198 := ci, i198 := ii, fBack := fB }, ⟨b1, b2, b3, b4⟩, ?_, fun _ _ => rfl⟩
    have hd := fresh_default (c := P1.m.cls) tB
    rw [htB] at hd
    simpa [preparedCellV, Cell.setSlot, Cell.withEntry, Array.getElem?_setIfInBounds, sBC, sBS, sBP, sBC.symm, sBS.symm, sBP.symm, defaultValue] using hd
  obtain ⟨tm, methC, cdC, kC, vm₁, hnC, -, -, -, -, -, -, -, hW₁, st1⟩ := Steps.initColdS (tb := p.tables) (e := e) (below := below) (s := s) (U := T) X.here hx X.warmed hpl hown (t := Bundle.initS cls) rfl rfl (Bundle.fit_spec hcls).2
    (m5 (.methodLink own ic (Bundle.initS cls)) (by simp [mv_Xtl])) (m3 (.instanceMethod (Bundle.initS cls)) (by simp [Bundle.passSAtoms])) (bytes := rx) (maxL := 2) (m3 (.code (Bundle.initS cls) rx 2 none) (by simp [Bundle.passSAtoms]))
    (f := F0 m pc ls [msg, .ref a, .ref a]) rfl (a := a) (msg := msg) (rest := [.ref a]) rfl d6
  cases Option.some.inj (hnC.symm.trans hP1)
  have X₁ := X.noted hW₁
  obtain ⟨vm₂, X₂, st2⟩ := X₁.ctorMessageOffV hx (g := F0 m pc ls [.ref a]) rfl hsize TC L Z LZ M LM (P1 :: P2 :: Ps)
    (fun P hP => by
      rcases List.mem_cons.mp hP with rfl | hP
      · exact L1
      · rcases List.mem_cons.mp hP with rfl | hP
        · exact L2
        · exact hLs P hP) ⟨e12, hk2, hpass⟩ (u0 := u0) (sen := u1) (self := a) hmsg (cell := freshCell P1.m.cls kX) (cellS := cW)
    hcell (fun _ => by simp) (by simp) rfl rfl sel0 selF hcW' hneS hknW (by rw [hkp]; exact hu0) (by rw [hkp]; exact hu1)
    (Takes.of_laid hk hord tC (by rw [Ti.causeType]; rfl)) (Takes.of_laid hk hord tS (by rw [Ti.stackType]; exact fits_refV_array _ u0)) (Takes.of_laid hk hord tP (by rw [Ti.suppType]; exact fits_refV_object _ u1))
    (Takes.of_laid hk hord tM (by rw [Ti.msgType]; exact fits_refV_object _ ⟨msg, hmsg⟩)) Ti.objLocals hskip htr [] d6
    (by simp only [List.length_cons, hlen]; omega) (by
      simp only [List.length_cons, hlen]
      show 2 * 0 + 1 + _ ≤ _
      omega)
  obtain ⟨hwalk, hrun, hended, hWU, hsame⟩ := X₂.athrowLeaves hx (g := F0 m (pc + 3) ls [.ref a]) rfl rfl rfl hout (a := a) (rest := []) rfl d9 hlocks
  obtain ⟨c3, c4, hc3, hc4, hasg⟩ := Cond.castable_spec (m5 (.castable cls cls) (by simp [mv_Xtl]))
  cases Option.some.inj (hc3.symm.trans hfd)
  cases Option.some.inj (hc4.symm.trans hfd)
  have hlt : a < ((T.setVm vm₁).setVm vm₂).heap.size := (Array.getElem?_eq_some_iff.mp hcell).1
  have hU := heapAt_setCell_self (s := (T.setVm vm₁).setVm vm₂) (plainBareV TC.toThrowableT (freshCell P1.m.cls kX) a u0 u1 msg) hlt
  refine ⟨_, _, st1 _ (fun acts => ?_), hrun, hended, hWU, hsame.weaken (fun q hq hlq => ?_) (Nat.le_refl _) (Nat.le_refl _), hU, hfd, hasg, rfl⟩
  · rw [doInvoke_state]
    exact st2 _ hwalk
  · exfalso
    have hb : q.base = a := by
      simp only [List.nil_append, List.mem_cons, List.not_mem_nil, or_false] at hq
      rcases hq with rfl | rfl | rfl | rfl | rfl <;> rfl
    rw [hb] at hlq
    exact Nat.not_lt.mpr hnew hlq
end MVC
