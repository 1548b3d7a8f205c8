/-! A start anew: what stands now is taken as the method's start. Then a 'throw new' of a message that is a known constant, without stack traces. -/
section MVX
variable {p : Program} {l : Launch} {e : Env} {R : Room} {s : State} {m : MethodId} {args : Array Value} {below : List Frame} {meth : Method} {cod : Code} {T : State} {locs : List Loc} {cells slots : Nat}
def mv_now (s T : State) : State := ({ s with heap := T.heap, slotsUsed := T.slotsUsed } : State).setVm T.vm
def mv_less (R : Room) (cells slots : Nat) : Room := { R with cells := R.cells - cells, slots := R.slots - slots }
theorem mv_rebase (X : Stand p l e R s m args below meth cod T locs cells slots) (hc : cells ≤ R.cells) (hs : slots ≤ R.slots) : Stand p l e (mv_less R cells slots) (mv_now s T) m args below meth cod T [] 0 0 := by
  have hal := X.warmed.alike
  have hloc : (mv_now s T).localsInUse = s.localsInUse := by
    have h1 : (mv_now s T).frames = s.frames := rfl
    unfold State.localsInUse
    rw [h1, X.frames]
    simp only
    rw [show (mv_now s T).vm.method? m = s.vm.method? m from hal.method? m]
  have hsame := X.same
  refine ⟨X.admits, X.cas, X.clock, X.frames, ?_, ?_, ?_, X.code, X.here, X.tail, State.WarmedH.refl (mv_now s T), X.limits, X.bytes, ?_⟩
  · have h := X.room
    simp only [State.hasRoom, Bool.and_eq_true, decide_eq_true_eq] at h ⊢
    obtain ⟨⟨⟨⟨h1, h2⟩, h3⟩, h4⟩, h5⟩ := h
    have q3 : T.heap.size ≤ s.heap.size + cells := hsame.2.2.1
    have q4 : T.slotsUsed = s.slotsUsed + ((T.heap.toList.drop s.heap.size).map (·.slots.size)).sum := hsame.2.2.2.1
    have q5 : ((T.heap.toList.drop s.heap.size).map (·.slots.size)).sum ≤ slots := hsame.2.2.2.2.1
    rw [hloc]
    refine ⟨⟨⟨⟨h1, h2⟩, ?_⟩, ?_⟩, X.book⟩
    · show T.heap.size + (R.cells - cells) ≤ _
      omega
    · show T.slotsUsed + (R.slots - slots) ≤ _
      omega
  · have h := X.hears
    unfold State.hears at h ⊢
    split at h
    · simp only [State.code?_eq] at h ⊢
      rw [show ∀ q, (mv_now s T).vm.method? q = s.vm.method? q from hal.method?]
      exact h
    · rfl
    · rfl
    · rw [show (mv_now s T).vm.method? m = s.vm.method? m from hal.method? m]
      exact h
  · rw [show (mv_now s T).vm.method? m = s.vm.method? m from hal.method? m]
    exact X.method
  · have e1 : T.setVm (mv_now s T).vm = T := State.setVm_self T
    rw [e1]
    refine ⟨?_, Nat.le_refl _, Nat.le_refl _, ?_, ?_, ?_⟩
    · have h := congrArg (fun z : State => z.setVm T.vm) hsame.1
      exact h
    · show T.slotsUsed = T.slotsUsed + _
      rw [show (mv_now s T).heap = T.heap from rfl, List.drop_eq_nil_of_le (by simp)]
      rfl
    · rw [show (mv_now s T).heap = T.heap from rfl, List.drop_eq_nil_of_le (by simp)]
      exact Nat.le_refl _
    · intro a c hac
      exact ⟨c, hac, rfl, rfl, fun _ _ => rfl⟩
theorem mv_cells_same {s U : State} {cells slots : Nat} (h : s.sameButNew U [] cells slots) {q : Nat} (hq : q < s.heap.size) : U.heap[q]? = s.heap[q]? := by
  obtain ⟨c, hc⟩ : ∃ c, s.heap[q]? = some c := ⟨_, Array.getElem?_eq_getElem hq⟩
  obtain ⟨c', h1, h2, h3, h4⟩ := h.2.2.2.2.2 q c hc
  rw [h1, hc]
  have e : c'.slots = c.slots := by
    refine Array.ext_getElem? (fun i => ?_)
    exact h4 i (by simp)
  rw [h2, e]
set_option maxHeartbeats 2000000 in
theorem mv_throw (X : Stand p l e R s m args below meth cod T locs cells slots) (hx : p.tables.exec = Jvm.exec) (htr : e.platform.stackTraces = false) {cc : ByteArray} (hb : cod.code = cc) (hc : cells + 1 ≤ R.cells) (hs : slots + 6 ≤ R.slots)
    {own cls text Y : String} {r : List String} {ik is ic ix pc sa : Nat} {rx : ByteArray} {ls : Array Slot}
    (hown : (mv_now s T).vm.findClass own = some m.cls) (hcls : Bundle.fit cls = true) (hY : Bundle.fit Y = true) (hr : ∀ n ∈ r, Bundle.fit n = true)
    (x0 : decode rx 0 = .ok (.aload_n 0, 1)) (x1 : decode rx 1 = .ok (.aload_n 1, 1)) (x2 : decode rx 2 = .ok (.invokespecial ix, 3)) (x5 : decode rx 5 = .ok (.return_, 1))
    (w1 : (Cond.classLink own ik cls).before args (mv_now s T) = true) (w2 : (Cond.instantiable cls 6).before args (mv_now s T) = true) (w3 : (Cond.initialized cls).before args (mv_now s T) = true)
    (hZ : vk_R own is text sa (mv_now s T)) (hat : ∀ a ∈ mv_Xat own ic cls ix rx Y r, a.before args (mv_now s T) = true) (hsize : ls.size = cod.maxLocals)
    (d0 : decode cc pc = .ok (.new ik, 3)) (d3 : decode cc (pc + 3) = .ok (.dup, 1)) (d4 : decode cc (pc + 4) = .ok (.ldc is, 2)) (d6 : decode cc (pc + 6) = .ok (.invokespecial ic, 3)) (d9 : decode cc (pc + 9) = .ok (.athrow, 1))
    (hout : ∀ x ∈ cod.exceptionTable.toList, covers x (pc + 9) = false) (hRf : r.length + 4 < R.frames) (hRl : 13 * (r.length + 2) + 43 ≤ R.locals) (hlocks : meth.locks = false) :
    ∃ (U : State) (ce : Cell), Steps p.tables e below (T.setTop (F0 m pc ls [])) U ∧ U.status = .running ∧ Ended U below (.threw T.heap.size) ∧ (mv_now s T).WarmedH U.vm ∧ (mv_now s T).sameButNew ({ U with vm := (mv_now s T).vm } : State) [] 1 6 ∧ (∀ q, q < T.heap.size → U.heap[q]? = T.heap[q]?) ∧ U.heap.size = T.heap.size + 1 ∧ U.heap[T.heap.size]? = some ce ∧ (mv_now s T).vm.findClass cls = some ce.cls ∧ (mv_now s T).vm.assignable ce.cls ce.cls = true ∧ ce.vm = .none := by
  have X' := mv_rebase X (by omega) (by omega)
  obtain ⟨cC, kC0, hfc, hk0, -⟩ := Cond.instantiable_spec w2
  have key : W p l e (mv_less R cells slots) (mv_now s T) m args below meth cod T.heap [] 0 0 (fun U => U.status = .running ∧ Ended U below (.threw T.heap.size) ∧ (mv_now s T).WarmedH U.vm ∧ (mv_now s T).sameButNew ({ U with vm := (mv_now s T).vm } : State) [] 1 6 ∧ ∃ ce, U.heap[T.heap.size]? = some ce ∧ (mv_now s T).vm.findClass cls = some ce.cls ∧ (mv_now s T).vm.assignable ce.cls ce.cls = true ∧ ce.vm = .none) (F0 m pc ls []) := by
    refine W.newcK (n := 6) hx hb hown w1 w2 w3 rfl d0 (by show 0 + 1 ≤ R.cells - cells; omega) (by show 0 + 6 ≤ R.slots - slots; omega) hfc rfl fun H1 kC hkC e1 z1 o1 => ?_
    refine lv_dup hx hb d3 rfl ?_
    refine va_ldcS hx hb hown hZ d4 ?_
    intro T1 hT1 X1
    obtain ⟨U, ce, st, run, en, wm, sm, hce, k1, k2, k3⟩ := mv_ctor X1 hx htr (own := own) (cls := cls) (ic := ic) hown hcls hY hr x0 x1 x2 x5 hat hfc hkC (by rw [hT1]; exact e1) (Nat.le_refl _) (msg := .ref sa) rfl (pc := pc + 6) (ls := ls) hsize (by rw [hb]; exact d6) (by rw [hb]; exact d9) hout hRf hRl hlocks
    exact ⟨U, st, run, en, wm, sm, ce, hce, k1, k2, k3⟩
  obtain ⟨U, st, run, en, wm, sm, ce, hce, k1, k2, k3⟩ := key T rfl X'
  have hcs : ∀ q, q < T.heap.size → U.heap[q]? = T.heap[q]? := fun q hq => mv_cells_same sm hq
  have hz : U.heap.size = T.heap.size + 1 := by
    have h1 : U.heap.size ≤ T.heap.size + 1 := sm.2.2.1
    have h2 : T.heap.size < U.heap.size := (Array.getElem?_eq_some_iff.mp hce).1
    omega
  exact ⟨U, ce, st, run, en, wm, sm, hcs, hz, hce, k1, k2, k3⟩
end MVX
