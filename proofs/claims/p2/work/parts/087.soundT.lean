/-! The contract of a method that throws. -/
theorem mv_notrace {l : Launch} {e : Env} (h : l.admits e) (hl : l.flags.contains noTraceFlag = true) : e.platform.stackTraces = false := by
  rw [h.platform]
  simp only [Launch.stackTraces, hl]
  rfl
def mv_PT (A : Nat → Prop) (D : va_G) (cl : List vw_C) (kd : List (List Nat)) (cA : Nat → ClassId) (ad : Nat → Nat) (cls : String) (Qt : mv_S → Prop) : Array Value → State → Outcome → State → Prop :=
  fun _ st o t => ∃ (S' : mv_S) (ax : Addr) (ce : Cell) (L : List Loc), Qt S' ∧ o = .threw ax ∧ st.WarmedH t.vm ∧ st.sameButNew ({ t with vm := st.vm } : State) L 1 6 ∧ (∀ q ∈ L, A q.base) ∧ va_P D cl (mv_ws kd cA ad S') t.heap ∧ va_D A (mv_ws kd cA ad S') ∧ va_F A st t ∧ t.heap.size = st.heap.size + 1 ∧ t.heap[ax]? = some ce ∧ st.vm.findClass cls = some ce.cls ∧ st.vm.assignable ce.cls ce.cls = true ∧ ce.vm = .none
def mv_PreT (A : Nat → Prop) (D : va_G) (cl : List vw_C) (kd : List (List Nat)) (cA : Nat → ClassId) (ad : Nat → Nat) (Nw : List Jvm.Cond) (sta : Nat → List Int32) (stn : List (String × String × String)) (as : List Value) (S : mv_S) (Fw : List Jvm.Cond) (own : String) (is : Nat) (text : String) (sa : Nat) : Array Value → State → Prop := fun v U => mv_Pre A D cl kd cA ad Nw sta stn as S v U ∧ mv_Ex Fw own is text sa A U
/-- the rows of a 'throw new X("text")' at tp, and the words that it wants -/
def mv_Thr (Ts Fw : List Jvm.Cond) (M : mv_Me) (tp : Nat) (cls Y : String) (r : List String) (ik is ic ix : Nat) (rx : ByteArray) : Prop :=
  decode (mv_cc M) tp = .ok (.new ik, 3) ∧ decode (mv_cc M) (tp + 3) = .ok (.dup, 1) ∧ decode (mv_cc M) (tp + 4) = .ok (.ldc is, 2) ∧ decode (mv_cc M) (tp + 6) = .ok (.invokespecial ic, 3) ∧ decode (mv_cc M) (tp + 9) = .ok (.athrow, 1) ∧
  Bundle.fit cls = true ∧ Bundle.fit Y = true ∧ (∀ n ∈ r, Bundle.fit n = true) ∧ (decode rx 0 = .ok (.aload_n 0, 1) ∧ decode rx 1 = .ok (.aload_n 1, 1) ∧ decode rx 2 = .ok (.invokespecial ix, 3) ∧ decode rx 5 = .ok (.return_, 1)) ∧ Jvm.Cond.classLink (mv_ow M) ik cls ∈ Ts ∧ Jvm.Cond.instantiable cls 6 ∈ Ts ∧ Jvm.Cond.initialized cls ∈ Ts ∧
  (∀ a ∈ mv_Xat (mv_ow M) ic cls ix rx Y r, a ∈ Ts ∨ a ∈ Fw ∨ a = Jvm.Cond.isRef (.static "java/lang/Throwable" "UNASSIGNED_STACK" "[Ljava/lang/StackTraceElement;") ∨ a = Jvm.Cond.isRef (.static "java/lang/Throwable" "SUPPRESSED_SENTINEL" "Ljava/util/List;") ∨ a = Jvm.Cond.laysStatic "java/lang/Throwable" "UNASSIGNED_STACK" "[Ljava/lang/StackTraceElement;" ∨ a = Jvm.Cond.laysStatic "java/lang/Throwable" "SUPPRESSED_SENTINEL" "Ljava/util/List;")
/-- words on what fits where: of a cast, of a declaration -/
def mv_Fo (Fw : List Jvm.Cond) : Prop := ∀ w ∈ Fw, (∃ C D, w = Jvm.Cond.castable C D) ∨ ∃ y, w = Jvm.Cond.declares y
theorem mv_Fo_warm {Fw : List Jvm.Cond} (hF : mv_Fo Fw) {s U : State} (hW : s.WarmedH U.vm) (h : ∀ w ∈ Fw, va_Nw w s) : ∀ w ∈ Fw, va_Nw w U := by
  intro w hw
  rcases hF w hw with ⟨C, D, rfl⟩ | ⟨y, rfl⟩
  · exact va_Nw.warmC hW (h _ hw)
  · exact va_Nw.warmD hW (h _ hw)
theorem mv_Fo_tab {Fw : List Jvm.Cond} (hF : mv_Fo Fw) {w : Jvm.Cond} (hw : w ∈ Fw) : w.onTables = true := by
  rcases hF w hw with ⟨C, D, rfl⟩ | ⟨y, rfl⟩
  · rfl
  · rfl
set_option maxHeartbeats 4000000 in
theorem mv_soundT {cl : List vw_C} {kd : List (List Nat)} {Ts Nw : List Jvm.Cond} {prog : List mv_Me} {sta : Nat → List Int32} {stn : List (String × String × String)} (Y : mv_Sy cl kd Ts Nw prog sta stn) (l : Launch) (hfl : l.flags.contains noTraceFlag = true) (A : Nat → Prop) (D : va_G) (cA : Nat → ClassId) (ad : Nat → Nat)
    {d i : Nat} {as : List Value} {S : mv_S} {M : mv_Me} (hM : prog[i]? = some M) (h2 : (mv_ent (mv_ml M) as).length = mv_ml M) (hmc : mv_mc M = 0 ∧ mv_ms M = 0) {tp : Nat} {cls text Y' : String} {r : List String} {ik is ic ix sa fr lo : Nat} {rx : ByteArray} {Fw : List Jvm.Cond} (hFw : mv_Fo Fw) (hT : mv_Thr Ts Fw M tp cls Y' r ik is ic ix rx) (hfr : mv_fr M ≤ fr ∧ r.length + 4 < fr) (hlo : mv_lo M ≤ lo ∧ 13 * (r.length + 2) + 43 ≤ lo) {Qt : mv_S → Prop}
    (h3 : mv_Gs prog sta (mv_C prog sta d) M (fun F => ∃ (lc : mv_L) (S' : mv_S), F = (tp, lc, [], 0, 0, S') ∧ Qt S') (0, mv_ent (mv_ml M) as, [], 0, 0, S)) :
    MetFree l M.1 (headSpec (Jvm.Cond.code M.1 (mv_cc M) (mv_ml M) (mv_rt M) :: Ts) { frames := fr, cells := 1, slots := 6, locals := lo }) (mv_PreT A D cl kd cA ad Nw sta stn as S Fw (mv_ow M) is text sa) (fun _ _ _ _ _ => True) (mv_PT A D cl kd cA ad cls Qt) := by
  have hMk := Y.2.2.2.1 i M hM
  obtain ⟨t0, t3, t4, t6, t9, hcls, hYf, hnames, ⟨y0, y1', y2, y5⟩, c1, c2, c3, hat⟩ := hT
  refine MetFree.of_bodyS (code := mv_cc M) (maxLocals := mv_ml M) (ret := mv_rt M) hMk.1 ?_ ?_
  · intro args s m h hn
    obtain ⟨meth, c, h1, h2, h3, h4, h5, h6, -, -⟩ := Cond.code_spec hn (atoms_spec (ws := Jvm.Cond.code M.1 (mv_cc M) (mv_ml M) (mv_rt M) :: Ts) h _ List.mem_cons_self)
    exact ⟨meth, c, h1, h2, h3, h4, h5, h6⟩
  · intro p e s m args below meth c s₁ B hml hv _
    obtain ⟨⟨rfl, v1, v2, v3, v4, v5, v6, v7⟩, hex⟩ := hv
    have hts : ∀ w ∈ (Jvm.Cond.code M.1 (mv_cc M) (mv_ml M) (mv_rt M) :: Ts), w.before _ s = true := atoms_spec (ws := Jvm.Cond.code M.1 (mv_cc M) (mv_ml M) (mv_rt M) :: Ts) B.pre
    have hown : s.vm.findClass (mv_ow M) = some m.cls := by rw [← hMk.2.1]; exact findClass_of_methodNamed B.named
    have X : mv_Cx p s m (as.map (mv_tr ad)).toArray meth c A D cl cA ad Ts Nw sta stn M := ⟨B.exec, B.bytes, hml, hown, fun w hw => hts w (List.mem_cons_of_mem _ hw), v1, v2, v4, B.notSynchronized, B.returns, (name_of_methodNamed B.named B.method).1, v3⟩
    have hno : c.exceptionTable.isEmpty = true := BodyLoose.noHandlers B (hts _ List.mem_cons_self)
    have hout : ∀ x ∈ c.exceptionTable.toList, covers x (tp + 9) = false := by
      intro x hx
      have h0 : c.exceptionTable.size = 0 := by simpa [Array.isEmpty] using hno
      have h1 : c.exceptionTable.toList = [] := List.eq_nil_of_length_eq_zero (by simpa using h0)
      rw [h1] at hx
      cases hx
    have hcl : mv_W p l e { frames := fr, cells := 1, slots := 6, locals := lo } s m (as.map (mv_tr ad)).toArray below meth c A D cl kd cA ad (mv_ml M) (fun t => ∃ o, t.status = .running ∧ Ended t below o ∧ mv_PT A D cl kd cA ad cls Qt (as.map (mv_tr ad)).toArray s o t) (0, mv_ent (mv_ml M) as, [], 0, 0, S) := by
      refine h3 _ ?_ (fun F hF => mv_close Y X hMk.2.2.2.2.2.2 ⟨hfr.1, hlo.1⟩ ⟨by rw [hmc.1]; exact Nat.zero_le _, by rw [hmc.2]; exact Nat.zero_le _⟩ (fun pc lc st vc vs S hq => ?_) hF)
      · rintro F ⟨lc, S', rfl, hQt⟩
        intro H locs ls hH hL hcs T hT0 XT
        have hTH : T.heap = H := hT0
        have hWn : s.WarmedH (mv_now s T).vm := XT.warmed
        have hSn : va_S A s.heap T.heap locs := by rw [hTH]; exact hH.2.2.1
        have hwd : ∀ w ∈ Ts, w.before (as.map (mv_tr ad)).toArray (mv_now s T) = true := fun w hw => word_at (U := mv_now s T) hWn (Y.2.1 w hw) (hts w (List.mem_cons_of_mem _ hw))
        obtain ⟨x0, x1, x2, x3, x4, x5⟩ := hex
        have y1 : vk_R (mv_ow M) is text sa (mv_now s T) := vk_R.warm hWn x1
        have zq : ∀ {C n d : String}, va_Zq C n d A s s.heap → va_Zq C n d A (mv_now s T) (mv_now s T).heap := fun h => (h.moved (U := mv_now s T) hWn.alike).kept (fun a ha hn => hSn.2.1 a ha hn)
        have hatn : ∀ a ∈ mv_Xat (mv_ow M) ic cls ix rx Y' r, a.before (as.map (mv_tr ad)).toArray (mv_now s T) = true := by
          intro a ha
          rcases hat a ha with h | h | rfl | rfl | rfl | rfl
          · exact hwd _ h
          · exact va_Nw.use (mv_Fo_tab hFw h) (mv_Fo_warm hFw hWn x0 _ h)
          · exact mv_isRef (zq x2)
          · exact mv_isRef (zq x3)
          · exact mv_Ls.use ((x4.moved (U := mv_now s T) hWn.alike).kept (fun a ha hn => hSn.2.1 a ha hn))
          · exact mv_Ls.use ((x5.moved (U := mv_now s T) hWn.alike).kept (fun a ha hn => hSn.2.1 a ha hn))
        have hownn : (mv_now s T).vm.findClass (mv_ow M) = some m.cls := by
          rw [show (mv_now s T).vm.findClass (mv_ow M) = s.vm.findClass (mv_ow M) from hWn.alike.findClass _ _]
          exact hown
        obtain ⟨U, ce, st, run, en, wm, sm, hcs2, hz, hce, o1, o2, o3⟩ := mv_throw (XT : Stand p l e _ s m _ below meth c T locs 0 0) X.1 (mv_notrace XT.admits hfl) X.2.1 (Nat.le_refl 1) (Nat.le_refl 6) hownn hcls hYf hnames y0 y1' y2 y5 (hwd _ c1) (hwd _ c2) (hwd _ c3) y1 hatn (hL.1.1.trans hml.symm) t0 t3 t4 t6 t9 hout hfr.2 hlo.2 B.notSynchronized
        refine ⟨U, st, .threw T.heap.size, run, en, S', T.heap.size, ce, locs, hQt, rfl, State.WarmedH.trans (t := mv_now s T) hWn wm, ?_, hH.2.2.1.2.2, ?_, hH.2.1, ?_, ?_, hce, ?_, ?_, o3⟩
        · have hTs : T.heap.size = s.heap.size := by rw [hTH]; exact hH.2.2.2.1
          have k4 : T.slotsUsed = s.slotsUsed + ((T.heap.toList.drop s.heap.size).map (·.slots.size)).sum := XT.same.2.2.2.1
          rw [List.drop_eq_nil_of_le (by simp [hTs])] at k4
          have k4 : T.slotsUsed = s.slotsUsed := k4
          have m4 : U.slotsUsed = T.slotsUsed + ((U.heap.toList.drop T.heap.size).map (·.slots.size)).sum := sm.2.2.2.1
          have m5 : ((U.heap.toList.drop T.heap.size).map (·.slots.size)).sum ≤ 6 := sm.2.2.2.2.1
          rw [hTs] at m4 m5
          refine ⟨congrArg (fun z : State => z.setVm s.vm) sm.1, ?_, ?_, ?_, m5, fun a c hac => ?_⟩
          · show s.heap.size ≤ U.heap.size
            omega
          · show U.heap.size ≤ s.heap.size + 1
            omega
          · show U.slotsUsed = _
            rw [m4, k4]
          · have hlt : a < s.heap.size := (Array.getElem?_eq_some_iff.mp hac).1
            obtain ⟨c', q1, q2⟩ := XT.same.2.2.2.2.2 a c hac
            exact ⟨c', by show U.heap[a]? = _; rw [hcs2 a (by rw [hTs]; exact hlt)]; exact q1, q2⟩
        · refine va_P.kept hH.1 (fun k q hk => ?_)
          have hlt := (hH.1 k q hk).lt
          rw [hcs2 q.1 (by rw [hTH]; exact hlt), hTH]
        · refine ⟨Nat.le_trans hSn.1 (by omega), fun q q1 q2 => ?_⟩
          rw [hcs2 q (Nat.lt_of_lt_of_le q1 hSn.1)]
          exact hSn.2.1 q q1 q2
        · have h4 : H.size = s.heap.size + 0 := hH.2.2.2.1
          rw [hz, hTH]
          omega
        · rw [← hWn.alike.findClass]
          exact o1
        · rw [← hWn.alike.assignable]
          exact o2
      · obtain ⟨_, _, _, _, _, _, _, _, -, -, -, -, -, hq⟩ := hq
        exact hq.elim
    have hl := lv_entry (as.map (mv_tr ad)) (n := (mv_ml M)) (by have := mv_sl_len ad as (mv_ml M); rw [h2] at this; exact this)
    have hh0 : s₁.heap = s.heap := by rw [B.state]; rfl
    have K := hcl s.heap [] _ ⟨v5, v6, va_S.rf, rfl, v7⟩ ⟨⟨hl.1, hl.2.1, fun q hq => by cases hq⟩, h2, fun j v hj => hl.2.2 _ (mv_args_tr ad as 0 j v (mv_ent_has as (mv_ml M) j v hj))⟩ ⟨Nat.zero_le _, Nat.zero_le _⟩
    have K2 : W p l e { frames := fr, cells := 1, slots := 6, locals := lo } s m (as.map (mv_tr ad)).toArray below meth c s.heap [] 0 0 (fun t => ∃ o, t.status = .running ∧ Ended t below o ∧ mv_PT A D cl kd cA ad cls Qt (as.map (mv_tr ad)).toArray s o t) (entryFrame m (as.map (mv_tr ad)).toArray (mv_ml M)) := by
      rw [lg_entry_eq]
      exact K
    obtain ⟨t, a1, o, b1, b2, b3⟩ := K2 s₁ hh0 (Stand.of_body B)
    exact ⟨t, o, a1, b1, b2, b3⟩
