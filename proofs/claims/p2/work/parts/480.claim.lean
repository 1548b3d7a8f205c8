/-! From the entry: the world, and the claim. -/
def kx_I : List Jvm.Cond := [.instantiable "KindJudge" 6, .instantiable "KindJudge$Book" 4, .instantiable "KindJudge$Bytes" 2, .instantiable "KindJudge$Layout" 9, .instantiable "KindJudge$Classes" 5, .instantiable "KindJudge$Signatures" 4, .instantiable "KindJudge$Reader" 3, .instantiable "KindJudge$Code" 3, .instantiable "KindJudge$Flow" 12, .instantiable "KindJudgeModel" 37, .arrayClass .int, .arrayClass .boolean, .arrayClass .byte, .arrayClass .long, .initialized "java/lang/Throwable", .initialized "KindJudge$Code"]
set_option maxRecDepth 100000 in
set_option maxHeartbeats 4000000 in
theorem kx_Iok : kx_I.all (mv_has lw_tbl) = true := by decide +kernel
theorem kx_in (k : Nat) {w : Jvm.Cond} (h : kx_I[k]? = some w) : w ∈ kjTs := kt_all kx_Iok w (List.mem_of_getElem? h)
set_option maxRecDepth 100000 in
set_option maxHeartbeats 4000000 in
theorem kx_any : [kt_LU, kt_LV, Jvm.Cond.stringRef "KindJudge" 41 "what was put together has a fault", Jvm.Cond.stringRef "KindJudge" 100 "no such instruction, or nothing such of it", Jvm.Cond.laysStatic "KindJudge$Code" "SIZES" "[I", Jvm.Cond.laysStatic "KindJudge$Code" "TAKES" "[I", Jvm.Cond.laysStatic "KindJudge$Code" "PUTS" "[I"].all (fun a => lw_tbl.any (fun x => decide (x = a))) = true := by decide +kernel
theorem kx_mem (k : Nat) {w : Jvm.Cond} (h : ([kt_LU, kt_LV, Jvm.Cond.stringRef "KindJudge" 41 "what was put together has a fault", Jvm.Cond.stringRef "KindJudge" 100 "no such instruction, or nothing such of it", Jvm.Cond.laysStatic "KindJudge$Code" "SIZES" "[I", Jvm.Cond.laysStatic "KindJudge$Code" "TAKES" "[I", Jvm.Cond.laysStatic "KindJudge$Code" "PUTS" "[I"] : List Jvm.Cond)[k]? = some w) : w ∈ lw_tbl := mv_any_in (List.all_eq_true.mp kx_any w (List.mem_of_getElem? h))
theorem kx_inst {k : Nat} {q : vw_C} (h : kjCl[k]? = some q) : Jvm.Cond.instantiable q.1 q.2.2 ∈ kjTs := by
  match k, h with
  | 0, h => cases h; exact kx_in 0 rfl
  | 1, h => cases h; exact kx_in 1 rfl
  | 2, h => cases h; exact kx_in 2 rfl
  | 3, h => cases h; exact kx_in 3 rfl
  | 4, h => cases h; exact kx_in 4 rfl
  | 5, h => cases h; exact kx_in 5 rfl
  | 6, h => cases h; exact kx_in 6 rfl
  | 7, h => cases h; exact kx_in 7 rfl
  | 8, h => cases h; exact kx_in 8 rfl
  | 9, h => cases h; exact kx_in 9 rfl
  | n + 10, h => cases h
theorem kx_arr {s : State} {args : Array Value} {ty : FieldType} (h : (Jvm.Cond.arrayClass ty).before args s = true) : ∃ cA : ClassId, ArrOfT s cA ty ∧ s.vm.findClass ("[" ++ ty.toString) = some cA := by
  obtain ⟨c, k, comp, h1, h2, h3⟩ := Cond.arrayClass_spec h
  exact ⟨c, fun n z => ⟨fun k h => (by cases h), k, h2, comp, h3⟩, h1⟩
theorem kx_ex {s : State} {args : Array Value} (hts : ∀ w ∈ lw_tbl, w.before args s = true) (hU : kt_U.before args s = true) (hV : kt_V.before args s = true) {is : Nat} {text : String} (hr : (Jvm.Cond.stringRef "KindJudge" is text).before args s = true) (he : (Jvm.Cond.exactly (.string "KindJudge" is) "java/lang/String").before args s = true) : ∃ (text : String) (sa : Nat), mv_Ex kt_F "KindJudge" is text sa (kw_A s) s := by
  obtain ⟨a, _, _, _, ha, -⟩ := Cond.exactly_spec he
  have hA : ∀ q : Nat, q < s.heap.size → ¬ kw_A s q := fun q hq h => absurd h (Nat.not_le.mpr hq)
  have hin : (Jvm.Cond.initialized "java/lang/Throwable").before args s = true := hts _ (List.mem_filter.mp (kx_in 14 rfl)).1
  have hLU : kt_LU.before args s = true := hts _ (kx_mem 0 rfl)
  have hLV : kt_LV.before args s = true := hts _ (kx_mem 1 rfl)
  exact ⟨text, a, fun w hw => va_Nw.of (mv_Fo_tab kt_Fo hw) (hts w (mv_any_in (List.all_eq_true.mp kt_Fin w hw))), vk_R.of hr ha, va_Zqof hLU hin hU hA, va_Zqof hLV hin hV hA, mv_Ls.of hLU hA, mv_Ls.of hLV hA⟩
/-- what the Statement tells of a table of the Code -/
def kx_sw (C n d : String) (vals : List Int32) : List Jvm.Cond := .arrayOf (.static C n d) .int :: .eq (.length (.static C n d)) (.int (Int32.ofNat vals.length)) :: (List.range vals.length).map (fun j => .eq (.elem (.static C n d) (.int (Int32.ofNat j))) (.int (vals.getD j 0)))
theorem kx_st {s : State} {args : Array Value} {A : Nat → Prop} (hA : ∀ a : Nat, a < s.heap.size → ¬ A a) {C n d : String} {vals : List Int32} (hN : vals.length < 2 ^ 31) (hl : (Jvm.Cond.laysStatic C n d).before args s = true) (hini : (Jvm.Cond.initialized C).before args s = true) (hw : ∀ w ∈ kx_sw C n d vals, w.before args s = true) : ∃ t : Nat, va_Z C n d (.ref t) A s s.heap ∧ va_T .int t vals.length (fun j => .int (vals.getD j 0)) A s s.heap := by
  obtain ⟨t, ht, hT⟩ := va_Tof (f := fun j => .int (vals.getD j 0)) (A := A) hN (hw _ (List.Mem.head _)) (va_eqt (hw _ (List.Mem.tail _ (List.Mem.head _)))) (fun j hj => va_eqt (hw _ (List.Mem.tail _ (List.Mem.tail _ (List.mem_map.mpr ⟨j, List.mem_range.mpr hj, rfl⟩))))) hA
  exact ⟨t, va_Zof hl hini ht hA, hT⟩
set_option maxRecDepth 100000 in
set_option maxHeartbeats 4000000 in
theorem kx_e0 : kx_sw "KindJudge$Code" "SIZES" "[I" (kjSta 0) = ((flatC (Jvm.Cond.and given_1 narrow_1)).drop 5).take 56 := by decide +kernel
set_option maxRecDepth 100000 in
set_option maxHeartbeats 4000000 in
theorem kx_e1 : kx_sw "KindJudge$Code" "TAKES" "[I" (kjSta 1) = ((flatC (Jvm.Cond.and given_1 narrow_1)).drop 62).take 56 := by decide +kernel
set_option maxRecDepth 100000 in
set_option maxHeartbeats 4000000 in
theorem kx_e2 : kx_sw "KindJudge$Code" "PUTS" "[I" (kjSta 2) = ((flatC (Jvm.Cond.and given_1 narrow_1)).drop 119).take 56 := by decide +kernel
set_option maxHeartbeats 4000000 in
/-- from the entry, for every script of at most 2048 ints, the law comes to its end with true -/
theorem whole_start {p : Program} {e : Env} {s : State} {m : MethodId} {below : List Frame} {meth : Method} {c : Code} (l : Launch) (hfl : l.flags.contains noTraceFlag = true) {b L : Nat} {xs : Nat → Int32} (hL : L ≤ 2048) (C0 : lw_At p s m meth c b L xs) : W p l e room_1 s m #[Value.ref b] below meth c s.heap [] 0 0 (lw_Z below #[Value.ref b] s) (entryFrame m ([Value.ref b] : List Value).toArray 7) := by
  obtain ⟨hx, hb, hr, hml, hown, hts, hX, hbl, hlocks, hgv, hnm⟩ := id C0
  have htk : ∀ w ∈ kjTs, w.before #[Value.ref b] s = true := fun w hw => hts w (List.mem_filter.mp hw).1
  have hch : ∀ k : Nat, ∃ q : ClassId × (Nat → Nat), ∀ c : vw_C, kjCl[k]? = some c → u_Kn s c.1 c.2.1 c.2.2 q.1 q.2 := by
    intro k
    cases hk : kjCl[k]? with
    | none => exact ⟨(0, fun _ => 0), fun c hc => by cases hc⟩
    | some q =>
      obtain ⟨cC, iS, h⟩ := u_known (C := q.1) (T := q.2.1) (N := q.2.2) (n := q.2.2) htk (kjCl_ok k q.1 q.2.1 q.2.2 hk).1 (htk _ (kx_inst hk))
      exact ⟨(cC, iS), fun c hc => by cases hc; exact h⟩
  obtain ⟨f, hf⟩ := Classical.axiomOfChoice hch
  obtain ⟨a0, g0, f0⟩ := kx_arr (htk _ (kx_in 10 rfl))
  obtain ⟨a1, g1, f1⟩ := kx_arr (htk _ (kx_in 11 rfl))
  obtain ⟨a2, g2, f2⟩ := kx_arr (htk _ (kx_in 12 rfl))
  obtain ⟨a3, g3, f3⟩ := kx_arr (htk _ (kx_in 13 rfl))
  have hK : va_K (fun k => (f k).1, fun k => (f k).2) kjCl (mv_tys (fun k => match k with
    | 0 => a0
    | 1 => a1
    | 2 => a2
    | _ => a3)) s := by
    refine ⟨fun k q hq => hf k q hq, fun k q hk => ?_⟩
    match k, hk with
    | 0, hk => cases hk; exact ⟨g0, f0⟩
    | 1, hk => cases hk; exact ⟨g1, f1⟩
    | 2, hk => cases hk; exact ⟨g2, f2⟩
    | 3, hk => cases hk; exact ⟨g3, f3⟩
    | n + 4, hk => cases hk
  have hs := flat_of_before _ hgv
  have hU : kt_U.before #[Value.ref b] s = true := hs _ (by decide +kernel)
  have hV : kt_V.before #[Value.ref b] s = true := hs _ (by decide +kernel)
  have hx1 := kx_ex hts hU hV (hts _ (kx_mem 2 rfl)) (hs _ (by decide +kernel))
  have hx2 := kx_ex hts hU hV (hts _ (kx_mem 3 rfl)) (hs _ (by decide +kernel))
  have hA : ∀ q : Nat, q < s.heap.size → ¬ kw_A s q := fun q hq h => absurd h (Nat.not_le.mpr hq)
  have hcode : (Jvm.Cond.initialized "KindJudge$Code").before #[Value.ref b] s = true := htk _ (kx_in 15 rfl)
  obtain ⟨t0, z0, u0⟩ := kx_st (A := kw_A s) (vals := kjSta 0) hA (by decide) (hts _ (kx_mem 4 rfl)) hcode (fun w hw => hs w (List.mem_of_mem_drop (List.mem_of_mem_take (kx_e0 ▸ hw))))
  obtain ⟨t1, z1, u1⟩ := kx_st (A := kw_A s) (vals := kjSta 1) hA (by decide) (hts _ (kx_mem 5 rfl)) hcode (fun w hw => hs w (List.mem_of_mem_drop (List.mem_of_mem_take (kx_e1 ▸ hw))))
  obtain ⟨t2, z2, u2⟩ := kx_st (A := kw_A s) (vals := kjSta 2) hA (by decide) (hts _ (kx_mem 6 rfl)) hcode (fun w hw => hs w (List.mem_of_mem_drop (List.mem_of_mem_take (kx_e2 ▸ hw))))
  have C : kw_C p s m meth c b L xs (fun k => (f k).1, fun k => (f k).2) (fun k => match k with
    | 0 => a0
    | 1 => a1
    | 2 => a2
    | _ => a3) (fun k => if k < 100000 then s.heap.size + k else if k = 100000 then t0 else if k = 100001 then t1 else if k = 100002 then t2 else b) :=
    ⟨⟨hx, hb, hml, hown, htk, fun w hw => by
      have h1 := List.mem_filter.mp hw
      rcases mv_nest_all w hw with ⟨_, _, _, _, _, _, rfl⟩ | ⟨_, _, _, _, rfl⟩
      · exact va_Nw.of rfl (hts _ h1.1)
      · exact va_Nw.of rfl (hts _ h1.1), hK, fun q hq => hq, hlocks, hr, hnm, fun t q hq => by
      match t, hq with
      | 0, hq => cases hq; exact ⟨z0, u0⟩
      | 1, hq => cases hq; exact ⟨z1, u1⟩
      | 2, hq => cases hq; exact ⟨z2, u2⟩
      | n + 3, hq => cases hq⟩, hX, hbl, rfl⟩
  have K := kw_start (l := l) (e := e) (below := below) C hL hfl hx1 hx2
  have hl := lv_entry ([Value.ref b]) (n := 7) (Nat.le_of_ble_eq_true rfl)
  rw [lg_entry_eq]
  refine K s.heap [] _ ⟨fun k q h => (by cases h), ⟨fun i j p q h => (by cases h), fun k q h => (by cases h)⟩, va_S.rf, rfl, fun k _ h2 => ?_⟩ ⟨⟨hl.1, hl.2.1, fun q hq => (by cases hq)⟩, rfl, fun j v hj => ?_⟩ ⟨Nat.zero_le _, Nat.zero_le _⟩
  · show (if k < 100000 then s.heap.size + k else _) + 0 = s.heap.size + k
    rw [if_pos h2]
    rfl
  · match j, hj with
    | 0, hj => cases hj; exact hl.2.2 (0, .ref b) (List.Mem.head _)
    | 1, hj => cases hj
    | 2, hj => cases hj
    | 3, hj => cases hj
    | 4, hj => cases hj
    | 5, hj => cases hj
    | 6, hj => cases hj
    | j + 7, hj => cases hj
set_option maxHeartbeats 4000000 in
theorem lw_walk (l : Launch) (hfl : l.flags.contains noTraceFlag = true) (b : Addr) (xs : List Int32) : MetFree l x (headSpec (Jvm.Cond.code x code maxLocals ret :: tables_1) room_1) (lw_P b xs) (fun _ _ _ _ _ => True) lw_Q := by
  refine MetFree.of_bodyS (code := code) (maxLocals := maxLocals) (ret := ret) (by decide) ?_ ?_
  · intro args s m h hn
    obtain ⟨meth, c, h1, h2, h3, h4, h5, h6, -, -⟩ := Cond.code_spec hn (atoms_spec (ws := Jvm.Cond.code x code maxLocals ret :: tables_1) h _ List.mem_cons_self)
    exact ⟨meth, c, h1, h2, h3, h4, h5, h6⟩
  · intro p e s m args below meth c s₁ B hml0 hP _
    obtain ⟨rfl, hx, hbd, hgv⟩ := hP
    obtain ⟨scr, harrAt, hlist, hof, hsmall⟩ := hx
    obtain ⟨hcb, hkn, -, -⟩ := State.arrayAt?_spec harrAt
    have hown : s.vm.findClass R_law = some m.cls := findClass_of_methodNamed B.named
    have hts0 : ∀ c ∈ (Jvm.Cond.code x code maxLocals ret :: tables_1), c.before #[Value.ref b] s = true := atoms_spec (ws := Jvm.Cond.code x code maxLocals ret :: tables_1) B.pre
    have hts : ∀ w ∈ lw_tbl, w.before #[Value.ref b] s = true := k2_hts_sels lw_privs (fun w hw => hts0 w (List.mem_cons_of_mem _ hw)) lw_privs_ok
    have hml : c.maxLocals = 7 := B.maxLocals_eq (hts0 _ List.mem_cons_self)
    have X₀ : Stand p l e room_1 s m #[Value.ref b] below meth c s₁ [] 0 0 := Stand.of_body B
    have hh0 : s₁.heap = s.heap := by rw [B.state]; rfl
    have hsz : scr.slots.size = xs.length := by rw [← Array.length_toList, hlist, List.length_map]
    have hval : ∀ j : Nat, j < xs.length → scr.slots[j]? = some (.int (xs.getD j 0)) := fun j hj => by
      rw [← Array.getElem?_toList, hlist]
      simp [hj]
    have hbl : b < s.heap.size := (Array.getElem?_eq_some_iff.mp hcb).1
    have hX : va_X b xs.length (fun j => xs.getD j 0) s s.heap := ⟨scr, hcb, hof, hkn, hsz, hval⟩
    have K : W p l e room_1 s m #[Value.ref b] below meth c s₁.heap [] 0 0 (lw_Z below #[Value.ref b] s) (entryFrame m ([Value.ref b] : List Value).toArray 7) := by
      rw [hh0]
      exact whole_start l hfl hbd ⟨B.exec, B.bytes, B.returns, hml, hown, hts, hX, hbl, B.notSynchronized, hgv, (name_of_methodNamed B.named B.method).1⟩
    obtain ⟨t, a1, o, b1, b2, b3⟩ := K s₁ rfl X₀
    exact ⟨t, o, a1, b1, b2, b3⟩
theorem lw_pre_spec {args : Array Value} {s : State} (h : (Jvm.Cond.and given_1 narrow_1).before args s = true) (hr : rest_1_c.before args s = true) : ∃ (b : Addr) (xs : List Int32), lw_P b xs args s := by
  have hs := flat_of_before _ h
  have hq := flat_of_before _ hr
  have hc : (Cond.count 1).before args s = true := hs _ (by decide +kernel)
  have harr : (Cond.arrayOf (.arg 0) .int).before args s = true := hs _ (by decide +kernel)
  have hle : (Cond.le (.length (.arg 0)) (.int 2048)).before args s = true := hs _ (by decide +kernel)
  have hlen : (Cond.isInt (.length (.arg 0))).before args s = true := hq _ (by decide +kernel)
  have hall : (Cond.all (.arg 0) (.isInt (.elem (.arg 0) (.index 0)))).before args s = true := hq _ (by decide +kernel)
  obtain ⟨b, xs, hb, hx⟩ := State.ints_of_pre rfl harr hlen hall
  have hsm : xs.length < 2 ^ 31 := hx.choose_spec.2.2.2
  have hev : (Term.length (.arg 0)).eval args s none [] s = some (.int xs.length.toInt32) := hx.length_eval hb
  have hv := Cond.le_ints hev (show (Term.int 2048).eval args s none [] s = some (.int 2048) from rfl)
  have hd : xs.length.toInt32 ≤ 2048 := by
    simpa [Cond.before, Cond.holds, hv] using hle
  have hN : xs.length ≤ 2048 := (Int32.ofNat_le_ofNat hsm (by decide)).mp (show Int32.ofNat xs.length ≤ Int32.ofNat 2048 from hd)
  exact ⟨b, xs, Cond.one_arg hc (show args[0]? = some (.ref b) from hb), hx, hN, h⟩
theorem lw_comes (l : Launch) (hfl : l.flags.contains noTraceFlag = true) : Comes l x (Jvm.Cond.code x code maxLocals ret :: tables_1) room_1 (fun tb e args s => Calls_1 tb e args s ∧ rest_1 tb e args s ∧ Pre_1 tb e args s)
    (fun _ _ args s o t => lw_Q args s o t) := by
  intro p e ha hc hk s m args below hf hfit hheap happ hpre
  obtain ⟨b, xs, hP⟩ := lw_pre_spec hpre.2.2 hpre.2.1
  obtain ⟨k, o, h1, h2, h3, hQ⟩ := lw_walk l hfl b xs p e ha hc hk s m args below hf ((Spec.applies_iff_loose hf).mp happ).1 hP trivial
  exact ⟨k, o, h1, h2, h3, hQ⟩
theorem lw_frame {s t : State} {o : Outcome} {args : Array Value} (h : Framed s o t [] 1108 62720) :
    Framed s o t (fieldLocs frame_1_writes args s ++ arrayLocs frame_1_arrays args s ++ staticLocs frame_1_statics s) 1108 62720 := h
theorem lw_limb (L : Cond) (hL : ∀ (args : Array Value) (s t : State), L.after args s (.returned (some (.int 1))) t = true) :
    ArmFor flags0 classFile x code maxLocals ret World_1 tables_1 room_1 Calls_1 rest_1 Pre_1
      (fun tb e a s o t => postC L tb e a s o t ∧ Framed s o t (fieldLocs frame_1_writes a s ++ arrayLocs frame_1_arrays a s ++ staticLocs frame_1_statics s) 1108 62720) := by
  intro l hf0 _ _ p e ha hc hk s m args below hf hfit hheap happ hpre
  obtain ⟨k, o, h1, h2, h3, rfl, hF⟩ := lw_comes l (by rw [hf0]; decide) p e ha hc hk s m args below hf hfit hheap happ hpre
  exact ⟨k, _, h1, h2, h3, hL args s _, lw_frame hF⟩
theorem i_vc : Claimed_1_1 ∧ Claimed_1_2 := ⟨lw_limb limb_1_1 (fun args s t => by simp [limb_1_1, Cond.after, Cond.holds, Cond.value]), lw_limb limb_1_2 (fun args s t => Cond.after_iff.mpr (by
  first | (rw [show limb_1_2 = Cond.eq .result (.int 1) from rfl, Cond.eq_ints (x := 1) (y := 1) rfl rfl]; simp; done) | (simp [limb_1_2, Cond.value, Term.eval]; done)))⟩
