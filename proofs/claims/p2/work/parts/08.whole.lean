/-! One step, and a method from its entry to its answer. -/
def mv_W (p : Program) (l : Launch) (e : Env) (R : Room) (s : State) (m : MethodId) (args : Array Value) (below : List Frame) (meth : Method) (cod : Code) (A : Nat → Prop) (D : va_G) (cl : List vw_C) (kd : List (List Nat)) (cA : Nat → ClassId) (ad : Nat → Nat) (nL : Nat) (Qz : State → Prop) (F : mv_F) : Prop :=
  ∀ (H : Heap) (locs : List Loc) (ls : Array Slot), mv_Hc A D cl kd cA ad s F.2.2.2.2.2 F.2.2.2.1 H locs → mv_Lc ad ls nL F.2.1 → F.2.2.2.1 ≤ R.cells ∧ F.2.2.2.2.1 ≤ R.slots → W p l e R s m args below meth cod H locs F.2.2.2.1 F.2.2.2.2.1 Qz (F0 m F.1 ls (F.2.2.1.map (mv_tr ad)))
section MVU
variable {p : Program} {l : Launch} {e : Env} {R : Room} {s : State} {m : MethodId} {args : Array Value} {below : List Frame} {meth : Method} {cod : Code} {H : Heap} {locs : List Loc} {cells slots : Nat} {Qz : State → Prop}
variable {pc : Nat} {ls : Array Slot} {ad : Nat → Nat} {A : Nat → Prop} {D : va_G} {cl : List vw_C} {kd : List (List Nat)} {cA : Nat → ClassId} {Ts Nw : List Jvm.Cond} {sta : Nat → List Int32} {stn : List (String × String × String)} {prog : List mv_Me} {M : mv_Me} {S S' : mv_S} {st st' r : List Value}
set_option maxHeartbeats 4000000 in
theorem mv_pure_len {i : ClassFile.Instr} {n a b c d : Nat} (h : mv_pure i st = some st') (hr : mv_Rw cl kd Ts Nw prog stn M i n a b c d) : n = mv_len i := by
  cases i
  all_goals first
    | exact hr
    | exact absurd h (by simp [mv_pure])
set_option maxHeartbeats 4000000 in
theorem mv_loc_len {i : ClassFile.Instr} {lc lc' : mv_L} {n a b c d : Nat} (h : mv_loc i lc st = some (lc', st')) (hr : mv_Rw cl kd Ts Nw prog stn M i n a b c d) : n = mv_len i := by
  cases i
  all_goals first
    | exact hr
    | exact absurd h (by simp [mv_loc])
set_option maxHeartbeats 4000000 in
theorem mv_heap_ok (Y : mv_Sy cl kd Ts Nw prog sta stn) (X : mv_Cx p s m args meth cod A D cl cA ad Ts Nw sta stn M) (hH : mv_Hc A D cl kd cA ad s S cells H locs) (hl : ls.size = (mv_ml M)) (hR : mv_fr M ≤ R.frames ∧ mv_lo M ≤ R.locals) (hRc : mv_mc M ≤ R.cells ∧ mv_ms M ≤ R.slots) (hcs : cells ≤ R.cells ∧ slots ≤ R.slots) {i : ClassFile.Instr} {n a b c d : Nat} {vc' vs' : Nat}
    (hd : decode (mv_cc M) pc = .ok (i, n)) (hrw : mv_Rw cl kd Ts Nw prog stn M i n a b c d) (h : mv_heap sta (mv_mc M) (mv_ms M) i a b c st cells slots S = some (st', vc', vs', S'))
    (kk : ∀ (H1 : Heap) (locs1 : List Loc), mv_Hc A D cl kd cA ad s S' vc' H1 locs1 → vc' ≤ R.cells ∧ vs' ≤ R.slots → W p l e R s m args below meth cod H1 locs1 vc' vs' Qz (F0 m (pc + mv_len i) ls (st'.map (mv_tr ad)))) : W p l e R s m args below meth cod H locs cells slots Qz (F0 m pc ls (st.map (mv_tr ad))) := by
  obtain ⟨hx, hb, hml, hown, hts, hnw, hK, hA, -, -, -, hsts⟩ := id X
  obtain ⟨Y1, -, -, -, Yst⟩ := Y
  cases i
  case getfield idx =>
    obtain ⟨rfl, C, T, N, h1, h2, h3⟩ := hrw
    unfold mv_heap at h
    simp only at h
    split at h
    · split at h
      · rename_i k r ci hk
        obtain ⟨h4, h5⟩ := mv_bif h
        cases h5
        rw [Nat.eq_of_beq_eq_true h4] at hk
        exact mv_get_ok X Y1 hH hd h1 h2 h3 hk (kk H locs hH hcs)
      · cases h
    · cases h
  case putfield idx =>
    obtain ⟨rfl, C, T, N, h1, h2, h3⟩ := hrw
    unfold mv_heap at h
    simp only at h
    split at h
    · split at h
      · rename_i v k r ci hk
        cases hb4 : Nat.beq ci a with
        | false => rw [hb4] at h; cases h
        | true =>
          rw [hb4] at h
          simp only [cond_true] at h
          split at h
          · rename_i S1 hp
            cases h
            rw [Nat.eq_of_beq_eq_true hb4] at hk
            exact mv_put_ok X Y1 hH hd h1 h2 h3 hk hp (fun H1 l1 q => kk H1 l1 q hcs)
          · cases h
      · cases h
    · cases h
  case arraylength =>
    have hn : n = 1 := hrw
    subst hn
    unfold mv_heap at h
    simp only at h
    split at h
    · split at h
      · rename_i k r t q hk
        obtain ⟨h4, h5⟩ := mv_bif h
        cases h5
        exact mv_alen_ok X hH hd (Nat.le_of_ble_eq_true h4) hk (kk H locs hH hcs)
      · cases h
      · rename_i k r x hk
        obtain ⟨h4, h5⟩ := mv_bif h
        cases h5
        rw [Bool.and_eq_true] at h4
        have h1 : 100000 ≤ k := Nat.le_of_ble_eq_true h4.1
        have h2 : 1 ≤ (sta (k - 100000)).length := Nat.le_of_ble_eq_true h4.2
        rcases Yst k h1 with h3 | ⟨q, h3⟩
        · omega
        · have hT := (hsts _ _ h3).2
          have ek : 100000 + (k - 100000) = k := Nat.add_sub_of_le h1
          rw [ek] at hT
          exact va_tlen hx hb hT hH.2.2.1 rfl hd (kk H locs hH hcs)
    · cases h
  case new idx =>
    obtain ⟨rfl, C, T, h1, h2, h3, h4⟩ := hrw
    unfold mv_heap at h
    simp only at h
    obtain ⟨h5, h6⟩ := mv_bif h
    cases h6
    simp only [Bool.and_eq_true] at h5
    exact mv_new_ok X Y1 hH hd h1 h2 h3 h4 (Nat.le_of_ble_eq_true h5.2.2) (Nat.le_trans (Nat.le_of_ble_eq_true h5.1) hRc.1) (Nat.le_trans (Nat.le_of_ble_eq_true h5.2.1) hRc.2) (fun H1 q => kk H1 locs q ⟨Nat.le_trans (Nat.le_of_ble_eq_true h5.1) hRc.1, Nat.le_trans (Nat.le_of_ble_eq_true h5.2.1) hRc.2⟩)
  case newarray t =>
    obtain ⟨rfl, h1, h2, h3⟩ := hrw
    unfold mv_heap at h
    simp only at h
    split at h
    · obtain ⟨h5, h6⟩ := mv_bif h
      cases h6
      simp only [Bool.and_eq_true, decide_eq_true_eq] at h5
      exact mv_newa_ok X hH hd h1 h2 h3 (Nat.le_of_ble_eq_true h5.2.2.1) h5.2.2.2.2 (Nat.le_of_ble_eq_true h5.2.2.2.1) (Nat.le_trans (Nat.le_of_ble_eq_true h5.1) hRc.1) (Nat.le_trans (Nat.le_of_ble_eq_true h5.2.1) hRc.2) (fun H1 q => kk H1 locs q ⟨Nat.le_trans (Nat.le_of_ble_eq_true h5.1) hRc.1, Nat.le_trans (Nat.le_of_ble_eq_true h5.2.1) hRc.2⟩)
    · cases h
  case ldc idx =>
    obtain ⟨rfl, h1⟩ := hrw
    cases h
    exact lv_ldc hx hb hown (hts _ h1) hd (kk H locs hH hcs)
  case ldc_w idx =>
    obtain ⟨rfl, h1⟩ := hrw
    cases h
    exact lv_ldcw hx hb hown (hts _ h1) hd (kk H locs hH hcs)
  case ldc2_w idx =>
    obtain ⟨rfl, h1⟩ := hrw
    cases h
    exact lv_ldc2 hx hb hown (hts _ h1) hd (kk H locs hH hcs)
  case getstatic idx =>
    obtain ⟨rfl, q, h1, h2⟩ := hrw
    cases h
    exact va_gets hx hb (hsts a q h1).1 hH.2.2.1 hown (hts _ h2) (fun _ h9 => h9) hd (kk H locs hH hcs)
  case invokespecial idx =>
    obtain ⟨rfl, h1, -⟩ := hrw
    unfold mv_heap at h
    simp only at h
    split at h
    · split at h
      · rename_i k r
        obtain ⟨h4, h5⟩ := mv_bif h
        cases h5
        obtain ⟨r1, r2, g1, g2, g3⟩ := h1 rfl
        have h4 : (st'.map fun v => v.category).sum ≤ 8 := Nat.le_of_ble_eq_true h4
        exact W.objInit hx hb hown (hts _ g1) (hts _ g2) (hts _ g3) rfl (by rw [hml]; exact hl) rfl hd (Nat.le_trans r1 hR.1) (by show 2 * 0 + ((st'.map (mv_tr ad)).map fun v => v.category).sum + 12 ≤ R.locals; rw [mv_tr_sum]; have := hR.2; omega) (kk H locs hH hcs)
      · cases h
    · cases h
  case invokestatic idx =>
    obtain ⟨rfl, h1, h2, -⟩ := hrw
    unfold mv_heap at h
    simp only at h
    split at h
    · rename_i y x r
      obtain ⟨h4, h5⟩ := mv_bif h
      cases h5
      obtain ⟨r1, r2, g1, g2, g3, g4⟩ := h1 rfl
      have h4 : (r.map fun v => v.category).sum ≤ 8 := Nat.le_of_ble_eq_true h4
      exact va_mmax hx hb (by rw [hml, hl]) hown (hts _ g1) (hts _ g2) (hts _ g3) (hts _ g4) (Nat.le_trans r1 hR.1) (by rw [mv_tr_sum]; have := hR.2; omega) hcs.1 hcs.2 hd (kk H locs hH hcs)
    · rename_i y x r
      obtain ⟨h4, h5⟩ := mv_bif h
      cases h5
      obtain ⟨r1, r2, g1, g2, g3, g4⟩ := h2 rfl
      have h4 : (r.map fun v => v.category).sum ≤ 8 := Nat.le_of_ble_eq_true h4
      exact va_mmin hx hb (by rw [hml, hl]) hown (hts _ g1) (hts _ g2) (hts _ g3) (hts _ g4) (Nat.le_trans r1 hR.1) (by rw [mv_tr_sum]; have := hR.2; omega) hcs.1 hcs.2 hd (kk H locs hH hcs)
    · cases h
  all_goals (exact absurd h (by simp [mv_heap]))
set_option maxHeartbeats 4000000 in
theorem mv_one_ok (Y : mv_Sy cl kd Ts Nw prog sta stn) (X : mv_Cx p s m args meth cod A D cl cA ad Ts Nw sta stn M) (hMk : mv_Ro cl kd Ts Nw prog stn M) (hR : mv_fr M ≤ R.frames ∧ mv_lo M ≤ R.locals) (hRc : mv_mc M ≤ R.cells ∧ mv_ms M ≤ R.slots) {F F' : mv_F} (h : mv_one sta M F = some F') (k : mv_W p l e R s m args below meth cod A D cl kd cA ad (mv_ml M) Qz F') : mv_W p l e R s m args below meth cod A D cl kd cA ad (mv_ml M) Qz F := by
  obtain ⟨pc, lc, st, vc, vs, S⟩ := F
  intro H locs ls hH hL hcs
  obtain ⟨hx, hb, hml, -⟩ := id X
  unfold mv_one at h
  simp only at h
  split at h
  · cases h
  · rename_i i n a b c d hat
    obtain ⟨hd, hrw⟩ := hMk _ (mv_at_mem hat)
    simp only at hd hrw
    split at h
    · rename_i st1 hp
      cases h
      rw [mv_pure_len hp hrw] at hd
      exact mv_pure_ok hx hb hd hp (k H locs ls hH hL hcs)
    · split at h
      · rename_i lc1 st1 hp
        cases h
        rw [mv_loc_len hp hrw] at hd
        exact mv_loc_ok hx hb hd hp hL (fun ls' hL' => k H locs ls' hH hL' hcs)
      · split at h
        · rename_i st1 vc1 vs1 S1 hp
          cases h
          exact mv_heap_ok Y X hH hL.1.1 hR hRc hcs hd hrw hp (fun H1 locs1 q hq => k H1 locs1 ls q hL hq)
        · split at h
          · rename_i off
            have hn : n = 3 := hrw
            subst hn
            split at h
            · rename_i t ht
              cases h
              exact lv_goto hx hb hd ht (k H locs ls hH hL hcs)
            · cases h
          · cases h
set_option maxHeartbeats 4000000 in
theorem mv_len_ald {i : ClassFile.Instr} {x : Int32} {k N : Nat} {v : Value} {n a b c d : Nat} (h : mv_ald sta i S k x = some (N, v)) (hr : mv_Rw cl kd Ts Nw prog stn M i n a b c d) : n = 1 := by
  unfold mv_ald at h
  split at h
  · split at h
    · exact hr
    · exact hr
    · exact hr
    · exact hr
    · cases h
  · cases h
  · split at h
    · exact hr
    · cases h
theorem mv_len_ast {i : ClassFile.Instr} {x : Int32} {k N : Nat} {v : Value} {n a b c d : Nat} (h : mv_ast i S k x v = some (N, S')) (hr : mv_Rw cl kd Ts Nw prog stn M i n a b c d) : n = 1 := by
  unfold mv_ast at h
  split at h
  · split at h
    · exact hr
    · exact hr
    · exact hr
    · exact hr
    · cases h
  · cases h
theorem mv_len_cond {i : ClassFile.Instr} {cn : Prop} {off : Int} {n a b c d : Nat} (h : mv_cond i st = some (cn, off, r)) (hr : mv_Rw cl kd Ts Nw prog stn M i n a b c d) : n = mv_len i := by
  unfold mv_cond at h
  split at h
  · exact hr
  · exact hr
  · cases h
theorem mv_div_ok {cc : ByteArray} (hx : p.tables.exec = Jvm.exec) (hb : cod.code = cc) {i : ClassFile.Instr} {n a b c d : Nat} {x y v : Int32} (hd : decode cc pc = .ok (i, n)) (hrw : mv_Rw cl kd Ts Nw prog stn M i n a b c d) (h : mv_div i x y = some v) (hy : ¬ y = 0)
    (k : W p l e R s m args below meth cod H locs cells slots Qz (F0 m (pc + 1) ls ((Value.int v :: r).map (mv_tr ad)))) : W p l e R s m args below meth cod H locs cells slots Qz (F0 m pc ls ((Value.int y :: Value.int x :: r).map (mv_tr ad))) := by
  unfold mv_div at h
  split at h
  · have hn : n = 1 := hrw
    subst hn
    cases h
    exact lv_idiv hx hb hd hy k
  · have hn : n = 1 := hrw
    subst hn
    cases h
    exact lv_irem hx hb hd hy k
  · cases h
/-- the end -/
theorem mv_ret_ok (X : mv_Cx p s m args meth cod A D cl cA ad Ts Nw sta stn M) (hH : mv_Hc A D cl kd cA ad s S (mv_mc M) H locs) {i : ClassFile.Instr} {n a b c d : Nat} {v : Option Value} {ok : Prop} {Q : Option Value → mv_S → Prop} (hd : decode (mv_cc M) pc = .ok (i, n)) (hrw : mv_Rw cl kd Ts Nw prog stn M i n a b c d) (h : mv_ret (mv_rt M) i st = some (v, ok)) (hok : ok) (hQ : Q v S) :
    W p l e R s m args below meth cod H locs (mv_mc M) (mv_ms M) (MQ below (mv_Pst A D cl kd cA ad (mv_mc M) Q) args s (mv_mc M) (mv_ms M) A) (F0 m pc ls (st.map (mv_tr ad))) := by
  obtain ⟨hx, hb, hml, hown, hts, hnw, hK, hA, hlk, hr, -⟩ := X
  obtain ⟨h1, h2, h3, h4, h5⟩ := hH
  have post : ∀ t : State, t.heap = H → mv_Pst A D cl kd cA ad (mv_mc M) Q args s (.returned (v.map (mv_tr ad))) t := fun t ht => ⟨v, S, hQ, rfl, by rw [ht]; exact h1, h2, va_S.F h3 ht, by rw [ht]; exact h4, by rw [ht]; exact h5⟩
  generalize hret : (mv_rt M) = rt at h hr
  unfold mv_ret at h
  split at h
  · have hn : n = 1 := hrw
    subst hn
    cases h
    exact W.vret hx hb hr (fun t ht _ => post t ht) h3.2.2 hd hlk
  · have hn : n = 1 := hrw
    subst hn
    cases h
    exact W.iret hx hb hr (fun t ht _ => post t ht) h3.2.2 hd hlk
  · have hn : n = 1 := hrw
    subst hn
    rename_i z
    cases h
    have hnar : narrow .boolean (.int z) = .int z := by
      rcases hok with rfl | rfl <;> rfl
    exact W.zret hx hb hr hnar (fun t ht _ => post t ht) h3.2.2 hd hlk
  · have hn : n = 1 := hrw
    subst hn
    cases h
    exact W.lret hx hb hr (fun t ht _ => post t ht) h3.2.2 hd hlk
  · cases h
end MVU
theorem mv_le_get : ∀ {a b : mv_L}, mv_le a b → a.length = b.length ∧ ∀ (j : Nat) (v : Value), a[j]? = some (some v) → b[j]? = some (some v)
  | [], [], _ => ⟨rfl, fun _ _ h => h⟩
  | none :: a, w :: b, h => by
    obtain ⟨h1, h2⟩ := mv_le_get (a := a) (b := b) h
    refine ⟨by simp [h1], fun j v hj => ?_⟩
    cases j with
    | zero => simp at hj
    | succ j => simpa using h2 j v (by simpa using hj)
  | some u :: a, w :: b, h => by
    obtain ⟨h1, h2⟩ := mv_le_get (a := a) (b := b) h.2
    refine ⟨by simp [h1], fun j v hj => ?_⟩
    cases j with
    | zero =>
      rw [h.1]
      exact hj
    | succ j => simpa using h2 j v (by simpa using hj)
  | [], _ :: _, h => h.elim
  | none :: _, [], h => h.elim
  | some _ :: _, [], h => h.elim
theorem mv_le_Lc {ad : Nat → Nat} {ls : Array Slot} {nL : Nat} {a b : mv_L} (h : mv_le a b) (hL : mv_Lc ad ls nL b) : mv_Lc ad ls nL a :=
  ⟨hL.1, (mv_le_get h).1.trans hL.2.1, fun j v hj => hL.2.2 j v ((mv_le_get h).2 j v hj)⟩
theorem mv_c1_not {w : Value} (hc : mv_c1 w = false) : w.category = 2 := by
  rcases lv_cat w with h2 | h2
  · have : mv_c1 w = true := by unfold mv_c1; rw [h2]; rfl
    rw [this] at hc; cases hc
  · exact h2
theorem mv_ent_has : ∀ (as : List Value) (n : Nat) (j : Nat) (v : Value), (mv_ent n as)[j]? = some (some v) → (j, v) ∈ lv_args 0 as := by
  have key : ∀ (as : List Value) (o n j : Nat) (v : Value), (mv_ent n as)[j]? = some (some v) → (o + j, v) ∈ lv_args o as := by
    intro as
    induction as with
    | nil =>
      intro o n j v h
      unfold mv_ent at h
      rw [List.getElem?_replicate] at h
      split at h <;> cases h
    | cons w as ih =>
      intro o n j v h
      unfold mv_ent at h
      unfold lv_args
      cases hc : mv_c1 w with
      | true =>
        rw [hc] at h
        have hcat : ¬ w.category = 2 := by rw [mv_c1_cat hc]; decide
        rw [if_neg hcat]
        cases j with
        | zero =>
          have e : w = v := by simpa using h
          rw [e]
          exact List.mem_cons_self
        | succ j =>
          have h' : (mv_ent (n - 1) as)[j]? = some (some v) := by simpa using h
          have := ih (o + 1) (n - 1) j v h'
          rw [show o + (j + 1) = o + 1 + j by omega]
          exact List.mem_cons_of_mem _ this
      | false =>
        rw [hc] at h
        have hcat : w.category = 2 := mv_c1_not hc
        rw [if_pos hcat]
        match j, h with
        | 0, h =>
          have e : w = v := by simpa using h
          rw [e]
          exact List.mem_cons_self
        | 1, h => simp at h
        | j + 2, h =>
          have h' : (mv_ent (n - 2) as)[j]? = some (some v) := by simpa using h
          have := ih (o + 2) (n - 2) j v h'
          rw [show o + (j + 2) = o + 2 + j by omega]
          exact List.mem_cons_of_mem _ this
  intro as n j v h
  have := key as 0 n j v h
  rwa [Nat.zero_add] at this
theorem mv_args_tr (ad : Nat → Nat) : ∀ (as : List Value) (o : Nat) (j : Nat) (v : Value), (j, v) ∈ lv_args o as → (j, mv_tr ad v) ∈ lv_args o (as.map (mv_tr ad)) := by
  intro as
  induction as with
  | nil => intro o j v h; cases h
  | cons w as ih =>
    intro o j v h
    unfold lv_args at h
    rw [List.map_cons]
    unfold lv_args
    rw [mv_tr_cat]
    rcases List.mem_cons.mp h with h | h
    · cases h
      exact List.mem_cons_self
    · exact List.mem_cons_of_mem _ (ih _ j v h)
theorem mv_sl_len (ad : Nat → Nat) : ∀ (as : List Value) (n : Nat), (lg_sl (as.map (mv_tr ad))).length ≤ (mv_ent n as).length := by
  intro as
  induction as with
  | nil => intro n; simp [lg_sl]
  | cons w as ih =>
    intro n
    have e : lg_sl ((w :: as).map (mv_tr ad)) = (if (mv_tr ad w).category = 2 then [Slot.val (mv_tr ad w), .second] else [.val (mv_tr ad w)]) ++ lg_sl (as.map (mv_tr ad)) := rfl
    rw [e, mv_tr_cat]
    unfold mv_ent
    cases hc : mv_c1 w with
    | true =>
      have hcat : ¬ w.category = 2 := by rw [mv_c1_cat hc]; decide
      rw [if_neg hcat]
      have := ih (n - 1)
      simp only [cond_true, List.length_append, List.length_cons, List.length_nil]
      omega
    | false =>
      rw [if_pos (mv_c1_not hc)]
      have := ih (n - 2)
      simp only [cond_false, List.length_append, List.length_cons, List.length_nil]
      omega
set_option maxHeartbeats 4000000 in
/-- THE SMALL MACHINE IS SOUND: a method that ends with Q there meets its contract -/
theorem mv_sound {cl : List vw_C} {kd : List (List Nat)} {Ts Nw : List Jvm.Cond} {prog : List mv_Me} {sta : Nat → List Int32} {stn : List (String × String × String)} (Y : mv_Sy cl kd Ts Nw prog sta stn) (l : Launch) (A : Nat → Prop) (D : va_G) (cA : Nat → ClassId) (ad : Nat → Nat) :
    ∀ (d i : Nat) (as : List Value) (S : mv_S) (Q : Option Value → mv_S → Prop), mv_C prog sta d i as S Q → ∀ M, prog[i]? = some M → Met l M.1 (Jvm.Cond.code M.1 (mv_cc M) (mv_ml M) (mv_rt M) :: Ts) (mv_Rm M) (mv_Pre A D cl kd cA ad Nw sta stn as S) (mv_Pst A D cl kd cA ad (mv_mc M) Q) (mv_mc M) (mv_ms M) A := by
  intro d
  induction d with
  | zero => intro i as S Q h; exact h.elim
  | succ d ih =>
    intro i as S Q h M hM
    obtain ⟨M', h1, h2, h3⟩ := h
    cases Option.some.inj (hM.symm.trans h1)
    have hMk := Y.2.2.2.1 i M hM
    refine Met.ofW (cc := (mv_cc M)) (maxL := (mv_ml M)) (ret := (mv_rt M)) hMk.1 rfl ?_
    intro p e s m args below meth c s₁ B hml hv
    obtain ⟨rfl, v1, v2, v3, v4, v5, v6, v7⟩ := hv
    have hts : ∀ w ∈ (Jvm.Cond.code M.1 (mv_cc M) (mv_ml M) (mv_rt M) :: Ts), w.before _ s = true := atoms_spec (ws := Jvm.Cond.code M.1 (mv_cc M) (mv_ml M) (mv_rt M) :: Ts) B.pre
    have hown : s.vm.findClass (mv_ow M) = some m.cls := by rw [← hMk.2.1]; exact findClass_of_methodNamed B.named
    have X : mv_Cx p s m (as.map (mv_tr ad)).toArray meth c A D cl cA ad Ts Nw sta stn M := ⟨B.exec, B.bytes, hml, hown, fun w hw => hts w (List.mem_cons_of_mem _ hw), v1, v2, v4, B.notSynchronized, B.returns, (name_of_methodNamed B.named B.method).1, v3⟩
    have hcl : mv_W p l e (mv_Rm M) s m (as.map (mv_tr ad)).toArray below meth c A D cl kd cA ad (mv_ml M) (MQ below (mv_Pst A D cl kd cA ad (mv_mc M) Q) (as.map (mv_tr ad)).toArray s (mv_mc M) (mv_ms M) A) (0, mv_ent (mv_ml M) as, [], 0, 0, S) := by
      refine h3 _ (fun F hF => ?_)
      rcases hF with ⟨F', g1, g2⟩ | ⟨lc', g1, g2⟩ | ⟨pc, lc, st, vc, vs, S, i, n, a, b, c, d', rfl, h0, hF⟩
      · exact mv_one_ok Y X hMk.2.2.2.2.2.2 ⟨Nat.le_refl _, Nat.le_refl _⟩ ⟨Nat.le_refl _, Nat.le_refl _⟩ g1 g2
      · intro H locs ls hH hL hcs
        exact g2 H locs ls hH (mv_le_Lc g1 hL) hcs
      · intro H locs ls hH hL hcs
        obtain ⟨hd, hrw⟩ := hMk.2.2.2.2.2.2 _ (mv_at_mem h0)
        simp only at hd hrw
        rcases hF with ⟨cn, off, r, tgt, g1, g2, g3, g4⟩ | ⟨x, r, off, tgt, rfl, g1, g2, g3⟩ | ⟨x, k, r, N, v, rfl, g1, g2, g3⟩ | ⟨v, x, k, r, N, S', rfl, g1, g2, g3⟩ | ⟨Mj, as', r, Q', g1, rfl, g3, g4, g5, g6, g7, g8, g9⟩ | ⟨v, ok, g1, g2, g3, g4, g5⟩ | ⟨x, y, r, v, rfl, g1, g2, g3⟩
        · rw [mv_len_cond g1 hrw] at hd
          exact mv_cond_ok X.1 X.2.1 hd g1 g2 (fun z => g3 z H locs ls hH hL hcs) (fun z => g4 z H locs ls hH hL hcs)
        · exact mv_sw_ok X.1 X.2.1 hd g1 g2 (g3 H locs ls hH hL hcs)
        · exact mv_ald_ok X hH Y.2.2.2.2 hd (mv_len_ald g1 hrw) g1 g2 (g3 H locs ls hH hL hcs)
        · exact mv_ast_ok X hH hd (mv_len_ast g1 hrw) g1 g2 (fun H1 locs1 q => g3 H1 locs1 ls q hL hcs)
        · exact mv_call_ok Y X hH.1 hH.2.1 hH.2.2.1 hH.2.2.2.2 hL.1.1 ⟨Nat.le_refl _, Nat.le_refl _⟩ hd hrw g1 g3 g4 g5 g6 g7 (ih a as' S Q' g8 Mj g1) (fun v S' H1 locs1 q1 q2 q3 q4 q5 q6 => g9 v S' q1 H1 locs1 ls ⟨q2, q3, q4, by have h8 : H.size = s.heap.size + vc := hH.2.2.2.1; show H1.size = s.heap.size + (vc + mv_mc Mj); omega, q6⟩ hL ⟨g6, g7⟩)
        · have g2 : vc = (mv_mc M) := g2
          subst g2
          refine W.widen (Nat.le_refl _) g3 ?_
          exact mv_ret_ok X hH hd hrw g1 g4 g5
        · exact mv_div_ok X.1 X.2.1 hd hrw g2 g1 (g3 H locs ls hH hL hcs)
    have hl := lv_entry (as.map (mv_tr ad)) (n := (mv_ml M)) (by have := mv_sl_len ad as (mv_ml M); rw [h2] at this; exact this)
    rw [lg_entry_eq]
    refine hcl s.heap [] _ ⟨v5, v6, va_S.rf, rfl, v7⟩ ⟨⟨hl.1, hl.2.1, fun q hq => by cases hq⟩, h2, fun j v hj => ?_⟩ ⟨Nat.zero_le _, Nat.zero_le _⟩
    exact hl.2.2 _ (mv_args_tr ad as 0 j v (mv_ent_has as (mv_ml M) j v hj))
