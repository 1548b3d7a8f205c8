/-! The small machine's values and locals over the great one's; the instructions that touch no cell. -/
def mv_tr (ad : Nat → Nat) (v : Value) : Value := match v with
  | .ref k => .ref (ad k)
  | v => v
theorem mv_tr_cat (ad : Nat → Nat) (v : Value) : (mv_tr ad v).category = v.category := by cases v <;> rfl
theorem mv_c1_cat {v : Value} (h : mv_c1 v = true) : v.category = 1 := Nat.eq_of_beq_eq_true h
theorem mv_tr_c1 (ad : Nat → Nat) {v : Value} (h : mv_c1 v = true) : (mv_tr ad v).category = 1 := (mv_tr_cat ad v).trans (mv_c1_cat h)
theorem mv_tr_sum (ad : Nat → Nat) (r : List Value) : ((r.map (mv_tr ad)).map fun v => v.category).sum = (r.map fun v => v.category).sum := by
  rw [List.map_map]
  congr 1
  exact List.map_congr_left (fun v _ => mv_tr_cat ad v)
theorem mv_ii_inv {f : Int32 → Int32 → Int32} {st st' : List Value} (h : mv_ii f st = some st') : ∃ (x y : Int32) (r : List Value), st = .int y :: .int x :: r ∧ st' = .int (f x y) :: r := by
  unfold mv_ii at h
  split at h
  · exact ⟨_, _, _, rfl, (Option.some.inj h).symm⟩
  · cases h
theorem mv_i1_inv {f : Int32 → Value} {st st' : List Value} (h : mv_i1 f st = some st') : ∃ (x : Int32) (r : List Value), st = .int x :: r ∧ st' = f x :: r := by
  unfold mv_i1 at h
  split at h
  · exact ⟨_, _, rfl, (Option.some.inj h).symm⟩
  · cases h
theorem mv_ll_inv {f : Int64 → Int64 → Value} {st st' : List Value} (h : mv_ll f st = some st') : ∃ (x y : Int64) (r : List Value), st = .long y :: .long x :: r ∧ st' = f x y :: r := by
  unfold mv_ll at h
  split at h
  · exact ⟨_, _, _, rfl, (Option.some.inj h).symm⟩
  · cases h
theorem mv_li_inv {f : Int64 → Int32 → Int64} {st st' : List Value} (h : mv_li f st = some st') : ∃ (x : Int64) (y : Int32) (r : List Value), st = .int y :: .long x :: r ∧ st' = .long (f x y) :: r := by
  unfold mv_li at h
  split at h
  · exact ⟨_, _, _, rfl, (Option.some.inj h).symm⟩
  · cases h
theorem mv_l1_inv {f : Int64 → Value} {st st' : List Value} (h : mv_l1 f st = some st') : ∃ (x : Int64) (r : List Value), st = .long x :: r ∧ st' = f x :: r := by
  unfold mv_l1 at h
  split at h
  · exact ⟨_, _, rfl, (Option.some.inj h).symm⟩
  · cases h
theorem mv_bif {α : Type} {b : Bool} {x y : α} (h : (bif b then some x else none) = some y) : b = true ∧ x = y := by
  cases b with
  | true => exact ⟨rfl, Option.some.inj h⟩
  | false => cases h
section MVP
variable {p : Program} {l : Launch} {e : Env} {R : Room} {s : State} {m : MethodId} {args : Array Value} {below : List Frame} {meth : Method} {cod : Code} {H : Heap} {locs : List Loc} {cells slots : Nat} {Qz : State → Prop}
variable {cc : ByteArray} {pc : Nat} {ls : Array Slot} {ad : Nat → Nat}
set_option maxHeartbeats 4000000 in
theorem mv_pure_ok (hx : p.tables.exec = Jvm.exec) (hb : cod.code = cc) {i : ClassFile.Instr} {st st' : List Value} (hd : decode cc pc = .ok (i, mv_len i)) (h : mv_pure i st = some st')
    (k : W p l e R s m args below meth cod H locs cells slots Qz (F0 m (pc + mv_len i) ls (st'.map (mv_tr ad)))) : W p l e R s m args below meth cod H locs cells slots Qz (F0 m pc ls (st.map (mv_tr ad))) := by
  cases i
  case iconst n => obtain rfl := Option.some.inj h; exact lv_iconst hx hb hd rfl k
  case bipush n => obtain rfl := Option.some.inj h; exact lv_bipush hx hb hd rfl k
  case sipush n => obtain rfl := Option.some.inj h; exact lv_sipush hx hb hd rfl k
  case lconst n => obtain rfl := Option.some.inj h; exact lv_lconst hx hb hd rfl k
  case aconst_null => obtain rfl := Option.some.inj h; exact lv_null hx hb hd k
  case iadd => obtain ⟨x, y, r, rfl, rfl⟩ := mv_ii_inv h; exact lv_iadd hx hb hd k
  case isub => obtain ⟨x, y, r, rfl, rfl⟩ := mv_ii_inv h; exact lv_isub hx hb hd k
  case imul => obtain ⟨x, y, r, rfl, rfl⟩ := mv_ii_inv h; exact lv_imul hx hb hd k
  case iand => obtain ⟨x, y, r, rfl, rfl⟩ := mv_ii_inv h; exact lv_iand hx hb hd k
  case ior => obtain ⟨x, y, r, rfl, rfl⟩ := mv_ii_inv h; exact lv_ior hx hb hd k
  case ixor => obtain ⟨x, y, r, rfl, rfl⟩ := mv_ii_inv h; exact lv_ixor hx hb hd k
  case ishl => obtain ⟨x, y, r, rfl, rfl⟩ := mv_ii_inv h; exact lv_ishl hx hb hd k
  case ishr => obtain ⟨x, y, r, rfl, rfl⟩ := mv_ii_inv h; exact lv_ishr hx hb hd k
  case iushr => obtain ⟨x, y, r, rfl, rfl⟩ := mv_ii_inv h; exact lv_iushr hx hb hd rfl k
  case ineg => obtain ⟨x, r, rfl, rfl⟩ := mv_i1_inv h; exact lv_ineg hx hb hd k
  case ladd => obtain ⟨x, y, r, rfl, rfl⟩ := mv_ll_inv h; exact lv_ladd hx hb hd k
  case lsub => obtain ⟨x, y, r, rfl, rfl⟩ := mv_ll_inv h; exact lv_lsub hx hb hd k
  case land => obtain ⟨x, y, r, rfl, rfl⟩ := mv_ll_inv h; exact lv_land hx hb hd k
  case lor => obtain ⟨x, y, r, rfl, rfl⟩ := mv_ll_inv h; exact lv_lor hx hb hd k
  case lxor => obtain ⟨x, y, r, rfl, rfl⟩ := mv_ll_inv h; exact lv_lxor hx hb hd k
  case lcmp => obtain ⟨x, y, r, rfl, rfl⟩ := mv_ll_inv h; exact W.lcmp hx hb hd k
  case lshl => obtain ⟨x, y, r, rfl, rfl⟩ := mv_li_inv h; exact lv_lshl hx hb hd rfl k
  case lshr => obtain ⟨x, y, r, rfl, rfl⟩ := mv_li_inv h; exact lv_lshr hx hb hd rfl k
  case lushr => obtain ⟨x, y, r, rfl, rfl⟩ := mv_li_inv h; exact lv_lushr hx hb hd rfl k
  case i2l => obtain ⟨x, r, rfl, rfl⟩ := mv_i1_inv h; exact lv_i2l hx hb hd rfl k
  case l2i => obtain ⟨x, r, rfl, rfl⟩ := mv_l1_inv h; exact lv_l2i hx hb hd rfl k
  case i2b => obtain ⟨x, r, rfl, rfl⟩ := mv_i1_inv h; exact lv_i2b hx hb hd rfl k
  case dup =>
    rcases st with _ | ⟨v, r⟩
    · exact absurd h (by simp [mv_pure])
    · obtain ⟨h1, rfl⟩ := mv_bif h
      exact lv_dup hx hb hd (mv_tr_c1 ad h1) k
  case pop =>
    rcases st with _ | ⟨v, r⟩
    · exact absurd h (by simp [mv_pure])
    · obtain ⟨h1, rfl⟩ := mv_bif h
      exact lv_pop hx hb hd (mv_tr_c1 ad h1) k
  case dup_x1 =>
    rcases st with _ | ⟨v, _ | ⟨w, r⟩⟩
    · exact absurd h (by simp [mv_pure])
    · exact absurd h (by simp [mv_pure])
    · obtain ⟨h1, rfl⟩ := mv_bif h
      rw [Bool.and_eq_true] at h1
      exact lv_dup_x1 hx hb hd (mv_tr_c1 ad h1.1) (mv_tr_c1 ad h1.2) k
  case dup_x2 =>
    rcases st with _ | ⟨v, _ | ⟨w, _ | ⟨x, r⟩⟩⟩
    · exact absurd h (by simp [mv_pure])
    · exact absurd h (by simp [mv_pure])
    · exact absurd h (by simp [mv_pure])
    · obtain ⟨h1, rfl⟩ := mv_bif h
      rw [Bool.and_eq_true, Bool.and_eq_true] at h1
      exact lv_dup_x2 hx hb hd (mv_tr_c1 ad h1.1) (mv_tr_c1 ad h1.2.1) (mv_tr_c1 ad h1.2.2) k
  case dup2 =>
    rcases st with _ | ⟨v, _ | ⟨w, r⟩⟩
    · exact absurd h (by simp [mv_pure])
    · exact absurd h (by simp [mv_pure])
    · obtain ⟨h1, rfl⟩ := mv_bif h
      rw [Bool.and_eq_true] at h1
      exact lv_dup2_11 hx hb hd (mv_tr_c1 ad h1.1) (mv_tr_c1 ad h1.2) k
  all_goals (exact absurd h (by simp [mv_pure]))
/-- locals: those that the small machine knows are held -/
def mv_Lc (ad : Nat → Nat) (ls : Array Slot) (nL : Nat) (lc : mv_L) : Prop := lv_has ls nL [] ∧ lc.length = nL ∧ ∀ (j : Nat) (v : Value), lc[j]? = some (some v) → ls[j]? = some (.val (mv_tr ad v))
def mv_lst (ad : Nat → Nat) (lc : mv_L) : List (Nat × Value) := (List.range lc.length).filterMap (fun j => match lc[j]? with
  | some (some v) => some (j, mv_tr ad v)
  | _ => none)
theorem mv_lst_in {ad : Nat → Nat} {lc : mv_L} {j : Nat} {v : Value} (h : lc[j]? = some (some v)) : (j, mv_tr ad v) ∈ mv_lst ad lc := by
  refine List.mem_filterMap.mpr ⟨j, List.mem_range.mpr (List.getElem?_eq_some_iff.mp h).1, ?_⟩
  rw [h]
theorem mv_lst_of {ad : Nat → Nat} {lc : mv_L} {q : Nat × Value} (h : q ∈ mv_lst ad lc) : ∃ v, lc[q.1]? = some (some v) ∧ q.2 = mv_tr ad v := by
  obtain ⟨j, -, hj⟩ := List.mem_filterMap.mp h
  split at hj
  · rename_i v hv
    cases hj
    exact ⟨v, hv, rfl⟩
  · cases hj
theorem mv_Lc_has {nL : Nat} {lc : mv_L} (h : mv_Lc ad ls nL lc) : lv_has ls nL (mv_lst ad lc) := ⟨h.1.1, h.1.2.1, fun q hq => by
  obtain ⟨v, h1, h2⟩ := mv_lst_of hq
  rw [h2]
  exact h.2.2 _ _ h1⟩
theorem mv_ok1_of {lc : mv_L} {n j : Nat} {w : Value} (h : mv_ok1 lc n = true) (hj : lc[j]? = some (some w)) (e : j + 1 = n) : w.category = 1 := by
  subst e
  unfold mv_ok1 at h
  simp only [hj] at h
  exact mv_c1_cat h
theorem mv_Lc_st1 {nL n : Nat} {lc : mv_L} {v : Value} {ls' : Array Slot} (h : mv_Lc ad ls nL lc) (hok : mv_ok1 lc n = true) (h' : lv_has ls' nL ((n, mv_tr ad v) :: (mv_lst ad lc).filter (fun q => !(q.1 == n) && !(q.1 + 1 == n && q.2.category == 2)))) : mv_Lc ad ls' nL (lc.set n (some v)) := by
  refine ⟨⟨h'.1, h'.2.1, fun q hq => by cases hq⟩, by rw [List.length_set]; exact h.2.1, fun j w hj => ?_⟩
  by_cases e : n = j
  · subst e
    rw [List.getElem?_set] at hj
    rw [if_pos rfl] at hj
    split at hj
    · cases hj
      exact h'.2.2 _ List.mem_cons_self
    · cases hj
  · rw [List.getElem?_set_ne e] at hj
    refine h'.2.2 (j, mv_tr ad w) (List.mem_cons_of_mem _ (List.mem_filter.mpr ⟨mv_lst_in hj, ?_⟩))
    have h1 : (j == n) = false := by simp; exact fun q => e q.symm
    have h2 : (j + 1 == n && (mv_tr ad w).category == 2) = false := by
      by_cases e2 : j + 1 = n
      · rw [mv_tr_cat, mv_ok1_of hok hj e2]; simp
      · have : (j + 1 == n) = false := by simp; exact e2
        rw [this]; rfl
    simp only [h1, h2]; rfl
theorem mv_Lc_st2 {nL n : Nat} {lc : mv_L} {x : Int64} {ls' : Array Slot} (h : mv_Lc ad ls nL lc) (hok : mv_ok1 lc n = true) (h' : lv_has ls' nL ((n, Value.long x) :: (mv_lst ad lc).filter (fun q => !(q.1 == n) && (!(q.1 == n + 1) && !(q.1 + 1 == n && q.2.category == 2))))) : mv_Lc ad ls' nL ((lc.set n (some (.long x))).set (n + 1) none) := by
  refine ⟨⟨h'.1, h'.2.1, fun q hq => by cases hq⟩, by rw [List.length_set, List.length_set]; exact h.2.1, fun j w hj => ?_⟩
  by_cases e3 : n + 1 = j
  · subst e3
    rw [List.getElem?_set] at hj
    rw [if_pos rfl] at hj
    split at hj
    · cases hj
    · cases hj
  rw [List.getElem?_set_ne e3] at hj
  by_cases e : n = j
  · subst e
    rw [List.getElem?_set] at hj
    rw [if_pos rfl] at hj
    split at hj
    · cases hj
      exact h'.2.2 _ List.mem_cons_self
    · cases hj
  · rw [List.getElem?_set_ne e] at hj
    refine h'.2.2 (j, mv_tr ad w) (List.mem_cons_of_mem _ (List.mem_filter.mpr ⟨mv_lst_in hj, ?_⟩))
    have h1 : (j == n) = false := by simp; exact fun q => e q.symm
    have h3 : (j == n + 1) = false := by simp; exact fun q => e3 q.symm
    have h2 : (j + 1 == n && (mv_tr ad w).category == 2) = false := by
      by_cases e2 : j + 1 = n
      · rw [mv_tr_cat, mv_ok1_of hok hj e2]; simp
      · have : (j + 1 == n) = false := by simp; exact e2
        rw [this]; rfl
    simp only [h1, h2, h3]; rfl
theorem mv_sti_inv {lc lc' : mv_L} {n : Nat} {st st' : List Value} (h : mv_sti lc n st = some (lc', st')) : ∃ x, st = .int x :: st' ∧ lc' = lc.set n (some (.int x)) ∧ mv_ok1 lc n = true ∧ n < lc.length := by
  unfold mv_sti at h
  split at h
  · obtain ⟨h1, h2⟩ := mv_bif h
    rw [Bool.and_eq_true] at h1
    cases h2
    exact ⟨_, rfl, rfl, h1.1, Nat.le_of_ble_eq_true h1.2⟩
  · cases h
theorem mv_sta_inv {lc lc' : mv_L} {n : Nat} {st st' : List Value} (h : mv_sta lc n st = some (lc', st')) : ∃ x, st = .ref x :: st' ∧ lc' = lc.set n (some (.ref x)) ∧ mv_ok1 lc n = true ∧ n < lc.length := by
  unfold mv_sta at h
  split at h
  · obtain ⟨h1, h2⟩ := mv_bif h
    rw [Bool.and_eq_true] at h1
    cases h2
    exact ⟨_, rfl, rfl, h1.1, Nat.le_of_ble_eq_true h1.2⟩
  · cases h
theorem mv_stl_inv {lc lc' : mv_L} {n : Nat} {st st' : List Value} (h : mv_stl lc n st = some (lc', st')) : ∃ x, st = .long x :: st' ∧ lc' = (lc.set n (some (.long x))).set (n + 1) none ∧ mv_ok1 lc n = true ∧ n + 1 < lc.length := by
  unfold mv_stl at h
  split at h
  · obtain ⟨h1, h2⟩ := mv_bif h
    rw [Bool.and_eq_true] at h1
    cases h2
    exact ⟨_, rfl, rfl, h1.1, Nat.le_of_ble_eq_true h1.2⟩
  · cases h
theorem mv_inc_inv {lc lc' : mv_L} {n : Nat} {z : Int} {st st' : List Value} (h : mv_inc lc n z st = some (lc', st')) : ∃ x, lc[n]? = some (some (.int x)) ∧ st' = st ∧ lc' = lc.set n (some (.int (x + Int32.ofInt z))) ∧ mv_ok1 lc n = true ∧ n < lc.length := by
  unfold mv_inc at h
  split at h
  · rename_i x hx
    obtain ⟨h1, h2⟩ := mv_bif h
    rw [Bool.and_eq_true] at h1
    cases h2
    exact ⟨x, hx, rfl, rfl, h1.1, Nat.le_of_ble_eq_true h1.2⟩
  · cases h
theorem mv_ldi_inv {lc lc' : mv_L} {n : Nat} {st st' : List Value} (h : mv_ldi lc n st = some (lc', st')) : ∃ x, lc[n]? = some (some (.int x)) ∧ lc' = lc ∧ st' = .int x :: st := by
  unfold mv_ldi at h
  split at h
  · rename_i x hx
    cases h
    exact ⟨x, hx, rfl, rfl⟩
  · cases h
theorem mv_ldl_inv {lc lc' : mv_L} {n : Nat} {st st' : List Value} (h : mv_ldl lc n st = some (lc', st')) : ∃ x, lc[n]? = some (some (.long x)) ∧ lc' = lc ∧ st' = .long x :: st := by
  unfold mv_ldl at h
  split at h
  · rename_i x hx
    cases h
    exact ⟨x, hx, rfl, rfl⟩
  · cases h
theorem mv_lda_inv {lc lc' : mv_L} {n : Nat} {st st' : List Value} (h : mv_lda lc n st = some (lc', st')) : ∃ x, lc[n]? = some (some (.ref x)) ∧ lc' = lc ∧ st' = .ref x :: st := by
  unfold mv_lda at h
  split at h
  · rename_i x hx
    cases h
    exact ⟨x, hx, rfl, rfl⟩
  · cases h
set_option maxHeartbeats 4000000 in
theorem mv_loc_ok (hx : p.tables.exec = Jvm.exec) (hb : cod.code = cc) {i : ClassFile.Instr} {nL : Nat} {lc lc' : mv_L} {st st' : List Value} (hd : decode cc pc = .ok (i, mv_len i)) (h : mv_loc i lc st = some (lc', st')) (hl : mv_Lc ad ls nL lc)
    (k : ∀ ls', mv_Lc ad ls' nL lc' → W p l e R s m args below meth cod H locs cells slots Qz (F0 m (pc + mv_len i) ls' (st'.map (mv_tr ad)))) : W p l e R s m args below meth cod H locs cells slots Qz (F0 m pc ls (st.map (mv_tr ad))) := by
  have hh := mv_Lc_has hl
  cases i
  case iload n => obtain ⟨x, h1, rfl, rfl⟩ := mv_ldi_inv h; exact lv_iload hx hb hd (hl.2.2 _ _ h1) (k _ hl)
  case iload_n n => obtain ⟨x, h1, rfl, rfl⟩ := mv_ldi_inv h; exact lv_iload_n hx hb hd rfl (hl.2.2 _ _ h1) (k _ hl)
  case lload n => obtain ⟨x, h1, rfl, rfl⟩ := mv_ldl_inv h; exact lv_lload hx hb hd (hl.2.2 _ _ h1) (k _ hl)
  case lload_n n => obtain ⟨x, h1, rfl, rfl⟩ := mv_ldl_inv h; exact lv_lload_n hx hb hd rfl (hl.2.2 _ _ h1) (k _ hl)
  case aload n => obtain ⟨x, h1, rfl, rfl⟩ := mv_lda_inv h; exact lv_aload hx hb hd (hl.2.2 _ _ h1) (k _ hl)
  case aload_n n => obtain ⟨x, h1, rfl, rfl⟩ := mv_lda_inv h; exact lv_aload_n hx hb hd rfl (hl.2.2 _ _ h1) (k _ hl)
  case istore n => obtain ⟨x, rfl, rfl, h1, h2⟩ := mv_sti_inv h; exact lv_istore hx hb hd hh (by rw [← hl.2.1]; exact h2) rfl (fun ls' h' => k ls' (mv_Lc_st1 hl h1 h'))
  case istore_n n => obtain ⟨x, rfl, rfl, h1, h2⟩ := mv_sti_inv h; exact lv_istore_n hx hb hd rfl hh (by rw [← hl.2.1]; exact h2) rfl (fun ls' h' => k ls' (mv_Lc_st1 hl h1 h'))
  case lstore n => obtain ⟨x, rfl, rfl, h1, h2⟩ := mv_stl_inv h; exact lv_lstore hx hb hd hh (by rw [← hl.2.1]; exact h2) rfl (fun ls' h' => k ls' (mv_Lc_st2 hl h1 h'))
  case lstore_n n => obtain ⟨x, rfl, rfl, h1, h2⟩ := mv_stl_inv h; exact lv_lstore_n hx hb hd rfl hh (by rw [← hl.2.1]; exact h2) rfl (fun ls' h' => k ls' (mv_Lc_st2 hl h1 h'))
  case astore n => obtain ⟨x, rfl, rfl, h1, h2⟩ := mv_sta_inv h; exact lv_astore hx hb hd hh (by rw [← hl.2.1]; exact h2) rfl (fun ls' h' => k ls' (mv_Lc_st1 (v := .ref x) hl h1 h'))
  case astore_n n => obtain ⟨x, rfl, rfl, h1, h2⟩ := mv_sta_inv h; exact lv_astore_n hx hb hd rfl hh (by rw [← hl.2.1]; exact h2) rfl (fun ls' h' => k ls' (mv_Lc_st1 (v := .ref x) hl h1 h'))
  case iinc n z =>
    obtain ⟨x, h0, rfl, rfl, h1, h2⟩ := mv_inc_inv h
    obtain ⟨q, hq⟩ := List.getElem?_of_mem (mv_lst_in (ad := ad) h0)
    exact lv_iinc hx hb hd hh hq rfl (by rw [← hl.2.1]; exact h2) rfl (fun ls' h' => k ls' (mv_Lc_st1 (v := .int (x + Int32.ofInt z)) hl h1 h'))
  all_goals (exact absurd h (by simp [mv_loc]))
theorem mv_cond_ok (hx : p.tables.exec = Jvm.exec) (hb : cod.code = cc) {i : ClassFile.Instr} {st r : List Value} {cn : Prop} {off : Int} {tgt : Nat} (hd : decode cc pc = .ok (i, mv_len i)) (h : mv_cond i st = some (cn, off, r)) (ht : (pc : Int) + off = (tgt : Int))
    (kt : cn → W p l e R s m args below meth cod H locs cells slots Qz (F0 m tgt ls (r.map (mv_tr ad)))) (kf : ¬ cn → W p l e R s m args below meth cod H locs cells slots Qz (F0 m (pc + 3) ls (r.map (mv_tr ad)))) : W p l e R s m args below meth cod H locs cells slots Qz (F0 m pc ls (st.map (mv_tr ad))) := by
  unfold mv_cond at h
  split at h
  · split at h
    · split at h
      · cases h; exact lv_if_eq hx hb hd ht kt kf
      · cases h; exact lv_if_ne hx hb hd ht kt (fun z => kf (fun g => g z))
      · cases h; exact lv_if_lt hx hb hd ht kt kf
      · cases h; exact lv_if_ge hx hb hd ht kt kf
      · cases h; exact lv_if_gt hx hb hd ht kt kf
      · cases h; exact lv_if_le hx hb hd ht kt kf
    · cases h
  · split at h
    · split at h
      · cases h; exact lv_icmp_eq hx hb hd ht kt kf
      · cases h; exact lv_icmp_ne hx hb hd ht kt (fun z => kf (fun g => g z))
      · cases h; exact lv_icmp_lt hx hb hd ht kt kf
      · cases h; exact lv_icmp_ge hx hb hd ht kt kf
      · cases h; exact lv_icmp_gt hx hb hd ht kt kf
      · cases h; exact lv_icmp_le hx hb hd ht kt kf
    · cases h
  · cases h
theorem mv_sw_ok (hx : p.tables.exec = Jvm.exec) (hb : cod.code = cc) {i : ClassFile.Instr} {n : Nat} {x : Int32} {r : List Value} {off : Int} {tgt : Nat} (hd : decode cc pc = .ok (i, n)) (h : mv_sw i x = some off) (ht : (pc : Int) + off = (tgt : Int))
    (k : W p l e R s m args below meth cod H locs cells slots Qz (F0 m tgt ls (r.map (mv_tr ad)))) : W p l e R s m args below meth cod H locs cells slots Qz (F0 m pc ls ((Value.int x :: r).map (mv_tr ad))) := by
  unfold mv_sw at h
  split at h
  · obtain ⟨h1, rfl⟩ := mv_bif h
    exact lv_lookup hx hb hd h1 rfl ht k
  · split at h
    · rename_i hc
      cases h
      exact lv_tableOut hx hb hd hc ht k
    · rename_i hc
      exact lv_tableIn hx hb hd (fun z => hc (Or.inl z)) (fun z => hc (Or.inr z)) h ht k
  · cases h
end MVP
