/-! The small machine: arrays, what is made. -/
section MVA
variable {p : Program} {l : Launch} {e : Env} {R : Room} {s : State} {m : MethodId} {args : Array Value} {below : List Frame} {meth : Method} {cod : Code} {H : Heap} {locs : List Loc} {cells slots : Nat} {Qz : State → Prop}
variable {pc : Nat} {ls : Array Slot} {ad : Nat → Nat} {A : Nat → Prop} {D : va_G} {cl : List vw_C} {kd : List (List Nat)} {cA : Nat → ClassId} {Ts Nw : List Jvm.Cond} {sta : Nat → List Int32} {stn : List (String × String × String)} {M : mv_Me} {S S' : mv_S} {st r : List Value}
theorem mv_ald_ok (X : mv_Cx p s m args meth cod A D cl cA ad Ts Nw sta stn M) (hH : mv_Hc A D cl kd cA ad s S cells H locs) (hst : ∀ k, 100000 ≤ k → (sta (k - 100000)).length = 0 ∨ ∃ q, stn[k - 100000]? = some q) {i : ClassFile.Instr} {x : Int32} {k N n : Nat} {v : Value} (hd : decode (mv_cc M) pc = .ok (i, n)) (hn : n = 1) (h : mv_ald sta i S k x = some (N, v)) (hin : vp_in x N)
    (kk : W p l e R s m args below meth cod H locs cells slots Qz (F0 m (pc + 1) ls ((v :: r).map (mv_tr ad)))) : W p l e R s m args below meth cod H locs cells slots Qz (F0 m pc ls ((Value.int x :: Value.ref k :: r).map (mv_tr ad))) := by
  subst hn
  obtain ⟨hx, hb, -, hown, hts, hnw, hK, -, -, -, -, hsts⟩ := X
  unfold mv_ald at h
  split at h
  · rename_i t n hk
    have hg := mv_ws_get (kd := kd) (cA := cA) (ad := ad) hk
    split at h
    · cases h; exact va_iald hx hb hK hH.1 k 0 hg rfl hin hd kk
    · cases h; exact va_zald hx hb hK hH.1 k 1 hg rfl hin hd kk
    · cases h; exact va_bald hx hb hK hH.1 k 2 hg rfl hin hd kk
    · cases h; exact va_lald hx hb hK hH.1 k 3 hg rfl hin hd kk
    · cases h
  · cases h
  · split at h
    · obtain ⟨h1, h2⟩ := mv_bif h
      cases h2
      have h1 : 100000 ≤ k := Nat.le_of_ble_eq_true h1
      rcases hst k h1 with h3 | ⟨q, h3⟩
      · rw [h3] at hin
        exact (hin (Or.inr (Nat.zero_le _))).elim
      · have hT := (hsts _ _ h3).2
        have ek : 100000 + (k - 100000) = k := by omega
        rw [ek] at hT
        exact va_ti hx hb hT hH.2.2.1 hin rfl hd kk
    · cases h
theorem mv_ast_inv {i : ClassFile.Instr} {k : Nat} {x : Int32} {v : Value} {N : Nat} (h : mv_ast i S k x v = some (N, S')) : S'.1 = S.1 ∧ (∀ a, a ≠ k → S'.2.1 a = S.2.1 a ∧ S'.2.2.1 a = S.2.2.1 a ∧ S'.2.2.2 a = S.2.2.2 a) := by
  unfold mv_ast at h
  split at h
  · split at h
    · cases h; exact ⟨rfl, fun a q => ⟨mv_up_far q, rfl, rfl⟩⟩
    · cases h; exact ⟨rfl, fun a q => ⟨mv_up_far q, rfl, rfl⟩⟩
    · cases h; exact ⟨rfl, fun a q => ⟨mv_up_far q, rfl, rfl⟩⟩
    · cases h; exact ⟨rfl, fun a q => ⟨rfl, mv_up_far q, rfl⟩⟩
    · cases h
  · cases h
theorem mv_up_row (f : Nat → Nat → Int32) (k j : Nat) (x : Int32) : mv_up f k j x k = upd (f k) j x := by
  funext b
  simp [mv_up, upd]
theorem mv_up_rowL (f : Nat → Nat → Int64) (k j : Nat) (x : Int64) : mv_up f k j x k = vp_updL (f k) j x := by
  funext b
  simp [mv_up, vp_updL]
theorem mv_ast_ok (X : mv_Cx p s m args meth cod A D cl cA ad Ts Nw sta stn M) (hH : mv_Hc A D cl kd cA ad s S cells H locs) {i : ClassFile.Instr} {x : Int32} {k N n : Nat} {v : Value} (hd : decode (mv_cc M) pc = .ok (i, n)) (hn : n = 1) (h : mv_ast i S k x v = some (N, S')) (hin : vp_in x N)
    (kk : ∀ (H1 : Heap) (locs1 : List Loc), mv_Hc A D cl kd cA ad s S' cells H1 locs1 → W p l e R s m args below meth cod H1 locs1 cells slots Qz (F0 m (pc + 1) ls (r.map (mv_tr ad)))) : W p l e R s m args below meth cod H locs cells slots Qz (F0 m pc ls ((v :: Value.int x :: Value.ref k :: r).map (mv_tr ad))) := by
  subst hn
  obtain ⟨p0, p1⟩ := mv_ast_inv h
  obtain ⟨hx, hb, -, hown, hts, hnw, hK, -⟩ := X
  obtain ⟨hH1, hH2, hH3, hH4, hH5⟩ := hH
  have fin : ∀ (E : Nat × va_E), mv_ws kd cA ad S' = (mv_ws kd cA ad S).set k E → ∀ (H1 : Heap) (locs1 : List Loc), va_P D cl ((mv_ws kd cA ad S).set k E) H1 → va_D A ((mv_ws kd cA ad S).set k E) → va_S A H H1 locs1 → W p l e R s m args below meth cod H1 locs1 cells slots Qz (F0 m (pc + 1) ls (r.map (mv_tr ad))) := by
    intro E hws H1 locs1 q1 q2 q3
    refine mv_Wsz (fun hz => ?_)
    have hsz : H1.size = H.size := by have := q3.1; omega
    exact kk H1 locs1 ⟨by rw [hws]; exact q1, by rw [hws]; exact q2, mv_S_trans hH3 q3, by rw [hsz]; exact hH4, by rw [p0, hsz]; exact hH5⟩
  unfold mv_ast at h
  split at h
  · rename_i t n hk
    have hg := mv_ws_get (kd := kd) (cA := cA) (ad := ad) hk
    have hw := mv_ws_set (kd := kd) (cA := cA) (ad := ad) p0 p1 hk
    split at h
    · cases h
      exact va_iast hx hb hK hH1 hH2 (mv_S_self hH3) k 0 hg rfl hin hd (fin _ (by rw [hw]; simp only [mv_cell, mv_up_row]; rfl))
    · cases h
      exact va_zast hx hb hK hH1 hH2 (mv_S_self hH3) k 1 hg rfl hin hd (fin _ (by rw [hw]; simp only [mv_cell, mv_up_row]; rfl))
    · cases h
      exact va_bast hx hb hK hH1 hH2 (mv_S_self hH3) k 2 hg rfl hin hd (fin _ (by rw [hw]; simp only [mv_cell, mv_up_row]; rfl))
    · cases h
      exact va_last hx hb hK hH1 hH2 (mv_S_self hH3) k 3 hg rfl hin hd (fin _ (by rw [hw]; simp only [mv_cell, mv_up_rowL]; rfl))
    · cases h
  · cases h
theorem mv_clr_far {α : Type} {f : Nat → Nat → α} {k a : Nat} {x : α} (h : a ≠ k) : mv_clr f k x a = f a := by
  funext b
  simp [mv_clr, h]
theorem mv_clr_at {α : Type} {f : Nat → Nat → α} {k : Nat} {x : α} : mv_clr f k x k = fun _ => x := by
  funext b
  simp [mv_clr]
theorem mv_ws_new (sh : mv_Sh) : mv_ws kd cA ad (mv_new S sh) = mv_ws kd cA ad S ++ [(ad S.1.length, mv_cell kd cA ad (mv_new S sh) S.1.length sh)] := by
  refine List.ext_getElem? (fun j => ?_)
  have hl : (mv_ws kd cA ad S).length = S.1.length := by unfold mv_ws; rw [List.length_mapIdx]
  rcases Nat.lt_trichotomy j S.1.length with h | h | h
  · rw [List.getElem?_append_left (by omega)]
    unfold mv_ws
    rw [List.getElem?_mapIdx, List.getElem?_mapIdx, show (mv_new S sh).1 = S.1 ++ [sh] from rfl, List.getElem?_append_left h]
    have e : j ≠ S.1.length := by omega
    cases hj : S.1[j]? with
    | none => rfl
    | some x => simp only [Option.map_some, mv_cell_far (S' := mv_new S sh) (S := S) (mv_clr_far e) (mv_clr_far e) (mv_clr_far e)]
  · subst h
    rw [List.getElem?_append_right (by omega), hl, Nat.sub_self]
    rw [mv_ws_get (S := mv_new S sh) (sh := sh) (by show (S.1 ++ [sh])[S.1.length]? = some sh; rw [List.getElem?_append_right (Nat.le_refl _), Nat.sub_self]; rfl)]
    rfl
  · rw [List.getElem?_eq_none (by show (mv_ws kd cA ad (mv_new S sh)).length ≤ j; unfold mv_ws; rw [List.length_mapIdx]; show (S.1 ++ [sh]).length ≤ j; rw [List.length_append]; simp; omega), List.getElem?_eq_none (by rw [List.length_append, hl]; simp; omega)]
/-- a new cell at the end of the heap -/
theorem mv_Hc_new {sh : mv_Sh} (hA : ∀ q, s.heap.size ≤ q → A q) (hH : mv_Hc A D cl kd cA ad s S cells H locs) (hn : S.1.length < 100000) {H1 : Heap} (z : H1.size = H.size + 1) (o : ∀ q, q < H.size → H1[q]? = H[q]?) (hc : va_at D cl (H.size, mv_cell kd cA ad (mv_new S sh) S.1.length sh) H1) : mv_Hc A D cl kd cA ad s (mv_new S sh) (cells + 1) H1 locs := by
  obtain ⟨hP, hD, hS, hz, ht⟩ := hH
  have ha : ad S.1.length = H.size := by have := ht S.1.length (Nat.le_refl _) hn; omega
  refine ⟨?_, ?_, ⟨Nat.le_trans hS.1 (by omega), fun x h1 h2 => (o x (Nat.lt_of_lt_of_le h1 hS.1)).trans (hS.2.1 x h1 h2), hS.2.2⟩, by omega, ?_⟩
  · rw [mv_ws_new, ha]
    refine (hP.kept (fun k x hx => o x.1 ((hP k x hx).lt))).app (fun k x hx => ?_)
    have hz : k < 1 := (List.getElem?_eq_some_iff.mp hx).1
    rw [show k = 0 by omega] at hx
    cases hx
    exact hc
  · rw [mv_ws_new, ha]
    exact hD.push hP rfl (hA _ hS.1)
  · intro k h1 h2
    have e : (mv_new S sh).1.length = S.1.length + 1 := by show (S.1 ++ [sh]).length = _; rw [List.length_append]; rfl
    rw [e] at h1 ⊢
    have := ht k (by omega) h2
    omega
theorem mv_new_ok (X : mv_Cx p s m args meth cod A D cl cA ad Ts Nw sta stn M) (hC : mv_Cl cl kd Ts) (hH : mv_Hc A D cl kd cA ad s S cells H locs) {idx a b : Nat} {C : String} {T : u_T} (hd : decode (mv_cc M) pc = .ok (.new idx, 3)) (h1 : cl[a]? = some (C, T, b)) (h2 : Jvm.Cond.classLink (mv_ow M) idx C ∈ Ts) (h3 : Jvm.Cond.instantiable C b ∈ Ts) (h4 : Jvm.Cond.initialized C ∈ Ts) (hn : S.1.length < 100000) (hcells : cells + 1 ≤ R.cells) (hslots : slots + b ≤ R.slots)
    (kk : ∀ (H1 : Heap), mv_Hc A D cl kd cA ad s (mv_new S (.inr a)) (cells + 1) H1 locs → W p l e R s m args below meth cod H1 locs (cells + 1) (slots + b) Qz (F0 m (pc + 3) ls ((Value.ref S.1.length :: r).map (mv_tr ad)))) : W p l e R s m args below meth cod H locs cells slots Qz (F0 m pc ls (r.map (mv_tr ad))) := by
  obtain ⟨hx, hb, -, hown, hts, hnw, hK, hA, -⟩ := X
  obtain ⟨c1, c2, ⟨ty, c3⟩, c4⟩ := hC a C T b h1
  have hKn := hK.1 a _ h1
  have ha : ad S.1.length = H.size := by have := hH.2.2.2.2 S.1.length (Nat.le_refl _) hn; omega
  refine W.newcK hx hb hown (hts _ h2) (hts _ h3) (hts _ h4) rfl hd hcells hslots hKn.2.1 rfl fun H1 kC hkC e1 z1 o1 => ?_
  have := kk H1 (mv_Hc_new hA hH hn z1 o1 ⟨_, h1, (u_born ty hts c1 hKn hkC e1 (fun k hk => (c3 k hk).1)).to (fun j hj => ?_)⟩)
  · rw [← ha]; exact this
  · have hlt : j < (kd.getD a []).length := by rw [c2]; exact hj
    obtain ⟨kc, hkc⟩ : ∃ kc, (kd.getD a [])[j]? = some kc := ⟨_, List.getElem?_eq_getElem hlt⟩
    have hkt := (c3 j hj).2 kc hkc
    have hv : vp_V ((kd.getD a []).mapIdx (fun j q => mv_tr ad (mv_fval q (mv_new S (.inr a)) S.1.length j))) j = mv_tr ad (mv_fval kc (mv_new S (.inr a)) S.1.length j) := by
      unfold vp_V
      rw [List.getD_eq_getElem?_getD, List.getElem?_mapIdx, hkc]
      rfl
    show defaultValue (ty j) = vp_V _ j
    rw [hv]
    have e1 : (mv_new S (.inr a)).2.1 S.1.length = fun _ => 0 := mv_clr_at
    have e2 : (mv_new S (.inr a)).2.2.1 S.1.length = fun _ => 0 := mv_clr_at
    have e3 : (mv_new S (.inr a)).2.2.2 S.1.length = fun _ => none := mv_clr_at
    unfold mv_Kt at hkt
    split at hkt
    · rw [hkt]; simp only [mv_fval, e1]; rfl
    · rw [hkt]; simp only [mv_fval, e1]; rfl
    · rw [hkt]; simp only [mv_fval, e2]; rfl
    · rcases hkt with ⟨n, hkt⟩ | ⟨u, hkt⟩
      · rw [hkt]; simp only [mv_fval, e3]; rfl
      · rw [hkt]; simp only [mv_fval, e3]; rfl
    · exact hkt.elim
theorem mv_newa_ok (X : mv_Cx p s m args meth cod A D cl cA ad Ts Nw sta stn M) (hH : mv_Hc A D cl kd cA ad s S cells H locs) {t : ClassFile.ArrayType} {c : Nat} {x : Int32} (hd : decode (mv_cc M) pc = .ok (.newarray t, 2)) (h1 : c ≤ 3) (h2 : Op.newarray.typeOf t = mv_ty c) (h3 : Jvm.Cond.arrayClass (mv_ty c) ∈ Ts) (hn : S.1.length < 100000) (hx0 : ¬ x < 0) (hx1 : x.toNatClampNeg ≤ 1000000) (hcells : cells + 1 ≤ R.cells) (hslots : slots + x.toNatClampNeg ≤ R.slots)
    (kk : ∀ (H1 : Heap), mv_Hc A D cl kd cA ad s (mv_new S (.inl (c, x.toNatClampNeg))) (cells + 1) H1 locs → W p l e R s m args below meth cod H1 locs (cells + 1) (slots + x.toNatClampNeg) Qz (F0 m (pc + 2) ls ((Value.ref S.1.length :: r).map (mv_tr ad)))) : W p l e R s m args below meth cod H locs cells slots Qz (F0 m pc ls ((Value.int x :: r).map (mv_tr ad))) := by
  obtain ⟨hx, hb, -, hown, hts, hnw, hK, hA, -⟩ := X
  have ha : ad S.1.length = H.size := by have := hH.2.2.2.2 S.1.length (Nat.le_refl _) hn; omega
  have hty : (mv_tys cA)[c]? = some (cA c, mv_ty c) := by
    rcases (show c = 0 ∨ c = 1 ∨ c = 2 ∨ c = 3 by omega) with rfl | rfl | rfl | rfl <;> rfl
  have hRA := (hK.2 c _ hty).2
  have hby : x.toNatClampNeg * componentBytes (Op.newarray.typeOf t) ≤ 536870912 := by
    have : componentBytes (Op.newarray.typeOf t) ≤ 8 := by cases t <;> decide
    calc x.toNatClampNeg * componentBytes (Op.newarray.typeOf t) ≤ 1000000 * 8 := Nat.mul_le_mul hx1 this
      _ ≤ 536870912 := by decide
  refine va_newaK hx hb (by rw [h2]; exact hts _ h3) rfl hd rfl hx0 rfl hby hcells hslots rfl fun H1 cB e1 z1 o1 hAr hNm => ?_
  have hcB : cB = cA c := by
    rw [h2] at hNm
    rcases (show c = 0 ∨ c = 1 ∨ c = 2 ∨ c = 3 by omega) with rfl | rfl | rfl | rfl
    · exact Option.some.inj (hNm.symm.trans hRA)
    · exact Option.some.inj (hNm.symm.trans hRA)
    · exact Option.some.inj (hNm.symm.trans hRA)
    · exact Option.some.inj (hNm.symm.trans hRA)
  have := kk H1 (mv_Hc_new hA hH hn z1 o1 ?_)
  · show W p l e R s m args below meth cod H1 locs (cells + 1) (slots + x.toNatClampNeg) Qz (F0 m (pc + 2) ls (Value.ref H.size :: r.map (mv_tr ad)))
    rw [← ha]; exact this
  · show H1[H.size]? = some (vp_cell _ _)
    rw [e1, h2, hcB]
    have f1 : (mv_new S (.inl (c, x.toNatClampNeg))).2.1 S.1.length = fun _ => 0 := mv_clr_at
    have f2 : (mv_new S (.inl (c, x.toNatClampNeg))).2.2.1 S.1.length = fun _ => 0 := mv_clr_at
    rw [f1, f2]
    rcases (show c = 0 ∨ c = 1 ∨ c = 2 ∨ c = 3 by omega) with rfl | rfl | rfl | rfl <;> rfl
end MVA
