/-! The small machine's cells over the great one's; the instructions that touch cells. -/
def mv_tys (cA : Nat → ClassId) : List (ClassId × FieldType) := [(cA 0, .int), (cA 1, .boolean), (cA 2, .byte), (cA 3, .long)]
def mv_cell (kd : List (List Nat)) (cA : Nat → ClassId) (ad : Nat → Nat) (S : mv_S) (k : Nat) (sh : mv_Sh) : va_E := match sh with
  | .inl q => .inl (cA q.1, q.2, bif Nat.beq q.1 3 then .inr (.inl (S.2.2.1 k)) else .inl (S.2.1 k))
  | .inr c => .inr (c, (kd.getD c []).mapIdx (fun j q => mv_tr ad (mv_fval q S k j)))
def mv_ws (kd : List (List Nat)) (cA : Nat → ClassId) (ad : Nat → Nat) (S : mv_S) : va_W := S.1.mapIdx (fun k sh => (ad k, mv_cell kd cA ad S k sh))
theorem mv_ws_get {kd : List (List Nat)} {cA : Nat → ClassId} {ad : Nat → Nat} {S : mv_S} {k : Nat} {sh : mv_Sh} (h : S.1[k]? = some sh) : (mv_ws kd cA ad S)[k]? = some (ad k, mv_cell kd cA ad S k sh) := by
  unfold mv_ws
  rw [List.getElem?_mapIdx, h]
  rfl
theorem mv_cell_far {kd : List (List Nat)} {cA : Nat → ClassId} {ad : Nat → Nat} {S S' : mv_S} {k : Nat} (h1 : S'.2.1 k = S.2.1 k) (h2 : S'.2.2.1 k = S.2.2.1 k) (h3 : S'.2.2.2 k = S.2.2.2 k) (sh : mv_Sh) : mv_cell kd cA ad S' k sh = mv_cell kd cA ad S k sh := by
  cases sh with
  | inl q => simp only [mv_cell, h1, h2]
  | inr c => simp only [mv_cell, mv_fval, h1, h2, h3]
theorem mv_ws_set {kd : List (List Nat)} {cA : Nat → ClassId} {ad : Nat → Nat} {S S' : mv_S} {k : Nat} {sh : mv_Sh} (h0 : S'.1 = S.1) (h : ∀ a, a ≠ k → S'.2.1 a = S.2.1 a ∧ S'.2.2.1 a = S.2.2.1 a ∧ S'.2.2.2 a = S.2.2.2 a) (hk : S.1[k]? = some sh) : mv_ws kd cA ad S' = (mv_ws kd cA ad S).set k (ad k, mv_cell kd cA ad S' k sh) := by
  refine List.ext_getElem? (fun j => ?_)
  by_cases e : k = j
  · subst e
    have hl : k < (mv_ws kd cA ad S).length := by
      unfold mv_ws
      rw [List.length_mapIdx]
      exact (List.getElem?_eq_some_iff.mp hk).1
    rw [List.getElem?_set_self hl, mv_ws_get (S := S') (by rw [h0]; exact hk)]
  · rw [List.getElem?_set_ne e]
    unfold mv_ws
    rw [List.getElem?_mapIdx, List.getElem?_mapIdx, h0]
    cases hj : S.1[j]? with
    | none => rfl
    | some x =>
      obtain ⟨a1, a2, a3⟩ := h j (fun q => e q.symm)
      simp only [Option.map_some, mv_cell_far a1 a2 a3]
theorem mv_up_far {α : Type} {f : Nat → Nat → α} {k j a : Nat} {x : α} (h : a ≠ k) : mv_up f k j x a = f a := by
  funext b
  simp [mv_up, h]
theorem mv_up_near {α : Type} {f : Nat → Nat → α} {k j b : Nat} {x : α} (h : b ≠ j) : mv_up f k j x k b = f k b := by
  simp [mv_up, h]
theorem mv_up_at {α : Type} {f : Nat → Nat → α} {k j : Nat} {x : α} : mv_up f k j x k j = x := by
  simp [mv_up]
theorem mv_flds_set {L : List Nat} {g g' : Nat → Nat → Value} {j c : Nat} (hj : L[j]? = some c) (h : ∀ b q, b ≠ j → g' b q = g b q) : L.mapIdx g' = (L.mapIdx g).set j (g' j c) := by
  refine List.ext_getElem? (fun b => ?_)
  by_cases e : j = b
  · subst e
    have hl : j < (L.mapIdx g).length := by
      rw [List.length_mapIdx]
      exact (List.getElem?_eq_some_iff.mp hj).1
    rw [List.getElem?_set_self hl, List.getElem?_mapIdx, hj]
    rfl
  · rw [List.getElem?_set_ne e, List.getElem?_mapIdx, List.getElem?_mapIdx]
    cases hb : L[b]? with
    | none => rfl
    | some x => simp only [Option.map_some, h b x (fun q => e q.symm)]
theorem mv_S_self {A : Nat → Prop} {H0 H : Heap} {locs : List Loc} (h : va_S A H0 H locs) : va_S A H H locs := ⟨Nat.le_refl _, fun _ _ _ => rfl, h.2.2⟩
theorem mv_S_trans {A : Nat → Prop} {H0 H H1 : Heap} {locs locs1 : List Loc} (h : va_S A H0 H locs) (k : va_S A H H1 locs1) : va_S A H0 H1 locs1 :=
  ⟨Nat.le_trans h.1 k.1, fun q h1 h2 => (k.2.1 q (Nat.lt_of_lt_of_le h1 h.1) h2).trans (h.2.1 q h1 h2), k.2.2⟩
/-- the kinds of a class's fields and their types -/
def mv_Kt (kc : Nat) (t : FieldType) : Prop := match kc with
  | 0 => t = .int
  | 1 => t = .boolean
  | 3 => t = .long
  | 4 => (∃ n, t = .object n) ∨ ∃ u, t = .array u
  | _ => False
def mv_Cl (cl : List vw_C) (kd : List (List Nat)) (Ts : List Jvm.Cond) : Prop := ∀ (ci : Nat) (C : String) (T : u_T) (N : Nat), cl[ci]? = some (C, T, N) → (∀ w ∈ u_ws C T N, w ∈ Ts) ∧ (kd.getD ci []).length = N ∧ (∃ ty : Nat → FieldType, ∀ k, k < N → parseFieldDescriptor (T k).2.2.1 = some (ty k) ∧ ∀ kc, (kd.getD ci [])[k]? = some kc → mv_Kt kc (ty k)) ∧ ∀ a, a < N → ∀ b, b < N → a ≠ b → (T a).2.1 ≠ (T b).2.1
/-- what stands while a method runs -/
def mv_Sts (A : Nat → Prop) (ad : Nat → Nat) (sta : Nat → List Int32) (stn : List (String × String × String)) (U : State) : Prop := ∀ (t : Nat) (q : String × String × String), stn[t]? = some q → va_Z q.1 q.2.1 q.2.2 (.ref (ad (100000 + t))) A U U.heap ∧ va_T .int (ad (100000 + t)) (sta t).length (fun j => .int ((sta t).getD j 0)) A U U.heap
def mv_Cx (p : Program) (s : State) (m : MethodId) (args : Array Value) (meth : Method) (cod : Code) (A : Nat → Prop) (D : va_G) (cl : List vw_C) (cA : Nat → ClassId) (ad : Nat → Nat) (Ts Nw : List Jvm.Cond) (sta : Nat → List Int32) (stn : List (String × String × String)) (M : mv_Me) : Prop :=
  p.tables.exec = Jvm.exec ∧ cod.code = (mv_cc M) ∧ cod.maxLocals = (mv_ml M) ∧ s.vm.findClass (mv_ow M) = some m.cls ∧ (∀ w ∈ Ts, w.before args s = true) ∧ (∀ w ∈ Nw, va_Nw w s) ∧ va_K D cl (mv_tys cA) s ∧ (∀ q, s.heap.size ≤ q → A q) ∧ meth.locks = false ∧ meth.sig.returnType = (mv_rt M) ∧ meth.name = M.1.name ∧ mv_Sts A ad sta stn s
/-- the cells at hand -/
def mv_Hc (A : Nat → Prop) (D : va_G) (cl : List vw_C) (kd : List (List Nat)) (cA : Nat → ClassId) (ad : Nat → Nat) (s : State) (S : mv_S) (vc : Nat) (H : Heap) (locs : List Loc) : Prop :=
  va_P D cl (mv_ws kd cA ad S) H ∧ va_D A (mv_ws kd cA ad S) ∧ va_S A s.heap H locs ∧ H.size = s.heap.size + vc ∧ ∀ k, S.1.length ≤ k → k < 100000 → ad k + S.1.length = H.size + k
def mv_lnk (Ts Nw : List Jvm.Cond) (own : String) (idx : Nat) (r n d : String) : Prop := Jvm.Cond.fieldLink own idx r n d ∈ Ts ∨ ∃ h, Jvm.Cond.fieldLinkNest own idx r n d h ∈ Nw
theorem mv_nb {x : Int32} (h : (x == 0 || x == 1) = true) : narrow .boolean (.int x) = .int x := by
  simp only [Bool.or_eq_true, beq_iff_eq] at h
  rcases h with rfl | rfl
  · rfl
  · rfl
section MVH
variable {p : Program} {l : Launch} {e : Env} {R : Room} {s : State} {m : MethodId} {args : Array Value} {below : List Frame} {meth : Method} {cod : Code} {H : Heap} {locs : List Loc} {cells slots : Nat} {Qz : State → Prop}
variable {pc : Nat} {ls : Array Slot} {ad : Nat → Nat} {A : Nat → Prop} {D : va_G} {cl : List vw_C} {kd : List (List Nat)} {cA : Nat → ClassId} {Ts Nw : List Jvm.Cond} {sta : Nat → List Int32} {stn : List (String × String × String)} {M : mv_Me} {S S' : mv_S} {st r : List Value}
theorem mv_Wsz {g : JFrame} (h : H.size ≤ s.heap.size + cells → W p l e R s m args below meth cod H locs cells slots Qz g) : W p l e R s m args below meth cod H locs cells slots Qz g := fun T hT X => h (by rw [← hT]; exact X.same.2.2.1) T hT X
theorem mv_get_ok (X : mv_Cx p s m args meth cod A D cl cA ad Ts Nw sta stn M) (hC : mv_Cl cl kd Ts) (hH : mv_Hc A D cl kd cA ad s S cells H locs) {idx a b c k : Nat} {C : String} {T : u_T} {N : Nat} (hd : decode (mv_cc M) pc = .ok (.getfield idx, 3)) (h1 : cl[a]? = some (C, T, N)) (h2 : (kd.getD a [])[b]? = some c) (h3 : mv_lnk Ts Nw (mv_ow M) idx (T b).1 (T b).2.1 (T b).2.2.1) (hk : S.1[k]? = some (.inr a))
    (kk : W p l e R s m args below meth cod H locs cells slots Qz (F0 m (pc + 3) ls ((mv_fval c S k b :: r).map (mv_tr ad)))) : W p l e R s m args below meth cod H locs cells slots Qz (F0 m pc ls ((Value.ref k :: r).map (mv_tr ad))) := by
  obtain ⟨hx, hb, -, hown, hts, hnw, hK, -⟩ := X
  obtain ⟨c1, c2, -, -⟩ := hC a C T N h1
  have hbN : b < N := by rw [← c2]; exact (List.getElem?_eq_some_iff.mp h2).1
  have hv : ((kd.getD a []).mapIdx (fun j q => mv_tr ad (mv_fval q S k j)))[b]? = some (mv_tr ad (mv_fval c S k b)) := by
    rw [List.getElem?_mapIdx, h2]; rfl
  rcases h3 with h3 | ⟨h, h3⟩
  · exact va_get hx hb hts c1 hown hK hH.1 k (mv_ws_get hk) h1 b hbN (hts _ h3) (fun _ h9 => h9) hv hd kk
  · exact va_getN hx hb hts c1 hown hK hH.1 k (mv_ws_get hk) h1 b hbN (va_Nw.use rfl (hnw _ h3)) (fun _ h9 => h9) hv hd kk
theorem mv_put_inv {c : Nat} {v : Value} {k j : Nat} {t : FieldType} (h : mv_put c v S k j = some S') (ht : mv_Kt c t) : S'.1 = S.1 ∧ (∀ a, a ≠ k → S'.2.1 a = S.2.1 a ∧ S'.2.2.1 a = S.2.2.1 a ∧ S'.2.2.2 a = S.2.2.2 a) ∧ (∀ b q, b ≠ j → mv_fval q S' k b = mv_fval q S k b) ∧ mv_fval c S' k j = v ∧ narrow t (mv_tr ad v) = mv_tr ad v ∧ fits t (mv_tr ad v) = true := by
  unfold mv_put at h
  split at h
  · cases h
    have ht : t = .int := ht
    subst ht
    exact ⟨rfl, fun a q => ⟨mv_up_far q, rfl, rfl⟩, fun b q hb => by simp only [mv_fval, mv_up_near hb], by show Value.int (mv_up S.2.1 k j _ k j) = _; rw [mv_up_at], rfl, rfl⟩
  · obtain ⟨h1, h2⟩ := mv_bif h
    cases h2
    have ht : t = .boolean := ht
    subst ht
    exact ⟨rfl, fun a q => ⟨mv_up_far q, rfl, rfl⟩, fun b q hb => by simp only [mv_fval, mv_up_near hb], by show Value.int (mv_up S.2.1 k j _ k j) = _; rw [mv_up_at], mv_nb h1, h1⟩
  · cases h
    have ht : t = .long := ht
    subst ht
    exact ⟨rfl, fun a q => ⟨rfl, mv_up_far q, rfl⟩, fun b q hb => by simp only [mv_fval, mv_up_near hb], by show Value.long (mv_up S.2.2.1 k j _ k j) = _; rw [mv_up_at], rfl, rfl⟩
  · cases h
    have ht : (∃ n, t = .object n) ∨ ∃ u, t = .array u := ht
    refine ⟨rfl, fun a q => ⟨rfl, rfl, mv_up_far q⟩, fun b q hb => by simp only [mv_fval, mv_up_near hb], by show (match mv_up S.2.2.2 k j (some _) k j with | none => Value.null | some q => .ref q) = _; rw [mv_up_at], ?_⟩
    rcases ht with ⟨n, rfl⟩ | ⟨u, rfl⟩
    · exact ⟨rfl, rfl⟩
    · exact ⟨rfl, rfl⟩
  · cases h
theorem mv_put_ok (X : mv_Cx p s m args meth cod A D cl cA ad Ts Nw sta stn M) (hC : mv_Cl cl kd Ts) (hH : mv_Hc A D cl kd cA ad s S cells H locs) {idx a b c k : Nat} {C : String} {T : u_T} {N : Nat} {v : Value} (hd : decode (mv_cc M) pc = .ok (.putfield idx, 3)) (h1 : cl[a]? = some (C, T, N)) (h2 : (kd.getD a [])[b]? = some c)
    (h3 : ((T b).2.2.2 = false ∧ mv_lnk Ts Nw (mv_ow M) idx (T b).1 (T b).2.1 (T b).2.2.1) ∨ ((T b).2.2.2 = true ∧ M.1.name = "<init>" ∧ (T b).1 = (mv_ow M) ∧ Jvm.Cond.fieldLink (mv_ow M) idx (T b).1 (T b).2.1 (T b).2.2.1 ∈ Ts)) (hk : S.1[k]? = some (.inr a)) (hp : mv_put c v S k b = some S')
    (kk : ∀ (H1 : Heap) (locs1 : List Loc), mv_Hc A D cl kd cA ad s S' cells H1 locs1 → W p l e R s m args below meth cod H1 locs1 cells slots Qz (F0 m (pc + 3) ls (r.map (mv_tr ad)))) : W p l e R s m args below meth cod H locs cells slots Qz (F0 m pc ls ((v :: Value.ref k :: r).map (mv_tr ad))) := by
  obtain ⟨hx, hb, -, hown, hts, hnw, hK, -, -, -, hnm, -⟩ := X
  obtain ⟨c1, c2, ⟨ty, c3⟩, c4⟩ := hC a C T N h1
  have hbN : b < N := by rw [← c2]; exact (List.getElem?_eq_some_iff.mp h2).1
  obtain ⟨hH1, hH2, hH3, hH4, hH5⟩ := hH
  obtain ⟨p0, p1, p2, p3, p4, p5⟩ := mv_put_inv (ad := ad) hp ((c3 b hbN).2 c h2)
  have hws : mv_ws kd cA ad S' = (mv_ws kd cA ad S).set k (ad k, .inr (a, ((kd.getD a []).mapIdx (fun j q => mv_tr ad (mv_fval q S k j))).set b (mv_tr ad v))) := by
    have hf := mv_flds_set (L := kd.getD a []) (g := fun j q => mv_tr ad (mv_fval q S k j)) (g' := fun j q => mv_tr ad (mv_fval q S' k j)) h2 (fun b' q hb' => by simp only [p2 b' q hb'])
    simp only [p3] at hf
    have hcell : mv_cell kd cA ad S' k (.inr a) = .inr (a, ((kd.getD a []).mapIdx (fun j q => mv_tr ad (mv_fval q S k j))).set b (mv_tr ad v)) := by
      show (Sum.inr (a, (kd.getD a []).mapIdx (fun j q => mv_tr ad (mv_fval q S' k j))) : va_E) = _
      rw [hf]
    rw [mv_ws_set p0 p1 hk, hcell]
  have hl : b < ((kd.getD a []).mapIdx (fun j q => mv_tr ad (mv_fval q S k j))).length := by
    rw [List.length_mapIdx, c2]; exact hbN
  have fin : ∀ (H1 : Heap) (locs1 : List Loc), va_P D cl ((mv_ws kd cA ad S).set k (ad k, .inr (a, ((kd.getD a []).mapIdx (fun j q => mv_tr ad (mv_fval q S k j))).set b (mv_tr ad v)))) H1 → va_D A ((mv_ws kd cA ad S).set k (ad k, .inr (a, ((kd.getD a []).mapIdx (fun j q => mv_tr ad (mv_fval q S k j))).set b (mv_tr ad v)))) → va_S A H H1 locs1 → W p l e R s m args below meth cod H1 locs1 cells slots Qz (F0 m (pc + 3) ls (r.map (mv_tr ad))) := by
    intro H1 locs1 q1 q2 q3
    refine mv_Wsz (fun hz => ?_)
    have hsz : H1.size = H.size := by have := q3.1; omega
    exact kk H1 locs1 ⟨by rw [hws]; exact q1, by rw [hws]; exact q2, mv_S_trans hH3 q3, by rw [hsz]; exact hH4, by rw [p0, hsz]; exact hH5⟩
  rcases h3 with ⟨f1, f2⟩ | ⟨f1, f2, f3, f4⟩
  · rcases f2 with f2 | ⟨h, f2⟩
    · exact va_put hx hb hts c1 ty (fun k hk => (c3 k hk).1) c4 hown hK hH1 hH2 (mv_S_self hH3) k (mv_ws_get hk) h1 b hbN (hts _ f2) (fun _ h9 => h9) f1 (c3 b hbN).1 p4 p5 hl hd fin
    · exact va_putN hx hb hts c1 ty (fun k hk => (c3 k hk).1) c4 hown hK hH1 hH2 (mv_S_self hH3) k (mv_ws_get hk) h1 b hbN (va_Nw.use rfl (hnw _ f2)) (fun _ h9 => h9) f1 (c3 b hbN).1 p4 p5 hl hd fin
  · exact va_putF hx hb hts c1 ty (fun k hk => (c3 k hk).1) c4 hown hK hH1 hH2 (mv_S_self hH3) k (mv_ws_get hk) h1 b hbN (hts _ f4) (fun _ h9 => h9) f1 (hnm.trans f2) f3 (c3 b hbN).1 p4 p5 hl hd fin
theorem mv_alen_ok (X : mv_Cx p s m args meth cod A D cl cA ad Ts Nw sta stn M) (hH : mv_Hc A D cl kd cA ad s S cells H locs) {k t n : Nat} (hd : decode (mv_cc M) pc = .ok (.arraylength, 1)) (ht : t ≤ 3) (hk : S.1[k]? = some (.inl (t, n)))
    (kk : W p l e R s m args below meth cod H locs cells slots Qz (F0 m (pc + 1) ls ((Value.int (Int32.ofNat n) :: r).map (mv_tr ad)))) : W p l e R s m args below meth cod H locs cells slots Qz (F0 m pc ls ((Value.ref k :: r).map (mv_tr ad))) := by
  obtain ⟨hx, hb, -, hown, hts, hnw, hK, -⟩ := X
  have hg := mv_ws_get (kd := kd) (cA := cA) (ad := ad) hk
  have hty : (mv_tys cA)[t]? = some (cA t, mv_ty t) := by
    rcases (show t = 0 ∨ t = 1 ∨ t = 2 ∨ t = 3 by omega) with rfl | rfl | rfl | rfl <;> rfl
  exact va_alen hx hb hK hH.1 k t hg hty rfl hd kk
end MVH
