/-! A method that comes to a 'throw new': its contract. -/
def mv_Gs (prog : List mv_Me) (sta : Nat → List Int32) (cal : Nat → List Value → mv_S → (Option Value → mv_S → Prop) → Prop) (M : mv_Me) (Z : mv_F → Prop) (F : mv_F) : Prop :=
  ∀ P : mv_F → Prop, (∀ F, Z F → P F) → (∀ F, mv_Rule prog sta cal M (fun _ _ => False) P F → P F) → P F
section MVY
variable {prog : List mv_Me} {sta : Nat → List Int32} {cal : Nat → List Value → mv_S → (Option Value → mv_S → Prop) → Prop} {M : mv_Me} {Z : mv_F → Prop}
theorem mv_Gs_stop {F : mv_F} (h : Z F) : mv_Gs prog sta cal M Z F := fun _ h1 _ => h1 F h
theorem mv_Gs_rule {F : mv_F} (h : mv_Rule prog sta cal M (fun _ _ => False) (mv_Gs prog sta cal M Z) F) : mv_Gs prog sta cal M Z F := fun P h1 h2 => h2 F (mv_Rule_mono (fun _ k => k P h1 h2) h)
theorem mv_Gs_run (n : Nat) {F F' : mv_F} (h : mv_run sta M n F = some F') (k : mv_Gs prog sta cal M Z F') : mv_Gs prog sta cal M Z F := by
  induction n generalizing F with
  | zero =>
    have e : F = F' := Option.some.inj h
    rw [e]
    exact k
  | succ n ih =>
    unfold mv_run at h
    cases h1 : mv_one sta M F with
    | none => rw [h1] at h; cases h
    | some F1 =>
      rw [h1] at h
      exact mv_Gs_rule (Or.inl ⟨F1, h1, ih h⟩)
variable {pc : Nat} {lc : mv_L} {st r : List Value} {vc vs : Nat} {S : mv_S} {i : ClassFile.Instr} {n a b c d : Nat}
theorem mv_Gs_br {cn : Prop} {off : Int} {tgt : Nat} (h0 : mv_at (mv_tb M) pc = some (i, n, a, b, c, d)) (h1 : mv_cond i st = some (cn, off, r)) (h2 : (pc : Int) + off = (tgt : Int)) (h3 : cn → mv_Gs prog sta cal M Z (tgt, lc, r, vc, vs, S)) (h4 : ¬ cn → mv_Gs prog sta cal M Z (pc + 3, lc, r, vc, vs, S)) : mv_Gs prog sta cal M Z (pc, lc, st, vc, vs, S) :=
  mv_Gs_rule (Or.inr (Or.inr ⟨pc, lc, st, vc, vs, S, i, n, a, b, c, d, rfl, h0, Or.inl ⟨cn, off, r, tgt, h1, h2, h3, h4⟩⟩))
theorem mv_Gs_call {Mj : mv_Me} {as : List Value} {Q' : Option Value → mv_S → Prop} (hc : cal a as S Q') (h0 : mv_at (mv_tb M) pc = some (i, n, a, b, c, d)) (h1 : prog[a]? = some Mj) (h2 : st = as.reverse ++ r) (h3 : as.length = b) (h4 : mv_isCall i c d S as = true) (h5 : (r.map fun v => v.category).sum ≤ 8) (h6 : vc + (mv_mc Mj) ≤ (mv_mc M)) (h7 : vs + (mv_ms Mj) ≤ (mv_ms M))
    (h9 : ∀ (v : Option Value) (S' : mv_S), Q' v S' → mv_Gs prog sta cal M Z (pc + 3, lc, v.toList ++ r, vc + (mv_mc Mj), vs + (mv_ms Mj), S')) : mv_Gs prog sta cal M Z (pc, lc, st, vc, vs, S) :=
  mv_Gs_rule (Or.inr (Or.inr ⟨pc, lc, st, vc, vs, S, i, n, a, b, c, d, rfl, h0, Or.inr (Or.inr (Or.inr (Or.inr (Or.inl ⟨Mj, as, r, Q', h1, h2, h3, h4, h5, h6, h7, hc, h9⟩))))⟩))
end MVY
section MVZ
variable {p : Program} {l : Launch} {e : Env} {R : Room} {s : State} {m : MethodId} {args : Array Value} {below : List Frame} {meth : Method} {cod : Code}
variable {ad : Nat → Nat} {A : Nat → Prop} {D : va_G} {cl : List vw_C} {kd : List (List Nat)} {cA : Nat → ClassId} {Ts Nw : List Jvm.Cond} {sta : Nat → List Int32} {stn : List (String × String × String)} {prog : List mv_Me} {M : mv_Me}
/-- every rule leads from what holds behind it to what holds ahead of it, whatever the end is -/
theorem mv_close (Y : mv_Sy cl kd Ts Nw prog sta stn) (X : mv_Cx p s m args meth cod A D cl cA ad Ts Nw sta stn M) (hMk : mv_Ro cl kd Ts Nw prog stn M) (hR : mv_fr M ≤ R.frames ∧ mv_lo M ≤ R.locals) (hRc : mv_mc M ≤ R.cells ∧ mv_ms M ≤ R.slots) {Qz : State → Prop} {d : Nat} {Q : Option Value → mv_S → Prop}
    (hret : ∀ (pc : Nat) (lc : mv_L) (st : List Value) (vc vs : Nat) (S : mv_S), (∃ (i : ClassFile.Instr) (n a b c d : Nat) (v : Option Value) (ok : Prop), mv_at (mv_tb M) pc = some (i, n, a, b, c, d) ∧ mv_ret (mv_rt M) i st = some (v, ok) ∧ vc = mv_mc M ∧ vs ≤ mv_ms M ∧ ok ∧ Q v S) → mv_W p l e R s m args below meth cod A D cl kd cA ad (mv_ml M) Qz (pc, lc, st, vc, vs, S))
    {F : mv_F} (hF : mv_Rule prog sta (mv_C prog sta d) M Q (mv_W p l e R s m args below meth cod A D cl kd cA ad (mv_ml M) Qz) F) : mv_W p l e R s m args below meth cod A D cl kd cA ad (mv_ml M) Qz F := by
  rcases hF with ⟨F', g1, g2⟩ | ⟨lc', g1, g2⟩ | ⟨pc, lc, st, vc, vs, S, i, n, a, b, c, d', rfl, h0, hF⟩
  · exact mv_one_ok Y X hMk hR hRc g1 g2
  · intro H locs ls hH hL hcs
    exact g2 H locs ls hH (mv_le_Lc g1 hL) hcs
  · rcases hF with ⟨cn, off, r, tgt, g1, g2, g3, g4⟩ | ⟨x, r, off, tgt, rfl, g1, g2, g3⟩ | ⟨x, k, r, N, v, rfl, g1, g2, g3⟩ | ⟨v, x, k, r, N, S', rfl, g1, g2, g3⟩ | ⟨Mj, as', r, Q', g1, rfl, g3, g4, g5, g6, g7, g8, g9⟩ | ⟨v, ok, g1, g2, g3, g4, g5⟩ | ⟨x, y, r, v, rfl, g1, g2, g3⟩
    · intro H locs ls hH hL hcs
      obtain ⟨hd, hrw⟩ := hMk _ (mv_at_mem h0)
      simp only at hd hrw
      rw [mv_len_cond g1 hrw] at hd
      exact mv_cond_ok X.1 X.2.1 hd g1 g2 (fun z => g3 z H locs ls hH hL hcs) (fun z => g4 z H locs ls hH hL hcs)
    · intro H locs ls hH hL hcs
      obtain ⟨hd, hrw⟩ := hMk _ (mv_at_mem h0)
      simp only at hd hrw
      exact mv_sw_ok X.1 X.2.1 hd g1 g2 (g3 H locs ls hH hL hcs)
    · intro H locs ls hH hL hcs
      obtain ⟨hd, hrw⟩ := hMk _ (mv_at_mem h0)
      simp only at hd hrw
      exact mv_ald_ok X hH Y.2.2.2.2 hd (mv_len_ald g1 hrw) g1 g2 (g3 H locs ls hH hL hcs)
    · intro H locs ls hH hL hcs
      obtain ⟨hd, hrw⟩ := hMk _ (mv_at_mem h0)
      simp only at hd hrw
      exact mv_ast_ok X hH hd (mv_len_ast g1 hrw) g1 g2 (fun H1 locs1 q => g3 H1 locs1 ls q hL hcs)
    · intro H locs ls hH hL hcs
      obtain ⟨hd, hrw⟩ := hMk _ (mv_at_mem h0)
      simp only at hd hrw
      have k6 : vc + mv_mc Mj ≤ R.cells := Nat.le_trans g6 hRc.1
      have k7 : vs + mv_ms Mj ≤ R.slots := Nat.le_trans g7 hRc.2
      exact mv_call_ok Y X hH.1 hH.2.1 hH.2.2.1 hH.2.2.2.2 hL.1.1 hR hd hrw g1 g3 g4 g5 k6 k7 (mv_sound Y l A D cA ad d a as' S Q' g8 Mj g1) (fun v S' H1 locs1 q1 q2 q3 q4 q5 q6 => g9 v S' q1 H1 locs1 ls ⟨q2, q3, q4, by have h8 : H.size = s.heap.size + vc := hH.2.2.2.1; show H1.size = s.heap.size + (vc + mv_mc Mj); omega, q6⟩ hL ⟨k6, k7⟩)
    · exact hret pc lc st vc vs S ⟨i, n, a, b, c, d', v, ok, h0, g1, g2, g3, g4, g5⟩
    · intro H locs ls hH hL hcs
      obtain ⟨hd, hrw⟩ := hMk _ (mv_at_mem h0)
      simp only at hd hrw
      exact mv_div_ok X.1 X.2.1 hd hrw g2 g1 (g3 H locs ls hH hL hcs)
/-- a static field's place, outside of A -/
def mv_Ls (C n d : String) (A : Nat → Prop) (U : State) (H : Heap) : Prop := ∃ (c : ClassId) (k : Class) (i : Nat) (f : Field) (a : Nat) (cell : Cell), U.vm.findClass C = some c ∧ U.fieldFound? C n d = some (c, k, i, f) ∧ f.isStatic = true ∧ k.statics = some a ∧ H[a]? = some cell ∧ cell.vm.isStatics = true ∧ cell.cls = c ∧ f.slot < cell.slots.size ∧ k.staticTypes[f.slot]? = some f.type ∧ ¬ A a
theorem mv_Ls.of {C n d : String} {A : Nat → Prop} {U : State} {args : Array Value} (h : (Jvm.Cond.laysStatic C n d).before args U = true) (hA : ∀ a : Nat, a < U.heap.size → ¬ A a) : mv_Ls C n d A U U.heap := by
  obtain ⟨c, k, i, f, a, cell, h1, h2, h3, h4, h5, h6, h7, h8, h9⟩ := Cond.laysStatic_spec h
  exact ⟨c, k, i, f, a, cell, h1, h2, h3, h4, h5, h6, h7, h8, h9, hA a (Array.getElem?_eq_some_iff.mp h5).1⟩
theorem mv_Ls.use {C n d : String} {A : Nat → Prop} {U : State} {args : Array Value} (h : mv_Ls C n d A U U.heap) : (Jvm.Cond.laysStatic C n d).before args U = true := by
  obtain ⟨c, k, i, f, a, cell, h1, h2, h3, h4, h5, h6, h7, h8, h9, -⟩ := h
  simp [Cond.before, Cond.holds, Cond.value, h1, h2, h3, h4, h5, h6, h7, h8, h9]
theorem mv_Ls.moved {C n d : String} {A : Nat → Prop} {u U : State} {H : Heap} (hvm : u.vm.Alike U.vm) (h : mv_Ls C n d A u H) : mv_Ls C n d A U H := by
  obtain ⟨c, k, i, f, a, cell, h1, h2, h3, h4, h5⟩ := h
  obtain ⟨k', hi', he⟩ := State.fieldFound?_setVm hvm h2
  exact ⟨c, k', i, f, a, cell, by rw [hvm.findClass]; exact h1, hi', h3, by rw [he]; exact h4, h5.1, h5.2.1, h5.2.2.1, h5.2.2.2.1, by rw [he]; exact h5.2.2.2.2.1, h5.2.2.2.2.2⟩
theorem mv_Ls.kept {C n d : String} {A : Nat → Prop} {U : State} {H H1 : Heap} (h : mv_Ls C n d A U H) (hq : ∀ a : Nat, a < H.size → ¬ A a → H1[a]? = H[a]?) : mv_Ls C n d A U H1 := by
  obtain ⟨c, k, i, f, a, cell, h1, h2, h3, h4, h5, h6, h7, h8, h9, h10⟩ := h
  exact ⟨c, k, i, f, a, cell, h1, h2, h3, h4, by rw [hq a (Array.getElem?_eq_some_iff.mp h5).1 h10]; exact h5, h6, h7, h8, h9, h10⟩
/-- what else a throw wants: the message, two statics of Throwable, and words Fw on what fits where -/
def mv_Ex (Fw : List Jvm.Cond) (own : String) (is : Nat) (text : String) (sa : Nat) (A : Nat → Prop) (U : State) : Prop := (∀ w ∈ Fw, va_Nw w U) ∧ vk_R own is text sa U ∧ va_Zq "java/lang/Throwable" "UNASSIGNED_STACK" "[Ljava/lang/StackTraceElement;" A U U.heap ∧ va_Zq "java/lang/Throwable" "SUPPRESSED_SENTINEL" "Ljava/util/List;" A U U.heap ∧ mv_Ls "java/lang/Throwable" "UNASSIGNED_STACK" "[Ljava/lang/StackTraceElement;" A U U.heap ∧ mv_Ls "java/lang/Throwable" "SUPPRESSED_SENTINEL" "Ljava/util/List;" A U U.heap
theorem mv_isRef {C n d : String} {A : Nat → Prop} {U : State} {a : Array Value} (h : va_Zq C n d A U U.heap) : (Jvm.Cond.isRef (.static C n d)).before a U = true := by
  have key : ∀ v : Value, va_Z C n d v A U U.heap → (Term.static C n d).eval a U none [] U = some v := by
    intro v hv
    obtain ⟨cf, kf, fi, f, ax, cell, h1, h2, h3, h4, h5, h6, h7, h8⟩ := hv
    simp only [Term.eval, State.fieldNamed?, h1, Option.bind_eq_bind, Option.bind_some, h2, beq_self_eq_true, if_true, Option.pure_def, h4, h5]
    rw [if_pos h6]
    exact h7
  rcases h with h | ⟨t, h⟩
  · simp [Cond.before, Cond.holds, Cond.value, key _ h]
  · simp [Cond.before, Cond.holds, Cond.value, key _ h]
end MVZ
