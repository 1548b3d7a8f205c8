section MVR
variable {prog : List mv_Me} {sta : Nat → List Int32} {cal : Nat → List Value → mv_S → (Option Value → mv_S → Prop) → Prop} {M : mv_Me} {Q : Option Value → mv_S → Prop}
theorem mv_Rule_mono {P P' : mv_F → Prop} (hp : ∀ F, P F → P' F) {F : mv_F} (h : mv_Rule prog sta cal M Q P F) : mv_Rule prog sta cal M Q P' F := by
  rcases h with ⟨F', h1, h2⟩ | ⟨lc', h1, h2⟩ | ⟨pc, lc, st, vc, vs, S, i, n, a, b, c, d, e, h0, h⟩
  · exact Or.inl ⟨F', h1, hp _ h2⟩
  · exact Or.inr (Or.inl ⟨lc', h1, hp _ h2⟩)
  · refine Or.inr (Or.inr ⟨pc, lc, st, vc, vs, S, i, n, a, b, c, d, e, h0, ?_⟩)
    rcases h with ⟨cn, off, r, tgt, h1, h2, h3, h4⟩ | ⟨x, r, off, tgt, h1, h2, h3, h4⟩ | ⟨x, k, r, N, v, h1, h2, h3, h4⟩ | ⟨v, x, k, r, N, S', h1, h2, h3, h4⟩ | ⟨Mj, as, r, Q', h1, h2, h3, h4, h5, h6, h7, h8, h9⟩ | h | ⟨x, y, r, v, h1, h2, h3, h4⟩
    · exact Or.inl ⟨cn, off, r, tgt, h1, h2, fun z => hp _ (h3 z), fun z => hp _ (h4 z)⟩
    · exact Or.inr (Or.inl ⟨x, r, off, tgt, h1, h2, h3, hp _ h4⟩)
    · exact Or.inr (Or.inr (Or.inl ⟨x, k, r, N, v, h1, h2, h3, hp _ h4⟩))
    · exact Or.inr (Or.inr (Or.inr (Or.inl ⟨v, x, k, r, N, S', h1, h2, h3, hp _ h4⟩)))
    · exact Or.inr (Or.inr (Or.inr (Or.inr (Or.inl ⟨Mj, as, r, Q', h1, h2, h3, h4, h5, h6, h7, h8, fun v S' z => hp _ (h9 v S' z)⟩))))
    · exact Or.inr (Or.inr (Or.inr (Or.inr (Or.inr (Or.inl h)))))
    · exact Or.inr (Or.inr (Or.inr (Or.inr (Or.inr (Or.inr ⟨x, y, r, v, h1, h2, h3, hp _ h4⟩)))))
theorem mv_G_rule {F : mv_F} (h : mv_Rule prog sta cal M Q (mv_G prog sta cal M Q) F) : mv_G prog sta cal M Q F := fun P hP => hP F (mv_Rule_mono (fun _ k => k P hP) h)
/-- n steps that are functions -/
theorem mv_G_run (n : Nat) {F F' : mv_F} (h : mv_run sta M n F = some F') (k : mv_G prog sta cal M Q F') : mv_G prog sta cal M Q F := by
  induction n generalizing F with
  | zero =>
    have e : F = F' := Option.some.inj h
    rw [e]
    exact k
  | succ n ih =>
    unfold mv_run at h
    cases h1 : mv_one sta M F with
    | none => rw [h1] at h; cases h
    | some F1 =>
      rw [h1] at h
      exact mv_G_rule (Or.inl ⟨F1, h1, ih h⟩)
/-- fewer locals -/
theorem mv_G_fg {pc : Nat} {lc lc' : mv_L} {R : List Value × Nat × Nat × mv_S} (h : mv_le lc' lc) (k : mv_G prog sta cal M Q (pc, lc', R)) : mv_G prog sta cal M Q (pc, lc, R) := mv_G_rule (Or.inr (Or.inl ⟨lc', h, k⟩))
variable {pc : Nat} {lc : mv_L} {st r : List Value} {vc vs : Nat} {S : mv_S} {i : ClassFile.Instr} {n a b c d : Nat}
theorem mv_G_br {cn : Prop} {off : Int} {tgt : Nat} (h0 : mv_at (mv_tb M) pc = some (i, n, a, b, c, d)) (h1 : mv_cond i st = some (cn, off, r)) (h2 : (pc : Int) + off = (tgt : Int)) (h3 : cn → mv_G prog sta cal M Q (tgt, lc, r, vc, vs, S)) (h4 : ¬ cn → mv_G prog sta cal M Q (pc + 3, lc, r, vc, vs, S)) : mv_G prog sta cal M Q (pc, lc, st, vc, vs, S) :=
  mv_G_rule (Or.inr (Or.inr ⟨pc, lc, st, vc, vs, S, i, n, a, b, c, d, rfl, h0, Or.inl ⟨cn, off, r, tgt, h1, h2, h3, h4⟩⟩))
theorem mv_G_sw {x : Int32} {off : Int} {tgt : Nat} (h0 : mv_at (mv_tb M) pc = some (i, n, a, b, c, d)) (h1 : mv_sw i x = some off) (h2 : (pc : Int) + off = (tgt : Int)) (h3 : mv_G prog sta cal M Q (tgt, lc, r, vc, vs, S)) : mv_G prog sta cal M Q (pc, lc, .int x :: r, vc, vs, S) :=
  mv_G_rule (Or.inr (Or.inr ⟨pc, lc, _, vc, vs, S, i, n, a, b, c, d, rfl, h0, Or.inr (Or.inl ⟨x, r, off, tgt, rfl, h1, h2, h3⟩)⟩))
theorem mv_G_ald {x : Int32} {k N : Nat} {v : Value} (h0 : mv_at (mv_tb M) pc = some (i, n, a, b, c, d)) (h1 : mv_ald sta i S k x = some (N, v)) (h2 : vp_in x N) (h3 : mv_G prog sta cal M Q (pc + 1, lc, v :: r, vc, vs, S)) : mv_G prog sta cal M Q (pc, lc, .int x :: .ref k :: r, vc, vs, S) :=
  mv_G_rule (Or.inr (Or.inr ⟨pc, lc, _, vc, vs, S, i, n, a, b, c, d, rfl, h0, Or.inr (Or.inr (Or.inl ⟨x, k, r, N, v, rfl, h1, h2, h3⟩))⟩))
theorem mv_G_ast {x : Int32} {k N : Nat} {v : Value} {S' : mv_S} (h0 : mv_at (mv_tb M) pc = some (i, n, a, b, c, d)) (h1 : mv_ast i S k x v = some (N, S')) (h2 : vp_in x N) (h3 : mv_G prog sta cal M Q (pc + 1, lc, r, vc, vs, S')) : mv_G prog sta cal M Q (pc, lc, v :: .int x :: .ref k :: r, vc, vs, S) :=
  mv_G_rule (Or.inr (Or.inr ⟨pc, lc, _, vc, vs, S, i, n, a, b, c, d, rfl, h0, Or.inr (Or.inr (Or.inr (Or.inl ⟨v, x, k, r, N, S', rfl, h1, h2, h3⟩)))⟩))
theorem mv_G_call {Mj : mv_Me} {as : List Value} {Q' : Option Value → mv_S → Prop} (hc : cal a as S Q') (h0 : mv_at (mv_tb M) pc = some (i, n, a, b, c, d)) (h1 : prog[a]? = some Mj) (h2 : st = as.reverse ++ r) (h3 : as.length = b) (h4 : mv_isCall i c d S as = true) (h5 : (r.map fun v => v.category).sum ≤ 8) (h6 : vc + (mv_mc Mj) ≤ (mv_mc M)) (h7 : vs + (mv_ms Mj) ≤ (mv_ms M))
    (h9 : ∀ (v : Option Value) (S' : mv_S), Q' v S' → mv_G prog sta cal M Q (pc + 3, lc, v.toList ++ r, vc + (mv_mc Mj), vs + (mv_ms Mj), S')) : mv_G prog sta cal M Q (pc, lc, st, vc, vs, S) :=
  mv_G_rule (Or.inr (Or.inr ⟨pc, lc, st, vc, vs, S, i, n, a, b, c, d, rfl, h0, Or.inr (Or.inr (Or.inr (Or.inr (Or.inl ⟨Mj, as, r, Q', h1, h2, h3, h4, h5, h6, h7, hc, h9⟩))))⟩))
theorem mv_G_ret {v : Option Value} {ok : Prop} (h0 : mv_at (mv_tb M) pc = some (i, n, a, b, c, d)) (h1 : mv_ret (mv_rt M) i st = some (v, ok)) (h4 : vc = (mv_mc M)) (h5 : vs ≤ (mv_ms M)) (h2 : ok) (h3 : Q v S) : mv_G prog sta cal M Q (pc, lc, st, vc, vs, S) :=
  mv_G_rule (Or.inr (Or.inr ⟨pc, lc, st, vc, vs, S, i, n, a, b, c, d, rfl, h0, Or.inr (Or.inr (Or.inr (Or.inr (Or.inr (Or.inl ⟨v, ok, h1, h4, h5, h2, h3⟩)))))⟩))
theorem mv_G_div {x y v : Int32} (h0 : mv_at (mv_tb M) pc = some (i, n, a, b, c, d)) (h1 : mv_div i x y = some v) (h2 : ¬ y = 0) (h3 : mv_G prog sta cal M Q (pc + 1, lc, .int v :: r, vc, vs, S)) : mv_G prog sta cal M Q (pc, lc, .int y :: .int x :: r, vc, vs, S) :=
  mv_G_rule (Or.inr (Or.inr ⟨pc, lc, _, vc, vs, S, i, n, a, b, c, d, rfl, h0, Or.inr (Or.inr (Or.inr (Or.inr (Or.inr (Or.inr ⟨x, y, r, v, rfl, h2, h1, h3⟩)))))⟩))
theorem mv_G_mono {Q' : Option Value → mv_S → Prop} (hq : ∀ v S, Q v S → Q' v S) {F : mv_F} (h : mv_G prog sta cal M Q F) : mv_G prog sta cal M Q' F := by
  refine h _ (fun F k => mv_G_rule ?_)
  rcases k with h | h | ⟨pc, lc, st, vc, vs, S, i, n, a, b, c, d, e, h0, k⟩
  · exact Or.inl h
  · exact Or.inr (Or.inl h)
  · refine Or.inr (Or.inr ⟨pc, lc, st, vc, vs, S, i, n, a, b, c, d, e, h0, ?_⟩)
    rcases k with k | k | k | k | k | ⟨v, ok, k1, k4, k5, k2, k3⟩ | k
    · exact Or.inl k
    · exact Or.inr (Or.inl k)
    · exact Or.inr (Or.inr (Or.inl k))
    · exact Or.inr (Or.inr (Or.inr (Or.inl k)))
    · exact Or.inr (Or.inr (Or.inr (Or.inr (Or.inl k))))
    · exact Or.inr (Or.inr (Or.inr (Or.inr (Or.inr (Or.inl ⟨v, ok, k1, k4, k5, k2, hq _ _ k3⟩)))))
    · exact Or.inr (Or.inr (Or.inr (Or.inr (Or.inr (Or.inr k)))))
end MVR
theorem mv_C_mono {prog : List mv_Me} {sta : Nat → List Int32} {d i : Nat} {as : List Value} {S : mv_S} {Q Q' : Option Value → mv_S → Prop} (hq : ∀ v S, Q v S → Q' v S) (h : mv_C prog sta d i as S Q) : mv_C prog sta d i as S Q' := by
  cases d with
  | zero => exact h
  | succ d =>
    obtain ⟨M, h1, h2, h3⟩ := h
    exact ⟨M, h1, h2, mv_G_mono hq h3⟩
/-- more frames do no harm -/
theorem mv_C_up {prog : List mv_Me} {sta : Nat → List Int32} : ∀ (d i : Nat) (as : List Value) (S : mv_S) (Q : Option Value → mv_S → Prop), mv_C prog sta d i as S Q → mv_C prog sta (d + 1) i as S Q
  | 0, _, _, _, _, h => h.elim
  | d + 1, i, as, S, Q, h => by
    obtain ⟨M, h1, h2, h3⟩ := h
    refine ⟨M, h1, h2, h3 _ (fun F k => mv_G_rule ?_)⟩
    rcases k with h | h | ⟨pc, lc, st, vc, vs, S, i, n, a, b, c, d, e, h0, k⟩
    · exact Or.inl h
    · exact Or.inr (Or.inl h)
    · refine Or.inr (Or.inr ⟨pc, lc, st, vc, vs, S, i, n, a, b, c, d, e, h0, ?_⟩)
      rcases k with k | k | k | k | ⟨Mj, as, r, Q', k1, k2, k3, k4, k5, k6, k7, k8, k9⟩ | k
      · exact Or.inl k
      · exact Or.inr (Or.inl k)
      · exact Or.inr (Or.inr (Or.inl k))
      · exact Or.inr (Or.inr (Or.inr (Or.inl k)))
      · exact Or.inr (Or.inr (Or.inr (Or.inr (Or.inl ⟨Mj, as, r, Q', k1, k2, k3, k4, k5, k6, k7, mv_C_up _ _ _ _ _ k8, k9⟩))))
      · exact Or.inr (Or.inr (Or.inr (Or.inr (Or.inr k))))
