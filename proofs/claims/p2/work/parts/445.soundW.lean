/-! A method with handlers that comes to its end without a throw. -/
section MVU
variable {cl : List vw_C} {kd : List (List Nat)} {Ts Nw : List Jvm.Cond} {prog : List mv_Me} {sta : Nat → List Int32} {stn : List (String × String × String)}
theorem mv_soundW (Y : mv_Sy cl kd Ts Nw prog sta stn) (l : Launch) (A : Nat → Prop) (D : va_G) (cA : Nat → ClassId) (ad : Nat → Nat) {d : Nat} {as : List Value} {S : mv_S} {Q : Option Value → mv_S → Prop} {M : mv_Me} {hs : List (Nat × Nat × Nat × Nat)} (hpl : plainName M.1.cls = true) (hcls : M.1.cls = mv_ow M) (hMk : mv_Ro cl kd Ts Nw prog stn M) (hlen : (mv_ent (mv_ml M) as).length = mv_ml M) (h : mv_G prog sta (mv_C prog sta d) M Q (0, mv_ent (mv_ml M) as, [], 0, 0, S)) :
    Met l M.1 (Jvm.Cond.codeWith M.1 (mv_cc M) (mv_ml M) (mv_rt M) hs :: Ts) (mv_Rm M) (mv_Pre A D cl kd cA ad Nw sta stn as S) (mv_Pst A D cl kd cA ad (mv_mc M) Q) (mv_mc M) (mv_ms M) A := by
  refine MetFree.of_bodyS (code := mv_cc M) (maxLocals := mv_ml M) (ret := mv_rt M) hpl ?_ ?_
  · intro args s m h hn
    obtain ⟨m', meth, c, hn', g1, g2, g3, g4, -, g5, g6, -⟩ := Cond.codeWith_spec (atoms_spec (ws := Jvm.Cond.codeWith M.1 (mv_cc M) (mv_ml M) (mv_rt M) hs :: Ts) h _ List.mem_cons_self)
    cases hn.symm.trans hn'
    exact ⟨meth, c, g1, g2, g3, g4, g5, g6⟩
  · intro p e s m args below meth c s₁ B hml hv _
    obtain ⟨rfl, v1, v2, v3, v4, v5, v6, v7⟩ := hv
    have hts : ∀ w ∈ Jvm.Cond.codeWith M.1 (mv_cc M) (mv_ml M) (mv_rt M) hs :: Ts, w.before _ s = true := atoms_spec (ws := Jvm.Cond.codeWith M.1 (mv_cc M) (mv_ml M) (mv_rt M) hs :: Ts) B.pre
    have hown : s.vm.findClass (mv_ow M) = some m.cls := by rw [← hcls]; exact findClass_of_methodNamed B.named
    have X : mv_Cx p s m (as.map (mv_tr ad)).toArray meth c A D cl cA ad Ts Nw sta stn M := ⟨B.exec, B.bytes, hml, hown, fun w hw => hts w (List.mem_cons_of_mem _ hw), v1, v2, v4, B.notSynchronized, B.returns, (name_of_methodNamed B.named B.method).1, v3⟩
    have hh0 : s₁.heap = s.heap := by rw [B.state]; rfl
    have hcl : mv_W p l e (mv_Rm M) s m (as.map (mv_tr ad)).toArray below meth c A D cl kd cA ad (mv_ml M) (MQ below (mv_Pst A D cl kd cA ad (mv_mc M) Q) (as.map (mv_tr ad)).toArray s (mv_mc M) (mv_ms M) A) (0, mv_ent (mv_ml M) as, [], 0, 0, S) := by
      refine h _ (fun F hF => mv_close (Q := Q) Y X hMk ⟨Nat.le_refl _, Nat.le_refl _⟩ ⟨Nat.le_refl _, Nat.le_refl _⟩ ?_ hF)
      intro pc lc st vc vs S' hq H locs ls hH hL hcs
      obtain ⟨i, n, a, b, c', d', v, ok, h0, g1, g2, g3, g4, g5⟩ := hq
      obtain ⟨hd, hrw⟩ := hMk _ (mv_at_mem h0)
      simp only at hd hrw
      subst g2
      refine W.widen (Nat.le_refl _) g3 ?_
      exact mv_ret_ok X hH hd hrw g1 g4 g5
    have K : W p l e (mv_Rm M) s m (as.map (mv_tr ad)).toArray below meth c s.heap [] 0 0 (MQ below (mv_Pst A D cl kd cA ad (mv_mc M) Q) (as.map (mv_tr ad)).toArray s (mv_mc M) (mv_ms M) A) (entryFrame m (as.map (mv_tr ad)).toArray (mv_ml M)) := by
      have hl := lv_entry (as.map (mv_tr ad)) (n := (mv_ml M)) (by have := mv_sl_len ad as (mv_ml M); rw [hlen] at this; exact this)
      rw [lg_entry_eq]
      refine hcl s.heap [] _ ⟨v5, v6, va_S.rf, rfl, v7⟩ ⟨⟨hl.1, hl.2.1, fun q hq => by cases hq⟩, hlen, fun j v hj => ?_⟩ ⟨Nat.zero_le _, Nat.zero_le _⟩
      exact hl.2.2 _ (mv_args_tr ad as 0 j v (mv_ent_has as (mv_ml M) j v hj))
    obtain ⟨t, a1, o, b1, b2, b3⟩ := K s₁ hh0 (Stand.of_body B)
    exact ⟨t, o, a1, b1, b2, ⟨b3.1, b3.2⟩⟩
end MVU
