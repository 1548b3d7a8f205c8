/-! The class's own calls. -/
/-- both Books keep to their ranges; the reference's cells stand as in Z -/
def cT (Z I : kjI) : Prop := (∀ (b : Bool) (k : Nat), 1 ≤ k → k ≤ 29 → ∀ j, cR k j (I (kb b k) j).toInt) ∧ ∀ q, 59 ≤ q → I q = Z q
section TOP
variable {b f : Bool} {Z I I' : kjI} {L : kjL}
theorem cT.w (h : cT Z I) (b : Bool) : wP b I I := ⟨h.1 b, fun _ _ => rfl⟩
theorem kb_rg {b : Bool} {k : Nat} (h1 : 1 ≤ k) (h2 : k ≤ 29) : 1 ≤ kb b k ∧ kb b k ≤ 58 := by
  cases b
  · show 1 ≤ k ∧ k ≤ 58
    omega
  · show 1 ≤ k + 29 ∧ k + 29 ≤ 58
    omega
theorem kb_other {b : Bool} {k k' : Nat} (h1 : 1 ≤ k) (h2 : k ≤ 29) (h3 : 1 ≤ k') (h4 : k' ≤ 29) : kb (!b) k ≠ kb b k' := by
  cases b
  · show k + 29 ≠ k'
    omega
  · show k ≠ k' + 29
    omega
theorem cT.of (h : cT Z I) (w : wP b I I') : cT Z I' := by
  refine ⟨fun b' k h1 h2 j => ?_, fun q hq => ?_⟩
  · by_cases e : b' = b
    · subst e
      exact w.1 k h1 h2 j
    · have e' : b' = !b := by
        cases b <;> cases b' <;> simp_all
      subst e'
      rw [w.2 (kb (!b) k) (fun k' h3 h4 => kb_other h1 h2 h3 h4)]
      exact h.1 (!b) k h1 h2 j
  · rw [w.2 q (fun k h1 h2 e => by have := kb_rg (b := b) h1 h2; omega)]
    exact h.2 q hq
theorem cT.up0 (h : cT Z I) {j : Nat} {x : Int32} : cT Z (mv_up I 0 j x) := by
  refine ⟨fun b' k h1 h2 j' => ?_, fun q hq => ?_⟩
  · have := kb_rg (b := b') h1 h2
    unfold mv_up
    rw [if_neg (by omega)]
    exact h.1 b' k h1 h2 j'
  · rw [← h.2 q hq]
    funext j'
    unfold mv_up
    rw [if_neg (by omega)]
theorem s14 (h : cT Z I) (v1 v2 v3 : Int32) : Ok (kf14 f v1 v2 v3 I L) (fun r => cT Z r.1) := by
  unfold kf14
  exact Ok.some' h.up0.up0.up0
theorem s13_91 {N : Nat} (hN : 2000000 ≤ N) {v1 : Int32} (h1 : v1.toInt ≤ 16) : ∀ (n : Nat) (v2 : Int32) (I : kjI) (L : kjL), cT Z I → v1.toInt - v2.toInt < n → 0 < n → Ok (kf13_91 f N n v1 v2 I L) (fun r => cT Z r.1) := by
  intro n
  induction n with
  | zero => intro v2 I L _ _ h0; omega
  | succ n ih =>
    intro v2 I L h hn _
    unfold kf13_91
    refine Ok.ite' (fun _ => Ok.some' h) (fun g => Ok.bind' (s82 hN v2 (h.w (!f))) (fun r2 w2 => Ok.bind' (s83 (by omega) v2 ((h.of w2).w (!f))) (fun r4 w4 => Ok.ite' (fun _ => ?_) (fun _ => Ok.bind' (s14 ((h.of w2).of w4) _ _ _) (fun r7 w7 => Ok.some' w7)))))
    rw [Int32.le_iff_toInt_le] at g
    have e := t_inc (x := v2) (m := 16) (by omega) (by omega)
    exact ih _ _ _ ((h.of w2).of w4) (by rw [e]; omega) (by omega)
theorem s13_53 {N : Nat} (hN : 2000000 ≤ N) {v1 : Int32} (h1 : v1.toInt ≤ 16) : ∀ (n : Nat) (v2 : Int32) (I : kjI) (L : kjL), cT Z I → v1.toInt - v2.toInt < n → 0 < n → Ok (kf13_53 f N n v1 v2 I L) (fun r => cT Z r.1) := by
  intro n
  induction n with
  | zero => intro v2 I L _ _ h0; omega
  | succ n ih =>
    intro v2 I L h hn _
    unfold kf13_53
    refine Ok.ite' (fun _ => s13_91 hN h1 N _ _ _ h (by rw [lt00]; omega) (by omega)) (fun g => Ok.bind' (s64 (by omega) v2 (h.w (!f))) (fun r2 w2 => Ok.ite' (fun _ => ?_) (fun _ => Ok.bind' (s14 (h.of w2) _ _ _) (fun r5 w5 => Ok.some' w5))))
    rw [Int32.le_iff_toInt_le] at g
    have e := t_inc (x := v2) (m := 16) (by omega) (by omega)
    exact ih _ _ _ (h.of w2) (by rw [e]; omega) (by omega)
theorem s13 {N : Nat} (hN : 2000000 ≤ N) (h : cT Z I) : Ok (kf13 f N I L) (fun r => cT Z r.1) := by
  unfold kf13
  refine Ok.bind' (s14 h _ _ _) (fun r1 w1 => Ok.bind' (s24 (by omega) (w1.w (!f))) (fun r3 w3 => Ok.ite' (fun _ => ?_) (fun _ => Ok.bind' (P := fun _ => True) (by unfold kf25; exact Ok.bind' s57 (fun r _ => Ok.some' trivial)) (fun r6 _ => Ok.bind' (s14 (w1.of w3) _ _ _) (fun r8 w8 => Ok.some' w8)))))
  have a := w3.nm
  exact s13_53 hN a.2 N _ _ _ (w1.of w3) (by rw [lt00]; omega) (by omega)
theorem s21 (h : cT Z I) : Ok (kf21 b I L) (fun r => cT Z r.1) := by
  unfold kf21
  exact Ok.some' (h.of (wP_up (h.w b) (by decide) (fun _ => by decide)))
theorem s3 (v : Int32) : Ok (kf3 f I L v) (fun _ => True) := by
  unfold kf3
  repeat' (first
    | exact Ok.some' trivial
    | refine Ok.ret01 ?_ ?_
    | refine Ok.bif' ?_ ?_
    | refine Ok.ite' (fun _ => ?_) (fun _ => ?_)
    | refine Ok.some' ?_)
theorem s12 (v : Int32) : Ok (kf12 f I L v) (fun _ => True) := by
  unfold kf12
  repeat' (first
    | exact Ok.some' trivial
    | refine Ok.ret01 ?_ ?_
    | refine Ok.bif' ?_ ?_
    | refine Ok.ite' (fun _ => ?_) (fun _ => ?_)
    | refine Ok.some' ?_)
theorem s5 (h : wP f Z I) {v1 v2 v3 : Int32} (h3 : ¬ v3 < 0 ∧ ¬ (5 : Int32) < v3) (h1 : kf66 f I L v1 v2 = some 1) : Ok (kf5 f I L v1 v2 v3) (fun _ => True) := by
  unfold kf5
  rw [if_neg h3.1, if_neg h3.2, h1]
  show Ok (if ¬ (1 : Int32) = 0 then _ else none) _
  rw [if_pos (by decide)]
  have t : ∀ x : Int32, Ok (some x) (fun _ => True) := fun x => Ok.some' trivial
  exact Ok.bind' (s67 h _ _ _) (fun r6 _ => Ok.bind' (s67 h _ _ _) (fun r8 _ => Ok.bind' (s78 h _ _) (fun r10 _ => Ok.ite' (fun _ => t _) (fun _ => Ok.ite' (fun _ => Ok.bind' (s68 h _ _) (fun _ _ => t _)) (fun _ => Ok.ite' (fun _ => Ok.bind' (s69 h _ _) (fun _ _ => t _)) (fun _ => Ok.ite' (fun _ => Ok.bind' (s70 h _ _) (fun _ _ => t _)) (fun _ => Ok.ite' (fun _ => Ok.ite' (fun _ => t _) (fun _ => t _)) (fun _ => Ok.ite' (fun _ => t _) (fun _ => t _)))))))))
end TOP
