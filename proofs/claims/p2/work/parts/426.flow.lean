/-! The reference: a METHOD is gone through until nothing changes; it comes to an end, for the sum of ranks grows and is bounded. -/
def bN : Nat := 120 * (2 * b16)
section FW
variable {F : KF} {L : kjL} {J : kjI}
/-- one round over the PLACES -/
theorem m128_91 (hF : KFok F) {N : Nat} (hN : 400 ≤ N) {m : Nat} (hm : m < F.nm) (hA : AG F m) {J0 : kjI} {k83 : Int32 → Int32 → kjI → kjL → Option (kjI × kjL)} {Q : kjI × kjL → Prop} (hk : ∀ (v : Int32) (J : kjI) (L : kjL), aI F m J0 v J → Ok (k83 (w m) v J L) Q) :
    ∀ (n p : Nat) (v2 : Int32) (J : kjI) (L : kjL), 120 - p < n → p ≤ F.mn m → aI F m J0 v2 J → Ok (kf128_91 N k83 n (w m) v2 (w p) J L) Q := by
  have h16 := hF.nm16
  have hn120 := hF.mn120 m hm
  intro n
  induction n with
  | zero => intro p v2 J L h; omega
  | succ n ih =>
    intro p v2 J L hn hp h
    obtain ⟨a1, a2, a3, a4, a5⟩ := id h
    unfold kf128_91 kf128_136 kf128_141 kf128_142
    rw [w_nat (z := m) (by omega), ix120, w_nat (z := 120 * m + p) (by omega), ix1, a2.1.v74 m hm]
    refine Ok.bif' (by rw [w_nti (by omega)]; omega) (Ok.ite' (fun _ => hk _ _ _ h) (fun g => ?_))
    rw [Int32.le_iff_toInt_le, w_nti (by omega), w_nti (by omega)] at g
    refine Ok.bif' (by rw [w_nti (by omega)]; omega) (Ok.ite' (fun nv => ?_) (fun _ => ih (p + 1) v2 J L (by omega) (by omega) h))
    refine Ok.bind' (m129 hF hN hm hA (p := p) (by omega) a2 nv) (fun r ⟨g1, g2, g3, g4, g5⟩ => ?_)
    have hj : ∀ v : Int32, (v = 1 → v2 = 1 ∨ r.1 = 1) → (v = 0 ∨ v = 1) → aI F m J0 v r.2.1 := fun v hv h01 => ⟨h01, g2, a3.trans g3, by omega, fun e => by
      rcases hv e with z | z
      · have := a5 z
        omega
      · have := g5 z
        omega⟩
    refine Ok.ite' (fun nz => ?_) (fun zz => Ok.ite' (fun e0 => ?_) (fun n0 => ?_))
    · refine ih (p + 1) 1 _ _ (by omega) (by omega) (hj 1 (fun _ => Or.inl ?_) (Or.inr rfl))
      rcases a1 with z | z
      · exact absurd z nz
      · exact z
    · exact ih (p + 1) 0 _ _ (by omega) (by omega) (hj 0 (fun z => absurd z (by decide)) (Or.inl rfl))
    · refine ih (p + 1) 1 _ _ (by omega) (by omega) (hj 1 (fun _ => Or.inr ?_) (Or.inr rfl))
      rcases g1 with z | z
      · exact absurd z n0
      · exact z
theorem m128_83 (hF : KFok F) {N : Nat} (hN : 400 ≤ N) {m : Nat} (hm : m < F.nm) (hA : AG F m) {Z : kjI} : ∀ (n : Nat) (v2 : Int32) (J : kjI) (L : kjL), mF F m J → FLm Z J → bN + 1 - sumr J m 120 < n → Ok (kf128_83 N n (w m) v2 J L) (fun r => mF F m r.1 ∧ FLm Z r.1) := by
  have hn120 := hF.mn120 m hm
  intro n
  induction n with
  | zero => intro v2 J L _ _ h; omega
  | succ n ih =>
    intro v2 J L h hz hn
    have hs : sumr J m 120 ≤ bN := sumr_le J m 120
    unfold kf128_83
    refine Ok.ite' (fun _ => Ok.some' ⟨h, hz⟩) (fun _ => ?_)
    have e00 : (0 : Int32) = w ((0 : Nat) : Int) := rfl
    have key := m128_91 hF hN hm hA (J0 := J) (k83 := fun v1 v2 I L => kf128_83 N n v1 v2 I L) (Q := fun r => mF F m r.1 ∧ FLm Z r.1) (fun v J' L' ⟨b1, b2, b3, b4, b5⟩ => ?_) N 0 0 J L (by omega) (by omega) ⟨Or.inl rfl, h, fun _ _ _ _ _ _ => rfl, Nat.le_refl _, fun z => absurd z (by decide)⟩
    · exact key
    · have hs' : sumr J' m 120 ≤ bN := sumr_le J' m 120
      rcases b1 with e | e
      · subst e
        obtain ⟨n', rfl⟩ : ∃ q, n = q + 1 := ⟨n - 1, by omega⟩
        show Ok (kf128_83 N (n' + 1) (w m) 0 J' L') _
        unfold kf128_83
        rw [if_pos rfl]
        exact Ok.some' ⟨b2, hz.trans b3⟩
      · have := b5 e
        exact ih v J' L' b2 (hz.trans b3) (by omega)
/-- the beginning, then the rounds -/
theorem m128_28 (hF : KFok F) {N : Nat} (hN : bN + 400 ≤ N) {m : Nat} (hm : m < F.nm) (hA : AG F m) {Z : kjI} (hM : MV F Z) : ∀ (n i : Nat) (J : kjI) (L : kjL), 16 - i < n → i ≤ 16 → FLm Z J → (∀ k, -2 ≤ (J 78 k).toInt ∧ (J 78 k).toInt ≤ 8) → (∀ i', i' < i → vk F.nc (J 80 i')) → (∀ p, p < 120 → J 78 (120 * m + p) = -1) → Ok (kf128_28 N n (w m) (w i) J L) (fun r => mF F m r.1 ∧ FLm Z r.1) := by
  have h16 := hF.nm16
  have hc := hF.nc8
  have hn120 := hF.mn120 m hm
  have hmp := hF.mp4 m hm
  intro n
  induction n with
  | zero => intro i J L h; omega
  | succ n ih =>
    intro i J L hn hi hz h78 hnx hne
    have M : MV F J := hz.mv hM
    unfold kf128_28 kf128_63
    have e00 : (0 : Int32) = w ((0 : Nat) : Int) := rfl
    have e4 : ((4 : Int32) * w (m : Int)) + w (i : Int) = w ((4 * m + i : Nat) : Int) := by
      (simp only [w_lit, w_neg, w_add, w_sub, w_mul])
      congr 1
    rw [w_nat (z := m) (by omega), w_nat (z := i) (by omega), M.v69 m hm, e4, w_nat (z := 4 * m + i) (by omega), ix1]
    refine Ok.ite' (fun g => ?_) (fun g => ?_)
    · rw [Int32.le_iff_toInt_le, lt016, w_nti (by omega)] at g
      have e16 : i = 16 := by omega
      subst e16
      have t0 : tOk F m 0 := ⟨by omega, rfl⟩
      have fz : FLm Z (mv_up J 59 33 (0 : Int32)) := fun q j h1 h2 h3 h4 => by
        rw [← hz q j h1 h2 h3 h4]
        unfold mv_up
        by_cases e : q = 59
        · rw [if_pos e, if_neg (fun z => h4 ⟨e, Or.inl z⟩)]
        · rw [if_neg e]
      have up : ∀ q j, q ≠ 59 → (mv_up J 59 33 (0 : Int32)) q j = J q j := fun q j h1 => by
        unfold mv_up
        rw [if_neg h1]
      have hmF : mF F m (mv_up J 59 33 (0 : Int32)) := by
        refine ⟨fz.mv hM, fun k => ?_, fun i' hi' => ?_, fun p hp hv => ?_⟩
        · rw [up 78 k (by decide)]
          exact h78 k
        · rw [up 80 i' (by decide)]
          exact hnx i' hi'
        · rw [up 78 _ (by decide)] at hv
          exact absurd (hne p hp) hv
      have key := m127 (L := L) hF (N := N) (by omega) hm t0 hmF 0 (fun _ => by rw [up_eq2]; decide)
      refine Ok.bind' key (fun r ⟨g1, g2, g3, g4, g5⟩ => ?_)
      exact m128_83 hF (by omega) hm hA N r.1 r.2.1 r.2.2 g2 (fz.trans g3.m) (by omega)
    · rw [Int32.le_iff_toInt_le, lt016, w_nti (by omega)] at g
      have st : ∀ v : Int32, vk F.nc v → Ok (bif mv_in (w (i : Int)) 16 then (kf128_28 N n (w m) (w ((i + 1 : Nat) : Int)) (mv_up J 80 i v) L) else none) (fun r => mF F m r.1 ∧ FLm Z r.1) := by
        intro v hv
        refine Ok.bif' (by rw [w_nti (by omega)]; omega) (ih (i + 1) _ _ (by omega) (by omega) (fun q j h1 h2 h3 h4 => ?_) (fun k => ?_) (fun i' hi' => ?_) (fun p hp => ?_))
        · rw [← hz q j h1 h2 h3 h4]
          unfold mv_up
          rw [if_neg h3]
        · have e : (mv_up J 80 i v) 78 k = J 78 k := by
            unfold mv_up
            rw [if_neg (by decide)]
          rw [e]
          exact h78 k
        · by_cases e : i' = i
          · subst e
            rw [up_eq2]
            exact hv
          · rw [up_ne2 e]
            exact hnx i' (by omega)
        · have e : (mv_up J 80 i v) 78 (120 * m + p) = J 78 (120 * m + p) := by
            unfold mv_up
            rw [if_neg (by decide)]
          rw [e]
          exact hne p hp
      refine Ok.bif' (by rw [w_nti (by omega)]; omega) (Ok.ite' (fun _ => st 0 ⟨by decide, by rw [lt00]; omega⟩) (fun g2 => ?_))
      rw [Int32.le_iff_toInt_le, w_nti (by omega), w_nti (by omega)] at g2
      refine Ok.bif' (by rw [w_nti (by omega)]; omega) (st _ ?_)
      rw [M.v70 m hm i (by omega)]
      exact vk_ty (hF.mty m hm i (by omega)) hc
theorem m128_2 (hF : KFok F) {N : Nat} (hN : bN + 400 ≤ N) {m : Nat} (hm : m < F.nm) (hA : AG F m) {Z : kjI} (hM : MV F Z) : ∀ (n p : Nat) (J : kjI) (L : kjL), 120 - p < n → p ≤ 120 → FLm Z J → (∀ k, -2 ≤ (J 78 k).toInt ∧ (J 78 k).toInt ≤ 8) → (∀ p', p' < p → J 78 (120 * m + p') = -1) → Ok (kf128_2 N n (w m) (w p) J L) (fun r => mF F m r.1 ∧ FLm Z r.1) := by
  have h16 := hF.nm16
  intro n
  induction n with
  | zero => intro p J L h; omega
  | succ n ih =>
    intro p J L hn hp hz h78 hne
    unfold kf128_2
    have e00 : (0 : Int32) = w ((0 : Nat) : Int) := rfl
    rw [ix120, w_nat (z := 120 * m + p) (by omega), ix1]
    refine Ok.ite' (fun g => ?_) (fun g => ?_)
    · rw [Int32.le_iff_toInt_le, lt0120, w_nti (by omega)] at g
      exact m128_28 hF hN hm hA hM N 0 J L (by omega) (by omega) hz h78 (fun i' z => by omega) (fun p' hp' => hne p' (by omega))
    · rw [Int32.le_iff_toInt_le, lt0120, w_nti (by omega)] at g
      refine Ok.bif' (by rw [w_nti (by omega)]; omega) (ih (p + 1) _ _ (by omega) (by omega) (fun q j h1 h2 h3 h4 => ?_) (fun k => ?_) (fun p' hp' => ?_))
      · rw [← hz q j h1 h2 h3 h4]
        unfold mv_up
        rw [if_neg h1]
      · by_cases e : k = 120 * m + p
        · subst e
          rw [up_eq2]
          decide
        · rw [up_ne2 e]
          exact h78 k
      · by_cases e : p' = p
        · subst e
          exact up_eq2
        · rw [up_ne2 (by omega)]
          exact hne p' (by omega)
/-- flow -/
theorem m128 (hF : KFok F) {N : Nat} (hN : bN + 400 ≤ N) {m : Nat} (hm : m < F.nm) (hA : AG F m) (hM : MV F J) (h78 : ∀ k, -2 ≤ (J 78 k).toInt ∧ (J 78 k).toInt ≤ 8) : Ok (kf128 N (w m) J L) (fun r => mF F m r.1 ∧ FLm J r.1) := by
  unfold kf128
  exact m128_2 hF hN hm hA hM N 0 J L (by omega) (by omega) (fun _ _ _ _ _ _ => rfl) h78 (fun p' z => by omega)
end FW
