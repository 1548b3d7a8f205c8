/-! The reference: where ways come together, a place stays as it was, or it stands higher than before. -/
theorem lv_all (x : Int32) : lv x ≤ 10 := by
  unfold lv
  split
  · omega
  · split
    · omega
    · split <;> omega
theorem lv_ne0 {x : Int32} (h : x ≠ 0) : lv x < 10 := by
  have e0 : x.toInt ≠ 0 := fun z => h (Int32.toInt_inj.mp (z.trans lt00.symm))
  unfold lv
  (repeat' split) <;> omega
theorem w_nat {z : Nat} (h : z < 2147483648) : Int32.toNatClampNeg (w z) = z := by
  rw [w_clamp (by omega)]
  omega
theorem w_nti {z : Nat} (h : z < 2147483648) : (w z).toInt = z := w_toInt (by omega)
theorem ix120 (m t : Nat) : ((120 : Int32) * w m) + w t = w ((120 * m + t : Nat) : Int) := by
  (simp only [w_lit, w_neg, w_add, w_sub, w_mul])
  congr 1
theorem ix16 (k i : Nat) : ((16 : Int32) * w k) + w i = w ((16 * k + i : Nat) : Int) := by
  (simp only [w_lit, w_neg, w_add, w_sub, w_mul])
  congr 1
theorem ix1 (i : Nat) : w i + (1 : Int32) = w ((i + 1 : Nat) : Int) := by
  (simp only [w_lit, w_neg, w_add, w_sub, w_mul])
  congr 1
def dgs (J : kjI) (k : Nat) : Nat → Nat
  | 0 => 0
  | i + 1 => 11 * dgs J k i + lv (J 79 (16 * k + i))
theorem dgs_congr {J J' : kjI} {k : Nat} : ∀ n, (∀ i, i < n → J' 79 (16 * k + i) = J 79 (16 * k + i)) → dgs J' k n = dgs J k n
  | 0, _ => rfl
  | n + 1, h => by
    unfold dgs
    rw [dgs_congr n (fun i hi => h i (by omega)), h n (by omega)]
theorem dgs_lt (J : kjI) (k : Nat) : ∀ n, dgs J k n + 1 ≤ 11 ^ n
  | 0 => Nat.le_refl _
  | n + 1 => by
    have h := dgs_lt J k n
    have l := lv_all (J 79 (16 * k + n))
    have e : 11 ^ (n + 1) = 11 * 11 ^ n := by rw [Nat.pow_succ, Nat.mul_comm]
    unfold dgs
    omega
section MG
variable {F : KF} {L : kjL}
/-- what a merge leaves: K 'the place had been come to before', with the KINDS of J0 -/
def mPost (F : KF) (J0 : kjI) (k : Nat) (K : Prop) (r : Int32 × kjI × kjL) : Prop :=
  (r.1 = 0 ∨ r.1 = 1) ∧ (∀ q j, ¬ (q = 79 ∧ 16 * k ≤ j ∧ j < 16 * k + 16) → ¬ (q = 78 ∧ j = k) → r.2.1 q j = J0 q j) ∧ r.2.1 78 k = J0 59 33 ∧ (∀ i, i < 16 → vk F.nc (r.2.1 79 (16 * k + i))) ∧ (r.1 = 0 → K ∧ ∀ i, i < 16 → r.2.1 79 (16 * k + i) = J0 79 (16 * k + i)) ∧ (r.1 = 1 → K → dgs J0 k 16 < dgs r.2.1 k 16)
theorem m127_83 (hF : KFok F) {J0 : kjI} (hM : MV F J0) {N : Nat} (hN : 300 ≤ N) {k : Nat} (hk : k < 1920) (K : Prop) (hnx : ∀ i, i < 16 → vk F.nc (J0 80 i)) (hv : K → ∀ i, i < 16 → vk F.nc (J0 79 (16 * k + i))) :
    ∀ (n i : Nat) (v5 : Int32) (J : kjI), 16 - i < n → i ≤ 16 → (∀ q j, ¬ (q = 79 ∧ 16 * k ≤ j ∧ j < 16 * k + i) → J q j = J0 q j) → (∀ i', i' < i → vk F.nc (J 79 (16 * k + i'))) →
    ((v5 = 0 ∧ K ∧ ∀ i', i' < i → J 79 (16 * k + i') = J0 79 (16 * k + i')) ∨ (v5 = 1 ∧ (K → dgs J0 k i + 1 ≤ dgs J k i))) → Ok (kf127_83 N n (w k) v5 (w i) J L) (mPost F J0 k K) := by
  intro n
  induction n with
  | zero => intro i v5 J h; omega
  | succ n ih =>
    intro i v5 J hn hi hfr hval h5
    have h8 := hF.nc8
    have hMJ : MV F J := hM.keep (fun q _ _ _ j => hfr q j (by omega)) ⟨hfr _ _ (by omega), hfr _ _ (by omega), hfr _ _ (by omega)⟩
    have ek : Int32.toNatClampNeg (w k) = k := w_nat (by omega)
    have ei : Int32.toNatClampNeg (w i) = i := w_nat (by omega)
    have ex : Int32.toNatClampNeg (((16 : Int32) * w k) + w i) = 16 * k + i := by rw [ix16, w_nat (by omega)]
    have tk : (w (k : Int)).toInt = k := w_nti (by omega)
    have ti : (w (i : Int)).toInt = i := w_nti (by omega)
    have tx : (((16 : Int32) * w k) + w i).toInt = ((16 * k + i : Nat) : Int) := by rw [ix16, w_nti (by omega)]
    unfold kf127_83
    rw [ek, ei, ex]
    refine Ok.ite' (fun g => ?_) (fun g => ?_)
    · rw [Int32.le_iff_toInt_le, lt016, ti] at g
      have e16 : i = 16 := by omega
      subst e16
      refine Ok.bif' (by rw [tk]; omega) ?_
      have h01 : v5 = 0 ∨ v5 = 1 := by
        rcases h5 with h | h
        · exact Or.inl h.1
        · exact Or.inr h.1
      refine Ok.ret01 h01 (Ok.some' ?_)
      have e59 : J 59 33 = J0 59 33 := hfr _ _ (by omega)
      have up79 : ∀ j, (mv_up J 78 k (J 59 33)) 79 j = J 79 j := fun j => by unfold mv_up; rw [if_neg (by omega)]
      refine ⟨h01, fun q j h1 h2 => ?_, ?_, fun i' hi' => ?_, fun h0 => ?_, fun h1 hK => ?_⟩
      · show mv_up J 78 k (J 59 33) q j = J0 q j
        unfold mv_up
        by_cases e : q = 78
        · subst e
          rw [if_pos rfl, if_neg (fun z => h2 ⟨rfl, z⟩)]
          exact hfr _ _ (by omega)
        · rw [if_neg e]
          exact hfr _ _ h1
      · show mv_up J 78 k (J 59 33) 78 k = _
        unfold mv_up
        rw [if_pos rfl, if_pos rfl, e59]
      · show vk F.nc (mv_up J 78 k (J 59 33) 79 (16 * k + i'))
        rw [up79]
        exact hval i' hi'
      · have h0 : v5 = 0 := h0
        rcases h5 with h | h
        · refine ⟨h.2.1, fun i' hi' => ?_⟩
          show mv_up J 78 k (J 59 33) 79 (16 * k + i') = _
          rw [up79]
          exact h.2.2 i' hi'
        · exfalso
          rw [h.1] at h0
          exact absurd h0 (by decide)
      · have h1 : v5 = 1 := h1
        rcases h5 with h | h
        · exfalso
          rw [h.1] at h1
          exact absurd h1 (by decide)
        · have a := h.2 hK
          have e : dgs (mv_up J 78 k (J 59 33)) k 16 = dgs J k 16 := dgs_congr 16 (fun i' _ => up79 _)
          show dgs J0 k 16 < dgs (mv_up J 78 k (J 59 33)) k 16
          omega
    · rw [Int32.le_iff_toInt_le, lt016, ti] at g
      have hi16 : i < 16 := by omega
      have eJ : J 79 (16 * k + i) = J0 79 (16 * k + i) := hfr _ _ (by omega)
      have e80 : J 80 i = J0 80 i := hfr _ _ (by omega)
      have inx : 0 ≤ (((16 : Int32) * w k) + w i).toInt ∧ (((16 : Int32) * w k) + w i).toInt < ((30720 : Nat) : Int) := by rw [tx]; omega
      have in16 : 0 ≤ (w (i : Int)).toInt ∧ (w (i : Int)).toInt < ((16 : Nat) : Int) := by rw [ti]; omega
      -- the rest of the turn, once the new KIND is known
      have step : ∀ v7 : Int32, vk F.nc v7 → (v5 = 0 → v7 = J 79 (16 * k + i) ∨ lv (J 79 (16 * k + i)) < lv v7) → Ok (kf127_146 N (fun v4 v5 v6 I L => kf127_83 N n v4 v5 v6 I L) (w k) v5 (w i) v7 J L) (mPost F J0 k K) := by
        intro v7 hv7 hlt
        have frU : ∀ q j, ¬ (q = 79 ∧ 16 * k ≤ j ∧ j < 16 * k + (i + 1)) → (mv_up J 79 (16 * k + i) v7) q j = J0 q j := by
          intro q j h
          unfold mv_up
          by_cases e : q = 79
          · subst e
            rw [if_pos rfl, if_neg (fun z => h ⟨rfl, by omega, by omega⟩)]
            exact hfr _ _ (by omega)
          · rw [if_neg e]
            exact hfr _ _ (by omega)
        have upi : (mv_up J 79 (16 * k + i) v7) 79 (16 * k + i) = v7 := by
          unfold mv_up
          rw [if_pos rfl, if_pos rfl]
        have upo : ∀ i', i' < i → (mv_up J 79 (16 * k + i) v7) 79 (16 * k + i') = J 79 (16 * k + i') := by
          intro i' hi'
          unfold mv_up
          rw [if_pos rfl, if_neg (by omega)]
        have vU : ∀ i', i' < i + 1 → vk F.nc ((mv_up J 79 (16 * k + i) v7) 79 (16 * k + i')) := by
          intro i' hi'
          by_cases e : i' = i
          · subst e
            rw [upi]
            exact hv7
          · rw [upo i' (by omega)]
            exact hval i' (by omega)
        have dU : dgs (mv_up J 79 (16 * k + i) v7) k (i + 1) = 11 * dgs J k i + lv v7 := by
          show 11 * dgs (mv_up J 79 (16 * k + i) v7) k i + lv ((mv_up J 79 (16 * k + i) v7) 79 (16 * k + i)) = _
          rw [upi, dgs_congr i upo]
        have d0 : dgs J0 k (i + 1) = 11 * dgs J0 k i + lv (J0 79 (16 * k + i)) := rfl
        have l0 := lv_all (J0 79 (16 * k + i))
        unfold kf127_146 kf127_169 kf127_174
        rw [ex, ix1]
        rcases h5 with ⟨e5, hK, hsame⟩ | ⟨e5, hK⟩
        · subst e5
          refine Ok.ite' (fun z => absurd rfl z) (fun _ => Ok.bif' inx (Ok.ite' (fun e7 => Ok.bif' inx ?_) (fun n7 => Ok.bif' inx ?_)))
          · refine ih (i + 1) 0 _ (by omega) (by omega) frU vU (Or.inl ⟨rfl, hK, fun i' hi' => ?_⟩)
            by_cases e : i' = i
            · subst e
              rw [upi, e7, eJ]
            · rw [upo i' (by omega)]
              exact hsame i' (by omega)
          · refine ih (i + 1) 1 _ (by omega) (by omega) frU vU (Or.inr ⟨rfl, fun _ => ?_⟩)
            rcases hlt rfl with h | h
            · exact absurd h n7
            · rw [dU, d0, dgs_congr i hsame]
              rw [eJ] at h
              omega
        · subst e5
          refine Ok.ite' (fun _ => Ok.bif' inx ?_) (fun z => absurd z (by decide))
          refine ih (i + 1) 1 _ (by omega) (by omega) frU vU (Or.inr ⟨rfl, fun hk' => ?_⟩)
          have a := hK hk'
          rw [dU, d0]
          omega
      have s129 : ∀ s0 : Int32, vk F.nc s0 → (v5 = 0 → s0 = J 79 (16 * k + i) ∨ lv (J 79 (16 * k + i)) < lv s0) → Ok (kf127_129 N (fun v4 v5 v6 I L => kf127_83 N n v4 v5 v6 I L) (w k) v5 (w i) s0 J L) (mPost F J0 k K) := by
        intro s0 h1 h2
        unfold kf127_129
        refine Ok.ite' (fun _ => step s0 h1 h2) (fun _ => step 0 ⟨by decide, by rw [lt00]; omega⟩ (fun _ => ?_))
        by_cases e : J 79 (16 * k + i) = 0
        · exact Or.inl e.symm
        · right
          have l10 : lv (0 : Int32) = 10 := by decide
          rw [l10]
          exact lv_ne0 e
      refine Ok.ite' (fun e5 => Ok.bif' inx (Ok.bif' in16 ?_)) (fun n5 => Ok.bif' in16 (s129 _ (by rw [e80]; exact hnx i hi16) (fun z => absurd z n5)))
      have hK : K := by
        rcases h5 with h | h
        · exact h.2.1
        · exfalso
          rw [h.1] at e5
          exact absurd e5 (by decide)
      exact Ok.bind' (m126 hF hMJ hN (by rw [eJ]; exact hv hK i hi16) (by rw [e80]; exact hnx i hi16)) (fun r ⟨hr1, hr2⟩ => s129 r hr1 (fun _ => hr2))
end MG
