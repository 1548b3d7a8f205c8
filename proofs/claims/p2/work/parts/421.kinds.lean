/-! The reference: KINDS that may be, which is below which, and what comes of two. -/
def vk (n : Nat) (x : Int32) : Prop := 0 ≤ x.toInt ∧ x.toInt < 16 + n
/-- how high a KIND stands: what comes of two stands higher, or is the same -/
def lv (x : Int32) : Nat := if x.toInt = 3 then 0 else if x.toInt = 0 then 10 else if 16 ≤ x.toInt then (24 - x.toInt).toNat else 9
theorem lv_le (x : Int32) : lv x ≤ 10 ∨ x.toInt < 16 ∨ 16 ≤ x.toInt := by omega
theorem lv10 {x : Int32} (h : 0 ≤ x.toInt) : lv x ≤ 10 := by
  unfold lv
  split
  · omega
  · split
    · omega
    · split <;> omega
section MD
variable {F : KF} {J : kjI} {L : kjL}
theorem m63 (hF : KFok F) (hM : MV F J) {v : Int32} (h : 0 ≤ v.toInt ∧ v.toInt < F.nc) : -1 ≤ (J 63 (Int32.toNatClampNeg v)).toInt ∧ (J 63 (Int32.toNatClampNeg v)).toInt < v.toInt := by
  have h8 := hF.nc8
  have e : Int32.toNatClampNeg v = v.toInt.toNat := rfl
  have hp := hF.hp v.toInt.toNat (by omega)
  rw [e, hM.v63 _ (by omega), w_toInt (by omega)]
  omega
theorem m109_7 (hF : KFok F) (hM : MV F J) (N : Nat) (v2 : Int32) : ∀ (n : Nat) (v3 : Int32), v3.toInt < F.nc → v3.toInt + 1 < n → 0 < n → Ok (kf109_7 N J L n v2 v3) (fun r => r = 0 ∨ r = 1) := by
  intro n
  induction n with
  | zero => intro v3 _ _ h0; omega
  | succ n ih =>
    intro v3 h3 hn _
    unfold kf109_7 kf109_26
    have h8 := hF.nc8
    have k : Ok (if v3 < 0 then (some (0 : Int32)) else (some (1 : Int32))) (fun r => r = 0 ∨ r = 1) := Ok.ite' (fun _ => Ok.some' (Or.inl rfl)) (fun _ => Ok.some' (Or.inr rfl))
    refine Ok.ite' (fun _ => k) (fun g => Ok.ite' (fun _ => k) (fun _ => ?_))
    rw [Int32.lt_iff_toInt_lt, lt00] at g
    have a := m63 hF hM (v := v3) (by omega)
    exact Ok.bif' (by omega) (ih _ (by omega) (by omega) (by omega))
theorem m109 (hF : KFok F) (hM : MV F J) {N : Nat} (hN : 300 ≤ N) {v1 : Int32} (v2 : Int32) (h : 0 ≤ v1.toInt ∧ v1.toInt < F.nc) : Ok (kf109 N J L v1 v2) (fun r => r = 0 ∨ r = 1) := by
  unfold kf109
  have h8 := hF.nc8
  have a := m63 hF hM h
  exact Ok.bif' (by omega) (m109_7 hF hM N v2 N _ (by omega) (by omega) (by omega))
theorem m110 (hF : KFok F) (hM : MV F J) {N : Nat} (hN : 300 ≤ N) {v1 : Int32} (v2 : Int32) (h : 0 ≤ v1.toInt ∧ v1.toInt < F.nc) : Ok (kf110 N J L v1 v2) (fun r => r = 0 ∨ r = 1) := by
  unfold kf110
  exact Ok.ite' (fun _ => Ok.some' (Or.inr rfl)) (fun _ => Ok.bind' (m109 hF hM hN v2 h) (fun r _ => Ok.ite' (fun _ => Ok.some' (Or.inl rfl)) (fun _ => Ok.some' (Or.inr rfl))))
theorem t_s16 {x : Int32} (h : 16 ≤ x.toInt) : (x - (16 : Int32)).toInt = x.toInt - 16 := by
  have := rg x
  rw [t_sub (by rw [lt016]; omega), lt016]
theorem m126_77 (hF : KFok F) (hM : MV F J) {N : Nat} (hN : 300 ≤ N) {v2 : Int32} (h2 : 16 ≤ v2.toInt ∧ v2.toInt < 16 + F.nc) : ∀ (n : Nat) (v3 : Int32), v3.toInt < F.nc → v3.toInt + 1 < n → 0 < n → Ok (kf126_77 N J L n v2 v3) (fun r => r.toInt = 15 ∨ (16 ≤ r.toInt ∧ r.toInt ≤ 16 + v3.toInt)) := by
  intro n
  induction n with
  | zero => intro v3 _ _ h0; omega
  | succ n ih =>
    intro v3 h3 hn _
    unfold kf126_77
    have h8 := hF.nc8
    have e2 := t_s16 h2.1
    refine Ok.ite' (fun _ => Ok.some' (Or.inl rfl)) (fun g => Ok.bind' (m110 hF hM hN v3 (by rw [e2]; omega)) (fun r _ => Ok.ite' (fun _ => ?_) (fun _ => Ok.some' (Or.inr ?_))))
    · rw [Int32.lt_iff_toInt_lt, lt00] at g
      have a := m63 hF hM (v := v3) (by omega)
      exact Ok.bif' (by omega) (Ok.mono (ih _ (by omega) (by omega) (by omega)) (fun r hr => by omega))
    · rw [Int32.lt_iff_toInt_lt, lt00] at g
      have e : ((16 : Int32) + v3).toInt = 16 + v3.toInt := by rw [t_add (by rw [lt016]; omega), lt016]
      show 16 ≤ ((16 : Int32) + v3).toInt ∧ ((16 : Int32) + v3).toInt ≤ 16 + v3.toInt
      rw [e]
      omega
/-- joined -/
theorem m126 (hF : KFok F) (hM : MV F J) {N : Nat} (hN : 300 ≤ N) {a b : Int32} (ha : vk F.nc a) (hb : vk F.nc b) : Ok (kf126 N J L a b) (fun r => vk F.nc r ∧ (r = a ∨ lv a < lv r)) := by
  have h8 := hF.nc8
  obtain ⟨a1, a2⟩ := ha
  obtain ⟨b1, b2⟩ := hb
  -- what is above all
  have k0 : ¬ a = 3 → (a.toInt < 15 ∨ 15 ≤ a.toInt) → Ok (some (0 : Int32)) (fun r => vk F.nc r ∧ (r = a ∨ lv a < lv r)) := by
    intro _ _
    refine Ok.some' ⟨⟨by decide, by rw [lt00]; omega⟩, ?_⟩
    by_cases e : a = 0
    · exact Or.inl e.symm
    · right
      have e0 : a.toInt ≠ 0 := fun z => e (Int32.toInt_inj.mp (z.trans lt00.symm))
      have l0 : lv (0 : Int32) = 10 := by decide
      rw [l0]
      unfold lv
      (repeat' split) <;> omega
  have k0' : a = 3 → Ok (some (0 : Int32)) (fun r => vk F.nc r ∧ (r = a ∨ lv a < lv r)) := by
    intro e
    refine Ok.some' ⟨⟨by decide, by rw [lt00]; omega⟩, Or.inr ?_⟩
    rw [e]
    decide
  have kz : Ok (some (0 : Int32)) (fun r => vk F.nc r ∧ (r = a ∨ lv a < lv r)) := by
    by_cases e : a = 3
    · exact k0' e
    · exact k0 e (by omega)
  have ka : Ok (some a) (fun r => vk F.nc r ∧ (r = a ∨ lv a < lv r)) := Ok.some' ⟨⟨a1, a2⟩, Or.inl rfl⟩
  have k15 : 15 ≤ a.toInt → Ok (some (15 : Int32)) (fun r => vk F.nc r ∧ (r = a ∨ lv a < lv r)) := by
    intro h
    refine Ok.some' ⟨⟨by decide, by rw [lt015]; omega⟩, ?_⟩
    by_cases e : a.toInt = 15
    · exact Or.inl (Int32.toInt_inj.mp (lt015.trans e.symm))
    · right
      have l15 : lv (15 : Int32) = 9 := by decide
      rw [l15]
      unfold lv
      rw [if_neg (by omega), if_neg (by omega), if_pos (by omega)]
      omega
  have k43 : Ok (kf126_43 N J L a b) (fun r => vk F.nc r ∧ (r = a ∨ lv a < lv r)) := by
    unfold kf126_43
    refine Ok.ite' (fun _ => kz) (fun g1 => Ok.ite' (fun g2 => Ok.ite' (fun _ => k15 ?_) (fun g3 => Ok.ite' (fun g4 => ?_) (fun _ => k15 ?_))) (fun _ => kz))
    · rw [Int32.lt_iff_toInt_lt, lt015] at g1
      omega
    · rw [Int32.lt_iff_toInt_lt, lt015] at g1
      rw [Int32.le_iff_toInt_le, lt015] at g2
      have n3 : a.toInt ≠ 15 := fun z => g3 (Int32.toInt_inj.mp (z.trans lt015.symm))
      have n4 : b.toInt ≠ 15 := fun z => g4 (Int32.toInt_inj.mp (z.trans lt015.symm))
      have ea := t_s16 (x := a) (by omega)
      refine Ok.mono (m126_77 hF hM hN (v2 := b) (by omega) N _ (by rw [ea]; omega) (by rw [ea]; omega) (by omega)) (fun r hr => ?_)
      rw [ea] at hr
      refine ⟨⟨by omega, by omega⟩, ?_⟩
      by_cases e : r.toInt = a.toInt
      · exact Or.inl (Int32.toInt_inj.mp e)
      · right
        unfold lv
        rw [if_neg (by omega), if_neg (by omega), if_pos (by omega), if_neg (by omega), if_neg (by omega)]
        split <;> omega
    · rw [Int32.lt_iff_toInt_lt, lt015] at g1
      omega
  have k25 : Ok (kf126_25 N J L a b) (fun r => vk F.nc r ∧ (r = a ∨ lv a < lv r)) := by
    unfold kf126_25
    exact Ok.ite' (fun _ => k43) (fun _ => Ok.ite' (fun _ => ka) (fun _ => Ok.ite' (fun _ => k43) (fun _ => ka)))
  have kb' : a = 3 → ¬ a = b → (b = 2 ∨ ¬ b < (15 : Int32)) → Ok (some b) (fun r => vk F.nc r ∧ (r = a ∨ lv a < lv r)) := by
    intro e ne hb'
    refine Ok.some' ⟨⟨b1, b2⟩, Or.inr ?_⟩
    have la : lv a = 0 := by rw [e]; decide
    rw [la]
    have n3 : b.toInt ≠ 3 := fun z => ne (e.trans (Int32.toInt_inj.mp (z.trans lt03.symm)).symm)
    unfold lv
    rw [if_neg n3]
    split
    · omega
    · split <;> omega
  unfold kf126
  refine Ok.ite' (fun ne => Ok.ite' (fun _ => k25) (fun g => ?_)) (fun _ => ka)
  have e3 : a = 3 := Classical.not_not.mp g
  exact Ok.ite' (fun e2 => kb' e3 ne (Or.inl e2)) (fun _ => Ok.ite' (fun _ => k25) (fun g2 => kb' e3 ne (Or.inr g2)))
/-- isFit, resolve: answered for KINDS that may be -/
theorem m135 (hF : KFok F) (hM : MV F J) {N : Nat} (hN : 300 ≤ N) {a : Int32} (b : Int32) (ha : vk F.nc a) : Ok (kf135 N J L a b) (fun r => r = 0 ∨ r = 1) := by
  unfold kf135 kf135_15
  have k : Ok (if a < (16 : Int32) then (some (0 : Int32)) else (if b < (16 : Int32) then (some (0 : Int32)) else ((kf109 N J L (a - (16 : Int32)) (b - (16 : Int32))).bind fun r3 => if r3 = 0 then (some (0 : Int32)) else (some (1 : Int32))))) (fun r => r = 0 ∨ r = 1) := by
    refine Ok.ite' (fun _ => Ok.some' (Or.inl rfl)) (fun g => Ok.ite' (fun _ => Ok.some' (Or.inl rfl)) (fun _ => Ok.bind' (m109 hF hM hN _ ?_) (fun r _ => Ok.ite' (fun _ => Ok.some' (Or.inl rfl)) (fun _ => Ok.some' (Or.inr rfl)))))
    rw [Int32.lt_iff_toInt_lt, lt016] at g
    obtain ⟨a1, a2⟩ := ha
    rw [t_s16 (by omega)]
    omega
  exact Ok.ite' (fun _ => Ok.some' (Or.inr rfl)) (fun _ => Ok.ite' (fun _ => k) (fun _ => Ok.ite' (fun _ => Ok.some' (Or.inr rfl)) (fun _ => k)))
end MD
