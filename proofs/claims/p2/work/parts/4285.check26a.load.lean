/-! The reference: load, and what it holds at all times. -/
theorem up_no {J : kjI} {a b q j : Nat} {x : Int32} (h : ¬ (q = a ∧ j = b)) : (mv_up J a b x) q j = J q j := by
  unfold mv_up
  by_cases e : q = a
  · rw [if_pos e, if_neg (fun z => h ⟨e, z⟩)]
  · rw [if_neg e]
/-- the same but for bytes and what load writes -/
def GKp (J J' : kjI) : Prop := ∀ q j, 59 ≤ q → ¬ (60 ≤ q ∧ q ≤ 62) → ¬ (q = 59 ∧ (j ≤ 2 ∨ j = 5 ∨ (7 ≤ j ∧ j ≤ 11))) → J' q j = J q j
theorem GKp.refl {J : kjI} : GKp J J := fun _ _ _ _ _ => rfl
theorem GKp.up {J J' : kjI} (h : GKp J J') {a b : Nat} {x : Int32} (hab : (60 ≤ a ∧ a ≤ 62) ∨ (a = 59 ∧ (b ≤ 2 ∨ b = 5 ∨ (7 ≤ b ∧ b ≤ 11)))) : GKp J (mv_up J' a b x) := fun q j h0 h1 h2 => by
  rw [up_no (by omega)]
  exact h q j h0 h1 h2
theorem GS.keep {J J' : kjI} (h : GS J) (k : GKp J J') : GS J' := by
  obtain ⟨F, hF, hM, hA⟩ := h
  refine ⟨F, hF, hM.keep (fun q _ _ _ j => k q j (by omega) (by omega) (by omega)) ⟨k _ _ (by omega) (by omega) (by omega), k _ _ (by omega) (by omega) (by omega), k _ _ (by omega) (by omega) (by omega)⟩, fun m hm => ⟨fun i hi => ?_, (hA m hm).2⟩⟩
  rw [k 76 _ (by omega) (by omega) (by omega)]
  exact (hA m hm).1 i hi
theorem HT.keep {J J' : kjI} (h : HT J) (k : GKp J J') : HT J' := fun i => by
  rw [k 78 i (by omega) (by omega) (by omega)]
  exact h i
/-- the last good FILE is held -/
def FB (N : Nat) (J : kjI) : Prop := J 59 8 = 1 ∧ ∃ (nf : Nat) (Bf : Nat → Nat), nf ≤ 1500 ∧ (∀ i, i < nf → Bf i < 256) ∧ J 59 7 = w nf ∧ (∀ i, i < nf → J 62 i = w (Bf i)) ∧ PG N nf Bf ∧ GS J
/-- what the reference holds; the other cells stand as in Y -/
def MI (N n : Nat) (B : Nat → Nat) (Y J : kjI) : Prop := n ≤ 1500 ∧ (∀ i, i < n → B i < 256) ∧ k_mrow n B J ∧ HT J ∧ (J 59 8 = 0 ∨ FB N J) ∧ ∀ q j, q < 59 → J q j = Y q j
theorem FB.keep {N : Nat} {J J' : kjI} (h : FB N J) (k : ∀ q j, 59 ≤ q → ¬ (60 ≤ q ∧ q ≤ 61) → ¬ (q = 59 ∧ (j ≤ 2 ∨ j = 5 ∨ (9 ≤ j ∧ j ≤ 11))) → J' q j = J q j) : FB N J' := by
  obtain ⟨h1, nf, Bf, h2, h3, h4, h5, h6, h7⟩ := h
  refine ⟨?_, nf, Bf, h2, h3, ?_, fun i hi => ?_, h6, h7.keep (fun q j a b c => k q j (by omega) (by omega) (by omega))⟩
  · rw [k 59 8 (by omega) (by omega) (by omega)]
    exact h1
  · rw [k 59 7 (by omega) (by omega) (by omega)]
    exact h4
  · rw [k 62 i (by omega) (by omega) (by omega)]
    exact h5 i hi
theorem MI.up0 {N n : Nat} {B : Nat → Nat} {Y J : kjI} {x : Int32} (h : MI N n B Y J) : MI N n B Y (mv_up J 59 0 x) := by
  obtain ⟨h1, h2, h3, h4, h5, h6⟩ := h
  refine ⟨h1, h2, ⟨?_, fun i hi => ?_⟩, h4.keep (GKp.refl.up (by omega)), ?_, fun q j hq => ?_⟩
  · rw [up_no (by omega)]
    exact h3.1
  · rw [up_no (by omega)]
    exact h3.2 i hi
  · rcases h5 with z | z
    · refine Or.inl ?_
      rw [up_no (by omega)]
      exact z
    · exact Or.inr (z.keep (fun q j a b c => up_no (by omega)))
  · rw [up_no (by omega)]
    exact h6 q j hq
theorem MI.gs {N n : Nat} {B : Nat → Nat} {Y J : kjI} (h : MI N n B Y J) (n8 : ¬ J 59 8 = 0) : GS J := by
  rcases h.2.2.2.2.1 with z | z
  · exact absurd z n8
  · obtain ⟨_, nf, Bf, _, _, _, _, _, g⟩ := z
    exact g
theorem MI.ht {N n : Nat} {B : Nat → Nat} {Y J : kjI} (h : MI N n B Y J) : HT J := h.2.2.2.1
theorem MI.of0 {N : Nat} {Y J : kjI} (h2 : J 59 2 = 0) (hT : HT J) (h : J 59 8 = 0 ∨ FB N J) (hy : ∀ q j, q < 59 → J q j = Y q j) : MI N 0 (fun _ => 0) Y J := ⟨by omega, fun i hi => by omega, ⟨h2, fun i hi => by omega⟩, hT, h, hy⟩
section LD
variable {N n : Nat} {B : Nat → Nat} {L : kjL} {Y J : kjI}
/-- the second time over what was good -/
theorem m123_26 (hN : bN + 2000000 ≤ N) (hn : n ≤ 1500) (hB : ∀ i, i < n → B i < 256) (hPG : PG N n B) (v1 v2 v3 : Int32) {Z : kjI} (hZ : Z 59 7 = w n) (hZ62 : ∀ i, i < n → Z 62 i = w (B i)) (hT : HT Z) :
    ∀ (k i : Nat) (J : kjI) (L : kjL), 1500 - i < k → i ≤ n → (∀ q j, q ≠ 61 → ¬ (q = 59 ∧ j = 5) → J q j = Z q j) → J 59 5 = w n → (∀ i', i' < i → J 61 i' = w (B i')) → Ok (kf123_26 N k v1 v2 v3 (w i) J L) (fun r => HT r.1 ∧ GS r.1 ∧ ∀ q j, (q < 59 ∨ q = 62 ∨ q = 60 ∨ (q = 59 ∧ (j = 2 ∨ j = 7 ∨ j = 8))) → r.1 q j = Z q j) := by
  intro k
  induction k with
  | zero => intro i J L h; omega
  | succ k ih =>
    intro i J L hk hi hf h5 h61
    unfold kf123_26
    rw [hf 59 7 (by omega) (by omega), hZ]
    refine Ok.ite' (fun g => ?_) (fun g => ?_)
    · rw [Int32.le_iff_toInt_le, w_nti (by omega), w_nti (by omega)] at g
      have e : i = n := by omega
      subst e
      have hTJ : HT J := fun x => by
        rw [hf 78 x (by omega) (by omega)]
        exact hT x
      refine Ok.bind' (m121 hN hn hB h5 h61 hTJ) (fun r ⟨p1, p2, p3, p4, p5⟩ => Ok.some' ?_)
      have kk : GKp r.2.1 (mv_up (mv_up (mv_up r.2.1 59 9 v1) 59 11 v2) 59 10 v3) := ((GKp.refl.up (by omega)).up (by omega)).up (by omega)
      refine ⟨p2.keep kk, (p5 hPG).keep kk, fun q j hq => ?_⟩
      show (mv_up (mv_up (mv_up r.2.1 59 9 v1) 59 11 v2) 59 10 v3) q j = Z q j
      rw [up_no (by omega), up_no (by omega), up_no (by omega), p3 q j (by omega), hf q j (by omega) (by omega)]
    · rw [Int32.le_iff_toInt_le, w_nti (by omega), w_nti (by omega)] at g
      have hin : i < n := by omega
      refine Ok.bif' (by rw [w_nti (by omega)]; omega) (Ok.bif' (by rw [w_nti (by omega)]; omega) ?_)
      rw [w_nat (z := i) (by omega), ix1, hf 62 i (by omega) (by omega), hZ62 i hin]
      refine ih (i + 1) _ L (by omega) (by omega) (fun q j a b => ?_) ?_ (fun i' hi' => ?_)
      · rw [up_no (by omega)]
        exact hf q j a b
      · rw [up_no (by omega)]
        exact h5
      · by_cases e : i' = i
        · subst e
          exact up_eq2
        · rw [up_no (by omega)]
          exact h61 i' (by omega)
/-- the FILE is kept -/
theorem m122_67 (hn : n ≤ 1500) (hB : ∀ i, i < n → B i < 256) (hPG : PG N n B) :
    ∀ (k i : Nat) (J : kjI) (L : kjL), 1500 - i < k → i ≤ n → J 59 5 = w n → J 59 2 = 0 → (∀ i', i' < n → J 61 i' = w (B i')) → (∀ i', i' < i → J 62 i' = w (B i')) → HT J → GS J → (∀ q j, q < 59 → J q j = Y q j) → Ok (kf122_67 N k (w i) J L) (fun r => MI N 0 (fun _ => 0) Y r.2.1) := by
  intro k
  induction k with
  | zero => intro i J L h; omega
  | succ k ih =>
    intro i J L hk hi h5 h2 h61 h62 hT hG hy
    unfold kf122_67
    rw [h5]
    refine Ok.ite' (fun g => ?_) (fun g => ?_)
    · rw [Int32.le_iff_toInt_le, w_nti (by omega), w_nti (by omega)] at g
      have e : i = n := by omega
      subst e
      have kk : ∀ x y : Int32, GKp J (mv_up (mv_up (mv_up (mv_up J 59 7 x) 59 8 (1 : Int32)) 59 1 y) 59 0 (0 : Int32)) := fun x y => (((GKp.refl.up (by omega)).up (by omega)).up (by omega)).up (by omega)
      refine Ok.some' (MI.of0 ?_ (hT.keep (kk _ _)) (Or.inr ⟨?_, i, B, hn, hB, ?_, fun i' hi' => ?_, hPG, hG.keep (kk _ _)⟩) (fun q j hq => ?_))
      · dsimp only
        rw [up_no (by omega), up_no (by omega), up_no (by omega), up_no (by omega)]
        exact h2
      · dsimp only
        rw [up_no (by omega), up_no (by omega), up_eq2]
      · dsimp only
        rw [up_no (by omega), up_no (by omega), up_no (by omega), up_eq2]
      · dsimp only
        rw [up_no (by omega), up_no (by omega), up_no (by omega), up_no (by omega)]
        exact h62 i' hi'
      · dsimp only
        rw [up_no (by omega), up_no (by omega), up_no (by omega), up_no (by omega)]
        exact hy q j hq
    · rw [Int32.le_iff_toInt_le, w_nti (by omega), w_nti (by omega)] at g
      have hin : i < n := by omega
      refine Ok.bif' (by rw [w_nti (by omega)]; omega) (Ok.bif' (by rw [w_nti (by omega)]; omega) ?_)
      rw [w_nat (z := i) (by omega), ix1, h61 i hin]
      have kk : GKp J (mv_up J 62 i (w ((B i : Nat) : Int))) := GKp.refl.up (by omega)
      refine ih (i + 1) _ L (by omega) (by omega) ?_ ?_ (fun i' hi' => ?_) (fun i' hi' => ?_) (hT.keep kk) (hG.keep kk) (fun q j hq => ?_)
      · rw [up_no (by omega)]
        exact h5
      · rw [up_no (by omega)]
        exact h2
      · rw [up_no (by omega)]
        exact h61 i' hi'
      · by_cases e : i' = i
        · subst e
          exact up_eq2
        · rw [up_no (by omega)]
          exact h62 i' (by omega)
      · rw [up_no (by omega)]
        exact hy q j hq
theorem m122_10 (hN : bN + 2000000 ≤ N) {Z : kjI} (hZ : MI N n B Y Z) :
    ∀ (k i : Nat) (J : kjI) (L : kjL), 1500 - i < k → i ≤ n → (∀ q j, q ≠ 61 → ¬ (q = 59 ∧ j = 5) → J q j = Z q j) → J 59 5 = w n → (∀ i', i' < i → J 61 i' = w (B i')) → Ok (kf122_10 N k (w i) J L) (fun r => MI N 0 (fun _ => 0) Y r.2.1) := by
  obtain ⟨hn, hB, hr, hT, h8, hy⟩ := hZ
  intro k
  induction k with
  | zero => intro i J L h; omega
  | succ k ih =>
    intro i J L hk hi hf h5 h61
    unfold kf122_10 kf122_137
    rw [hf 59 2 (by omega) (by omega), hr.1]
    refine Ok.ite' (fun g => ?_) (fun g => ?_)
    · rw [Int32.le_iff_toInt_le, w_nti (by omega), w_nti (by omega)] at g
      have e : i = n := by omega
      subst e
      have hTJ : HT (mv_up J 59 2 (0 : Int32)) := fun x => by
        rw [up_no (by omega), hf 78 x (by omega) (by omega)]
        exact hT x
      refine Ok.bind' (m121 hN hn hB (J := mv_up J 59 2 (0 : Int32)) ?_ (fun i' hi' => ?_) hTJ) (fun r ⟨p1, p2, p3, p4, p5⟩ => ?_)
      · rw [up_no (by omega)]
        exact h5
      · rw [up_no (by omega)]
        exact h61 i' hi'
      have r2 : r.2.1 59 2 = 0 := by rw [p3 59 2 (by omega), up_eq2]
      have r8 : r.2.1 59 8 = Z 59 8 := by rw [p3 59 8 (by omega), up_no (by omega), hf 59 8 (by omega) (by omega)]
      have r7 : r.2.1 59 7 = Z 59 7 := by rw [p3 59 7 (by omega), up_no (by omega), hf 59 7 (by omega) (by omega)]
      have r62 : ∀ i', r.2.1 62 i' = Z 62 i' := fun i' => by rw [p3 62 i' (by omega), up_no (by omega), hf 62 i' (by omega) (by omega)]
      have r5 : r.2.1 59 5 = w ((i : Nat) : Int) := by
        rw [p3 59 5 (by omega), up_no (by omega)]
        exact h5
      have r61 : ∀ i', i' < i → r.2.1 61 i' = w (B i') := fun i' hi' => by
        rw [p3 61 i' (by omega), up_no (by omega)]
        exact h61 i' hi'
      have ry : ∀ q j, q < 59 → r.2.1 q j = Y q j := fun q j hq => by rw [p3 q j (by omega), up_no (by omega), hf q j (by omega) (by omega), hy q j hq]
      refine Ok.ite' (fun e0 => Ok.ite' (fun z8 => ?_) (fun n8 => ?_)) (fun ne0 => ?_)
      · unfold kf101
        exact Ok.some' ((MI.of0 r2 p2 (Or.inl z8) ry).up0)
      · rw [r8] at n8
        rcases h8 with z | z
        · exact absurd z n8
        · obtain ⟨h1, nf, Bf, h2, h3, h4, h5', h6, h7⟩ := z
          have hTr := p2
          refine Ok.bind' (P := fun q => HT q.1 ∧ (q.1 59 8 = 1 ∧ ∃ (nf : Nat) (Bf : Nat → Nat), nf ≤ 1500 ∧ (∀ i, i < nf → Bf i < 256) ∧ q.1 59 7 = w nf ∧ (∀ i, i < nf → q.1 62 i = w (Bf i)) ∧ PG N nf Bf ∧ GS q.1) ∧ q.1 59 2 = 0 ∧ ∀ a b, a < 59 → q.1 a b = Y a b) ?_ (fun q ⟨g1, g2, g3, g4⟩ => ?_)
          · unfold kf123
            refine Ok.mono (m123_26 hN h2 h3 h6 (r.2.1 59 9) (r.2.1 59 11) (r.2.1 59 10) (Z := r.2.1) (r7.trans h4) (fun i' hi' => (r62 i').trans (h5' i' hi')) p2 N 0 _ r.2.2 (by omega) (by omega) (fun q j a b => up_no (by omega)) ?_ (fun i' z => by omega)) (fun q ⟨g1, g2, g3⟩ => ?_)
            · rw [up_eq2]
              exact r7.trans h4
            · refine ⟨g1, ⟨?_, nf, Bf, h2, h3, ?_, fun i hi => ?_, h6, g2⟩, ?_, fun a b hab => (g3 a b (by omega)).trans (ry a b hab)⟩
              · rw [g3 59 8 (by omega)]
                exact r8.trans h1
              · rw [g3 59 7 (by omega)]
                exact r7.trans h4
              · rw [g3 62 i (by omega)]
                exact (r62 i).trans (h5' i hi)
              · rw [g3 59 2 (by omega)]
                exact r2
          · unfold kf101
            exact Ok.some' ((MI.of0 g3 g1 (Or.inr g2) g4).up0)
      · have e1 : r.1 = 1 := by
          rcases p1 with z | z
          · exact absurd z ne0
          · exact z
        have hPG := p4 e1
        have kk : GKp r.2.1 (mv_up (mv_up (mv_up r.2.1 59 9 (0 : Int32)) 59 10 (0 : Int32)) 59 11 (0 : Int32)) := ((GKp.refl.up (by omega)).up (by omega)).up (by omega)
        refine m122_67 hn hB hPG N 0 _ _ (by omega) (by omega) ?_ ?_ (fun i' hi' => ?_) (fun i' z => by omega) (p2.keep kk) ((p5 hPG).keep kk) (fun q j hq => ?_)
        · rw [up_no (by omega), up_no (by omega), up_no (by omega)]
          exact r5
        · rw [up_no (by omega), up_no (by omega), up_no (by omega)]
          exact r2
        · rw [up_no (by omega), up_no (by omega), up_no (by omega)]
          exact r61 i' hi'
        · rw [up_no (by omega), up_no (by omega), up_no (by omega)]
          exact ry q j hq
    · rw [Int32.le_iff_toInt_le, w_nti (by omega), w_nti (by omega)] at g
      have hin : i < n := by omega
      refine Ok.bif' (by rw [w_nti (by omega)]; omega) (Ok.bif' (by rw [w_nti (by omega)]; omega) ?_)
      rw [w_nat (z := i) (by omega), ix1, hf 60 i (by omega) (by omega), hr.2 i hin]
      refine ih (i + 1) _ L (by omega) (by omega) (fun q j a b => ?_) ?_ (fun i' hi' => ?_)
      · rw [up_no (by omega)]
        exact hf q j a b
      · rw [up_no (by omega)]
        exact h5
      · by_cases e : i' = i
        · subst e
          exact up_eq2
        · rw [up_no (by omega)]
          exact h61 i' (by omega)
theorem m122 (hN : bN + 2000000 ≤ N) (h : MI N n B Y J) : Ok (kf122 N J L) (fun r => MI N 0 (fun _ => 0) Y r.2.1) := by
  unfold kf122
  refine m122_10 hN h N 0 _ L (by omega) (by omega) (fun q j a b => up_no (by omega)) ?_ (fun i' z => by omega)
  rw [up_eq2]
  exact h.2.2.1.1
end LD
