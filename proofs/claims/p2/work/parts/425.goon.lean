/-! The reference: one INSTRUCTION is gone on from; then all of a METHOD, until nothing changes. -/
/-- under way from J0: v says whether there was news -/
def aI (F : KF) (m : Nat) (J0 : kjI) (v : Int32) (J : kjI) : Prop := (v = 0 ∨ v = 1) ∧ mF F m J ∧ FLm J0 J ∧ sumr J0 m 120 ≤ sumr J m 120 ∧ (v = 1 → sumr J0 m 120 < sumr J m 120)
/-- every INSTRUCTION of the METHOD is good -/
def AG (F : KF) (m : Nat) : Prop := ∀ p, tOk F m p → Gd F m p
theorem pI.mF {F : KF} {m : Nat} {J J' : kjI} {c : Int} (h : mF F m J) (hp : pI F J c J') : mF F m J' := by
  obtain ⟨h1, h2, h3, h4⟩ := h
  refine ⟨hp.mv h1, fun k => ?_, hp.2.1, fun p hp1 hn => ?_⟩
  · rw [hp.1 78 k (by omega) (by omega)]
    exact h2 k
  · rw [hp.1 78 _ (by omega) (by omega)] at hn
    obtain ⟨b1, b2⟩ := h4 p hp1 hn
    refine ⟨b1, fun hn2 i hi => ?_⟩
    rw [hp.1 78 _ (by omega) (by omega)] at hn2
    rw [hp.1 79 _ (by omega) (by omega)]
    exact b2 hn2 i hi
theorem sumr_congr {J J' : kjI} {m : Nat} (h : ∀ q j, q = 78 ∨ q = 79 → J' q j = J q j) (n : Nat) : sumr J' m n = sumr J m n := by
  induction n with
  | zero => rfl
  | succ n ih =>
    have e1 : sumr J m (n + 1) = sumr J m n + rk J (120 * m + n) := rfl
    have e2 : sumr J' m (n + 1) = sumr J' m n + rk J' (120 * m + n) := rfl
    rw [e1, e2, ih, rk_same (h _ _ (Or.inl rfl)) (fun i _ => h _ _ (Or.inr rfl))]
theorem pI.fl {F : KF} {J J' : kjI} {c : Int} (hp : pI F J c J') : FLm J J' := fun q j _ _ h3 h4 => hp.1 q j h3 h4
section GO
variable {F : KF} {L : kjL} {J J0 : kjI}
theorem tOk_behind {m p : Nat} (ht : tOk F m p) (hG : Gd F m p) (hg : gon F m p) : tOk F m (p + osz F m p) := by
  have h1 := osz_le hG.1
  have h2 := hG.2.2.2
  refine ⟨?_, ?_⟩
  · by_cases e : p + osz F m p = F.mn m
    · exact absurd hg (h2 e)
    · have := h1.1
      omega
  · have hp : p = nxt F m p := of_decide_eq_true ht.2
    have hz : 0 < osz F m p := by have := hG.1; omega
    have e := nxt_jump hp hz (p + osz F m p) (by omega) (Nat.le_refl _)
    exact decide_eq_true e.symm
/-- a merge, with what was before -/
theorem a_merge (hF : KFok F) {N : Nat} (hN : 300 ≤ N) {m t : Nat} (hm : m < F.nm) (ht : tOk F m t) {v v4 : Int32} (h : aI F m J0 v J) (h4 : v4 = 0 → 0 ≤ (J 59 33).toInt ∧ (J 59 33).toInt ≤ 8) : Ok (kf127 N (w m) (w t) v4 J L) (fun r => (r.1 = 0 ∨ r.1 = 1) ∧ (v4 = 0 → 0 ≤ (r.2.1 59 33).toInt ∧ (r.2.1 59 33).toInt ≤ 8) ∧ aI F m J0 (if ¬ v = 0 then 1 else r.1) r.2.1) := by
  obtain ⟨a1, a2, a3, a4, a5⟩ := h
  refine Ok.mono (m127 hF hN hm ht a2 v4 h4) (fun r ⟨g1, g2, g3, g4, g5⟩ => ⟨g1, fun e => by rw [g3 59 33 (by decide) (by decide)]; exact h4 e, ?_⟩)
  refine ⟨?_, g2, a3.trans g3.m, by omega, fun e => ?_⟩
  · split
    · exact Or.inr rfl
    · exact g1
  · by_cases hv : v = 0
    · rw [if_neg (fun z => z hv)] at e
      have := g5 e
      omega
    · have hv1 : v = 1 := by
        rcases a1 with h | h
        · exact absurd h hv
        · exact h
      have := a5 hv1
      omega
theorem m129_165 (hF : KFok F) {N : Nat} (hN : 300 ≤ N) {m p : Nat} (hm : m < F.nm) (ht : tOk F m p) (hG : Gd F m p) {v4 v5 : Int32} (h : aI F m J0 v5 J) (h4 : v4 = 0 → 0 ≤ (J 59 33).toInt ∧ (J 59 33).toInt ≤ 8) : Ok (kf129_165 N (w m) (w p) (w (F.mb m p)) v4 v5 J L) (fun r => aI F m J0 r.1 r.2.1) := by
  have hb := hF.mb256 m hm p ht.1
  have hn := hF.mn120 m hm
  have hp := ht.1
  have hw : ∀ z : Nat, z < 256 → (w ((F.mb m p : Nat) : Int) = w (z : Int) ↔ F.mb m p = z) := by
    intro z hz
    constructor
    · intro e
      have := congrArg Int32.toInt e
      rw [w_nti (by omega), w_nti (by omega)] at this
      omega
    · intro e
      rw [e]
  unfold kf129_165 kf129_216 kf129_221
  have rt : Ok (if v5 = 0 ∨ v5 = 1 then some (v5, J, L) else none) (fun r => aI F m J0 r.1 r.2.1) := Ok.ret01 h.1 (Ok.some' h)
  refine Ok.ite' (fun _ => rt) (fun c1 => Ok.ite' (fun _ => rt) (fun c2 => Ok.ite' (fun _ => rt) (fun c3 => Ok.ite' (fun _ => rt) (fun c4 => ?_))))
  have hg : gon F m p := ⟨fun z => c1 ((hw 21 (by decide)).mpr z), fun z => c2 ((hw 49 (by decide)).mpr z), fun z => c3 ((hw 50 (by decide)).mpr z), fun z => c4 ((hw 53 (by decide)).mpr z)⟩
  have tb := tOk_behind ht hG hg
  refine Ok.eq (m_size L hF h.2.1.1 hm hp) ?_
  rw [if_neg hG.1]
  have e : w ((p : Nat) : Int) + w ((osz F m p : Nat) : Int) = w ((p + osz F m p : Nat) : Int) := by
    (simp only [w_lit, w_neg, w_add, w_sub, w_mul])
    congr 1
  rw [e]
  refine Ok.bind' (a_merge hF hN hm tb h h4) (fun r ⟨g1, _, g3⟩ => ?_)
  refine Ok.ite' (fun nv => ?_) (fun zv => Ok.ite' (fun e0 => ?_) (fun n0 => ?_))
  · rw [if_pos nv] at g3
    exact Ok.ret01 (Or.inr rfl) (Ok.some' g3)
  · rw [if_neg zv, e0] at g3
    exact Ok.ret01 (Or.inl rfl) (Ok.some' g3)
  · have e1 : r.1 = 1 := by
      rcases g1 with z | z
      · exact absurd z n0
      · exact z
    rw [if_neg zv, e1] at g3
    exact Ok.ret01 (Or.inr rfl) (Ok.some' g3)
theorem m129_103 (hF : KFok F) {N : Nat} (hN : 300 ≤ N) {m p : Nat} (hm : m < F.nm) (ht : tOk F m p) (hG : Gd F m p) {v4 : Int32} : ∀ (n k : Nat) (v5 : Int32) (J : kjI) (L : kjL), 300 - k < n → k ≤ 299 → aI F m J0 v5 J → (v4 = 0 → 0 ≤ (J 59 33).toInt ∧ (J 59 33).toInt ≤ 8) → Ok (kf129_103 N n (w m) (w p) (w (F.mb m p)) v4 v5 (w k) J L) (fun r => aI F m J0 r.1 r.2.1) := by
  have hb := hF.mb256 m hm p ht.1
  have hn := hF.mn120 m hm
  intro n
  induction n with
  | zero => intro k v5 J L h; omega
  | succ n ih =>
    intro k v5 J L hk h299 h h4
    unfold kf129_103 kf129_152 kf129_157
    refine Ok.ite' (fun _ => m129_165 hF hN hm ht hG h h4) (fun c => ?_)
    have o : F.mb m p = 53 := by
      have := congrArg Int32.toInt (Classical.not_not.mp c)
      rw [w_nti (by omega), lt053] at this
      omega
    have l1 := op1_lt hG.1 (by omega)
    have l53 := op53 hG.1 o
    have ha := hG.2.1.2.2.2.2.2 o
    rw [ix1]
    refine Ok.eq (m_byte L hF h.2.1.1 hm l1) (Ok.ite' (fun _ => m129_165 hF hN hm ht hG h h4) (fun g => ?_))
    rw [Int32.lt_iff_toInt_lt, w_nti (by omega), w_nti (by omega)] at g
    have e : (w ((p : Nat) : Int) + (2 : Int32)) + w (k : Int) = w ((p + 2 + k : Nat) : Int) := by
      (simp only [w_lit, w_neg, w_add, w_sub, w_mul])
      congr 1
    rw [e]
    have tk : tOk F m (F.mb m (p + 2 + k)) := by
      have := hG.2.2.1 k (by unfold tg; rw [if_pos o]; omega)
      unfold tgt at this
      rw [if_pos o] at this
      exact this
    refine Ok.eq (m_byte L hF h.2.1.1 hm (p := p + 2 + k) (by omega)) (Ok.bind' (a_merge hF hN hm tk h h4) (fun r ⟨g1, g2, g3⟩ => ?_))
    rw [ix1]
    refine Ok.ite' (fun nv => ?_) (fun zv => Ok.ite' (fun e0 => ?_) (fun n0 => ?_))
    · rw [if_pos nv] at g3
      exact ih (k + 1) 1 _ _ (by omega) (by omega) g3 g2
    · rw [if_neg zv, e0] at g3
      exact ih (k + 1) 0 _ _ (by omega) (by omega) g3 g2
    · have e1 : r.1 = 1 := by
        rcases g1 with z | z
        · exact absurd z n0
        · exact z
      rw [if_neg zv, e1] at g3
      exact ih (k + 1) 1 _ _ (by omega) (by omega) g3 g2
theorem m129_68 (hF : KFok F) {N : Nat} (hN : 400 ≤ N) {m p : Nat} (hm : m < F.nm) (ht : tOk F m p) (hG : Gd F m p) {v4 : Int32} (h : aI F m J0 0 J) (h4 : v4 = 0 → 0 ≤ (J 59 33).toInt ∧ (J 59 33).toInt ≤ 8) : Ok (kf129_68 N (w m) (w p) (w (F.mb m p)) v4 J L) (fun r => aI F m J0 r.1 r.2.1) := by
  have hb := hF.mb256 m hm p ht.1
  unfold kf129_68 kf129_100
  have e00 : (0 : Int32) = w ((0 : Nat) : Int) := rfl
  have k0 : Ok (kf129_103 N N (w m) (w p) (w (F.mb m p)) v4 (0 : Int32) (w ((0 : Nat) : Int)) J L) (fun r => aI F m J0 r.1 r.2.1) := m129_103 hF (by omega) hm ht hG N 0 0 J L (by omega) (by omega) h h4
  refine Ok.ite' (fun _ => k0) (fun c1 => Ok.ite' (fun _ => k0) (fun c2 => ?_))
  rw [Int32.lt_iff_toInt_lt, w_nti (by omega), lt021] at c1
  rw [Int32.lt_iff_toInt_lt, w_nti (by omega), lt037] at c2
  have l1 := op1_lt hG.1 (by omega)
  have tk : tOk F m (F.mb m (p + 1)) := by
    have := hG.2.2.1 0 (by unfold tg; rw [if_neg (by omega), if_pos (by omega)]; omega)
    unfold tgt at this
    rw [if_neg (by omega)] at this
    exact this
  rw [ix1]
  refine Ok.eq (m_byte L hF h.2.1.1 hm l1) (Ok.bind' (a_merge hF (by omega) hm tk h h4) (fun r ⟨g1, g2, g3⟩ => ?_))
  rw [if_neg (fun z => z rfl)] at g3
  exact m129_103 hF (by omega) hm ht hG N 0 r.1 _ _ (by omega) (by omega) g3 g2
/-- goOn -/
theorem m129 (hF : KFok F) {N : Nat} (hN : 400 ≤ N) {m p : Nat} (hm : m < F.nm) (hA : AG F m) (hp : p < 120) (h : mF F m J) (hv : J 78 (120 * m + p) ≠ -1) : Ok (kf129 N (w m) (w p) J L) (fun r => aI F m J r.1 r.2.1) := by
  have h16 := hF.nm16
  obtain ⟨h1, h2, h3, h4⟩ := id h
  obtain ⟨ht, hk⟩ := h4 p hp hv
  have hG := hA p ht
  have a0 : aI F m J 0 J := ⟨Or.inl rfl, h, fun _ _ _ _ _ _ => rfl, Nat.le_refl _, fun z => absurd z (by decide)⟩
  unfold kf129 kf129_28 kf129_61 kf129_66
  refine Ok.eq (m_byte L hF h1 hm ht.1) ?_
  rw [ix120, w_nat (by omega)]
  refine Ok.bif' (by rw [w_nti (by omega)]; omega) (Ok.ite' (fun n2 => ?_) (fun _ => ?_))
  · rw [if_neg (fun z => z rfl)]
    have hr := h2 (120 * m + p)
    have n1 : (J 78 (120 * m + p)).toInt ≠ -1 := fun z => hv (Int32.toInt_inj.mp (z.trans ltm1.symm))
    have n2' : (J 78 (120 * m + p)).toInt ≠ -2 := fun z => n2 (Int32.toInt_inj.mp (z.trans (by rfl)))
    refine Ok.bind' (m134 hF (by omega) hm ht.1 hG h1 h3 (by omega) (hk n2)) (fun r hr1 => ?_)
    have hm1 : mF F m r.1 := pI.mF h hr1
    have a1 : aI F m J 0 r.1 := ⟨Or.inl rfl, hm1, hr1.fl, Nat.le_of_eq (sumr_congr (fun q j hq => hr1.1 q j (by omega) (by omega)) 120).symm, fun z => absurd z (by decide)⟩
    have M1 : MV F r.1 := hm1.1
    have c1 : Ok (kf129_68 N (w m) (w p) (w (F.mb m p)) (1 : Int32) r.1 r.2) (fun r => aI F m J r.1 r.2.1) := m129_68 hF hN hm ht hG a1 (fun z => absurd z (by decide))
    refine Ok.ite' (fun _ => c1) (fun _ => Ok.bif' (by rw [w_nti (by omega)]; omega) (Ok.ite' (fun g => ?_) (fun _ => c1)))
    refine m129_68 hF hN hm ht hG a1 (fun _ => ⟨hr1.2.2.1, ?_⟩)
    have hs := hF.ms8 m hm
    rw [Int32.le_iff_toInt_le, w_nat (by omega), M1.v73 m hm, w_nti (by omega)] at g
    omega
  · rw [if_pos (by decide)]
    exact m129_68 hF hN hm ht hG a0 (fun z => absurd z (by decide))
end GO
