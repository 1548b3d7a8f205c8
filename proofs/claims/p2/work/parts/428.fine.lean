/-! The reference: is what was read a FILE without a fault? It is answered, and what was good once is good again. -/
def HT (J : kjI) : Prop := ∀ k, -2 ≤ (J 78 k).toInt ∧ (J 78 k).toInt ≤ 8
/-- the bytes as a Book holds them -/
def shI (n : Nat) (B : Nat → Nat) : kjI := fun k j => if k = 3 then w (B j) else if k = 2 ∧ j = 1 then w n else 0
def zL : kjL := fun _ _ => 0
/-- these bytes have neither FAULT 1 nor FAULT 2 -/
def PG (N n : Nat) (B : Nat → Nat) : Prop := ∃ I' : kjI, kf24 false N (shI n B) zL = some (1, I', zL) ∧ ∃ F : KF, KFok F ∧ CV false F I' ∧ ∀ m, m < F.nm → AG F m
/-- what the reference holds is such a FILE -/
def GS (J : kjI) : Prop := ∃ F : KF, KFok F ∧ MV F J ∧ ∀ m, m < F.nm → BGm F m J ∧ AG F m
/-- what stays -/
def FIz (J J' : kjI) : Prop := ∀ q j, (q < 59 ∨ (60 ≤ q ∧ q ≤ 62) ∨ (q = 59 ∧ (j ≤ 2 ∨ j = 5 ∨ j = 7 ∨ j = 8))) → J' q j = J q j
theorem FIz.trans {J J' J'' : kjI} (h : FIz J J') (h' : FIz J' J'') : FIz J J'' := fun q j hq => (h' q j hq).trans (h q j hq)
theorem w_and255 {z : Nat} (h : z < 256) : (w z) &&& (255 : Int32) = w z := by
  have key : ∀ q : Fin 256, (Int32.ofInt ((q.1 : Nat) : Int)) &&& (255 : Int32) = Int32.ofInt ((q.1 : Nat) : Int) := by decide +kernel
  exact key ⟨z, h⟩
theorem sh_row {n : Nat} {B : Nat → Nat} (hn : n ≤ 1500) (hB : ∀ i, i < n → B i < 256) : k_row false n B (shI n B) := by
  refine ⟨hn, rfl, fun i hi => ⟨?_, hB i hi⟩⟩
  show w (B i) &&& 255 = w (B i)
  exact w_and255 (hB i hi)
section FN
variable {F F1 F2 : KF} {L : kjL} {J : kjI}
theorem w_inj {a b : Nat} (ha : a < 2147483648) (hb : b < 2147483648) (h : w (a : Int) = w (b : Int)) : a = b := by
  have := congrArg Int32.toInt h
  rw [w_nti ha, w_nti hb] at this
  omega
theorem bi_inj {x y : Bool} (h : w (bi x) = w (bi y)) : x = y := by
  cases x <;> cases y <;> first | rfl | (exact absurd h (by decide))
/-- two readings of one Book agree on what is good -/
theorem AG_same {I : kjI} (h1 : KFok F1) (h2 : KFok F2) (c1 : CV false F1 I) (c2 : CV false F2 I) : F1.nm = F2.nm ∧ ∀ m, m < F1.nm → AG F1 m → AG F2 m := by
  have n1 := h1.nm16
  have n2 := h2.nm16
  have en : F1.nm = F2.nm := w_inj (by omega) (by omega) (c1.n14.symm.trans c2.n14)
  refine ⟨en, fun m hm hA => ?_⟩
  have hm2 : m < F2.nm := by omega
  obtain ⟨I1, e1, f1, g1⟩ := c_mark zL h1 300 (by decide) hm c1
  obtain ⟨I2, e2, f2, g2⟩ := c_mark zL h2 300 (by decide) hm2 c2
  have e12 : I2 = I1 := (Prod.mk.inj (Option.some.inj (e2.symm.trans e1))).1
  subst e12
  have b1 := h1.mn120 m hm
  have b2 := h2.mn120 m hm2
  have a1 := h1.ma1500 m hm
  have a2 := h2.ma1500 m hm2
  have emn : F1.mn m = F2.mn m := w_inj (by omega) (by omega) ((c1.v21 m hm).symm.trans (c2.v21 m hm2))
  have ema : F1.ma m = F2.ma m := w_inj (by omega) (by omega) ((c1.v20 m hm).symm.trans (c2.v20 m hm2))
  have k1 : CV false F1 I2 := c1.keep (fun q hq j => f1 _ _ (fun z => by have : kb false q = kb false 25 := z.1; have : q = 25 := this; omega))
  have k2 : CV false F2 I2 := c2.keep (fun q hq j => f2 _ _ (fun z => by have : kb false q = kb false 25 := z.1; have : q = 25 := this; omega))
  intro p hp
  have hp1 : tOk F1 m p := by
    refine ⟨by have := hp.1; omega, ?_⟩
    have x1 := g1 p (by have := hp.1; omega)
    have x2 := g2 p hp.1
    rw [ema] at x1
    have e : bg F1 m p = bg F2 m p := bi_inj (x1.symm.trans x2)
    rw [e]
    exact hp.2
  have r1 := (c_faulty zL h1 k1 300 (by decide) hm g1 hp1.1).1 (hA p hp1)
  by_cases hg : Gd F2 m p
  · exact hg
  · have r2 := (c_faulty zL h2 k2 300 (by decide) hm2 g2 hp.1).2 hg
    rw [r1] at r2
    exact absurd (Option.some.inj r2) (by decide)
theorem m120 (v1 v2 v3 : Int32) : Ok (kf120 v1 v2 v3 J L) (fun r => r.1 = 0 ∧ ∀ q j, ¬ (q = 59 ∧ (j = 9 ∨ j = 10 ∨ j = 11)) → r.2.1 q j = J q j) := by
  unfold kf120
  refine Ok.some' ⟨rfl, fun q j h => ?_⟩
  show (mv_up (mv_up (mv_up J 59 9 v1) 59 11 v2) 59 10 v3) q j = J q j
  unfold mv_up
  by_cases e : q = 59
  · rw [if_pos e, if_neg (by omega), if_pos e, if_neg (by omega), if_pos e, if_neg (by omega)]
  · rw [if_neg e, if_neg e, if_neg e]
/-- the last word of isFine -/
abbrev fP (N n : Nat) (B : Nat → Nat) (J : kjI) (r : Int32 × kjI × kjL) : Prop := (r.1 = 0 ∨ r.1 = 1) ∧ HT r.2.1 ∧ FIz J r.2.1 ∧ (r.1 = 1 → PG N n B) ∧ (PG N n B → GS r.2.1)
/-- a FILE under way: Z as it was before -/
def fU (F : KF) (Z J : kjI) : Prop := KFok F ∧ MV F J ∧ HT J ∧ FIz Z J
theorem FLm.fi {J' : kjI} (h : FLm J J') : FIz J J' := fun q j hq => h q j (by omega) (by omega) (by omega) (by omega)
theorem FLm.bg {J' : kjI} {m : Nat} (h : FLm J J') (hB : BGm F m J) : BGm F m J' := fun i hi => by rw [h 76 _ (by decide) (by decide) (by decide) (by omega)]; exact hB i hi
/-- FAULT 3 -/
theorem m121_121 {N n : Nat} {B : Nat → Nat} (hN : bN + 2000000 ≤ N) {Z : kjI} {m : Nat} (hF : KFok F) (hm : m < F.nm) (hA : ∀ m, m < F.nm → AG F m) (hPG : PG N n B) {k106 : Int32 → kjI → kjL → Option (Int32 × kjI × kjL)} (hk : ∀ (J : kjI) (L : kjL), fU F Z J → (∀ m, m < F.nm → BGm F m J) → Ok (k106 (w ((m + 1 : Nat) : Int)) J L) (fP N n B Z)) :
    ∀ (k p : Nat) (J : kjI) (L : kjL), 120 - p < k → p ≤ F.mn m → mF F m J → FIz Z J → (∀ m, m < F.nm → BGm F m J) → Ok (kf121_121 N k106 k (w m) (w p) J L) (fP N n B Z) := by
  have h16 := hF.nm16
  have hn := hF.mn120 m hm
  intro k
  induction k with
  | zero => intro p J L h; omega
  | succ k ih =>
    intro p J L hkp hp h hz hb
    unfold kf121_121 kf121_163
    rw [w_nat (z := m) (by omega), h.1.v74 m hm, ix120, w_nat (z := 120 * m + p) (by omega), ix1, ix1]
    refine Ok.bif' (by rw [w_nti (by omega)]; omega) (Ok.ite' (fun _ => hk J L ⟨hF, h.1, h.2.1, hz⟩ hb) (fun g => ?_))
    rw [Int32.le_iff_toInt_le, w_nti (by omega), w_nti (by omega)] at g
    refine Ok.bif' (by rw [w_nti (by omega)]; omega) (Ok.ite' (fun _ => ih (p + 1) J L (by omega) (by omega) h hz hb) (fun nv => ?_))
    refine Ok.bind' (m137 hF (by omega) hm (hA m hm) (p := p) (by omega) h nv) (fun r ⟨g1, g2⟩ => Ok.ite' (fun _ => ih (p + 1) _ _ (by omega) (by omega) g1 (hz.trans g2.fi) (fun m' hm' => g2.bg (hb m' hm'))) (fun _ => ?_))
    refine Ok.bind' (m120 _ _ _) (fun r8 ⟨e0, e1⟩ => Ok.ret01 (Or.inl e0) (Ok.some' ?_))
    have M8 : MV F r8.2.1 := g1.1.keep (fun q _ _ _ j => e1 q j (by omega)) ⟨e1 _ _ (by omega), e1 _ _ (by omega), e1 _ _ (by omega)⟩
    refine ⟨Or.inl e0, fun k' => ?_, (hz.trans g2.fi).trans (fun q j hq => e1 q j (by omega)), fun z => ?_, fun _ => ⟨F, hF, M8, fun m' hm' => ⟨fun i hi => ?_, hA m' hm'⟩⟩⟩
    · show -2 ≤ (r8.2.1 78 k').toInt ∧ (r8.2.1 78 k').toInt ≤ 8
      rw [e1 78 k' (by omega)]
      exact g1.2.1 k'
    · have z : r8.1 = 1 := z
      rw [e0] at z
      exact absurd z (by decide)
    · show r8.2.1 76 (120 * m' + i) = _
      rw [e1 76 _ (by omega)]
      exact g2.bg (hb m' hm') i hi
theorem m121_106 {N n : Nat} {B : Nat → Nat} (hN : bN + 2000000 ≤ N) {Z : kjI} (hF : KFok F) (hA : ∀ m, m < F.nm → AG F m) (hPG : PG N n B) : ∀ (k m : Nat) (J : kjI) (L : kjL), 17 - m < k → m ≤ F.nm → fU F Z J → (∀ m, m < F.nm → BGm F m J) → Ok (kf121_106 N k (w m) J L) (fP N n B Z) := by
  have h16 := hF.nm16
  intro k
  induction k with
  | zero => intro m J L h; omega
  | succ k ih =>
    intro m J L hk hm h hb
    obtain ⟨_, u2, u3, u4⟩ := id h
    unfold kf121_106
    rw [u2.n20]
    refine Ok.ite' (fun _ => Ok.some' ⟨Or.inr rfl, u3, u4, fun _ => hPG, fun _ => ⟨F, hF, u2, fun m' hm' => ⟨hb m' hm', hA m' hm'⟩⟩⟩) (fun g => ?_)
    rw [Int32.le_iff_toInt_le, w_nti (by omega), w_nti (by omega)] at g
    have hm' : m < F.nm := by omega
    have hN4 : bN + 400 ≤ N := Nat.le_trans (Nat.add_le_add_left (by decide) bN) hN
    refine Ok.bind' (m128 hF hN4 hm' (hA m hm') u2 u3) (fun r ⟨g1, g2⟩ => ?_)
    have e00 : (0 : Int32) = w ((0 : Nat) : Int) := rfl
    exact m121_121 hN hF hm' hA hPG (fun J' L' hU hB' => ih (m + 1) J' L' (by omega) (by omega) hU hB') N 0 r.1 r.2 (by omega) (by omega) g1 (u4.trans g2.fi) (fun m'' hm'' => g2.bg (hb m'' hm''))
/-- FAULT 2: what is known of the bytes, by the Book's reading I1 of them -/
theorem m121_51 {N n : Nat} {B : Nat → Nat} (hN : bN + 2000000 ≤ N) {Z I1 : kjI} (hI : kf24 false N (shI n B) zL = some (1, I1, zL)) (hF : KFok F) (hC : CV false F I1) {m : Nat} (hm : m < F.nm) {k41 : Int32 → kjI → kjL → Option (Int32 × kjI × kjL)} (hk : AG F m → ∀ (J : kjI) (L : kjL), fU F Z J → (∀ m, m < F.nm → BGm F m J) → Ok (k41 (w ((m + 1 : Nat) : Int)) J L) (fP N n B Z)) :
    ∀ (k p : Nat) (J : kjI) (L : kjL), 120 - p < k → p ≤ F.mn m → fU F Z J → (∀ m, m < F.nm → BGm F m J) → (∀ p', p' < p → tOk F m p' → Gd F m p') → Ok (kf121_51 N k41 k (w m) (w p) J L) (fP N n B Z) := by
  have h16 := hF.nm16
  have hn := hF.mn120 m hm
  intro k
  induction k with
  | zero => intro p J L h; omega
  | succ k ih =>
    intro p J L hkp hp h hb hg
    obtain ⟨_, u2, u3, u4⟩ := id h
    unfold kf121_51 kf121_92
    rw [w_nat (z := m) (by omega), u2.v74 m hm, ix120, w_nat (z := 120 * m + p) (by omega), ix1, ix1]
    refine Ok.bif' (by rw [w_nti (by omega)]; omega) (Ok.ite' (fun g => hk (fun p' hp' => hg p' ?_ hp') J L h hb) (fun g => ?_))
    · rw [Int32.le_iff_toInt_le, w_nti (by omega), w_nti (by omega)] at g
      have := hp'.1
      omega
    rw [Int32.le_iff_toInt_le, w_nti (by omega), w_nti (by omega)] at g
    have hpm : p < F.mn m := by omega
    have e76 := hb m hm p hpm
    have nxtp : ∀ (hgp : tOk F m p → Gd F m p) (p' : Nat), p' < p + 1 → tOk F m p' → Gd F m p' := fun hgp p' h1 h2 => by
      by_cases e : p' = p
      · subst e
        exact hgp h2
      · exact hg p' (by omega) h2
    rw [e76]
    refine Ok.bif' (by rw [w_nti (by omega)]; omega) (Ok.ite' (fun z => ih (p + 1) J L (by omega) (by omega) h hb (nxtp (fun ht => ?_))) (fun nz => ?_))
    · have : bg F m p = true := ht.2
      rw [this, bi_t] at z
      exact absurd z (by decide)
    · have hbg : bg F m p = true := by
        cases hq : bg F m p with
        | true => rfl
        | false => rw [hq, bi_f] at nz; exact absurd rfl nz
      have ht : tOk F m p := ⟨hpm, hbg⟩
      have mg := m_good L hF u2 N (by omega) hm (hb m hm) hpm
      by_cases hG : Gd F m p
      · refine Ok.eq (mg.1 hG) ?_
        rw [if_pos (by decide)]
        exact ih (p + 1) J L (by omega) (by omega) h hb (nxtp (fun _ => hG))
      · refine Ok.eq (mg.2 hG) ?_
        rw [if_neg (fun z => z rfl)]
        refine Ok.bind' (m120 _ _ _) (fun r8 ⟨e0, e1⟩ => Ok.ret01 (Or.inl e0) (Ok.some' ?_))
        refine ⟨Or.inl e0, fun k' => ?_, u4.trans (fun q j hq => e1 q j (by omega)), fun z => ?_, fun hPG => ?_⟩
        · show -2 ≤ (r8.2.1 78 k').toInt ∧ (r8.2.1 78 k').toInt ≤ 8
          rw [e1 78 k' (by omega)]
          exact u3 k'
        · have z : r8.1 = 1 := z
          rw [e0] at z
          exact absurd z (by decide)
        · obtain ⟨I', hI', F', k1, k2, k3⟩ := hPG
          have eI : I' = I1 := (Prod.mk.inj (Prod.mk.inj (Option.some.inj (hI'.symm.trans hI))).2).1
          subst eI
          obtain ⟨en, ha⟩ := AG_same k1 hF k2 hC
          exact absurd (ha m (by omega) (k3 m (by omega)) p ht) hG
theorem m121_41 {N n : Nat} {B : Nat → Nat} (hN : bN + 2000000 ≤ N) {Z I1 : kjI} (hI : kf24 false N (shI n B) zL = some (1, I1, zL)) (hF : KFok F) (hC : CV false F I1) : ∀ (k m : Nat) (J : kjI) (L : kjL), 17 - m < k → m ≤ F.nm → fU F Z J → (∀ m, m < F.nm → BGm F m J) → (∀ m', m' < m → AG F m') → Ok (kf121_41 N k (w m) J L) (fP N n B Z) := by
  have h16 := hF.nm16
  intro k
  induction k with
  | zero => intro m J L h; omega
  | succ k ih =>
    intro m J L hk hm h hb hg
    unfold kf121_41
    rw [h.2.1.n20]
    have e00 : (0 : Int32) = w ((0 : Nat) : Int) := rfl
    refine Ok.ite' (fun g => ?_) (fun g => ?_)
    · rw [Int32.le_iff_toInt_le, w_nti (by omega), w_nti (by omega)] at g
      have hA : ∀ m', m' < F.nm → AG F m' := fun m' hm' => hg m' (by omega)
      exact m121_106 hN hF hA ⟨I1, hI, F, hF, hC, hA⟩ N 0 J L (by omega) (by omega) h hb
    · rw [Int32.le_iff_toInt_le, w_nti (by omega), w_nti (by omega)] at g
      have hm' : m < F.nm := by omega
      refine m121_51 hN hI hF hC hm' (fun hAm J' L' hU hB' => ih (m + 1) J' L' (by omega) (by omega) hU hB' (fun m'' h'' => ?_)) N 0 J L (by omega) (by omega) h hb (fun p' z => by omega)
      by_cases e : m'' = m
      · subst e
        exact hAm
      · exact hg m'' (by omega)
theorem m121_20 {N n : Nat} {B : Nat → Nat} (hN : bN + 2000000 ≤ N) {Z I1 : kjI} (hI : kf24 false N (shI n B) zL = some (1, I1, zL)) (hF : KFok F) (hC : CV false F I1) : ∀ (k m : Nat) (J : kjI) (L : kjL), 17 - m < k → m ≤ F.nm → fU F Z J → (∀ m', m' < m → BGm F m' J) → Ok (kf121_20 N k (w m) J L) (fP N n B Z) := by
  have h16 := hF.nm16
  intro k
  induction k with
  | zero => intro m J L h; omega
  | succ k ih =>
    intro m J L hk hm h hb
    obtain ⟨_, u2, u3, u4⟩ := id h
    unfold kf121_20
    rw [u2.n20, ix1]
    have e00 : (0 : Int32) = w ((0 : Nat) : Int) := rfl
    refine Ok.ite' (fun g => ?_) (fun g => ?_)
    · rw [Int32.le_iff_toInt_le, w_nti (by omega), w_nti (by omega)] at g
      exact m121_41 hN hI hF hC N 0 J L (by omega) (by omega) h (fun m' hm' => hb m' (by omega)) (fun m' z => by omega)
    · rw [Int32.le_iff_toInt_le, w_nti (by omega), w_nti (by omega)] at g
      have hm' : m < F.nm := by omega
      obtain ⟨J', e1, f1, g1⟩ := m_mark L hF N (by omega) hm' u2
      refine Ok.eq e1 (ih (m + 1) J' L (by omega) (by omega) ⟨hF, u2.keep (fun q _ _ _ j => f1 q j (by omega)) ⟨f1 _ _ (by omega), f1 _ _ (by omega), f1 _ _ (by omega)⟩, fun k' => ?_, u4.trans (fun q j hq => f1 q j (by omega))⟩ (fun m'' h'' => ?_))
      · rw [f1 78 k' (by omega)]
        exact u3 k'
      · by_cases e : m'' = m
        · subst e
          exact g1
        · intro i hi
          have b2 := hF.mn120 m'' (by omega)
          rw [f1 76 _ (by omega)]
          exact hb m'' (by omega) i hi
/-- isFine -/
theorem m121 {N n : Nat} {B : Nat → Nat} (hN : bN + 2000000 ≤ N) (hn : n ≤ 1500) (hB : ∀ i, i < n → B i < 256) (h5 : J 59 5 = w n) (h61 : ∀ i, i < n → J 61 i = w (B i)) (hT : HT J) : Ok (kf121 N J L) (fP N n B J) := by
  unfold kf121
  obtain ⟨I', J', a, ok, r1, r2, r3, r4, r5, r6, r7, r8⟩ := r_parse false N (by omega) zL L (sh_row hn hB) h5 h61
  have hT' : HT J' := fun k => by
    rw [r7 78 k (by omega) (by omega) (by omega)]
    exact hT k
  have hfi : FIz J J' := fun q j hq => r7 q j (by omega) (by omega) (by omega)
  refine Ok.eq r2 ?_
  cases ok with
  | false =>
    rw [bi_f]
    refine Ok.ite' (fun z => absurd rfl z) (fun _ => Ok.bind' (m120 _ _ _) (fun q ⟨e0, e1⟩ => Ok.ret01 (Or.inl e0) (Ok.some' ?_)))
    refine ⟨Or.inl e0, fun k' => ?_, hfi.trans (fun q j hq => e1 q j (by omega)), fun z => ?_, fun hPG => ?_⟩
    · show -2 ≤ (q.2.1 78 k').toInt ∧ (q.2.1 78 k').toInt ≤ 8
      rw [e1 78 k' (by omega)]
      exact hT' k'
    · have z : q.1 = 1 := z
      rw [e0] at z
      exact absurd z (by decide)
    · obtain ⟨I2, hI2, _⟩ := hPG
      rw [r1, bi_f] at hI2
      exact absurd (Prod.mk.inj (Option.some.inj hI2)).1 (by decide)
  | true =>
    rw [bi_t] at r1 ⊢
    obtain ⟨nc, ns, nm, P, hPD, hTD⟩ := r8 rfl
    have hrow : k_row false n B I' := by
      obtain ⟨q1, q2, q3⟩ := sh_row hn hB
      have fr : ∀ k j, k = 2 ∨ k = 3 → I' k j = shI n B k j := fun k j hk => r6 k j (by intro z; have : k = 23 := z; omega) (by intro z; have : k = 5 := z.1; omega) (fun z => z.1.elim (fun y => by have : k = 10 := y; omega) (fun y => by have : k = 14 := y; omega)) (fun i hi z => by have : k = i := z; omega)
      refine ⟨q1, ?_, fun i hi => ?_⟩
      · show I' 2 1 = w n
        rw [fr 2 1 (Or.inl rfl)]
        exact q2
      · show I' 3 i &&& 255 = w (B i) ∧ B i < 256
        rw [fr 3 i (Or.inr rfl)]
        exact q3 i hi
    obtain ⟨F, hF, hC, hM⟩ := r_file hrow hPD hTD
    have e00 : (0 : Int32) = w ((0 : Nat) : Int) := rfl
    refine Ok.ite' (fun _ => ?_) (fun z => absurd (show ¬ ((w 1 : Int32) = 0) by decide) z)
    exact m121_20 hN r1 hF hC N 0 J' L (by have := hF.nm16; omega) (by omega) ⟨hF, hM, hT', hfi⟩ (fun m' z => by omega)
end FN
