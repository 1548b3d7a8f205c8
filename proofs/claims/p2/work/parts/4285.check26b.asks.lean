/-! The reference: what it is asked, it answers; the FILE stays. -/
theorem ix120p (m t : Nat) (a : Nat) : ((120 : Int32) * w m) + (w t + w a) = w ((120 * m + (t + a) : Nat) : Int) := by
  rw [w_add]
  exact ix120 m (t + a)
theorem sel {x y : Int32} {c : Nat} (hc : c < 2147483648) (e : y = w c) (h : (0 : Int32).toInt ≤ x.toInt ∧ x.toInt ≤ (y - (1 : Int32)).toInt) : ∃ m : Nat, m < c ∧ x = w m := by
  rw [e, t_sub (by rw [w_nti hc, lt01]; omega), w_nti hc, lt01, lt00] at h
  refine ⟨x.toInt.toNat, by omega, ?_⟩
  have e2 : ((x.toInt.toNat : Nat) : Int) = x.toInt := by omega
  rw [e2, w_of]
section QS
variable {N n : Nat} {B : Nat → Nat} {L : kjL} {Y J : kjI} {F : KF}
theorem m102 (a b c : Int32) : Ok (kf102 J L a b c) (fun r => (r = 0 ∨ r = 1) ∧ (¬ r = 0 → b.toInt ≤ a.toInt ∧ a.toInt ≤ c.toInt)) := by
  unfold kf102
  refine Ok.ite' (fun _ => Ok.some' ⟨Or.inl rfl, fun z => absurd rfl z⟩) (fun h1 => Ok.ite' (fun _ => Ok.some' ⟨Or.inl rfl, fun z => absurd rfl z⟩) (fun h2 => Ok.some' ⟨Or.inr rfl, fun _ => ?_⟩))
  rw [Int32.lt_iff_toInt_lt] at h1 h2
  omega
theorem m124 (v1 : Int32) (h : MI N n B Y J) : Ok (kf124 v1 J L) (fun r => MI N n B Y r.2.1) := by
  unfold kf124
  exact Ok.ite' (fun _ => Ok.ite' (fun _ => Ok.ite' (fun _ => Ok.some' h.up0) (fun _ => Ok.some' h.up0)) (fun _ => Ok.some' h.up0)) (fun _ => Ok.some' h.up0)
theorem m138 (v1 v2 v3 : Int32) (h : MI N n B Y J) : Ok (kf138 v1 v2 v3 J L) (fun r => MI N n B Y r.2.1) := by
  unfold kf138
  have h0 := h.up0 (x := 0)
  generalize mv_up J 59 0 (0 : Int32) = J0 at h0 ⊢
  have don : ∀ x : Int32, Ok (some (x, J0, L)) (fun r : Int32 × kjI × kjL => MI N n B Y r.2.1) := fun x => Ok.some' h0
  refine Ok.ite' (fun _ => don _) (fun n8 => ?_)
  obtain ⟨F, hF, hM, hA⟩ := h0.gs n8
  have hT := h0.ht
  have b1 := hF.nm16
  refine Ok.bind' (m102 _ _ _) (fun r2 ⟨_, g2⟩ => Ok.ite' (fun _ => don _) (fun n2 => ?_))
  obtain ⟨m, hm, rfl⟩ := sel (by omega) hM.n20 (g2 n2)
  have b2 := hF.mn120 m hm
  have b3 := hF.ml8 m hm
  rw [w_nat (z := m) (by omega), hM.v74 m hm, hM.v72 m hm]
  refine Ok.bif' (by rw [w_nti (by omega)]; omega) (Ok.bind' (m102 _ _ _) (fun r6 ⟨_, g6⟩ => Ok.ite' (fun _ => don _) (fun n6 => ?_)))
  obtain ⟨p, hp, rfl⟩ := sel (by omega) rfl (g6 n6)
  rw [ix120, w_nat (z := 120 * m + p) (by omega)]
  have bb : 0 ≤ (w ((120 * m + p : Nat) : Int)).toInt ∧ (w ((120 * m + p : Nat) : Int)).toInt < 1920 := by rw [w_nti (by omega)]; omega
  have e16 : ((16 : Int32) * w ((120 * m + p : Nat) : Int)).toInt = 16 * ((120 * m + p : Nat) : Int) := by rw [t_mul (by rw [lt016, w_nti (by omega)]; omega), lt016, w_nti (by omega)]
  refine Ok.bif' bb (Ok.ite' (fun _ => don _) (fun _ => Ok.bif' bb (Ok.ite' (fun _ => Ok.bif' (by rw [w_nti (by omega)]; omega) ?_) (fun _ => don _))))
  refine Ok.bind' (m102 _ _ _) (fun r14 ⟨_, g14⟩ => Ok.ite' (fun _ => Ok.bif' bb ?_) (fun n14 => Ok.bif' ?_ (don _)))
  · refine Ok.bind' (m102 _ _ _) (fun r18 ⟨_, g18⟩ => Ok.ite' (fun _ => don _) (fun n18 => Ok.bif' ?_ (don _)))
    have g := g18 n18
    have t := hT (120 * m + p)
    rw [t_add (by rw [lt099]; omega), lt099, lt0100] at g
    have e92 : (92 : Int32).toInt = 92 := rfl
    rw [t_sub (by rw [t_add (by rw [e16]; omega), e16, e92]; omega), t_add (by rw [e16]; omega), e16, e92]
    omega
  · have g := g14 n14
    rw [t_sub (by rw [w_nti (by omega), lt01]; omega), w_nti (by omega), lt01, lt00] at g
    rw [t_add (by rw [e16]; omega), e16]
    omega
theorem m139 (v1 : Int32) (h : MI N n B Y J) : Ok (kf139 J L v1) (fun r => (r = 0 ∨ r = 1) ∧ (¬ r = 0 → ∃ F : KF, KFok F ∧ MV F J ∧ (∀ m, m < F.nm → BGm F m J ∧ AG F m) ∧ ∃ m, m < F.nm ∧ v1 = w ((m : Nat) : Int))) := by
  unfold kf139
  refine Ok.ite' (fun _ => Ok.some' ⟨Or.inl rfl, fun z => absurd rfl z⟩) (fun n8 => ?_)
  obtain ⟨F, hF, hM, hA⟩ := h.gs n8
  have b1 := hF.nm16
  refine Ok.bind' (m102 _ _ _) (fun r2 ⟨_, g2⟩ => Ok.ite' (fun _ => Ok.some' ⟨Or.inl rfl, fun z => absurd rfl z⟩) (fun n2 => Ok.some' ⟨Or.inr rfl, fun _ => ?_⟩))
  obtain ⟨m, hm, e⟩ := sel (by omega) hM.n20 (g2 n2)
  exact ⟨F, hF, hM, hA, m, hm, e⟩
theorem m140 (v1 v2 : Int32) (h : MI N n B Y J) : Ok (kf140 J L v1 v2) (fun r => (r = 0 ∨ r = 1) ∧ (¬ r = 0 → ∃ F : KF, KFok F ∧ MV F J ∧ (∀ m, m < F.nm → BGm F m J ∧ AG F m) ∧ ∃ m p, m < F.nm ∧ v1 = w ((m : Nat) : Int) ∧ v2 = w ((p : Nat) : Int) ∧ tOk F m p)) := by
  unfold kf140
  have zer : Ok (some (0 : Int32)) (fun r => (r = 0 ∨ r = 1) ∧ (¬ r = 0 → ∃ F : KF, KFok F ∧ MV F J ∧ (∀ m, m < F.nm → BGm F m J ∧ AG F m) ∧ ∃ m p, m < F.nm ∧ v1 = w ((m : Nat) : Int) ∧ v2 = w ((p : Nat) : Int) ∧ tOk F m p)) := Ok.some' ⟨Or.inl rfl, fun z => absurd rfl z⟩
  refine Ok.bind' (m139 v1 h) (fun r1 ⟨_, g1⟩ => Ok.ite' (fun _ => zer) (fun n1 => ?_))
  obtain ⟨F, hF, hM, hA, m, hm, rfl⟩ := g1 n1
  have b1 := hF.nm16
  have b2 := hF.mn120 m hm
  rw [w_nat (z := m) (by omega), hM.v74 m hm]
  refine Ok.bif' (by rw [w_nti (by omega)]; omega) (Ok.bind' (m102 _ _ _) (fun r5 ⟨_, g5⟩ => Ok.ite' (fun _ => zer) (fun n5 => ?_)))
  obtain ⟨p, hp, rfl⟩ := sel (by omega) rfl (g5 n5)
  rw [ix120, w_nat (z := 120 * m + p) (by omega), (hA m hm).1 p hp]
  refine Ok.bif' (by rw [w_nti (by omega)]; omega) (Ok.ite' (fun _ => zer) (fun nb => Ok.some' ⟨Or.inr rfl, fun _ => ⟨F, hF, hM, hA, m, p, hm, rfl, rfl, hp, ?_⟩⟩))
  cases hq : bg F m p with
  | true => rfl
  | false =>
    rw [hq, bi_f] at nb
    exact absurd rfl nb
theorem m141 {m p : Nat} (hm : m < 16) (hp : p < 120) : Ok (kf141 J L (w m) (w p)) (fun r => r = 0 ∨ r = 1) := by
  unfold kf141
  rw [ix120]
  exact Ok.bif' (by rw [w_nti (by omega)]; omega) (Ok.ite' (fun _ => Ok.some' (Or.inl rfl)) (fun _ => Ok.some' (Or.inr rfl)))
theorem m142 (hF : KFok F) (hM : MV F J) {m p : Nat} (hm : m < F.nm) (hp : p < F.mn m) (hG : Gd F m p) : Ok (kf142 J L (w m) (w p)) (fun r => 0 ≤ r.toInt ∧ r.toInt ≤ 2) := by
  have hb := hF.mb256 m hm p hp
  have h16 := hF.nm16
  have h8 := hF.ns8
  have e0 : (w ((F.mb m p : Nat) : Int)).toInt = F.mb m p := w_nti (by omega)
  have d : ∀ x : Int32, (0 ≤ x.toInt ∧ x.toInt ≤ 2) → Ok (some x) (fun r => 0 ≤ r.toInt ∧ r.toInt ≤ 2) := fun x h => Ok.some' h
  have d0 := d 0 (by decide)
  have d1 := d 1 (by decide)
  have d2 := d 2 (by decide)
  unfold kf142
  refine Ok.eq (m_byte L hF hM hm hp) ?_
  refine Ok.ite' (fun _ => d1) (fun _ => Ok.ite' (fun _ => d2) (fun _ => Ok.ite' (fun c47 => ?_) (fun _ => Ok.ite' (fun c48 => ?_) (fun _ => Ok.ite' (fun _ => d0) (fun _ => Ok.ite' (fun _ => d0) (fun _ => d1))))))
  · rw [e0] at c47
    have o : F.mb m p = 47 := by omega
    have l1 := op1_lt hG.1 (by omega)
    have a := hG.2.1.2.2.2.1 o
    rw [ix1]
    exact Ok.eq (m_byte L hF hM hm l1) (Ok.bif' (by rw [w_nti (by omega)]; omega) (Ok.ite' (fun _ => d0) (fun _ => d1)))
  · rw [e0] at c48
    have o : F.mb m p = 48 := by omega
    have l1 := op1_lt hG.1 (by omega)
    have a := hG.2.1.2.2.2.2.1 o
    rw [ix1]
    exact Ok.eq (m_byte L hF hM hm l1) (Ok.bif' (by rw [w_nti (by omega)]; omega) (Ok.ite' (fun _ => d0) (fun _ => d1)))
theorem m143 (v1 v2 v3 : Int32) (h : MI N n B Y J) : Ok (kf143 v1 v2 v3 J L) (fun r => MI N n B Y r.2.1) := by
  have k23 : Ok (kf143_23 v1 v2 v3 J L) (fun r => MI N n B Y r.2.1) := by
    unfold kf143_23 kf143_24
    rw [up_eq2, if_neg (by decide)]
    exact Ok.some' h.up0
  unfold kf143
  refine Ok.bind' (m140 v1 v2 h) (fun r1 ⟨_, g1⟩ => Ok.ite' (fun _ => k23) (fun n1 => Ok.bind' (m102 _ _ _) (fun r4 _ => Ok.ite' (fun _ => k23) (fun _ => ?_))))
  obtain ⟨F, hF, hM, hA, m, p, hm, rfl, rfl, ht⟩ := g1 n1
  have hG := (hA m hm).2 p ht
  have b1 := hF.nm16
  have b2 := hF.mn120 m hm
  have hp := ht.1
  have M0 : MV F (mv_up J 59 0 (0 : Int32)) := hM.keep (fun q _ _ _ j => up_no (by omega)) ⟨up_no (by omega), up_no (by omega), up_no (by omega)⟩
  have h0 := h.up0 (x := 0)
  unfold kf143_24
  rw [up_eq2, if_pos rfl]
  generalize mv_up J 59 0 (0 : Int32) = J0 at h0 M0 ⊢
  have don : ∀ x : Int32, Ok (some (x, J0, L)) (fun r : Int32 × kjI × kjL => MI N n B Y r.2.1) := fun x => Ok.some' h0
  refine Ok.ite' (fun _ => Ok.eq (m_byte L hF M0 hm hp) (don _)) (fun _ => Ok.ite' (fun _ => Ok.eq (m_size L hF M0 hm hp) (don _)) (fun _ => Ok.ite' (fun _ => Ok.bind' (m133 hF M0 hm hp hG) (fun _ _ => don _)) (fun _ => Ok.ite' (fun _ => Ok.bind' (m142 hF M0 hm hp hG) (fun _ _ => don _)) (fun _ => Ok.ite' (fun _ => Ok.bind' (m141 (by omega) (by omega)) (fun _ _ => Ok.ite' (fun _ => don _) (fun _ => don _))) (fun _ => Ok.bind' (m141 (by omega) (by omega)) (fun _ _ => Ok.ite' (fun _ => don _) (fun _ => ?_)))))))
  rw [ix120]
  exact Ok.bif' (by rw [w_nti (by omega)]; omega) (don _)
/-- does the INSTRUCTION go on at v3? -/
theorem m144_82 (hF : KFok F) (hM : MV F J) {m p : Nat} (hm : m < F.nm) (hp : p < F.mn m) (v3 v4 : Int32) : Ok (kf144_82 N J L (w m) (w p) v3 v4) (fun r => r = 0 ∨ r = 1) := by
  unfold kf144_82
  exact Ok.ite' (fun _ => Ok.some' (Or.inl rfl)) (fun _ => Ok.ite' (fun _ => Ok.some' (Or.inl rfl)) (fun _ => Ok.ite' (fun _ => Ok.some' (Or.inl rfl)) (fun _ => Ok.ite' (fun _ => Ok.some' (Or.inl rfl)) (fun _ => Ok.eq (m_size L hF hM hm hp) (Ok.ite' (fun _ => Ok.some' (Or.inl rfl)) (fun _ => Ok.some' (Or.inr rfl)))))))
theorem m144_39 (hF : KFok F) (hM : MV F J) {m p : Nat} (hm : m < F.nm) (hp : p < F.mn m) (hG : Gd F m p) (v3 : Int32) : ∀ (k q : Nat), 300 - q < k → q ≤ 299 → Ok (kf144_39 N J L k (w m) (w p) v3 (w (F.mb m p)) (w q)) (fun r => r = 0 ∨ r = 1) := by
  have hb := hF.mb256 m hm p hp
  have b2 := hF.mn120 m hm
  intro k
  induction k with
  | zero => intro q h; omega
  | succ k ih =>
    intro q hk hq
    unfold kf144_39
    refine Ok.ite' (fun _ => m144_82 hF hM hm hp v3 _) (fun c => ?_)
    have o : F.mb m p = 53 := by
      have := congrArg Int32.toInt (Classical.not_not.mp c)
      rw [w_nti (by omega), lt053] at this
      omega
    have l1 := op1_lt hG.1 (by omega)
    have l53 := op53 hG.1 o
    have hb1 := hF.mb256 m hm (p + 1) l1
    rw [ix1]
    refine Ok.eq (m_byte L hF hM hm l1) (Ok.ite' (fun _ => m144_82 hF hM hm hp v3 _) (fun g => ?_))
    rw [Int32.lt_iff_toInt_lt, w_nti (by omega), w_nti (by omega)] at g
    have e : (w ((p : Nat) : Int) + (2 : Int32)) + w ((q : Nat) : Int) = w ((p + 2 + q : Nat) : Int) := by
      (simp only [w_lit, w_neg, w_add, w_sub, w_mul])
      congr 1
    rw [e, ix1]
    refine Ok.eq (m_byte L hF hM hm (p := p + 2 + q) (by omega)) (Ok.ite' (fun _ => ih (q + 1) (by omega) (by omega)) (fun _ => Ok.some' (Or.inr rfl)))
theorem m144 (hN : 400 ≤ N) (hF : KFok F) (hM : MV F J) {m p : Nat} (hm : m < F.nm) (hp : p < F.mn m) (hG : Gd F m p) (v3 : Int32) : Ok (kf144 N J L (w m) (w p) v3) (fun r => r = 0 ∨ r = 1) := by
  have hb := hF.mb256 m hm p hp
  have k36 : Ok (kf144_36 N J L (w m) (w p) v3 (w (F.mb m p))) (fun r => r = 0 ∨ r = 1) := by
    unfold kf144_36
    exact m144_39 hF hM hm hp hG v3 N 0 (by omega) (by omega)
  unfold kf144
  refine Ok.eq (m_byte L hF hM hm hp) (Ok.ite' (fun _ => k36) (fun c1 => Ok.ite' (fun _ => k36) (fun c2 => ?_)))
  have e37 : (37 : Int32).toInt = 37 := rfl
  rw [Int32.lt_iff_toInt_lt, w_nti (by omega)] at c1 c2
  rw [lt021] at c1
  rw [e37] at c2
  rw [ix1]
  exact Ok.eq (m_byte L hF hM hm (op1_lt hG.1 (by omega))) (Ok.ite' (fun _ => k36) (fun _ => Ok.some' (Or.inr rfl)))
theorem m145_29 (hN : 400 ≤ N) (hF : KFok F) {m : Nat} (hm : m < F.nm) (v2 : Int32) (hM : MV F J) (hA : BGm F m J ∧ AG F m) (h : MI N n B Y J) : ∀ (k q : Nat) (v3 : Int32) (L : kjL), 120 - q < k → q ≤ 120 → Ok (kf145_29 N k (w m) v2 v3 (w q) J L) (fun r => MI N n B Y r.2.1) := by
  have b1 := hF.nm16
  have b2 := hF.mn120 m hm
  intro k
  induction k with
  | zero => intro q v3 L h; omega
  | succ k ih =>
    intro q v3 L hk hq
    unfold kf145_29 kf145_79
    rw [w_nat (z := m) (by omega), hM.v74 m hm, ix120, w_nat (z := 120 * m + q) (by omega), ix1]
    refine Ok.bif' (by rw [w_nti (by omega)]; omega) (Ok.ite' (fun _ => Ok.some' h) (fun g => ?_))
    rw [Int32.le_iff_toInt_le, w_nti (by omega), w_nti (by omega)] at g
    have hqm : q < F.mn m := by omega
    rw [hA.1 q hqm]
    refine Ok.bif' (by rw [w_nti (by omega)]; omega) (Ok.ite' (fun _ => ih (q + 1) _ _ (by omega) (by omega)) (fun nz => ?_))
    have hbg : bg F m q = true := by
      cases hq : bg F m q with
      | true => rfl
      | false => rw [hq, bi_f] at nz; exact absurd rfl nz
    have hG := hA.2 q ⟨hqm, hbg⟩
    exact Ok.bind' (m141 (by omega) (by omega)) (fun r5 _ => Ok.ite' (fun _ => ih (q + 1) _ _ (by omega) (by omega)) (fun _ => Ok.bind' (m144 hN hF hM hm hqm hG v2) (fun r8 _ => Ok.ite' (fun _ => ih (q + 1) _ _ (by omega) (by omega)) (fun _ => ih (q + 1) _ _ (by omega) (by omega)))))
theorem m145 (hN : 400 ≤ N) (v1 v2 : Int32) (h : MI N n B Y J) : Ok (kf145 N v1 v2 J L) (fun r => MI N n B Y r.2.1) := by
  unfold kf145 kf145_25
  have h0 := h.up0 (x := 0)
  generalize mv_up J 59 0 (0 : Int32) = J0 at h0 ⊢
  refine Ok.bind' (m140 v1 v2 h0) (fun r1 ⟨_, g1⟩ => Ok.ite' (fun n1 => ?_) (fun _ => Ok.some' h0))
  obtain ⟨F, hF, hM, hA, m, p, hm, rfl, rfl, ht⟩ := g1 n1
  exact Ok.ite' (fun _ => m145_29 hN hF hm _ hM (hA m hm) h0 N 0 _ _ (by omega) (by omega)) (fun _ => m145_29 hN hF hm _ hM (hA m hm) h0 N 0 _ _ (by omega) (by omega))
theorem m146_35 (hF : KFok F) {m : Nat} (hm : m < F.nm) (v2 : Int32) (hM : MV F J) (hA : BGm F m J ∧ AG F m) (h : MI N n B Y J) : ∀ (k q : Nat) (v3 v4 v5 : Int32) (L : kjL), 120 - q < k → q ≤ 120 → Ok (kf146_35 N k (w m) v2 v3 v4 v5 (w q) J L) (fun r => MI N n B Y r.2.1) := by
  have b1 := hF.nm16
  have b2 := hF.mn120 m hm
  intro k
  induction k with
  | zero => intro q v3 v4 v5 L h; omega
  | succ k ih =>
    intro q v3 v4 v5 L hk hq
    unfold kf146_35
    rw [w_nat (z := m) (by omega), hM.v74 m hm, ix120, w_nat (z := 120 * m + q) (by omega)]
    refine Ok.bif' (by rw [w_nti (by omega)]; omega) (Ok.ite' (fun _ => Ok.ite' (fun _ => Ok.ite' (fun _ => Ok.some' h) (fun _ => Ok.some' h)) (fun _ => Ok.some' h)) (fun g => ?_))
    rw [Int32.le_iff_toInt_le, w_nti (by omega), w_nti (by omega)] at g
    have hqm : q < F.mn m := by omega
    rw [hA.1 q hqm]
    have ix : w ((q : Nat) : Int) + (1 : Int32) = w ((q + 1 : Nat) : Int) := ix1 q
    refine Ok.bif' (by rw [w_nti (by omega)]; omega) (Ok.ite' (fun nz => ?_) (fun _ => ?_))
    · have hbg : bg F m q = true := by
        cases hq : bg F m q with
        | true => rfl
        | false => rw [hq, bi_f] at nz; exact absurd rfl nz
      have hG := hA.2 q ⟨hqm, hbg⟩
      have k99 : ∀ (a b c d : Int32), Ok (kf146_99 N (fun v1 v2 v3 v4 v5 v6 I L => kf146_35 N k v1 v2 v3 v4 v5 v6 I L) (w ((m : Nat) : Int)) v2 a b (w ((q : Nat) : Int)) c d J L) (fun r => MI N n B Y r.2.1) := by
        intro a b c d
        unfold kf146_99 kf146_159 kf146_161
        rw [ix120, w_nat (z := 120 * m + q) (by omega), ix]
        exact Ok.bind' (m141 (by omega) (by omega)) (fun _ _ => Ok.ite' (fun _ => Ok.bif' (by rw [w_nti (by omega)]; omega) (Ok.bind' (m133 hF hM hm hqm hG) (fun _ _ => Ok.bind' (m142 hF hM hm hqm hG) (fun _ _ => Ok.ite' (fun _ => ih (q + 1) _ _ _ _ (by omega) (by omega)) (fun _ => ih (q + 1) _ _ _ _ (by omega) (by omega)))))) (fun _ => ih (q + 1) _ _ _ _ (by omega) (by omega)))
      have k80 : ∀ (a b c d : Int32), Ok (kf146_80 N (fun v1 v2 v3 v4 v5 v6 I L => kf146_35 N k v1 v2 v3 v4 v5 v6 I L) (w ((m : Nat) : Int)) v2 a b (w ((q : Nat) : Int)) c d J L) (fun r => MI N n B Y r.2.1) := by
        intro a b c d
        unfold kf146_80
        exact Ok.bind' (m141 (by omega) (by omega)) (fun _ _ => Ok.ite' (fun _ => k99 _ _ _ _) (fun _ => k99 _ _ _ _))
      exact Ok.bind' (m141 (by omega) (by omega)) (fun _ _ => Ok.ite' (fun _ => k80 _ _ _ _) (fun _ => k80 _ _ _ _))
    · unfold kf146_161
      rw [ix]
      exact ih (q + 1) _ _ _ _ (by omega) (by omega)
theorem m146 (hN : 400 ≤ N) (v1 v2 : Int32) (h : MI N n B Y J) : Ok (kf146 N v1 v2 J L) (fun r => MI N n B Y r.2.1) := by
  unfold kf146
  have h0 := h.up0 (x := 0)
  generalize mv_up J 59 0 (0 : Int32) = J0 at h0 ⊢
  refine Ok.bind' (m139 v1 h0) (fun r1 ⟨_, g1⟩ => Ok.ite' (fun _ => Ok.some' h0) (fun n1 => ?_))
  obtain ⟨F, hF, hM, hA, m, hm, rfl⟩ := g1 n1
  exact Ok.bind' (m102 _ _ _) (fun _ _ => Ok.ite' (fun _ => m146_35 hF hm _ hM (hA m hm) h0 N 0 _ _ _ _ (by omega) (by omega)) (fun _ => Ok.some' h0))
theorem m147 (hF : KFok F) (hM : MV F J) (v : Int32) : Ok (kf147 J L v) (fun r => (r = 0 ∨ r = 1) ∧ (¬ r = 0 → vk F.nc v)) := by
  have b1 := hF.nc8
  unfold kf147
  refine Ok.ite' (fun e => Ok.some' ⟨Or.inr rfl, fun _ => ?_⟩) (fun _ => Ok.ite' (fun e => Ok.some' ⟨Or.inr rfl, fun _ => ?_⟩) (fun _ => Ok.ite' (fun e => Ok.some' ⟨Or.inr rfl, fun _ => ?_⟩) (fun _ => Ok.ite' (fun e => Ok.some' ⟨Or.inr rfl, fun _ => ?_⟩) (fun _ => Ok.bind' (m102 _ _ _) (fun r5 ⟨_, g5⟩ => Ok.ite' (fun _ => Ok.some' ⟨Or.inl rfl, fun z => absurd rfl z⟩) (fun n5 => Ok.some' ⟨Or.inr rfl, fun _ => ?_⟩))))))
  · rw [e, vk, lt01]
    omega
  · rw [e, vk, lt02]
    omega
  · rw [e, vk, lt03]
    omega
  · rw [e, vk, lt015]
    omega
  · have g := g5 n5
    rw [hM.n12, t_sub (by rw [t_add (by rw [lt016, w_nti (by omega)]; omega), lt016, lt01, w_nti (by omega)]; omega), t_add (by rw [lt016, w_nti (by omega)]; omega), lt016, lt01, w_nti (by omega)] at g
    rw [vk]
    omega
theorem m148 (hN : 400 ≤ N) (v1 v2 : Int32) (h : MI N n B Y J) : Ok (kf148 N v1 v2 J L) (fun r => MI N n B Y r.2.1) := by
  unfold kf148
  have h0 := h.up0 (x := 0)
  generalize mv_up J 59 0 (0 : Int32) = J0 at h0 ⊢
  have don : ∀ x : Int32, Ok (some (x, J0, L)) (fun r : Int32 × kjI × kjL => MI N n B Y r.2.1) := fun x => Ok.some' h0
  refine Ok.ite' (fun _ => don _) (fun n8 => ?_)
  obtain ⟨F, hF, hM, hA⟩ := h0.gs n8
  exact Ok.bind' (m147 hF hM v1) (fun r2 ⟨_, g2⟩ => Ok.ite' (fun _ => don _) (fun n2 => Ok.bind' (m147 hF hM v2) (fun r5 _ => Ok.ite' (fun _ => don _) (fun _ => Ok.ite' (fun _ => Ok.bind' (m135 hF hM (by omega) v2 (g2 n2)) (fun r9 _ => Ok.ite' (fun _ => don _) (fun _ => Ok.ite' (fun _ => don _) (fun _ => Ok.ite' (fun _ => don _) (fun _ => don _))))) (fun _ => don _)))))
theorem m149 (hN : 400 ≤ N) (v1 v2 : Int32) (h : MI N n B Y J) : Ok (kf149 N v1 v2 J L) (fun r => MI N n B Y r.2.1) := by
  unfold kf149
  have h0 := h.up0 (x := 0)
  generalize mv_up J 59 0 (0 : Int32) = J0 at h0 ⊢
  have don : ∀ x : Int32, Ok (some (x, J0, L)) (fun r : Int32 × kjI × kjL => MI N n B Y r.2.1) := fun x => Ok.some' h0
  refine Ok.ite' (fun _ => don _) (fun n8 => ?_)
  obtain ⟨F, hF, hM, hA⟩ := h0.gs n8
  have v0 : vk F.nc (0 : Int32) := ⟨by decide, by rw [lt00]; omega⟩
  have k36 : vk F.nc v1 → vk F.nc v2 → Ok (kf149_36 N v1 v2 J0 L) (fun r => MI N n B Y r.2.1) := fun a b => by
    unfold kf149_36
    exact Ok.bind' (m126 hF hM (by omega) a b) (fun _ _ => don _)
  have k24 : vk F.nc v1 → Ok (kf149_24 N v1 v2 J0 L) (fun r => MI N n B Y r.2.1) := fun a => by
    unfold kf149_24
    exact Ok.ite' (fun e => k36 a (by rw [e]; exact v0)) (fun _ => Ok.bind' (m147 hF hM v2) (fun r2 ⟨_, g2⟩ => Ok.ite' (fun _ => don _) (fun n2 => k36 a (g2 n2))))
  exact Ok.ite' (fun e => k24 (by rw [e]; exact v0)) (fun _ => Ok.bind' (m147 hF hM v1) (fun r3 ⟨_, g3⟩ => Ok.ite' (fun _ => don _) (fun n3 => k24 (g3 n3))))
theorem m150 (hN : 400 ≤ N) (v1 v2 : Int32) (h : MI N n B Y J) : Ok (kf150 N v1 v2 J L) (fun r => MI N n B Y r.2.1) := by
  unfold kf150
  have h0 := h.up0 (x := 0)
  generalize mv_up J 59 0 (0 : Int32) = J0 at h0 ⊢
  have don : ∀ x : Int32, Ok (some (x, J0, L)) (fun r : Int32 × kjI × kjL => MI N n B Y r.2.1) := fun x => Ok.some' h0
  refine Ok.ite' (fun _ => don _) (fun n8 => ?_)
  obtain ⟨F, hF, hM, hA⟩ := h0.gs n8
  have b1 := hF.nc8
  have b2 := hF.ns8
  refine Ok.bind' (m102 _ _ _) (fun r2 ⟨_, g2⟩ => Ok.ite' (fun _ => don _) (fun n2 => Ok.bind' (m102 _ _ _) (fun r5 ⟨_, g5⟩ => Ok.ite' (fun _ => don _) (fun n5 => ?_))))
  obtain ⟨c, hc, rfl⟩ := sel (by omega) hM.n12 (g2 n2)
  obtain ⟨s, hs, rfl⟩ := sel (by omega) hM.n16 (g5 n5)
  exact Ok.bind' (m125 hF hM (by omega) (by rw [w_nti (by omega)]; omega) (by rw [w_nti (by omega)]; omega)) (fun _ _ => don _)
theorem m151 (v1 v2 : Int32) (h : MI N n B Y J) : Ok (kf151 v1 v2 J L) (fun r => MI N n B Y r.2.1) := by
  unfold kf151
  have h0 := h.up0 (x := 0)
  generalize mv_up J 59 0 (0 : Int32) = J0 at h0 ⊢
  have don : ∀ x : Int32, Ok (some (x, J0, L)) (fun r : Int32 × kjI × kjL => MI N n B Y r.2.1) := fun x => Ok.some' h0
  refine Ok.ite' (fun _ => don _) (fun n8 => ?_)
  obtain ⟨F, hF, hM, hA⟩ := h0.gs n8
  have b1 := hF.nc8
  refine Ok.bind' (m102 _ _ _) (fun r2 ⟨_, g2⟩ => Ok.ite' (fun n2 => ?_) (fun _ => don _))
  obtain ⟨c, hc, rfl⟩ := sel (by omega) hM.n12 (g2 n2)
  have b3 := hF.nf8 c hc
  have bb : 0 ≤ (w ((c : Nat) : Int)).toInt ∧ (w ((c : Nat) : Int)).toInt < 8 := by rw [w_nti (by omega)]; omega
  rw [w_nat (z := c) (by omega), hM.v64 c hc]
  refine Ok.ite' (fun _ => Ok.ite' (fun _ => Ok.bif' bb ?_) (fun _ => Ok.bif' bb (don _))) (fun _ => Ok.bif' bb (don _))
  refine Ok.bind' (m102 _ _ _) (fun r8 ⟨_, g8⟩ => Ok.ite' (fun _ => don _) (fun n8 => Ok.bif' ?_ (don _)))
  have g := g8 n8
  rw [t_add (by rw [lt01, w_nti (by omega)]; omega), lt01, lt02, w_nti (by omega)] at g
  have e8 : ((8 : Int32) * w ((c : Nat) : Int)).toInt = 8 * c := by rw [t_mul (by rw [lt08, w_nti (by omega)]; omega), lt08, w_nti (by omega)]
  rw [t_sub (by rw [t_add (by rw [e8]; omega), e8, lt02]; omega), t_add (by rw [e8]; omega), e8, lt02]
  omega
theorem m152 (v1 : Int32) (h : MI N n B Y J) : Ok (kf152 v1 J L) (fun r => MI N n B Y r.2.1) := by
  unfold kf152
  have h0 := h.up0 (x := 0)
  generalize mv_up J 59 0 (0 : Int32) = J0 at h0 ⊢
  have don : ∀ x : Int32, Ok (some (x, J0, L)) (fun r : Int32 × kjI × kjL => MI N n B Y r.2.1) := fun x => Ok.some' h0
  exact Ok.ite' (fun _ => Ok.ite' (fun _ => don _) (fun _ => don _)) (fun _ => Ok.ite' (fun _ => Ok.ite' (fun _ => don _) (fun _ => don _)) (fun _ => Ok.ite' (fun _ => Ok.ite' (fun _ => don _) (fun _ => don _)) (fun _ => Ok.ite' (fun _ => don _) (fun _ => Ok.ite' (fun _ => don _) (fun _ => don _)))))
end QS
