/-! The reference: what is wrong; which METHOD a call comes to. -/
section WG
variable {F : KF} {L : kjL} {J : kjI}
theorem m125_2 (hF : KFok F) (hM : MV F J) (N : Nat) {v2 : Int32} (h2 : 0 ≤ v2.toInt ∧ v2.toInt < 8) : ∀ (n : Nat) (v3 : Int32), v3.toInt < F.nc → v3.toInt + 1 < n → 0 < n → Ok (kf125_2 N J L n v2 v3) (fun _ => True) := by
  have hc := hF.nc8
  intro n
  induction n with
  | zero => intro v3 _ _ h0; omega
  | succ n ih =>
    intro v3 h3 hn _
    unfold kf125_2
    refine Ok.ite' (fun _ => Ok.some' trivial) (fun g => ?_)
    rw [Int32.lt_iff_toInt_lt, lt00] at g
    have e : (((8 : Int32) * v3) + v2).toInt = 8 * v3.toInt + v2.toInt := by
      have e1 : ((8 : Int32) * v3).toInt = 8 * v3.toInt := by rw [t_mul (by rw [lt08]; omega), lt08]
      rw [t_add (by rw [e1]; omega), e1]
    have i64 : 0 ≤ (((8 : Int32) * v3) + v2).toInt ∧ (((8 : Int32) * v3) + v2).toInt < ((64 : Nat) : Int) := by rw [e]; omega
    have a := m63 hF hM (v := v3) (by omega)
    exact Ok.bif' i64 (Ok.ite' (fun _ => Ok.bif' (by omega) (ih _ (by omega) (by omega) (by omega))) (fun _ => Ok.bif' i64 (Ok.some' trivial)))
theorem m125 (hF : KFok F) (hM : MV F J) {N : Nat} (hN : 300 ≤ N) {v1 v2 : Int32} (h1 : v1.toInt < F.nc) (h2 : 0 ≤ v2.toInt ∧ v2.toInt < 8) : Ok (kf125 N J L v1 v2) (fun _ => True) := by
  have hc := hF.nc8
  unfold kf125
  exact m125_2 hF hM N h2 N v1 h1 (by omega) (by omega)
theorem m136 (v : Int32) : Ok (kf136 J L v) (fun r => r = 0 ∨ r = 1) := by
  unfold kf136
  exact Ok.ite' (fun _ => Ok.some' (Or.inl rfl)) (fun _ => Ok.ite' (fun _ => Ok.some' (Or.inl rfl)) (fun _ => Ok.some' (Or.inr rfl)))
/-- nothing is changed -/
abbrev Sm (J : kjI) (r : Int32 × kjI × kjL) : Prop := r.2.1 = J
theorem m137_676 (hF : KFok F) (hM : MV F J) {N : Nat} (hN : 300 ≤ N) {k : Nat} (hk : k < 1920) (hv : ∀ i, i < 16 → vk F.nc (J 79 (16 * k + i))) {ht : Int} (hh : 0 ≤ ht ∧ ht ≤ 8) {v4 : Int32} (h4 : v4.toInt = 16 * k + 8 + ht) {a : Nat} (ha : a < F.nm) : ∀ (n i : Nat), 5 - i < n → i ≤ 4 → Ok (kf137_676 N n v4 (w a) (w i) J L) (Sm J) := by
  have h16 := hF.nm16
  have hp := hF.mp4 a ha
  intro n
  induction n with
  | zero => intro i h; omega
  | succ n ih =>
    intro i hn hi
    unfold kf137_676
    have e4 : ((4 : Int32) * w (a : Int)) + w (i : Int) = w ((4 * a + i : Nat) : Int) := by
      (simp only [w_lit, w_neg, w_add, w_sub, w_mul])
      congr 1
    rw [w_nat (z := a) (by omega), hM.v69 a ha, e4, ix1]
    have i16 : 0 ≤ (w (a : Int)).toInt ∧ (w (a : Int)).toInt < ((16 : Nat) : Int) := by rw [w_nti (by omega)]; omega
    refine Ok.bif' i16 (Ok.ite' (fun _ => Ok.some' rfl) (fun g => ?_))
    rw [Int32.le_iff_toInt_le, w_nti (by omega), w_nti (by omega)] at g
    have ex : ((v4 - w ((F.mp a : Nat) : Int)) + w (i : Int)).toInt = 16 * k + 8 + ht - F.mp a + i := by
      have e1 : (v4 - w ((F.mp a : Nat) : Int)).toInt = 16 * k + 8 + ht - F.mp a := by rw [t_sub (by rw [w_nti (by omega)]; omega), w_nti (by omega), h4]
      rw [t_add (by rw [e1, w_nti (by omega)]; omega), e1, w_nti (by omega)]
    have en : Int32.toNatClampNeg ((v4 - w ((F.mp a : Nat) : Int)) + w (i : Int)) = 16 * k + (8 + ht - F.mp a + i).toNat := by
      show ((v4 - w ((F.mp a : Nat) : Int)) + w (i : Int)).toInt.toNat = _
      rw [ex]
      omega
    refine Ok.bif' i16 (Ok.bif' (by rw [ex]; omega) (Ok.bif' (by rw [w_nti (by omega)]; omega) (Ok.bind' (m135 hF hM hN _ ?_) (fun r _ => Ok.ite' (fun _ => ih (i + 1) (by omega) (by omega)) (fun _ => Ok.some' rfl)))))
    rw [en]
    exact hv _ (by omega)
theorem m137_757 (hF : KFok F) (hM : MV F J) {N : Nat} (hN : 300 ≤ N) {k : Nat} (hk : k < 1920) (hv : ∀ i, i < 16 → vk F.nc (J 79 (16 * k + i))) {ht : Int} (hh : 0 ≤ ht ∧ ht ≤ 8) {v4 v9 : Int32} (h4 : v4.toInt = 16 * k + 8 + ht) (h9 : vk F.nc v9) {a : Nat} (ha : a < F.ns) : ∀ (n i : Nat), 5 - i < n → i ≤ 4 → Ok (kf137_757 N n v4 (w a) v9 (w i) J L) (Sm J) := by
  have h8 := hF.ns8
  have hp := hF.sp3 a ha
  intro n
  induction n with
  | zero => intro i h; omega
  | succ n ih =>
    intro i hn hi
    unfold kf137_757
    have e3 : ((3 : Int32) * w (a : Int)) + w (i : Int) = w ((3 * a + i : Nat) : Int) := by
      (simp only [w_lit, w_neg, w_add, w_sub, w_mul])
      congr 1
    rw [w_nat (z := a) (by omega), hM.v66 a ha, e3, ix1]
    have i8 : 0 ≤ (w (a : Int)).toInt ∧ (w (a : Int)).toInt < ((8 : Nat) : Int) := by rw [w_nti (by omega)]; omega
    refine Ok.bif' i8 (Ok.ite' (fun _ => Ok.ite' (fun _ => Ok.some' rfl) (fun g => Ok.bind' (m125 hF hM hN ?_ (by rw [w_nti (by omega)]; omega)) (fun r _ => Ok.ite' (fun _ => Ok.some' rfl) (fun _ => Ok.some' rfl)))) (fun g => ?_))
    · rw [Int32.lt_iff_toInt_lt, lt016] at g
      have := h9.2
      rw [t_s16 (by omega)]
      omega
    · rw [Int32.le_iff_toInt_le, w_nti (by omega), w_nti (by omega)] at g
      have ex : ((v4 - w ((F.sp a : Nat) : Int)) + w (i : Int)).toInt = 16 * k + 8 + ht - F.sp a + i := by
        have e1 : (v4 - w ((F.sp a : Nat) : Int)).toInt = 16 * k + 8 + ht - F.sp a := by rw [t_sub (by rw [w_nti (by omega)]; omega), w_nti (by omega), h4]
        rw [t_add (by rw [e1, w_nti (by omega)]; omega), e1, w_nti (by omega)]
      have en : Int32.toNatClampNeg ((v4 - w ((F.sp a : Nat) : Int)) + w (i : Int)) = 16 * k + (8 + ht - F.sp a + i).toNat := by
        show ((v4 - w ((F.sp a : Nat) : Int)) + w (i : Int)).toInt.toNat = _
        rw [ex]
        omega
      refine Ok.bif' i8 (Ok.bif' (by rw [ex]; omega) (Ok.bif' (by rw [w_nti (by omega)]; omega) (Ok.bind' (m135 hF hM hN _ ?_) (fun r _ => Ok.ite' (fun _ => ih (i + 1) (by omega) (by omega)) (fun _ => Ok.some' rfl)))))
      rw [en]
      exact hv _ (by omega)
set_option maxHeartbeats 4000000 in
theorem m137_145 (hF : KFok F) (hM : MV F J) {N : Nat} (hN : 300 ≤ N) {m p : Nat} (hm : m < F.nm) (hp : p < F.mn m) (hG : Gd F m p) (hv : ∀ i, i < 16 → vk F.nc (J 79 (16 * (120 * m + p) + i))) {ht : Int} (hh : 0 ≤ ht ∧ ht ≤ 8) {v4 : Int32} (h4 : v4.toInt = 16 * ((120 * m + p : Nat) : Int) + 8 + ht) {a : Nat} (ha : p + 1 < F.mn m → a = F.mb m (p + 1)) (ha256 : a < 256) {v7 s0 : Int32} (h7 : vk F.nc v7) (h0 : vk F.nc s0) :
    Ok (kf137_145 N (w m) (w p) (w ((120 * m + p : Nat) : Int)) v4 (w (F.mb m p)) (w a) v7 s0 J L) (Sm J) := by
  have h16 := hF.nm16
  have h8 := hF.ns8
  have hc := hF.nc8
  have hn := hF.mn120 m hm
  have hb := hF.mb256 m hm p hp
  have e0 : (w ((F.mb m p : Nat) : Int)).toInt = F.mb m p := w_nti (by omega)
  have hkk : 120 * m + p < 1920 := by omega
  have z0 : Ok (some ((0 : Int32), J, L)) (Sm J) := Ok.some' rfl
  have z1 : Ok (some ((1 : Int32), J, L)) (Sm J) := Ok.some' rfl
  have z01 : ∀ c : Prop, ∀ d : Decidable c, Ok (if c then (some ((0 : Int32), J, L)) else (some ((1 : Int32), J, L))) (Sm J) := fun c d => Ok.ite' (fun _ => z0) (fun _ => z1)
  have fit : ∀ (x y : Int32), vk F.nc x → Ok ((kf135 N J L x y).bind fun r => if ¬ r = 0 then (some ((0 : Int32), J, L)) else (some ((1 : Int32), J, L))) (Sm J) := fun x y hx => Ok.bind' (m135 hF hM hN y hx) (fun r _ => z01 _ _)
  have i16 : 0 ≤ (w (m : Int)).toInt ∧ (w (m : Int)).toInt < ((16 : Nat) : Int) := by rw [w_nti (by omega)]; omega
  have ex6 : (((16 : Int32) * w ((120 * m + p : Nat) : Int)) + w (a : Int)).toInt = ((16 * (120 * m + p) + a : Nat) : Int) := by rw [ix16, w_nti (by omega)]
  have k928 : Ok (kf137_928 N s0 J L) (Sm J) := by
    unfold kf137_928
    exact z01 _ _
  have k493 : Ok (kf137_493 N v7 s0 J L) (Sm J) := by
    unfold kf137_493
    exact Ok.ite' (fun _ => z0) (fun _ => z01 _ _)
  have x43 : (v4 - (3 : Int32)).toInt = 16 * ((120 * m + p : Nat) : Int) + 5 + ht := by rw [t_sub (by rw [lt03]; omega), lt03]; omega
  have e00 : (0 : Int32) = w ((0 : Nat) : Int) := rfl
  unfold kf137_145
  rw [e0]
  refine Ok.ite' (fun c3 => ?_) (fun _ => Ok.ite' (fun _ => z01 _ _) (fun _ => Ok.ite' (fun _ => Ok.ite' (fun _ => z1) (fun _ => z01 _ _)) (fun _ => Ok.ite' (fun _ => z01 _ _) (fun _ => Ok.ite' (fun c20 => ?_) (fun _ => Ok.ite' (fun _ => Ok.bind' (m136 _) (fun r _ => z01 _ _)) (fun _ => Ok.ite' (fun _ => Ok.bind' (m136 _) (fun r _ => Ok.ite' (fun _ => z1) (fun _ => Ok.bind' (m136 _) (fun r2 _ => Ok.ite' (fun _ => z1) (fun _ => Ok.ite' (fun _ => k493) (fun _ => Ok.ite' (fun _ => z1) (fun _ => k493))))))) (fun _ => Ok.ite' (fun _ => fit _ _ h7) (fun _ => Ok.ite' (fun c40 => ?_) (fun _ => Ok.ite' (fun _ => Ok.ite' (fun _ => z1) (fun _ => fit _ _ h0)) (fun _ => Ok.ite' (fun _ => Ok.ite' (fun _ => z1) (fun _ => Ok.ite' (fun _ => z1) (fun _ => Ok.bif' (by rw [x43]; omega) (fit _ _ ?_)))) (fun _ => Ok.ite' (fun _ => fit _ _ h7) (fun _ => Ok.ite' (fun _ => Ok.bind' (m136 _) (fun r _ => Ok.ite' (fun _ => z1) (fun _ => z01 _ _))) (fun _ => Ok.ite' (fun c47 => ?_) (fun _ => Ok.ite' (fun c48 => ?_) (fun _ => Ok.ite' (fun _ => Ok.bif' i16 (z01 _ _)) (fun _ => Ok.ite' (fun _ => Ok.bif' i16 (Ok.ite' (fun _ => z1) (fun _ => Ok.bif' i16 (fit _ _ h7)))) (fun _ => ?_)))))))))))))))))
  · have o : F.mb m p = 3 := by omega
    have l1 := op1_lt hG.1 (by omega)
    have b := hG.2.1.1 (Or.inl o)
    have b8 := hF.ml8 m hm
    rw [← ha l1] at b
    exact Ok.bif' (by rw [ex6]; omega) (z01 _ _)
  · have o : F.mb m p = 20 := by omega
    have l1 := op1_lt hG.1 (by omega)
    have b := hG.2.1.1 (Or.inr (Or.inr o))
    have b8 := hF.ml8 m hm
    rw [← ha l1] at b
    exact Ok.bif' (by rw [ex6]; omega) (z01 _ _)
  · have o : F.mb m p = 40 := by omega
    have l1 := op1_lt hG.1 (by omega)
    have l2 := op2_lt hG.1 (Or.inr o)
    have b := hG.2.1.2.2.1 (Or.inr o)
    rw [← ha l1] at b
    have b8 := hF.nf8 _ b.1
    have e2 : w ((p : Nat) : Int) + (2 : Int32) = w ((p + 2 : Nat) : Int) := by
      (simp only [w_lit, w_neg, w_add, w_sub, w_mul])
      congr 1
    have ei : ((8 : Int32) * w (a : Int)) + w ((F.mb m (p + 2) : Nat) : Int) = w ((8 * a + F.mb m (p + 2) : Nat) : Int) := by
      (simp only [w_lit, w_neg, w_add, w_sub, w_mul])
      congr 1
    refine Ok.bind' (m135 hF hM hN _ h0) (fun r _ => Ok.ite' (fun _ => z1) (fun _ => ?_))
    rw [e2]
    refine Ok.eq (m_byte L hF hM hm l2) ?_
    rw [ei]
    exact Ok.bif' (by rw [w_nti (by omega)]; omega) (fit _ _ h7)
  · have en : Int32.toNatClampNeg (v4 - (3 : Int32)) = 16 * (120 * m + p) + (5 + ht).toNat := by
      show (v4 - (3 : Int32)).toInt.toNat = _
      rw [x43]
      omega
    rw [en]
    exact hv _ (by omega)
  · have o : F.mb m p = 47 := by omega
    have l1 := op1_lt hG.1 (by omega)
    have b := hG.2.1.2.2.2.1 o
    rw [← ha l1] at b
    exact m137_676 hF hM hN hkk hv hh h4 b N 0 (by omega) (by omega)
  · have o : F.mb m p = 48 := by omega
    have l1 := op1_lt hG.1 (by omega)
    have b := hG.2.1.2.2.2.2.1 o
    rw [← ha l1] at b
    have s3 := hF.sp3 a b
    rw [w_nat (z := a) (by omega), hM.v66 a b]
    have x1 : (v4 - (1 : Int32)).toInt = 16 * ((120 * m + p : Nat) : Int) + 7 + ht := by rw [t_sub (by rw [lt01]; omega), lt01]; omega
    have x2 : ((v4 - (1 : Int32)) - w ((F.sp a : Nat) : Int)).toInt = 16 * ((120 * m + p : Nat) : Int) + 7 + ht - F.sp a := by rw [t_sub (by rw [x1, w_nti (by omega)]; omega), x1, w_nti (by omega)]
    have en : Int32.toNatClampNeg ((v4 - (1 : Int32)) - w ((F.sp a : Nat) : Int)) = 16 * (120 * m + p) + (7 + ht - F.sp a).toNat := by
      show ((v4 - (1 : Int32)) - w ((F.sp a : Nat) : Int)).toInt.toNat = _
      rw [x2]
      omega
    refine Ok.bif' (by rw [w_nti (by omega)]; omega) (Ok.bif' (by rw [x2]; omega) ?_)
    rw [en]
    exact m137_757 hF hM hN hkk hv hh h4 (hv _ (by omega)) b N 0 (by omega) (by omega)
  · exact Ok.ite' (fun _ => z0) (fun _ => Ok.ite' (fun _ => z0) (fun _ => Ok.ite' (fun _ => z0) (fun _ => Ok.ite' (fun _ => z1) (fun _ => Ok.ite' (fun _ => k928) (fun _ => Ok.ite' (fun _ => z0) (fun _ => k928))))))
/-- isWrong -/
theorem m137 (hF : KFok F) {N : Nat} (hN : 400 ≤ N) {m p : Nat} (hm : m < F.nm) (hA : AG F m) (hp : p < 120) (h : mF F m J) (hvis : J 78 (120 * m + p) ≠ -1) : Ok (kf137 N (w m) (w p) J L) (fun r => mF F m r.2.1 ∧ FLm J r.2.1) := by
  have h16 := hF.nm16
  obtain ⟨h1, h2, h3, h4⟩ := id h
  obtain ⟨ht, hk⟩ := h4 p hp hvis
  have hG := hA p ht
  have hn := hF.mn120 m hm
  have hp1 := ht.1
  unfold kf137 kf137_96 kf137_120
  rw [ix120, w_nat (z := 120 * m + p) (by omega), w_nat (z := m) (by omega)]
  have ik : 0 ≤ (w ((120 * m + p : Nat) : Int)).toInt ∧ (w ((120 * m + p : Nat) : Int)).toInt < ((1920 : Nat) : Int) := by rw [w_nti (by omega)]; omega
  have im : 0 ≤ (w (m : Int)).toInt ∧ (w (m : Int)).toInt < ((16 : Nat) : Int) := by rw [w_nti (by omega)]; omega
  refine Ok.bif' ik (Ok.ite' (fun n2 => ?_) (fun _ => Ok.some' ⟨h, fun _ _ _ _ _ _ => rfl⟩))
  have hr := h2 (120 * m + p)
  have n1 : (J 78 (120 * m + p)).toInt ≠ -1 := fun z => hvis (Int32.toInt_inj.mp (z.trans ltm1.symm))
  have n2' : (J 78 (120 * m + p)).toInt ≠ -2 := fun z => n2 (Int32.toInt_inj.mp (z.trans (by rfl)))
  have hv := hk n2
  refine Ok.bind' (m134 hF (by omega) hm ht.1 hG h1 h3 (by omega) hv) (fun r hr1 => ?_)
  have hm1 : mF F m r.1 := pI.mF h hr1
  have M1 : MV F r.1 := hm1.1
  have e78 : r.1 78 (120 * m + p) = J 78 (120 * m + p) := hr1.1 _ _ (by omega) (by omega)
  have hv1 : ∀ i, i < 16 → vk F.nc (r.1 79 (16 * (120 * m + p) + i)) := fun i hi => by rw [hr1.1 79 _ (by omega) (by omega)]; exact hv i hi
  have fin : Ok (some ((1 : Int32), r.1, r.2)) (fun r => mF F m r.2.1 ∧ FLm J r.2.1) := Ok.some' ⟨hm1, hr1.fl⟩
  have up : ∀ {o : Option (Int32 × kjI × kjL)}, Ok o (Sm r.1) → Ok o (fun r => mF F m r.2.1 ∧ FLm J r.2.1) := fun h => Ok.mono h (fun q e => by
    have e : q.2.1 = r.1 := e
    rw [e]
    exact ⟨hm1, hr1.fl⟩)
  have e4 : ((((16 : Int32) * w ((120 * m + p : Nat) : Int)) + (8 : Int32)) + r.1 78 (120 * m + p)).toInt = 16 * ((120 * m + p : Nat) : Int) + 8 + (J 78 (120 * m + p)).toInt := by
    have f1 : ((16 : Int32) * w ((120 * m + p : Nat) : Int)).toInt = 16 * ((120 * m + p : Nat) : Int) := by rw [t_mul (by rw [lt016, w_nti (by omega)]; omega), lt016, w_nti (by omega)]
    have f2 : (((16 : Int32) * w ((120 * m + p : Nat) : Int)) + (8 : Int32)).toInt = 16 * ((120 * m + p : Nat) : Int) + 8 := by rw [t_add (by rw [f1, lt08]; omega), f1, lt08]
    rw [e78, t_add (by rw [f2]; omega), f2]
  generalize (((16 : Int32) * w ((120 * m + p : Nat) : Int)) + (8 : Int32)) + r.1 78 (120 * m + p) = v4 at e4 ⊢
  have vz : vk F.nc (0 : Int32) := ⟨by decide, by rw [lt00]; omega⟩
  -- the two KINDS on top
  have k120 : ∀ (a : Nat) (x : Int32), (p + 1 < F.mn m → a = F.mb m (p + 1)) → a < 256 → vk F.nc x → Ok (bif mv_in (w ((120 * m + p : Nat) : Int)) 1920 then (if (r.1 78 (120 * m + p)) ≤ (1 : Int32) then (kf137_145 N (w m) (w p) (w ((120 * m + p : Nat) : Int)) v4 (w (F.mb m p)) (w a) x (0 : Int32) r.1 r.2) else (bif mv_in (v4 - (2 : Int32)) 30720 then (kf137_145 N (w m) (w p) (w ((120 * m + p : Nat) : Int)) v4 (w (F.mb m p)) (w a) x (r.1 79 (Int32.toNatClampNeg (v4 - (2 : Int32)))) r.1 r.2) else none)) else none) (Sm r.1) := by
    intro a x ha h256 hx
    refine Ok.bif' ik (Ok.ite' (fun _ => m137_145 hF M1 (by omega) hm hp1 hG hv1 (ht := (J 78 (120 * m + p)).toInt) (by omega) e4 ha h256 hx vz) (fun g => ?_))
    rw [Int32.le_iff_toInt_le, lt01, e78] at g
    have x2 : (v4 - (2 : Int32)).toInt = 16 * ((120 * m + p : Nat) : Int) + 6 + (J 78 (120 * m + p)).toInt := by rw [t_sub (by rw [lt02]; omega), lt02]; omega
    have en : Int32.toNatClampNeg (v4 - (2 : Int32)) = 16 * (120 * m + p) + (6 + (J 78 (120 * m + p)).toInt).toNat := by
      show (v4 - (2 : Int32)).toInt.toNat = _
      rw [x2]
      omega
    refine Ok.bif' (by rw [x2]; omega) ?_
    rw [en]
    exact m137_145 hF M1 (by omega) hm hp1 hG hv1 (ht := (J 78 (120 * m + p)).toInt) (by omega) e4 ha h256 hx (hv1 _ (by omega))
  have k96 : ∀ a : Nat, (p + 1 < F.mn m → a = F.mb m (p + 1)) → a < 256 → Ok (bif mv_in (w ((120 * m + p : Nat) : Int)) 1920 then (if (r.1 78 (120 * m + p)) ≤ 0 then (bif mv_in (w ((120 * m + p : Nat) : Int)) 1920 then (if (r.1 78 (120 * m + p)) ≤ (1 : Int32) then (kf137_145 N (w m) (w p) (w ((120 * m + p : Nat) : Int)) v4 (w (F.mb m p)) (w a) (0 : Int32) (0 : Int32) r.1 r.2) else (bif mv_in (v4 - (2 : Int32)) 30720 then (kf137_145 N (w m) (w p) (w ((120 * m + p : Nat) : Int)) v4 (w (F.mb m p)) (w a) (0 : Int32) (r.1 79 (Int32.toNatClampNeg (v4 - (2 : Int32)))) r.1 r.2) else none)) else none) else (bif mv_in (v4 - (1 : Int32)) 30720 then (bif mv_in (w ((120 * m + p : Nat) : Int)) 1920 then (if (r.1 78 (120 * m + p)) ≤ (1 : Int32) then (kf137_145 N (w m) (w p) (w ((120 * m + p : Nat) : Int)) v4 (w (F.mb m p)) (w a) (r.1 79 (Int32.toNatClampNeg (v4 - (1 : Int32)))) (0 : Int32) r.1 r.2) else (bif mv_in (v4 - (2 : Int32)) 30720 then (kf137_145 N (w m) (w p) (w ((120 * m + p : Nat) : Int)) v4 (w (F.mb m p)) (w a) (r.1 79 (Int32.toNatClampNeg (v4 - (1 : Int32)))) (r.1 79 (Int32.toNatClampNeg (v4 - (2 : Int32)))) r.1 r.2) else none)) else none) else none)) else none) (Sm r.1) := by
    intro a ha h256
    refine Ok.bif' ik (Ok.ite' (fun _ => k120 a 0 ha h256 vz) (fun g => ?_))
    rw [Int32.le_iff_toInt_le, lt00, e78] at g
    have x1 : (v4 - (1 : Int32)).toInt = 16 * ((120 * m + p : Nat) : Int) + 7 + (J 78 (120 * m + p)).toInt := by rw [t_sub (by rw [lt01]; omega), lt01]; omega
    have en : Int32.toNatClampNeg (v4 - (1 : Int32)) = 16 * (120 * m + p) + (7 + (J 78 (120 * m + p)).toInt).toNat := by
      show (v4 - (1 : Int32)).toInt.toNat = _
      rw [x1]
      omega
    refine Ok.bif' (by rw [x1]; omega) (k120 a _ ha h256 ?_)
    rw [en]
    exact hv1 _ (by omega)
  have e00 : (0 : Int32) = w ((0 : Nat) : Int) := rfl
  refine Ok.ite' (fun _ => fin) (fun _ => Ok.bif' im (Ok.ite' (fun _ => Ok.bif' ik (Ok.eq (m_byte r.2 hF M1 hm hp1) (Ok.bif' im ?_))) (fun _ => fin)))
  rw [M1.v74 m hm, ix1]
  refine Ok.ite' (fun g => ?_) (fun g => ?_)
  · rw [Int32.le_iff_toInt_le, w_nti (by omega), w_nti (by omega)] at g
    exact up (k96 0 (fun z => by omega) (by decide))
  · rw [Int32.le_iff_toInt_le, w_nti (by omega), w_nti (by omega)] at g
    have hb := hF.mb256 m hm (p + 1) (by omega)
    exact Ok.eq (m_byte r.2 hF M1 hm (p := p + 1) (by omega)) (up (k96 _ (fun _ => rfl) hb))
end WG
