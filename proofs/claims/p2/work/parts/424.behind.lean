/-! The reference: what is known behind an INSTRUCTION. -/
theorem Ok.eq {α β : Type} {o : Option α} {x : α} {f : α → Option β} {Q : β → Prop} (h : o = some x) (k : Ok (f x) Q) : Ok (o.bind f) Q := by
  rw [h]
  exact k
/-- J0 but for what is next: KINDS that may be, a height of at most c -/
def pI (F : KF) (J0 : kjI) (c : Int) (J : kjI) : Prop := (∀ q j, q ≠ 80 → ¬ (q = 59 ∧ (j = 33 ∨ j = 34)) → J q j = J0 q j) ∧ (∀ i, i < 16 → vk F.nc (J 80 i)) ∧ 0 ≤ (J 59 33).toInt ∧ (J 59 33).toInt ≤ c
section BH
variable {F : KF} {L : kjL} {J J0 : kjI}
theorem pI.mv {c : Int} (h : pI F J0 c J) (hM : MV F J0) : MV F J := hM.keep (fun q _ _ _ j => h.1 q j (by omega) (by omega)) ⟨h.1 _ _ (by omega) (by omega), h.1 _ _ (by omega) (by omega), h.1 _ _ (by omega) (by omega)⟩
theorem pI.up33 {c c' : Int} (h : pI F J0 c J) {x : Int32} (hx : 0 ≤ x.toInt ∧ x.toInt ≤ c') : pI F J0 c' (mv_up J 59 33 x) := by
  refine ⟨fun q j h1 h2 => ?_, fun i hi => ?_, ?_⟩
  · rw [← h.1 q j h1 h2]
    unfold mv_up
    by_cases e : q = 59
    · rw [if_pos e, if_neg (fun z => h2 ⟨e, Or.inl z⟩)]
    · rw [if_neg e]
  · have e : (mv_up J 59 33 x) 80 i = J 80 i := by
      unfold mv_up
      rw [if_neg (by decide)]
    rw [e]
    exact h.2.1 i hi
  · rw [up_eq2]
    exact hx
theorem pI.up34 {c : Int} (h : pI F J0 c J) {x : Int32} : pI F J0 c (mv_up J 59 34 x) := by
  refine ⟨fun q j h1 h2 => ?_, fun i hi => ?_, ?_⟩
  · rw [← h.1 q j h1 h2]
    unfold mv_up
    by_cases e : q = 59
    · rw [if_pos e, if_neg (fun z => h2 ⟨e, Or.inr z⟩)]
    · rw [if_neg e]
  · have e : (mv_up J 59 34 x) 80 i = J 80 i := by
      unfold mv_up
      rw [if_neg (by decide)]
    rw [e]
    exact h.2.1 i hi
  · rw [up_ne2 (by decide)]
    exact h.2.2
theorem pI.up80 {c : Int} (h : pI F J0 c J) {j : Nat} {x : Int32} (hx : vk F.nc x) : pI F J0 c (mv_up J 80 j x) := by
  refine ⟨fun q j' h1 h2 => ?_, fun i hi => ?_, ?_⟩
  · rw [← h.1 q j' h1 h2]
    unfold mv_up
    rw [if_neg h1]
  · unfold mv_up
    rw [if_pos rfl]
    split
    · exact hx
    · exact h.2.1 i hi
  · have e : (mv_up J 80 j x) 59 33 = J 59 33 := by
      unfold mv_up
      rw [if_neg (by decide)]
    rw [e]
    exact h.2.2
theorem m130 (h : pI F J0 8 J) : Ok (kf130 J L) (fun r => pI F J0 8 r.2.1) := by
  unfold kf130
  have h3 := h.2.2
  refine Ok.ite' (fun n0 => ?_) (fun _ => Ok.some' h.up34)
  have hne : (J 59 33).toInt ≠ 0 := fun z => n0 (Int32.toInt_inj.mp (z.trans lt00.symm))
  have e : ((J 59 33) - (1 : Int32)).toInt = (J 59 33).toInt - 1 := by rw [t_sub (by rw [lt01]; omega), lt01]
  refine Ok.bif' ?_ (Ok.some' (h.up33 (by rw [e]; omega)))
  rw [up_eq2, t_add (by rw [lt08, e]; omega), lt08, e]
  omega
theorem m132_2 (N : Nat) {v1 : Int32} (h1 : v1.toInt ≤ 4) : ∀ (n : Nat) (v2 : Int32) (J : kjI) (L : kjL), pI F J0 8 J → v1.toInt - v2.toInt < n → 0 < n → Ok (kf132_2 N n v1 v2 J L) (fun r => pI F J0 8 r.1) := by
  intro n
  induction n with
  | zero => intro v2 J L _ _ h0; omega
  | succ n ih =>
    intro v2 J L h hn _
    unfold kf132_2
    refine Ok.ite' (fun _ => Ok.some' h) (fun g => Ok.bind' (m130 h) (fun r hr => ?_))
    rw [Int32.le_iff_toInt_le] at g
    have e := t_inc (x := v2) (m := 4) (by omega) (by omega)
    exact ih _ _ _ hr (by rw [e]; omega) (by omega)
theorem m132 {N : Nat} (hN : 300 ≤ N) {v1 : Int32} (h1 : v1.toInt ≤ 4) (h : pI F J0 8 J) : Ok (kf132 N v1 J L) (fun r => pI F J0 8 r.1) := by
  unfold kf132
  exact m132_2 N h1 N _ _ _ h (by rw [lt00]; omega) (by omega)
theorem m131 {c : Int} (hc : 0 ≤ c ∧ c ≤ 9) (h : pI F J0 c J) {v : Int32} (hv : vk F.nc v) : Ok (kf131 v J L) (fun r => pI F J0 (c + 1) r.1) := by
  unfold kf131 kf131_22
  have h3 := h.2.2
  have e : ((J 59 33) + (1 : Int32)).toInt = (J 59 33).toInt + 1 := by rw [t_add (by rw [lt01]; omega), lt01]
  refine Ok.ite' (fun _ => Ok.some' (h.up33 (by rw [e]; omega))) (fun g => Ok.bif' ?_ (Ok.some' ((h.up80 hv).up33 ?_)))
  · rw [Int32.le_iff_toInt_le, lt08] at g
    rw [t_add (by rw [lt08]; omega), lt08]
    omega
  · have e59 : (mv_up J 80 (Int32.toNatClampNeg ((8 : Int32) + (J 59 33))) v) 59 33 = J 59 33 := by
      unfold mv_up
      rw [if_neg (by decide)]
    rw [e59, e]
    omega
theorem m133 (hF : KFok F) (hM : MV F J) {m : Nat} (hm : m < F.nm) {p : Nat} (hp : p < F.mn m) (hG : Gd F m p) : Ok (kf133 J L (w m) (w p)) (fun r => 0 ≤ r.toInt ∧ r.toInt ≤ 4) := by
  have hb := hF.mb256 m hm p hp
  have h16 := hF.nm16
  have h8 := hF.ns8
  have e0 : (w ((F.mb m p : Nat) : Int)).toInt = F.mb m p := w_nti (by omega)
  unfold kf133 kf133_272 kf133_288
  refine Ok.eq (m_byte L hF hM hm hp) ?_
  have d : ∀ x : Int32, (0 ≤ x.toInt ∧ x.toInt ≤ 4) → Ok (some x) (fun r => 0 ≤ r.toInt ∧ r.toInt ≤ 4) := fun x h => Ok.some' h
  have d0 := d 0 (by decide)
  have d1 := d 1 (by decide)
  have d2 := d 2 (by decide)
  have d3 := d 3 (by decide)
  have tail : Ok (if w ((F.mb m p : Nat) : Int) < (28 : Int32) then (if w ((F.mb m p : Nat) : Int) < (22 : Int32) then (some (0 : Int32)) else (if (27 : Int32) < w ((F.mb m p : Nat) : Int) then (some (0 : Int32)) else (some (1 : Int32)))) else (if (33 : Int32) < w ((F.mb m p : Nat) : Int) then (if w ((F.mb m p : Nat) : Int) < (22 : Int32) then (some (0 : Int32)) else (if (27 : Int32) < w ((F.mb m p : Nat) : Int) then (some (0 : Int32)) else (some (1 : Int32)))) else (some (2 : Int32)))) (fun r => 0 ≤ r.toInt ∧ r.toInt ≤ 4) :=
    Ok.ite' (fun _ => Ok.ite' (fun _ => d0) (fun _ => Ok.ite' (fun _ => d0) (fun _ => d1))) (fun _ => Ok.ite' (fun _ => Ok.ite' (fun _ => d0) (fun _ => Ok.ite' (fun _ => d0) (fun _ => d1))) (fun _ => d2))
  refine Ok.ite' (fun _ => d1) (fun _ => Ok.ite' (fun _ => d2) (fun _ => Ok.ite' (fun _ => d3) (fun _ => Ok.ite' (fun c47 => ?_) (fun _ => Ok.ite' (fun c48 => ?_) (fun _ => Ok.ite' (fun _ => tail) (fun _ => Ok.ite' (fun _ => d2) (fun _ => tail)))))))
  · rw [e0] at c47
    have o : F.mb m p = 47 := by omega
    have l1 := op1_lt hG.1 (by omega)
    have a := hG.2.1.2.2.2.1 o
    have b := hF.mp4 _ a
    rw [ix1]
    refine Ok.eq (m_byte L hF hM hm l1) (Ok.bif' (by rw [w_nti (by omega)]; omega) (Ok.some' ?_))
    rw [w_nat (by omega), hM.v69 _ a, w_nti (by omega)]
    omega
  · rw [e0] at c48
    have o : F.mb m p = 48 := by omega
    have l1 := op1_lt hG.1 (by omega)
    have a := hG.2.1.2.2.2.2.1 o
    have b := hF.sp3 _ a
    rw [ix1]
    refine Ok.eq (m_byte L hF hM hm l1) (Ok.bif' (by rw [w_nti (by omega)]; omega) (Ok.some' ?_))
    have e : ((1 : Int32) + J 66 (Int32.toNatClampNeg (w ((F.mb m (p + 1) : Nat) : Int)))).toInt = 1 + F.sp (F.mb m (p + 1)) := by
      rw [w_nat (by omega), hM.v66 _ a, t_add (by rw [lt01, w_nti (by omega)]; omega), lt01, w_nti (by omega)]
    show 0 ≤ ((1 : Int32) + J 66 (Int32.toNatClampNeg (w ((F.mb m (p + 1) : Nat) : Int)))).toInt ∧ _
    rw [e]
    omega
theorem vk_ty {n t : Nat} {z : Bool} (h : tyOk n z t) (hn : n ≤ 8) : vk n (w t) := by
  have := ty_lt h hn
  rw [vk, w_nti (by omega)]
  unfold tyOk at h
  omega
/-- the INSTRUCTION's own change -/
theorem m134_140 (hF : KFok F) (hM : MV F J0) {N : Nat} (hN : 300 ≤ N) {m : Nat} (hm : m < F.nm) {p : Nat} (hp : p < F.mn m) (hG : Gd F m p) {a : Nat} (ha : p + 1 < F.mn m → a = F.mb m (p + 1)) {v6 s0 : Int32} (h6 : vk F.nc v6) (h0 : vk F.nc s0) (h : pI F J0 8 J) :
    Ok (kf134_140 N (w m) (w p) (w (F.mb m p)) (w a) v6 s0 J L) (fun r => pI F J0 10 r.1) := by
  have hb := hF.mb256 m hm p hp
  have h16 := hF.nm16
  have h8 := hF.ns8
  have hc := hF.nc8
  have e0 : (w ((F.mb m p : Nat) : Int)).toInt = F.mb m p := w_nti (by omega)
  have up10 : ∀ {c : Int} {J : kjI}, c ≤ 10 → pI F J0 c J → pI F J0 10 J := fun hc h => ⟨h.1, h.2.1, h.2.2.1, by have := h.2.2.2; omega⟩
  have v1 : vk F.nc (1 : Int32) := ⟨by decide, by rw [lt01]; omega⟩
  have v2 : vk F.nc (2 : Int32) := ⟨by decide, by rw [lt02]; omega⟩
  have v3 : vk F.nc (3 : Int32) := ⟨by decide, by rw [lt03]; omega⟩
  unfold kf134_140
  refine Ok.bind' (m133 hF (h.mv hM) hm hp hG) (fun r1 hr1 => Ok.bind' (m132 hN hr1.2 h) (fun r3 h3 => ?_))
  have M3 : MV F r3.1 := h3.mv hM
  have ps : ∀ v : Int32, vk F.nc v → Ok ((kf131 v r3.1 r3.2).bind fun r => some (r.1, r.2)) (fun r => pI F J0 10 r.1) := fun v hv => Ok.bind' (m131 (c := 8) (by decide) h3 hv) (fun r hr => Ok.some' (up10 (by decide) hr))
  have ps2 : ∀ v u : Int32, vk F.nc v → vk F.nc u → Ok ((kf131 v r3.1 r3.2).bind fun r => (kf131 u r.1 r.2).bind fun q => some (q.1, q.2)) (fun r => pI F J0 10 r.1) := fun v u hv hu => Ok.bind' (m131 (c := 8) (by decide) h3 hv) (fun r hr => Ok.bind' (m131 (c := 9) (by decide) hr hu) (fun q hq => Ok.some' (up10 (by decide) hq)))
  have st : Ok (some (r3.1, r3.2)) (fun r => pI F J0 10 r.1) := Ok.some' (up10 (by decide) h3)
  rw [e0]
  refine Ok.ite' (fun _ => ps _ v1) (fun _ => Ok.ite' (fun _ => ps _ v3) (fun _ => Ok.ite' (fun c3 => ?_) (fun _ => Ok.ite' (fun c4 => ?_) (fun _ => Ok.ite' (fun _ => ps2 _ _ h6 h6) (fun _ => Ok.ite' (fun _ => ps2 _ _ h6 h0) (fun _ => Ok.ite' (fun c38 => ?_) (fun _ => Ok.ite' (fun c39 => ?_) (fun _ => Ok.ite' (fun _ => ps _ v2) (fun _ => Ok.ite' (fun c47 => ?_) (fun _ => Ok.ite' (fun c48 => ?_) (fun _ => Ok.ite' (fun _ => st) (fun _ => Ok.ite' (fun _ => st) (fun _ => ps _ v1)))))))))))))
  · have o : F.mb m p = 3 := by omega
    have l1 := op1_lt hG.1 (by omega)
    have b := hG.2.1.1 (Or.inl o)
    have b8 := hF.ml8 m hm
    rw [← ha l1] at b
    refine Ok.bif' (by rw [w_nti (by omega)]; omega) (ps _ ?_)
    rw [w_nat (by omega)]
    exact h3.2.1 a (by omega)
  · have o : F.mb m p = 4 := by omega
    have l1 := op1_lt hG.1 (by omega)
    have b := hG.2.1.1 (Or.inr (Or.inl o))
    have b8 := hF.ml8 m hm
    rw [← ha l1] at b
    exact Ok.bif' (by rw [w_nti (by omega)]; omega) (Ok.some' (up10 (by decide) (h3.up80 h6)))
  · have o : F.mb m p = 38 ∨ F.mb m p = 46 := by omega
    have l1 := op1_lt hG.1 (by omega)
    have b := hG.2.1.2.1 (by omega)
    rw [← ha l1] at b
    refine ps _ ?_
    rw [vk, t_add (by rw [lt016, w_nti (by omega)]; omega), lt016, w_nti (by omega)]
    omega
  · have o : F.mb m p = 39 := by omega
    have l1 := op1_lt hG.1 (by omega)
    have l2 := op2_lt hG.1 (Or.inl o)
    have b := hG.2.1.2.2.1 (Or.inl o)
    have e2 : w ((p : Nat) : Int) + (2 : Int32) = w ((p + 2 : Nat) : Int) := by
      (simp only [w_lit, w_neg, w_add, w_sub, w_mul])
      congr 1
    rw [e2, ← ha l1] at *
    have b8 := hF.nf8 _ b.1
    have ty := hF.fty _ b.1 _ b.2
    refine Ok.eq (m_byte r3.2 hF M3 hm l2) ?_
    have ei : ((8 : Int32) * w (a : Int)) + w ((F.mb m (p + 2) : Nat) : Int) = w ((8 * a + F.mb m (p + 2) : Nat) : Int) := by
      (simp only [w_lit, w_neg, w_add, w_sub, w_mul])
      congr 1
    rw [ei]
    refine Ok.bif' (by rw [w_nti (by omega)]; omega) (ps _ ?_)
    rw [w_nat (by omega), M3.v65 a b.1 _ b.2]
    exact vk_ty ty hc
  · have o : F.mb m p = 47 := by omega
    have l1 := op1_lt hG.1 (by omega)
    have b := hG.2.1.2.2.2.1 o
    rw [← ha l1] at b
    have ty := hF.mrt a b
    have i16 : 0 ≤ (w (a : Int)).toInt ∧ (w (a : Int)).toInt < ((16 : Nat) : Int) := by rw [w_nti (by omega)]; omega
    refine Ok.bif' i16 (Ok.ite' (fun _ => st) (fun _ => Ok.bif' i16 (ps _ ?_)))
    rw [w_nat (by omega), M3.v71 a b]
    exact vk_ty ty hc
  · have o : F.mb m p = 48 := by omega
    have l1 := op1_lt hG.1 (by omega)
    have b := hG.2.1.2.2.2.2.1 o
    rw [← ha l1] at b
    have ty := hF.srt a b
    have i8 : 0 ≤ (w (a : Int)).toInt ∧ (w (a : Int)).toInt < ((8 : Nat) : Int) := by rw [w_nti (by omega)]; omega
    refine Ok.bif' i8 (Ok.ite' (fun _ => st) (fun _ => Ok.bif' i8 (ps _ ?_)))
    rw [w_nat (by omega), M3.v68 a b]
    exact vk_ty ty hc
theorem m134_114 (hF : KFok F) (hM : MV F J0) {N : Nat} (hN : 300 ≤ N) {m : Nat} (hm : m < F.nm) {p : Nat} (hp : p < F.mn m) (hG : Gd F m p) {a : Nat} (ha : p + 1 < F.mn m → a = F.mb m (p + 1)) {s0 : Int32} (h0 : vk F.nc s0) (h : pI F J0 8 J) :
    Ok (kf134_114 N (w m) (w p) (w (F.mb m p)) (w a) s0 J L) (fun r => pI F J0 10 r.1) := by
  unfold kf134_114
  have h3 := h.2.2
  refine Ok.ite' (fun _ => m134_140 hF hM hN hm hp hG ha h0 ⟨by decide, by rw [lt00]; omega⟩ h) (fun g => ?_)
  rw [Int32.le_iff_toInt_le, lt01] at g
  have e : ((6 : Int32) + J 59 33).toInt = 6 + (J 59 33).toInt := by rw [t_add (by rw [lt06]; omega), lt06]
  refine Ok.bif' (by rw [e]; omega) (m134_140 hF hM hN hm hp hG ha h0 (h.2.1 _ ?_) h)
  show ((6 : Int32) + J 59 33).toInt.toNat < 16
  rw [e]
  omega
theorem m134_44 (hF : KFok F) (hM : MV F J0) {N : Nat} (hN : 300 ≤ N) {m : Nat} (hm : m < F.nm) {p : Nat} (hp : p < F.mn m) (hG : Gd F m p) {a : Nat} (ha : p + 1 < F.mn m → a = F.mb m (p + 1)) (h78 : 0 ≤ (J0 78 (120 * m + p)).toInt ∧ (J0 78 (120 * m + p)).toInt ≤ 8) (hv : ∀ i, i < 16 → vk F.nc (J0 79 (16 * (120 * m + p) + i))) :
    ∀ (n i : Nat) (J : kjI) (L : kjL), 16 - i < n → i ≤ 16 → (∀ q j, q ≠ 80 → J q j = J0 q j) → (∀ i', i' < 16 → vk F.nc (J 80 i')) → Ok (kf134_44 N n (w m) (w p) (w ((120 * m + p : Nat) : Int)) (w (F.mb m p)) (w a) (w i) J L) (fun r => pI F J0 10 r.1) := by
  have h16 := hF.nm16
  have hn := hF.mn120 m hm
  intro n
  induction n with
  | zero => intro i J L h; omega
  | succ n ih =>
    intro i J L hni hi hfr hnx
    unfold kf134_44
    have ti : (w (i : Int)).toInt = i := w_nti (by omega)
    rw [w_nat (z := 120 * m + p) (by omega), w_nat (z := i) (by omega), ix16, w_nat (z := 16 * (120 * m + p) + i) (by omega)]
    refine Ok.ite' (fun _ => Ok.bif' (by rw [w_nti (by omega)]; omega) ?_) (fun g => ?_)
    · have e78 : J 78 (120 * m + p) = J0 78 (120 * m + p) := hfr _ _ (by omega)
      have hp0 : pI F J0 8 (mv_up (mv_up J 59 33 (J 78 (120 * m + p))) 59 34 (0 : Int32)) := by
        refine pI.up34 ⟨fun q j h1 h2 => ?_, fun i' hi' => ?_, ?_⟩
        · rw [← hfr q j h1]
          unfold mv_up
          by_cases e : q = 59
          · rw [if_pos e, if_neg (fun z => h2 ⟨e, Or.inl z⟩)]
          · rw [if_neg e]
        · have e : (mv_up J 59 33 (J 78 (120 * m + p))) 80 i' = J 80 i' := by
            unfold mv_up
            rw [if_neg (by decide)]
          rw [e]
          exact hnx i' hi'
        · rw [up_eq2, e78]
          exact h78
      generalize mv_up (mv_up J 59 33 (J 78 (120 * m + p))) 59 34 (0 : Int32) = A at hp0 ⊢
      have h3 := hp0.2.2
      refine Ok.ite' (fun _ => m134_114 hF hM hN hm hp hG ha ⟨by decide, by rw [lt00]; omega⟩ hp0) (fun g => ?_)
      rw [Int32.le_iff_toInt_le, lt00] at g
      have e : ((7 : Int32) + A 59 33).toInt = 7 + (A 59 33).toInt := by rw [t_add (by rw [lt07]; omega), lt07]
      refine Ok.bif' (by rw [e]; omega) (m134_114 hF hM hN hm hp hG ha (hp0.2.1 _ ?_) hp0)
      show ((7 : Int32) + A 59 33).toInt.toNat < 16
      rw [e]
      omega
    · rw [Int32.le_iff_toInt_le, lt016, ti] at g
      rw [ix1]
      refine Ok.bif' (by rw [w_nti (by omega)]; omega) (Ok.bif' (by rw [ti]; omega) (ih (i + 1) _ _ (by omega) (by omega) (fun q j h1 => ?_) (fun i' hi' => ?_)))
      · unfold mv_up
        rw [if_neg h1]
        exact hfr q j h1
      · unfold mv_up
        rw [if_pos rfl]
        split
        · rw [hfr _ _ (by omega)]
          exact hv i (by omega)
        · exact hnx i' hi'
/-- behind -/
theorem m134 (hF : KFok F) {N : Nat} (hN : 300 ≤ N) {m : Nat} (hm : m < F.nm) {p : Nat} (hp : p < F.mn m) (hG : Gd F m p) (hM : MV F J) (hnx : ∀ i, i < 16 → vk F.nc (J 80 i)) (h78 : 0 ≤ (J 78 (120 * m + p)).toInt ∧ (J 78 (120 * m + p)).toInt ≤ 8) (hv : ∀ i, i < 16 → vk F.nc (J 79 (16 * (120 * m + p) + i))) : Ok (kf134 N (w m) (w p) J L) (fun r => pI F J 10 r.1) := by
  have h16 := hF.nm16
  have hn := hF.mn120 m hm
  unfold kf134 kf134_39
  refine Ok.eq (m_byte L hF hM hm hp) (Ok.bif' (by rw [w_nti (by omega)]; omega) ?_)
  rw [w_nat (z := m) (by omega), hM.v74 m hm, ix120, ix1]
  have e00 : (0 : Int32) = w ((0 : Nat) : Int) := rfl
  refine Ok.ite' (fun g => ?_) (fun g => ?_)
  · rw [Int32.le_iff_toInt_le, w_nti (by omega), w_nti (by omega)] at g
    rw [e00]
    exact m134_44 hF hM hN hm hp hG (a := 0) (fun z => by omega) h78 hv N 0 J L (by omega) (by omega) (fun _ _ _ => rfl) hnx
  · rw [Int32.le_iff_toInt_le, w_nti (by omega), w_nti (by omega)] at g
    refine Ok.eq (m_byte L hF hM hm (p := p + 1) (by omega)) ?_
    rw [e00]
    exact m134_44 hF hM hN hm hp hG (fun _ => rfl) h78 hv N 0 J L (by omega) (by omega) (fun _ _ _ => rfl) hnx
end BH
