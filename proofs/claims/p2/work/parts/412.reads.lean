/-! The Book's questions are answered, whatever is asked. -/
section RDS
variable {b : Bool} {Z I : kjI} {L : kjL}
abbrev R0 (lo hi : Int) (r : Int32) : Prop := lo ≤ r.toInt ∧ r.toInt ≤ hi
theorem s32 (h : wP b Z I) (v : Int32) : Ok (kf32 b I L v) (fun r => 0 ≤ r.toInt ∧ r.toInt ≤ 120 ∧ (0 < r.toInt → 0 ≤ v.toInt ∧ v.toInt < 16)) := by
  have h1 := h.nm
  have h2 := h.ln (Int32.toNatClampNeg v)
  unfold kf32
  repeat' (first
    | exact Ok.some' trivial
    | refine Ok.ret01 ?_ ?_
    | refine Ok.bif' ?_ ?_
    | refine Ok.ite' (fun _ => ?_) (fun _ => ?_)
    | refine Ok.some' ?_)
  all_goals ((try simp only [Int32.lt_iff_toInt_lt, Int32.le_iff_toInt_le, cR, lt00, lt01, lt02, lt03, lt04, lt05, lt06, lt07, lt08, lt015, lt016, lt020, lt021, lt033, lt035, lt037, lt041, lt048, lt049, lt050, lt051, lt053, lt054, lt099, lt0100, lt0120, lt0255, lt01500, lt01000000, ltm1] at *); omega)
theorem s30 (h : wP b Z I) (v : Int32) : Ok (kf30 b I L v) (fun r => 0 ≤ r.toInt ∧ r.toInt ≤ 8) := by
  have h1 := h.nm
  have h2 := h.lo (Int32.toNatClampNeg v)
  unfold kf30
  repeat' (first
    | exact Ok.some' trivial
    | refine Ok.ret01 ?_ ?_
    | refine Ok.bif' ?_ ?_
    | refine Ok.ite' (fun _ => ?_) (fun _ => ?_)
    | refine Ok.some' ?_)
  all_goals ((try simp only [Int32.lt_iff_toInt_lt, Int32.le_iff_toInt_le, cR, lt00, lt01, lt02, lt03, lt04, lt05, lt06, lt07, lt08, lt015, lt016, lt020, lt021, lt033, lt035, lt037, lt041, lt048, lt049, lt050, lt051, lt053, lt054, lt099, lt0100, lt0120, lt0255, lt01500, lt01000000, ltm1] at *); omega)
theorem s31 (h : wP b Z I) (v : Int32) : Ok (kf31 b I L v) (fun r => 0 ≤ r.toInt ∧ r.toInt ≤ 8) := by
  have h1 := h.nm
  have h2 := h.sk (Int32.toNatClampNeg v)
  unfold kf31
  repeat' (first
    | exact Ok.some' trivial
    | refine Ok.ret01 ?_ ?_
    | refine Ok.bif' ?_ ?_
    | refine Ok.ite' (fun _ => ?_) (fun _ => ?_)
    | refine Ok.some' ?_)
  all_goals ((try simp only [Int32.lt_iff_toInt_lt, Int32.le_iff_toInt_le, cR, lt00, lt01, lt02, lt03, lt04, lt05, lt06, lt07, lt08, lt015, lt016, lt020, lt021, lt033, lt035, lt037, lt041, lt048, lt049, lt050, lt051, lt053, lt054, lt099, lt0100, lt0120, lt0255, lt01500, lt01000000, ltm1] at *); omega)
theorem s33 (h : wP b Z I) (v1 v2 : Int32) : Ok (kf33 b I L v1 v2) (fun r => 0 ≤ r.toInt → 0 ≤ v2.toInt ∧ v2.toInt < 120) := by
  unfold kf33
  repeat' (first
    | exact Ok.some' trivial
    | refine Ok.bind' (s32 h v1) (fun r ⟨_, _, _⟩ => ?_)
    | refine Ok.ret01 ?_ ?_
    | refine Ok.bif' ?_ ?_
    | refine Ok.ite' (fun _ => ?_) (fun _ => ?_)
    | refine Ok.some' ?_)
  all_goals ((try simp only [Int32.lt_iff_toInt_lt, Int32.le_iff_toInt_le, cR, lt00, lt01, lt02, lt03, lt04, lt05, lt06, lt07, lt08, lt015, lt016, lt020, lt021, lt033, lt035, lt037, lt041, lt048, lt049, lt050, lt051, lt053, lt054, lt099, lt0100, lt0120, lt0255, lt01500, lt01000000, ltm1] at *); omega)
theorem s66 (h : wP b Z I) (v1 v2 : Int32) : Ok (kf66 b I L v1 v2) (fun r => r = 0 ∨ r = 1) := by
  unfold kf66
  repeat' (first
    | exact Ok.some' trivial
    | refine Ok.bind' (s33 h v1 v2) (fun _ _ => ?_)
    | refine Ok.ret01 ?_ ?_
    | refine Ok.bif' ?_ ?_
    | refine Ok.ite' (fun _ => ?_) (fun _ => ?_)
    | refine Ok.some' ?_)
  all_goals (first | ((try simp only [Int32.lt_iff_toInt_lt, Int32.le_iff_toInt_le, cR, lt00, lt01, lt02, lt03, lt04, lt05, lt06, lt07, lt08, lt015, lt016, lt020, lt021, lt033, lt035, lt037, lt041, lt048, lt049, lt050, lt051, lt053, lt054, lt099, lt0100, lt0120, lt0255, lt01500, lt01000000, ltm1] at *); omega) | simp)
theorem s78 (h : wP b Z I) (v1 v2 : Int32) : Ok (kf78 b I L v1 v2) (fun r => -128 ≤ r.toInt ∧ r.toInt ≤ 127) := by
  have h1 := h.hh
  unfold kf78
  repeat' (first
    | exact Ok.some' trivial
    | refine Ok.bind' (s33 h v1 v2) (fun _ _ => ?_)
    | refine Ok.ret01 ?_ ?_
    | refine Ok.bif' ?_ ?_
    | refine Ok.ite' (fun _ => ?_) (fun _ => ?_)
    | refine Ok.some' ?_)
  all_goals (first | exact h1 _ | ((try simp only [Int32.lt_iff_toInt_lt, Int32.le_iff_toInt_le, cR, lt00, lt01, lt02, lt03, lt04, lt05, lt06, lt07, lt08, lt015, lt016, lt020, lt021, lt033, lt035, lt037, lt041, lt048, lt049, lt050, lt051, lt053, lt054, lt099, lt0100, lt0120, lt0255, lt01500, lt01000000, ltm1] at *); omega))
theorem s81 (h : wP b Z I) (v1 v2 : Int32) : Ok (kf81 b I L v1 v2) (fun _ => True) := by
  unfold kf81 kf81_32
  repeat' (first
    | exact Ok.some' trivial
    | refine Ok.bind' (s33 h v1 v2) (fun _ _ => ?_)
    | refine Ok.ret01 ?_ ?_
    | refine Ok.bif' ?_ ?_
    | refine Ok.ite' (fun _ => ?_) (fun _ => ?_)
    | refine Ok.some' ?_)
  all_goals ((try simp only [Int32.lt_iff_toInt_lt, Int32.le_iff_toInt_le, cR, lt00, lt01, lt02, lt03, lt04, lt05, lt06, lt07, lt08, lt015, lt016, lt020, lt021, lt033, lt035, lt037, lt041, lt048, lt049, lt050, lt051, lt053, lt054, lt099, lt0100, lt0120, lt0255, lt01500, lt01000000, ltm1] at *); omega)
theorem s98 (v0 : Int64) (v2 : Int32) : Ok (kf98 I L v0 v2) (fun r => 0 ≤ r.toInt ∧ r.toInt ≤ 26) := by
  unfold kf98
  generalize Int64.toInt32 (((Int64.toUInt64 v0) >>> (Int64.toUInt64 (Int32.toInt64 ((4 : Int32) * v2)) &&& Int64.toUInt64 63)).toInt64) = x
  have h := t_and15 x
  refine Ok.ite' (fun h1 => Ok.some' ?_) (fun h1 => Ok.some' ?_)
  · generalize x &&& (15 : Int32) = y at h h1
    have e1 : (y + (15 : Int32)).toInt = y.toInt + 15 := t_add (by rw [lt015]; omega)
    have e2 : (y + (15 : Int32) - (3 : Int32)).toInt = y.toInt + 12 := by rw [t_sub (by rw [e1, lt03]; omega), e1, lt03]; omega
    have e3 : (y + (15 : Int32) - (3 : Int32) - (1 : Int32)).toInt = y.toInt + 11 := by rw [t_sub (by rw [e2, lt01]; omega), e2, lt01]; omega
    show 0 ≤ (y + (15 : Int32) - (3 : Int32) - (1 : Int32)).toInt ∧ _
    rw [e3]
    omega
  · show 0 ≤ (x &&& (15 : Int32)).toInt ∧ _
    omega
theorem s80 (h : wP b Z I) (v1 v2 v3 : Int32) : Ok (kf80 b I L v1 v2 v3) (fun _ => True) := by
  unfold kf80
  repeat' (first
    | exact Ok.some' trivial
    | refine Ok.bind' (s81 h v1 v2) (fun _ _ => ?_)
    | refine Ok.bind' (s98 _ _) (fun _ _ => ?_)
    | refine Ok.ret01 ?_ ?_
    | refine Ok.bif' ?_ ?_
    | refine Ok.ite' (fun _ => ?_) (fun _ => ?_)
    | refine Ok.some' ?_)
theorem s4 (h : wP b Z I) (v1 v2 v3 : Int32) : Ok (kf4 b I L v1 v2 v3) (fun _ => True) := by
  unfold kf4 kf4_72
  repeat' (first
    | exact Ok.some' trivial
    | refine Ok.bind' (s66 h v1 v2) (fun _ _ => ?_)
    | refine Ok.bind' (s78 h v1 v2) (fun _ _ => ?_)
    | refine Ok.bind' (s30 h v1) (fun _ _ => ?_)
    | refine Ok.bind' (s80 h v1 v2 _) (fun _ _ => ?_)
    | refine Ok.ret01 ?_ ?_
    | refine Ok.bif' ?_ ?_
    | refine Ok.ite' (fun _ => ?_) (fun _ => ?_)
    | refine Ok.some' ?_)
theorem s22 (h : wP b Z I) (v : Int32) : Ok (kf22 b I L v) (fun r => -1 ≤ r.toInt ∧ r.toInt ≤ 255) := by
  have h1 := h.len
  have h2 := t_and255 (I (kb b 3) (Int32.toNatClampNeg v))
  unfold kf22
  repeat' (first
    | exact Ok.some' trivial
    | refine Ok.ret01 ?_ ?_
    | refine Ok.bif' ?_ ?_
    | refine Ok.ite' (fun _ => ?_) (fun _ => ?_)
    | refine Ok.some' ?_)
  all_goals ((try simp only [Int32.lt_iff_toInt_lt, Int32.le_iff_toInt_le, cR, lt00, lt01, lt02, lt03, lt04, lt05, lt06, lt07, lt08, lt015, lt016, lt020, lt021, lt033, lt035, lt037, lt041, lt048, lt049, lt050, lt051, lt053, lt054, lt099, lt0100, lt0120, lt0255, lt01500, lt01000000, ltm1] at *); omega)
theorem s67 (h : wP b Z I) (v1 v2 v3 : Int32) : Ok (kf67 b I L v1 v2 v3) (fun r => -1 ≤ r.toInt ∧ r.toInt ≤ 255) := by
  unfold kf67
  repeat' (first
    | exact Ok.some' trivial
    | refine Ok.bind' (s33 h v1 _) (fun _ _ => ?_)
    | refine Ok.bind' (s22 h _) (fun _ ⟨_, _⟩ => ?_)
    | refine Ok.ret01 ?_ ?_
    | refine Ok.bif' ?_ ?_
    | refine Ok.ite' (fun _ => ?_) (fun _ => ?_)
    | refine Ok.some' ?_)
  all_goals ((try simp only [Int32.lt_iff_toInt_lt, Int32.le_iff_toInt_le, cR, lt00, lt01, lt02, lt03, lt04, lt05, lt06, lt07, lt08, lt015, lt016, lt020, lt021, lt033, lt035, lt037, lt041, lt048, lt049, lt050, lt051, lt053, lt054, lt099, lt0100, lt0120, lt0255, lt01500, lt01000000, ltm1] at *); omega)
theorem s52 (h : wP b Z I) (v : Int32) : Ok (kf52 b I L v) (fun _ => True) := by
  have h1 := h.nm
  unfold kf52
  repeat' (first
    | exact Ok.some' trivial
    | refine Ok.ret01 ?_ ?_
    | refine Ok.bif' ?_ ?_
    | refine Ok.ite' (fun _ => ?_) (fun _ => ?_)
    | refine Ok.some' ?_)
  all_goals ((try simp only [Int32.lt_iff_toInt_lt, Int32.le_iff_toInt_le, cR, lt00, lt01, lt02, lt03, lt04, lt05, lt06, lt07, lt08, lt015, lt016, lt020, lt021, lt033, lt035, lt037, lt041, lt048, lt049, lt050, lt051, lt053, lt054, lt099, lt0100, lt0120, lt0255, lt01500, lt01000000, ltm1] at *); omega)
theorem s52a (h : wP b Z I) (v : Int32) : Ok (kf52a b I L v) (fun _ => True) := by
  have h1 := h.ns
  unfold kf52a
  repeat' (first
    | exact Ok.some' trivial
    | refine Ok.ret01 ?_ ?_
    | refine Ok.bif' ?_ ?_
    | refine Ok.ite' (fun _ => ?_) (fun _ => ?_)
    | refine Ok.some' ?_)
  all_goals ((try simp only [Int32.lt_iff_toInt_lt, Int32.le_iff_toInt_le, cR, lt00, lt01, lt02, lt03, lt04, lt05, lt06, lt07, lt08, lt015, lt016, lt020, lt021, lt033, lt035, lt037, lt041, lt048, lt049, lt050, lt051, lt053, lt054, lt099, lt0100, lt0120, lt0255, lt01500, lt01000000, ltm1] at *); omega)
theorem tb1 (n : Nat) : 0 ≤ ((kjSta 1).getD n 0).toInt ∧ ((kjSta 1).getD n 0).toInt ≤ 3 := by
  have key : ∀ x ∈ kjSta 1, 0 ≤ x.toInt ∧ x.toInt ≤ 3 := by decide
  rw [List.getD_eq_getElem?_getD]
  cases h : (kjSta 1)[n]? with
  | none => exact ⟨by decide, by decide⟩
  | some x => exact key x (List.mem_of_getElem? h)
theorem tb2 (n : Nat) : 0 ≤ ((kjSta 2).getD n 0).toInt ∧ ((kjSta 2).getD n 0).toInt ≤ 2 := by
  have key : ∀ x ∈ kjSta 2, 0 ≤ x.toInt ∧ x.toInt ≤ 2 := by decide
  rw [List.getD_eq_getElem?_getD]
  cases h : (kjSta 2)[n]? with
  | none => exact ⟨by decide, by decide⟩
  | some x => exact key x (List.mem_of_getElem? h)
theorem s70 (h : wP b Z I) (v1 v2 : Int32) : Ok (kf70 b I L v1 v2) (fun r => 0 ≤ r.toInt ∧ r.toInt ≤ 2) := by
  have h1 := tb2 (Int32.toNatClampNeg v1)
  unfold kf70
  repeat' (first
    | exact Ok.some' trivial
    | refine Ok.bind' (s52 h v2) (fun _ _ => ?_)
    | refine Ok.bind' (s52a h v2) (fun _ _ => ?_)
    | refine Ok.ret01 ?_ ?_
    | refine Ok.bif' ?_ ?_
    | refine Ok.ite' (fun _ => ?_) (fun _ => ?_)
    | refine Ok.some' ?_)
  all_goals (first | exact h1 | ((try simp only [Int32.lt_iff_toInt_lt, Int32.le_iff_toInt_le, cR, lt00, lt01, lt02, lt03, lt04, lt05, lt06, lt07, lt08, lt015, lt016, lt020, lt021, lt033, lt035, lt037, lt041, lt048, lt049, lt050, lt051, lt053, lt054, lt099, lt0100, lt0120, lt0255, lt01500, lt01000000, ltm1] at *); omega))
theorem s50 (h : wP b Z I) (v : Int32) : Ok (kf50 b I L v) (fun r => 0 ≤ r.toInt ∧ r.toInt ≤ 4 ∧ (0 < r.toInt → 0 ≤ v.toInt ∧ v.toInt < 16)) := by
  have h1 := h.nm
  have h2 := h.mc (Int32.toNatClampNeg v)
  unfold kf50
  repeat' (first
    | exact Ok.some' trivial
    | refine Ok.ret01 ?_ ?_
    | refine Ok.bif' ?_ ?_
    | refine Ok.ite' (fun _ => ?_) (fun _ => ?_)
    | refine Ok.some' ?_)
  all_goals ((try simp only [Int32.lt_iff_toInt_lt, Int32.le_iff_toInt_le, cR, lt00, lt01, lt02, lt03, lt04, lt05, lt06, lt07, lt08, lt015, lt016, lt020, lt021, lt033, lt035, lt037, lt041, lt048, lt049, lt050, lt051, lt053, lt054, lt099, lt0100, lt0120, lt0255, lt01500, lt01000000, ltm1] at *); omega)
theorem s50a (h : wP b Z I) (v : Int32) : Ok (kf50a b I L v) (fun r => 0 ≤ r.toInt ∧ r.toInt ≤ 4 ∧ (0 < r.toInt → 0 ≤ v.toInt ∧ v.toInt < 16)) := by
  have h1 := h.ns
  have h2 := h.sc (Int32.toNatClampNeg v)
  unfold kf50a
  repeat' (first
    | exact Ok.some' trivial
    | refine Ok.ret01 ?_ ?_
    | refine Ok.bif' ?_ ?_
    | refine Ok.ite' (fun _ => ?_) (fun _ => ?_)
    | refine Ok.some' ?_)
  all_goals ((try simp only [Int32.lt_iff_toInt_lt, Int32.le_iff_toInt_le, cR, lt00, lt01, lt02, lt03, lt04, lt05, lt06, lt07, lt08, lt015, lt016, lt020, lt021, lt033, lt035, lt037, lt041, lt048, lt049, lt050, lt051, lt053, lt054, lt099, lt0100, lt0120, lt0255, lt01500, lt01000000, ltm1] at *); omega)
theorem s69 (h : wP b Z I) (v1 v2 : Int32) : Ok (kf69 b I L v1 v2) (fun r => 0 ≤ r.toInt ∧ r.toInt ≤ 5) := by
  have h1 := tb1 (Int32.toNatClampNeg v1)
  unfold kf69
  refine Ok.ite' (fun _ => Ok.some' (by decide)) (fun g1 => Ok.ite' (fun g2 => Ok.ite' (fun _ => Ok.ite' (fun _ => Ok.bif' ?_ (Ok.some' ?_)) (fun _ => ?_)) (fun _ => ?_)) (fun _ => Ok.some' (by decide)))
  · (try simp only [Int32.lt_iff_toInt_lt, Int32.le_iff_toInt_le, cR, lt00, lt01, lt02, lt03, lt04, lt05, lt06, lt07, lt08, lt015, lt016, lt020, lt021, lt033, lt035, lt037, lt041, lt048, lt049, lt050, lt051, lt053, lt054, lt099, lt0100, lt0120, lt0255, lt01500, lt01000000, ltm1] at *)
    omega
  · exact ⟨h1.1, by omega⟩
  · refine Ok.bind' (s50a h v2) (fun r ⟨g3, g4, _⟩ => Ok.some' ?_)
    have e : ((1 : Int32) + r).toInt = 1 + r.toInt := t_add (by rw [lt01]; omega)
    show 0 ≤ ((1 : Int32) + r).toInt ∧ _
    rw [e]
    omega
  · refine Ok.bind' (s50 h v2) (fun r ⟨g3, g4, _⟩ => Ok.some' ⟨g3, by omega⟩)
theorem s68 (h : wP b Z I) (v1 v2 : Int32) : Ok (kf68 b I L v1 v2) (fun _ => True) := by
  unfold kf68 kf68_51
  repeat' (first
    | exact Ok.some' trivial
    | refine Ok.bind' (s67 h v1 v2 _) (fun _ ⟨_, _⟩ => ?_)
    | refine Ok.bind' (s32 h v1) (fun _ _ => ?_)
    | refine Ok.ret01 ?_ ?_
    | refine Ok.bif' ?_ ?_
    | refine Ok.ite' (fun _ => ?_) (fun _ => ?_)
    | refine Ok.some' ?_)
  all_goals ((try simp only [Int32.lt_iff_toInt_lt, Int32.le_iff_toInt_le, cR, lt00, lt01, lt02, lt03, lt04, lt05, lt06, lt07, lt08, lt015, lt016, lt020, lt021, lt033, lt035, lt037, lt041, lt048, lt049, lt050, lt051, lt053, lt054, lt099, lt0100, lt0120, lt0255, lt01500, lt01000000, ltm1] at *); omega)
theorem s15 (h : wP b Z I) (v1 v2 : Int32) : Ok (kf15 b I L v1 v2) (fun r => r = 0 ∨ r = 1) := by
  unfold kf15
  repeat' (first
    | exact Ok.some' trivial
    | refine Ok.bind' (s78 h v1 v2) (fun _ _ => ?_)
    | refine Ok.ret01 ?_ ?_
    | refine Ok.bif' ?_ ?_
    | refine Ok.ite' (fun _ => ?_) (fun _ => ?_)
    | refine Ok.some' ?_)
  all_goals simp
theorem s73 (h : wP b Z I) (v1 v2 : Int32) : Ok (kf73 b I L v1 v2) (fun r => 0 ≤ r.toInt ∧ r.toInt ≤ 256) := by
  unfold kf73
  refine Ok.bind' (s67 h v1 v2 _) (fun r ⟨g1, g2⟩ => Ok.ite' (fun _ => ?_) (fun _ => Ok.bind' (s67 h v1 v2 _) (fun r2 ⟨g3, g4⟩ => Ok.some' ?_)))
  · repeat' (first
      | exact Ok.some' trivial
      | refine Ok.ret01 ?_ ?_
      | refine Ok.bif' ?_ ?_
      | refine Ok.ite' (fun _ => ?_) (fun _ => ?_)
      | refine Ok.some' ?_)
    all_goals decide
  · have e : (r2 + (1 : Int32)).toInt = r2.toInt + 1 := t_add (by rw [lt01]; omega)
    show 0 ≤ (r2 + (1 : Int32)).toInt ∧ _
    rw [e]
    omega
theorem s74 (h : wP b Z I) (v1 v2 v3 : Int32) : Ok (kf74 b I L v1 v2 v3) (fun _ => True) := by
  unfold kf74 kf74_24
  repeat' (first
    | exact Ok.some' trivial
    | refine Ok.bind' (s67 h _ _ _) (fun _ _ => ?_)
    | refine Ok.ret01 ?_ ?_
    | refine Ok.bif' ?_ ?_
    | refine Ok.ite' (fun _ => ?_) (fun _ => ?_)
    | refine Ok.some' ?_)
theorem s75 (h : wP b Z I) (v1 v2 : Int32) : Ok (kf75 b I L v1 v2) (fun _ => True) := by
  unfold kf75
  repeat' (first
    | exact Ok.some' trivial
    | refine Ok.bind' (s67 h _ _ _) (fun _ _ => ?_)
    | refine Ok.ret01 ?_ ?_
    | refine Ok.bif' ?_ ?_
    | refine Ok.ite' (fun _ => ?_) (fun _ => ?_)
    | refine Ok.some' ?_)
/-- one more, where there is room -/
theorem t_inc {x : Int32} {m : Int} (h : x.toInt < m) (hm : m ≤ 2147483647) : (x + (1 : Int32)).toInt = x.toInt + 1 := t_add (by have := rg x; rw [lt01]; omega)
theorem s76_11 (h : wP b Z I) (N : Nat) (v1 v2 v3 v4 : Int32) (h4 : v4.toInt ≤ 256) : ∀ (n : Nat) (v5 : Int32), v4.toInt - v5.toInt < n → 0 < n → Ok (kf76_11 b N I L n v1 v2 v3 v4 v5) (fun _ => True) := by
  intro n
  induction n with
  | zero => intro v5 _ h0; omega
  | succ n ih =>
    intro v5 hn _
    unfold kf76_11
    refine Ok.ite' (fun g1 => ?_) (fun g1 => Ok.bind' (s74 h v1 v2 v5) (fun r _ => Ok.ite' (fun _ => ?_) (fun _ => Ok.some' trivial)))
    · repeat' (first
        | exact Ok.some' trivial
        | refine Ok.bind' (s75 h v1 v2) (fun _ _ => ?_)
        | refine Ok.bind' (s68 h v1 v2) (fun _ _ => ?_)
        | refine Ok.ret01 ?_ ?_
        | refine Ok.bif' ?_ ?_
        | refine Ok.ite' (fun _ => ?_) (fun _ => ?_)
        | refine Ok.some' ?_)
    · rw [Int32.le_iff_toInt_le] at g1
      have e := t_inc (x := v5) (m := 256) (by omega) (by omega)
      exact ih _ (by rw [e]; omega) (by omega)
theorem s76 (h : wP b Z I) {N : Nat} (hN : 300 ≤ N) (v1 v2 v3 : Int32) : Ok (kf76 b N I L v1 v2 v3) (fun _ => True) := by
  unfold kf76
  refine Ok.bind' (s73 h v1 v2) (fun r ⟨g1, g2⟩ => s76_11 h N v1 v2 v3 r g2 N _ ?_ (by omega))
  rw [lt00]
  omega
theorem s6_43 (h : wP b Z I) {N : Nat} (hN : 300 ≤ N) (v1 v2 v4 : Int32) (h4 : v4.toInt ≤ 120) : ∀ (n : Nat) (v3 v5 : Int32), v4.toInt - v5.toInt < n → 0 < n → Ok (kf6_43 b N I L n v1 v2 v3 v4 v5) (fun _ => True) := by
  intro n
  induction n with
  | zero => intro v3 v5 _ h0; omega
  | succ n ih =>
    intro v3 v5 hn _
    unfold kf6_43 kf6_80
    refine Ok.ite' (fun g1 => Ok.some' trivial) (fun g1 => ?_)
    rw [Int32.le_iff_toInt_le] at g1
    have e := t_inc (x := v5) (m := 120) (by omega) (by omega)
    have k : ∀ v3, Ok (kf6_43 b N I L n v1 v2 v3 v4 (v5 + (1 : Int32))) (fun _ => True) := fun v3 => ih v3 _ (by rw [e]; omega) (by omega)
    exact Ok.bind' (s15 h v1 v5) (fun r _ => Ok.ite' (fun _ => k _) (fun _ => Ok.bind' (s76 h hN v1 v5 v2) (fun r5 _ => Ok.ite' (fun _ => k _) (fun _ => k _))))
theorem s6 (h : wP b Z I) {N : Nat} (hN : 300 ≤ N) (v1 v2 : Int32) : Ok (kf6 b N I L v1 v2) (fun _ => True) := by
  unfold kf6 kf6_26
  have k : ∀ s0, Ok ((kf32 b I L v1).bind fun r1 => kf6_43 b N I L N v1 v2 s0 r1 (0 : Int32)) (fun _ => True) := fun s0 => Ok.bind' (s32 h v1) (fun r ⟨g1, g2, _⟩ => s6_43 h hN v1 v2 r g2 N s0 _ (by rw [lt00]; omega) (by omega))
  exact Ok.bind' (s66 h v1 v2) (fun r _ => Ok.ite' (fun _ => Ok.ite' (fun _ => k _) (fun _ => k _)) (fun _ => Ok.some' trivial))
theorem s49 (h : wP b Z I) (v : Int32) : Ok (kf49 b I L v) (fun r => ¬ r = 0 → 0 ≤ v.toInt ∧ v.toInt < 16) := by
  have h1 := h.nm
  unfold kf49
  repeat' (first
    | exact Ok.some' trivial
    | refine Ok.ret01 ?_ ?_
    | refine Ok.bif' ?_ ?_
    | refine Ok.ite' (fun _ => ?_) (fun _ => ?_)
    | refine Ok.some' ?_)
  all_goals (first | (intro h; exact absurd rfl h) | (intro _; (try simp only [Int32.lt_iff_toInt_lt, Int32.le_iff_toInt_le, cR, lt00, lt01, lt02, lt03, lt04, lt05, lt06, lt07, lt08, lt015, lt016, lt020, lt021, lt033, lt035, lt037, lt041, lt048, lt049, lt050, lt051, lt053, lt054, lt099, lt0100, lt0120, lt0255, lt01500, lt01000000, ltm1] at *); omega))
theorem s49a (h : wP b Z I) (v : Int32) : Ok (kf49a b I L v) (fun r => ¬ r = 0 → 0 ≤ v.toInt ∧ v.toInt < 8) := by
  have h1 := h.ns
  unfold kf49a
  repeat' (first
    | exact Ok.some' trivial
    | refine Ok.ret01 ?_ ?_
    | refine Ok.bif' ?_ ?_
    | refine Ok.ite' (fun _ => ?_) (fun _ => ?_)
    | refine Ok.some' ?_)
  all_goals (first | (intro h; exact absurd rfl h) | (intro _; (try simp only [Int32.lt_iff_toInt_lt, Int32.le_iff_toInt_le, cR, lt00, lt01, lt02, lt03, lt04, lt05, lt06, lt07, lt08, lt015, lt016, lt020, lt021, lt033, lt035, lt037, lt041, lt048, lt049, lt050, lt051, lt053, lt054, lt099, lt0100, lt0120, lt0255, lt01500, lt01000000, ltm1] at *); omega))
theorem s37 (h : wP b Z I) (v : Int32) : Ok (kf37 b I L v) (fun r => ¬ r = 0 → 0 ≤ v.toInt ∧ v.toInt < 8) := by
  have h1 := h.nc
  unfold kf37
  repeat' (first
    | exact Ok.some' trivial
    | refine Ok.ret01 ?_ ?_
    | refine Ok.bif' ?_ ?_
    | refine Ok.ite' (fun _ => ?_) (fun _ => ?_)
    | refine Ok.some' ?_)
  all_goals (first | (intro h; exact absurd rfl h) | (intro _; (try simp only [Int32.lt_iff_toInt_lt, Int32.le_iff_toInt_le, cR, lt00, lt01, lt02, lt03, lt04, lt05, lt06, lt07, lt08, lt015, lt016, lt020, lt021, lt033, lt035, lt037, lt041, lt048, lt049, lt050, lt051, lt053, lt054, lt099, lt0100, lt0120, lt0255, lt01500, lt01000000, ltm1] at *); omega))
theorem s43 (h : wP b Z I) (v : Int32) : Ok (kf43 b I L v) (fun r => ¬ r = 0 → v.toInt < 24) := by
  have h1 := h.nc
  unfold kf43
  refine Ok.ite' (fun g => Ok.some' (fun _ => by rw [g]; decide)) (fun _ => Ok.ite' (fun g => Ok.some' (fun _ => by rw [g]; decide)) (fun _ => Ok.ite' (fun g => Ok.some' (fun _ => by rw [g]; decide)) (fun _ => Ok.ite' (fun _ => Ok.some' (fun g => absurd rfl g)) (fun g1 => Ok.ite' (fun _ => Ok.some' (fun g => absurd rfl g)) (fun g2 => Ok.some' (fun _ => ?_))))))
  rw [Int32.lt_iff_toInt_lt, lt016] at g1
  rw [Int32.le_iff_toInt_le, t_sub (by have := rg v; rw [lt016]; omega), lt016] at g2
  omega
theorem s42 (h : wP b Z I) (v : Int32) : Ok (kf42 b I L v) (fun r => ¬ r = 0 → v.toInt < 24) := by
  unfold kf42
  refine Ok.ite' (fun g => Ok.some' (fun _ => by rw [g]; decide)) (fun _ => Ok.ite' (fun g => Ok.some' (fun _ => by rw [g]; decide)) (fun _ => Ok.bind' (s43 h v) (fun r g => Ok.ite' (fun _ => Ok.some' (fun g => absurd rfl g)) (fun g2 => Ok.some' (fun _ => g g2)))))
theorem s41 (h : wP b Z I) (v1 v2 : Int32) : Ok (kf41 b I L v1 v2) (fun r => r = 0 ∨ r = 1) := by
  have h1 := h.nc
  unfold kf41
  repeat' (first
    | exact Ok.some' trivial
    | refine Ok.ret01 ?_ ?_
    | refine Ok.bif' ?_ ?_
    | refine Ok.ite' (fun _ => ?_) (fun _ => ?_)
    | refine Ok.some' ?_)
  all_goals (first | ((try simp only [Int32.lt_iff_toInt_lt, Int32.le_iff_toInt_le, cR, lt00, lt01, lt02, lt03, lt04, lt05, lt06, lt07, lt08, lt015, lt016, lt020, lt021, lt033, lt035, lt037, lt041, lt048, lt049, lt050, lt051, lt053, lt054, lt099, lt0100, lt0120, lt0255, lt01500, lt01000000, ltm1] at *); omega) | simp)
theorem s44 (h : wP b Z I) (v1 v2 : Int32) : Ok (kf44 b I L v1 v2) (fun r => r = 0 ∨ r = 1) := by
  unfold kf44
  repeat' (first
    | exact Ok.some' trivial
    | refine Ok.bind' (s41 h _ _) (fun _ _ => ?_)
    | refine Ok.ret01 ?_ ?_
    | refine Ok.bif' ?_ ?_
    | refine Ok.ite' (fun _ => ?_) (fun _ => ?_)
    | refine Ok.some' ?_)
  all_goals simp
theorem s8 (h : wP b Z I) (v1 v2 : Int32) : Ok (kf8 b I L v1 v2) (fun _ => True) := by
  unfold kf8
  repeat' (first
    | exact Ok.some' trivial
    | refine Ok.bind' (s42 h _) (fun _ _ => ?_)
    | refine Ok.bind' (s43 h _) (fun _ _ => ?_)
    | refine Ok.bind' (s44 h _ _) (fun _ _ => ?_)
    | refine Ok.ret01 ?_ ?_
    | refine Ok.bif' ?_ ?_
    | refine Ok.ite' (fun _ => ?_) (fun _ => ?_)
    | refine Ok.some' ?_)
theorem s45_68 (h : wP b Z I) (N : Nat) (v1 v2 : Int32) : ∀ (n : Nat) (v3 : Int32), v3.toInt + 1 < n → 0 < n → Ok (kf45_68 b N I L n v1 v2 v3) (fun _ => True) := by
  intro n
  induction n with
  | zero => intro v3 _ h0; omega
  | succ n ih =>
    intro v3 hn _
    unfold kf45_68 kf45_101
    refine Ok.ite' (fun _ => Ok.some' trivial) (fun g1 => ?_)
    rw [Int32.lt_iff_toInt_lt, lt00] at g1
    have e : (v3 + (-1 : Int32)).toInt = v3.toInt - 1 := by
      have := rg v3
      rw [t_add (by rw [ltm1]; omega), ltm1]
      omega
    have k : Ok (kf45_68 b N I L n v1 v2 (v3 + (-1 : Int32))) (fun _ => True) := ih _ (by rw [e]; omega) (by omega)
    exact Ok.bind' (s41 h _ _) (fun r _ => Ok.ite' (fun _ => k) (fun _ => Ok.bind' (s41 h _ _) (fun r5 _ => Ok.ite' (fun _ => k) (fun _ => Ok.some' trivial))))
theorem s45 (h : wP b Z I) {N : Nat} (hN : 300 ≤ N) {v1 v2 : Int32} (h1 : v1.toInt ≤ 26) (h2 : v2.toInt ≤ 26) : Ok (kf45 b N I L v1 v2) (fun _ => True) := by
  unfold kf45 kf45_17 kf45_27
  have k : ¬ v1 < (15 : Int32) → (15 : Int32) ≤ v2 → Ok (kf45_68 b N I L N v1 v2 ((if v2 < v1 then v2 else v1) - (16 : Int32))) (fun _ => True) := by
    intro g1 g2
    rw [Int32.lt_iff_toInt_lt, lt015] at g1
    rw [Int32.le_iff_toInt_le, lt015] at g2
    refine s45_68 h N v1 v2 N _ ?_ (by omega)
    have e : ((if v2 < v1 then v2 else v1) - (16 : Int32)).toInt ≤ 10 := by
      split
      · rw [t_sub (by rw [lt016]; omega), lt016]
        omega
      · rw [t_sub (by rw [lt016]; omega), lt016]
        omega
    omega
  repeat' (first
    | exact Ok.some' trivial
    | exact k (by assumption) (by assumption)
    | refine Ok.ite' (fun _ => ?_) (fun _ => ?_))
theorem s9 (h : wP b Z I) {N : Nat} (hN : 300 ≤ N) (v1 v2 : Int32) : Ok (kf9 b N I L v1 v2) (fun _ => True) := by
  unfold kf9
  refine Ok.ite' (fun _ => Ok.some' trivial) (fun _ => Ok.bind' (s42 h v1) (fun r g1 => Ok.ite' (fun _ => Ok.some' trivial) (fun g2 => Ok.bind' (s42 h v2) (fun r5 g3 => Ok.ite' (fun g4 => Ok.bind' (s45 h hN (by have := g1 g2; omega) (by have := g3 g4; omega)) (fun _ _ => Ok.some' trivial)) (fun _ => Ok.some' trivial)))))
theorem s29 (h : wP b Z I) (v1 v2 : Int32) : Ok (kf29 b I L v1 v2) (fun _ => True) := by
  unfold kf29
  refine Ok.bind' (s37 h v1) (fun r g1 => Ok.ite' (fun _ => Ok.some' trivial) (fun g2 => Ok.bind' (s49a h v2) (fun r4 g3 => Ok.ite' (fun _ => Ok.some' trivial) (fun g4 => Ok.bif' ?_ (Ok.some' trivial)))))
  have a1 := g1 g2
  have a2 := g3 g4
  rw [t_m8 (by omega) (by omega)]
  omega
theorem s10 (h : wP b Z I) (v1 v2 : Int32) : Ok (kf10 b I L v1 v2) (fun _ => True) := by
  unfold kf10
  repeat' (first
    | exact Ok.some' trivial
    | refine Ok.bind' (s29 h _ _) (fun _ _ => ?_)
    | refine Ok.ret01 ?_ ?_
    | refine Ok.bif' ?_ ?_
    | refine Ok.ite' (fun _ => ?_) (fun _ => ?_)
    | refine Ok.some' ?_)
theorem s38 (h : wP b Z I) (v : Int32) : Ok (kf38 b I L v) (fun r => -1 ≤ r.toInt ∧ r.toInt ≤ 7) := by
  have h1 := h.nc
  have h2 := h.sup (Int32.toNatClampNeg v)
  unfold kf38
  repeat' (first
    | exact Ok.some' trivial
    | refine Ok.ret01 ?_ ?_
    | refine Ok.bif' ?_ ?_
    | refine Ok.ite' (fun _ => ?_) (fun _ => ?_)
    | refine Ok.some' ?_)
  all_goals ((try simp only [Int32.lt_iff_toInt_lt, Int32.le_iff_toInt_le, cR, lt00, lt01, lt02, lt03, lt04, lt05, lt06, lt07, lt08, lt015, lt016, lt020, lt021, lt033, lt035, lt037, lt041, lt048, lt049, lt050, lt051, lt053, lt054, lt099, lt0100, lt0120, lt0255, lt01500, lt01000000, ltm1] at *); omega)
theorem s39 (h : wP b Z I) (v : Int32) : Ok (kf39 b I L v) (fun r => 0 ≤ r.toInt ∧ r.toInt ≤ 8 ∧ (0 < r.toInt → 0 ≤ v.toInt ∧ v.toInt < 8)) := by
  have h1 := h.nc
  have h2 := h.fc (Int32.toNatClampNeg v)
  unfold kf39
  repeat' (first
    | exact Ok.some' trivial
    | refine Ok.ret01 ?_ ?_
    | refine Ok.bif' ?_ ?_
    | refine Ok.ite' (fun _ => ?_) (fun _ => ?_)
    | refine Ok.some' ?_)
  all_goals ((try simp only [Int32.lt_iff_toInt_lt, Int32.le_iff_toInt_le, cR, lt00, lt01, lt02, lt03, lt04, lt05, lt06, lt07, lt08, lt015, lt016, lt020, lt021, lt033, lt035, lt037, lt041, lt048, lt049, lt050, lt051, lt053, lt054, lt099, lt0100, lt0120, lt0255, lt01500, lt01000000, ltm1] at *); omega)
theorem s40 (h : wP b Z I) (v1 v2 : Int32) : Ok (kf40 b I L v1 v2) (fun _ => True) := by
  unfold kf40
  refine Ok.ite' (fun _ => Ok.some' trivial) (fun g1 => Ok.bind' (s39 h v1) (fun r ⟨g2, g3, g4⟩ => Ok.ite' (fun _ => Ok.some' trivial) (fun g5 => Ok.bif' ?_ (Ok.some' trivial))))
  rw [Int32.lt_iff_toInt_lt, lt00] at g1
  rw [Int32.le_iff_toInt_le] at g5
  have a1 := g4 (by omega)
  rw [t_m8 (by omega) (by omega)]
  omega
theorem s11 (h : wP b Z I) (v1 v2 : Int32) : Ok (kf11 b I L v1 v2) (fun _ => True) := by
  unfold kf11
  repeat' (first
    | exact Ok.some' trivial
    | refine Ok.bind' (s37 h _) (fun _ _ => ?_)
    | refine Ok.bind' (s40 h _ _) (fun _ _ => ?_)
    | refine Ok.bind' (s39 h _) (fun _ _ => ?_)
    | refine Ok.bind' (s38 h _) (fun _ _ => ?_)
    | refine Ok.ret01 ?_ ?_
    | refine Ok.bif' ?_ ?_
    | refine Ok.ite' (fun _ => ?_) (fun _ => ?_)
    | refine Ok.some' ?_)
theorem s51 (h : wP b Z I) (v1 v2 : Int32) : Ok (kf51 b I L v1 v2) (fun _ => True) := by
  unfold kf51
  refine Ok.ite' (fun _ => Ok.some' trivial) (fun g1 => Ok.bind' (s50 h v1) (fun r ⟨g2, g3, g4⟩ => Ok.ite' (fun _ => Ok.some' trivial) (fun g5 => Ok.bif' ?_ (Ok.some' trivial))))
  rw [Int32.lt_iff_toInt_lt, lt00] at g1
  rw [Int32.le_iff_toInt_le] at g5
  have a1 := g4 (by omega)
  rw [t_m4 (by omega) (by omega)]
  omega
theorem s51a (h : wP b Z I) (v1 v2 : Int32) : Ok (kf51a b I L v1 v2) (fun _ => True) := by
  unfold kf51a
  refine Ok.ite' (fun _ => Ok.some' trivial) (fun g1 => Ok.bind' (s50a h v1) (fun r ⟨g2, g3, g4⟩ => Ok.ite' (fun _ => Ok.some' trivial) (fun g5 => Ok.bif' ?_ (Ok.some' trivial))))
  rw [Int32.lt_iff_toInt_lt, lt00] at g1
  rw [Int32.le_iff_toInt_le] at g5
  have a1 := g4 (by omega)
  rw [t_m4 (by omega) (by omega)]
  omega
theorem s16_18 (h : wP b Z I) {N : Nat} (v1 v2 v4 : Int32) (h4 : v4.toInt ≤ 120) : ∀ (n : Nat) (v3 v5 : Int32), v4.toInt - v5.toInt < n → 0 < n → Ok (kf16_18 b N I L n v1 v2 v3 v4 v5) (fun _ => True) := by
  intro n
  induction n with
  | zero => intro v3 v5 _ h0; omega
  | succ n ih =>
    intro v3 v5 hn _
    unfold kf16_18 kf16_55
    refine Ok.ite' (fun g1 => Ok.some' trivial) (fun g1 => ?_)
    rw [Int32.le_iff_toInt_le] at g1
    have e := t_inc (x := v5) (m := 120) (by omega) (by omega)
    have k : ∀ v3, Ok (kf16_18 b N I L n v1 v2 v3 v4 (v5 + (1 : Int32))) (fun _ => True) := fun v3 => ih v3 _ (by rw [e]; omega) (by omega)
    exact Ok.bind' (s66 h v1 v5) (fun r _ => Ok.ite' (fun _ => k _) (fun _ => Ok.bind' (s15 h v1 v5) (fun r5 _ => Ok.ite' (fun _ => k _) (fun _ => k _))))
theorem s16 (h : wP b Z I) {N : Nat} (hN : 300 ≤ N) (v1 v2 : Int32) : Ok (kf16 b N I L v1 v2) (fun _ => True) := by
  unfold kf16
  exact Ok.bind' (s32 h v1) (fun r ⟨g1, g2, _⟩ => s16_18 h v1 v2 r g2 N _ _ (by rw [lt00]; omega) (by omega))
end RDS
