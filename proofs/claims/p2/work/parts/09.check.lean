/-! A method's table is checked by a program. -/
def mv_nest (w : Jvm.Cond) : Bool := match w with
  | .fieldLinkNest _ _ _ _ _ _ => true
  | .methodLinkNest _ _ _ _ => true
  | _ => false
def mv_has (tb : List Jvm.Cond) (w : Jvm.Cond) : Bool := tb.any (fun x => decide (x = w)) && goodWord w
def mv_hasN (tb : List Jvm.Cond) (w : Jvm.Cond) : Bool := tb.any (fun x => decide (x = w)) && mv_nest w
theorem mv_any_in {tb : List Jvm.Cond} {w : Jvm.Cond} (h : tb.any (fun x => decide (x = w)) = true) : w ∈ tb := by
  obtain ⟨x, h1, h2⟩ := List.any_eq_true.mp h
  rw [← of_decide_eq_true h2]
  exact h1
theorem mv_has_in {tb tb' : List Jvm.Cond} (hs : ∀ w ∈ tb, w ∈ tb') {w : Jvm.Cond} (h : mv_has tb w = true) : w ∈ tb'.filter goodWord := by
  unfold mv_has at h
  rw [Bool.and_eq_true] at h
  exact List.mem_filter.mpr ⟨hs _ (mv_any_in h.1), h.2⟩
theorem mv_hasN_in {tb tb' : List Jvm.Cond} (hs : ∀ w ∈ tb, w ∈ tb') {w : Jvm.Cond} (h : mv_hasN tb w = true) : w ∈ tb'.filter mv_nest := by
  unfold mv_hasN at h
  rw [Bool.and_eq_true] at h
  exact List.mem_filter.mpr ⟨hs _ (mv_any_in h.1), h.2⟩
def mv_lnkB (tb : List Jvm.Cond) (own : String) (idx : Nat) (r n d : String) : Bool := mv_has tb (.fieldLink own idx r n d) || mv_hasN tb (.fieldLinkNest own idx r n d "KindJudge")
def mv_mlkB (tb : List Jvm.Cond) (own : String) (idx : Nat) (y : MethodName) : Bool := mv_has tb (.methodLink own idx y) || mv_hasN tb (.methodLinkNest own idx y "KindJudge")
theorem mv_lnkB_ok {tb tb' : List Jvm.Cond} (hs : ∀ w ∈ tb, w ∈ tb') {own : String} {idx : Nat} {r n d : String} (h : mv_lnkB tb own idx r n d = true) : mv_lnk (tb'.filter goodWord) (tb'.filter mv_nest) own idx r n d := by
  unfold mv_lnkB at h
  rw [Bool.or_eq_true] at h
  rcases h with h | h
  · exact Or.inl (mv_has_in hs h)
  · exact Or.inr ⟨_, mv_hasN_in hs h⟩
theorem mv_mlkB_ok {tb tb' : List Jvm.Cond} (hs : ∀ w ∈ tb, w ∈ tb') {own : String} {idx : Nat} {y : MethodName} (h : mv_mlkB tb own idx y = true) : mv_mlk (tb'.filter goodWord) (tb'.filter mv_nest) own idx y := by
  unfold mv_mlkB at h
  rw [Bool.or_eq_true] at h
  rcases h with h | h
  · exact Or.inl (mv_has_in hs h)
  · exact Or.inr ⟨_, mv_hasN_in hs h⟩
def mv_npB (y : MethodName) (n : Nat) : Bool := decide ((parseMethodDescriptor y.desc).map (fun d => d.parameters.length) = some n)
theorem mv_npB_ok {y : MethodName} {n : Nat} (h : mv_npB y n = true) : mv_np y n := by
  unfold mv_npB at h
  unfold mv_np
  exact of_decide_eq_true h
def mv_rmB (M Mj : mv_Me) : Bool := Nat.ble (mv_fr Mj + 1) (mv_fr M) && Nat.ble (8 + (mv_ml Mj + 11) + mv_lo Mj) (mv_lo M)
def mv_rwB (tb : List Jvm.Cond) (cl : List vw_C) (kd : List (List Nat)) (prog : List mv_Me) (stn : List (String × String × String)) (M : mv_Me) (i : ClassFile.Instr) (n a b c d : Nat) : Bool := match i with
  | .getfield idx => Nat.beq n 3 && (match cl[a]? with
    | some q => decide ((kd.getD a [])[b]? = some c) && mv_lnkB tb (mv_ow M) idx (q.2.1 b).1 (q.2.1 b).2.1 (q.2.1 b).2.2.1
    | none => false)
  | .putfield idx => Nat.beq n 3 && (match cl[a]? with
    | some q => decide ((kd.getD a [])[b]? = some c) && (bif (q.2.1 b).2.2.2 then decide (M.1.name = "<init>") && (decide ((q.2.1 b).1 = mv_ow M) && mv_has tb (.fieldLink (mv_ow M) idx (q.2.1 b).1 (q.2.1 b).2.1 (q.2.1 b).2.2.1)) else mv_lnkB tb (mv_ow M) idx (q.2.1 b).1 (q.2.1 b).2.1 (q.2.1 b).2.2.1)
    | none => false)
  | .new idx => Nat.beq n 3 && (match cl[a]? with
    | some q => Nat.beq q.2.2 b && (mv_has tb (.classLink (mv_ow M) idx q.1) && (mv_has tb (.instantiable q.1 b) && mv_has tb (.initialized q.1)))
    | none => false)
  | .newarray t => Nat.beq n 2 && (Nat.ble c 3 && (decide (Op.newarray.typeOf t = mv_ty c) && mv_has tb (.arrayClass (mv_ty c))))
  | .ldc idx => Nat.beq n 2 && mv_has tb (.constant (mv_ow M) idx (Int32.ofNat a))
  | .ldc_w idx => Nat.beq n 3 && mv_has tb (.constant (mv_ow M) idx (Int32.ofNat a))
  | .ldc2_w idx => Nat.beq n 3 && mv_has tb (.constantLong (mv_ow M) idx (Int64.ofNat a))
  | .getstatic idx => Nat.beq n 3 && (match stn[a]? with
    | some q => mv_has tb (.fieldLink (mv_ow M) idx q.1 q.2.1 q.2.2)
    | none => false)
  | .invokespecial idx => Nat.beq n 3 && (match c with
    | 3 => Nat.ble 1 (mv_fr M) && (Nat.ble 20 (mv_lo M) && (mv_has tb (.methodLink (mv_ow M) idx Lib.objectInit) && (mv_has tb (.instanceMethod Lib.objectInit) && mv_has tb (.code Lib.objectInit ⟨#[0xb1]⟩ 1 none))))
    | 2 => (match prog[a]? with
      | some Mj => mv_rmB M Mj && (decide (mv_rt Mj = none) && (Nat.ble 1 b && (mv_npB Mj.1 (b - 1) && (mv_mlkB tb (mv_ow M) idx Mj.1 && (decide (Mj.1.name = "<init>") && mv_has tb (.instanceMethod Mj.1))))))
      | none => false)
    | _ => false)
  | .invokestatic idx => Nat.beq n 3 && (match c with
    | 4 => Nat.ble 1 (mv_fr M) && (Nat.ble 21 (mv_lo M) && (mv_has tb (.methodLink (mv_ow M) idx Lib.Math.max.name) && (mv_has tb (.static Lib.Math.max.name) && (mv_has tb (.initialized "java/lang/Math") && mv_has tb (.code Lib.Math.max.name Lib.Math.max.code 2 (some .int))))))
    | 5 => Nat.ble 1 (mv_fr M) && (Nat.ble 21 (mv_lo M) && (mv_has tb (.methodLink (mv_ow M) idx Lib.Math.min.name) && (mv_has tb (.static Lib.Math.min.name) && (mv_has tb (.initialized "java/lang/Math") && mv_has tb (.code Lib.Math.min.name Lib.Math.min.code 2 (some .int))))))
    | 1 => (match prog[a]? with
      | some Mj => mv_rmB M Mj && (mv_npB Mj.1 b && (mv_mlkB tb (mv_ow M) idx Mj.1 && mv_has tb (.static Mj.1)))
      | none => false)
    | _ => false)
  | .invokevirtual idx => Nat.beq n 3 && (match c with
    | 0 => (match prog[a]?, cl[d]? with
      | some Mj, some q => mv_rmB M Mj && (Nat.ble 1 b && (mv_npB Mj.1 (b - 1) && (decide (q.1 = Mj.1.cls) && (mv_mlkB tb (mv_ow M) idx Mj.1 && (mv_has tb (.instanceMethod Mj.1) && mv_has tb (.selects Mj.1.cls Mj.1 Mj.1))))))
      | _, _ => false)
    | _ => false)
  | .lookupswitch _ _ => true
  | .tableswitch _ _ _ _ => true
  | i => Nat.beq n (mv_len i)
theorem mv_rmB_ok {M Mj : mv_Me} (h : mv_rmB M Mj = true) : mv_rm M Mj := by
  unfold mv_rmB at h
  rw [Bool.and_eq_true] at h
  exact ⟨Nat.le_of_ble_eq_true h.1, Nat.le_of_ble_eq_true h.2⟩
set_option maxHeartbeats 4000000 in
theorem mv_rwB_ok {tb tb' : List Jvm.Cond} (hs : ∀ w ∈ tb, w ∈ tb') {cl : List vw_C} {kd : List (List Nat)} {prog : List mv_Me} {stn : List (String × String × String)} {M : mv_Me} {i : ClassFile.Instr} {n a b c d : Nat} (h : mv_rwB tb cl kd prog stn M i n a b c d = true) : mv_Rw cl kd (tb'.filter goodWord) (tb'.filter mv_nest) prog stn M i n a b c d := by
  cases i
  case getfield idx =>
    simp only [mv_rwB, Bool.and_eq_true] at h
    obtain ⟨h0, h⟩ := h
    split at h
    · rename_i q hq
      rw [Bool.and_eq_true] at h
      exact ⟨Nat.eq_of_beq_eq_true h0, q.1, q.2.1, q.2.2, hq, of_decide_eq_true h.1, mv_lnkB_ok hs h.2⟩
    · cases h
  case putfield idx =>
    simp only [mv_rwB, Bool.and_eq_true] at h
    obtain ⟨h0, h⟩ := h
    split at h
    · rename_i q hq
      rw [Bool.and_eq_true] at h
      refine ⟨Nat.eq_of_beq_eq_true h0, q.1, q.2.1, q.2.2, hq, of_decide_eq_true h.1, ?_⟩
      cases hf : (q.2.1 b).2.2.2 with
      | true =>
        rw [hf] at h
        simp only [cond_true, Bool.and_eq_true] at h
        exact Or.inr ⟨rfl, of_decide_eq_true h.2.1, of_decide_eq_true h.2.2.1, mv_has_in hs h.2.2.2⟩
      | false =>
        rw [hf] at h
        exact Or.inl ⟨rfl, mv_lnkB_ok hs h.2⟩
    · cases h
  case new idx =>
    simp only [mv_rwB, Bool.and_eq_true] at h
    obtain ⟨h0, h⟩ := h
    split at h
    · rename_i q hq
      simp only [Bool.and_eq_true] at h
      have e : q.2.2 = b := Nat.eq_of_beq_eq_true h.1
      exact ⟨Nat.eq_of_beq_eq_true h0, q.1, q.2.1, by rw [hq, ← e], mv_has_in hs h.2.1, mv_has_in hs h.2.2.1, mv_has_in hs h.2.2.2⟩
    · cases h
  case newarray t =>
    simp only [mv_rwB, Bool.and_eq_true] at h
    exact ⟨Nat.eq_of_beq_eq_true h.1, Nat.le_of_ble_eq_true h.2.1, of_decide_eq_true h.2.2.1, mv_has_in hs h.2.2.2⟩
  case ldc idx =>
    simp only [mv_rwB, Bool.and_eq_true] at h
    exact ⟨Nat.eq_of_beq_eq_true h.1, mv_has_in hs h.2⟩
  case ldc_w idx =>
    simp only [mv_rwB, Bool.and_eq_true] at h
    exact ⟨Nat.eq_of_beq_eq_true h.1, mv_has_in hs h.2⟩
  case ldc2_w idx =>
    simp only [mv_rwB, Bool.and_eq_true] at h
    exact ⟨Nat.eq_of_beq_eq_true h.1, mv_has_in hs h.2⟩
  case getstatic idx =>
    simp only [mv_rwB, Bool.and_eq_true] at h
    obtain ⟨h0, h⟩ := h
    split at h
    · rename_i q hq
      exact ⟨Nat.eq_of_beq_eq_true h0, q, hq, mv_has_in hs h⟩
    · cases h
  case invokespecial idx =>
    simp only [mv_rwB, Bool.and_eq_true] at h
    obtain ⟨h0, h⟩ := h
    split at h
    · simp only [Bool.and_eq_true] at h
      exact ⟨Nat.eq_of_beq_eq_true h0, fun _ => ⟨Nat.le_of_ble_eq_true h.1, Nat.le_of_ble_eq_true h.2.1, mv_has_in hs h.2.2.1, mv_has_in hs h.2.2.2.1, mv_has_in hs h.2.2.2.2⟩, (fun e => absurd e (by decide))⟩
    · split at h
      · rename_i Mj hj
        simp only [Bool.and_eq_true] at h
        have hb : 1 ≤ b := Nat.le_of_ble_eq_true h.2.2.1
        exact ⟨Nat.eq_of_beq_eq_true h0, (fun e => absurd e (by decide)), fun _ => ⟨Mj, b - 1, hj, mv_rmB_ok h.1, of_decide_eq_true h.2.1, by omega, mv_npB_ok h.2.2.2.1, mv_mlkB_ok hs h.2.2.2.2.1, of_decide_eq_true h.2.2.2.2.2.1, mv_has_in hs h.2.2.2.2.2.2⟩⟩
      · cases h
    · cases h
  case invokestatic idx =>
    simp only [mv_rwB, Bool.and_eq_true] at h
    obtain ⟨h0, h⟩ := h
    split at h
    · simp only [Bool.and_eq_true] at h
      exact ⟨Nat.eq_of_beq_eq_true h0, fun _ => ⟨Nat.le_of_ble_eq_true h.1, Nat.le_of_ble_eq_true h.2.1, mv_has_in hs h.2.2.1, mv_has_in hs h.2.2.2.1, mv_has_in hs h.2.2.2.2.1, mv_has_in hs h.2.2.2.2.2⟩, (fun e => absurd e (by decide)), (fun e => absurd e (by decide))⟩
    · simp only [Bool.and_eq_true] at h
      exact ⟨Nat.eq_of_beq_eq_true h0, (fun e => absurd e (by decide)), fun _ => ⟨Nat.le_of_ble_eq_true h.1, Nat.le_of_ble_eq_true h.2.1, mv_has_in hs h.2.2.1, mv_has_in hs h.2.2.2.1, mv_has_in hs h.2.2.2.2.1, mv_has_in hs h.2.2.2.2.2⟩, (fun e => absurd e (by decide))⟩
    · split at h
      · rename_i Mj hj
        simp only [Bool.and_eq_true] at h
        exact ⟨Nat.eq_of_beq_eq_true h0, (fun e => absurd e (by decide)), (fun e => absurd e (by decide)), fun _ => ⟨Mj, hj, mv_rmB_ok h.1, mv_npB_ok h.2.1, mv_mlkB_ok hs h.2.2.1, mv_has_in hs h.2.2.2⟩⟩
      · cases h
    · cases h
  case invokevirtual idx =>
    simp only [mv_rwB, Bool.and_eq_true] at h
    obtain ⟨h0, h⟩ := h
    split at h
    · split at h
      · rename_i Mj q hj hq
        simp only [Bool.and_eq_true] at h
        have hb : 1 ≤ b := Nat.le_of_ble_eq_true h.2.1
        have e : q.1 = Mj.1.cls := of_decide_eq_true h.2.2.2.1
        exact ⟨Nat.eq_of_beq_eq_true h0, fun _ => ⟨Mj, b - 1, q.2.1, q.2.2, hj, mv_rmB_ok h.1, by omega, mv_npB_ok h.2.2.1, by rw [hq, ← e], mv_mlkB_ok hs h.2.2.2.2.1, mv_has_in hs h.2.2.2.2.2.1, mv_has_in hs h.2.2.2.2.2.2⟩⟩
      · cases h
    · cases h
  all_goals first
    | exact Nat.eq_of_beq_eq_true h
    | exact trivial
def mv_mkB (tb : List Jvm.Cond) (cl : List vw_C) (kd : List (List Nat)) (prog : List mv_Me) (stn : List (String × String × String)) (M : mv_Me) : Bool :=
  Jvm.plainName M.1.cls && (decide (M.1.cls = mv_ow M) && (mv_has tb (.code M.1 (mv_cc M) (mv_ml M) (mv_rt M)) && (mv_has tb (.initialized M.1.cls) && (decide (M.1.cls ≠ "java/lang/invoke/MethodHandle") && (decide (M.1.cls ≠ "java/lang/invoke/VarHandle") && (mv_tb M).all (fun e => decide (decode (mv_cc M) e.1 = .ok (e.2.1, e.2.2.1)) && mv_rwB tb cl kd prog stn M e.2.1 e.2.2.1 e.2.2.2.1 e.2.2.2.2.1 e.2.2.2.2.2.1 e.2.2.2.2.2.2))))))
theorem mv_mkB_ok {tb tb' : List Jvm.Cond} (hs : ∀ w ∈ tb, w ∈ tb') {cl : List vw_C} {kd : List (List Nat)} {prog : List mv_Me} {stn : List (String × String × String)} {M : mv_Me} (h : mv_mkB tb cl kd prog stn M = true) : mv_Mk cl kd (tb'.filter goodWord) (tb'.filter mv_nest) prog stn M := by
  unfold mv_mkB at h
  simp only [Bool.and_eq_true] at h
  obtain ⟨h1, h2, h3, h4, h5, h6, h7⟩ := h
  refine ⟨h1, of_decide_eq_true h2, mv_has_in hs h3, mv_has_in hs h4, of_decide_eq_true h5, of_decide_eq_true h6, fun e he => ?_⟩
  have h8 := List.all_eq_true.mp h7 e he
  rw [Bool.and_eq_true] at h8
  exact ⟨of_decide_eq_true h8.1, mv_rwB_ok hs h8.2⟩
theorem mv_sub_of {tb ws : List Jvm.Cond} (ps : List Nat) (h : ws = ps.filterMap (fun i => tb[i]?)) : ∀ w ∈ ws, w ∈ tb := fun w hw => by
  rw [h] at hw
  obtain ⟨i, -, hi⟩ := List.mem_filterMap.mp hw
  exact List.mem_of_getElem? hi
theorem mv_good_all {tb : List Jvm.Cond} : ∀ w ∈ tb.filter goodWord, (w.onTables && w.keeps) = true ∨ ∃ ty, w = .arrayClass ty := fun w hw => good_of_word (List.mem_filter.mp hw).2
theorem mv_nest_all {tb : List Jvm.Cond} : ∀ w ∈ tb.filter mv_nest, (∃ a i b n d h, w = Jvm.Cond.fieldLinkNest a i b n d h) ∨ ∃ a i x h, w = Jvm.Cond.methodLinkNest a i x h := fun w hw => by
  have h := (List.mem_filter.mp hw).2
  unfold mv_nest at h
  split at h
  · exact Or.inl ⟨_, _, _, _, _, _, rfl⟩
  · exact Or.inr ⟨_, _, _, _, rfl⟩
  · cases h
