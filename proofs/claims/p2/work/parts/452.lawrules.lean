/-! The law's walk: what its rows of the small machine, its reads of the script, its answer, and its own load and look do. -/
def kw_A (s : State) : Nat → Prop := fun q => s.heap.size ≤ q
def kw_C (p : Program) (s : State) (m : MethodId) (meth : Method) (c : Code) (b L : Nat) (xs : Nat → Int32) (D : va_G) (cA : Nat → ClassId) (ad : Nat → Nat) : Prop :=
  mv_Cx p s m #[Value.ref b] meth c (kw_A s) D kjCl cA ad kjTs kjNw kjSta kjStn kjLaw ∧ va_X b L xs s s.heap ∧ b < s.heap.size ∧ ad 200000 = b
abbrev kw_W (p : Program) (l : Launch) (e : Env) (s : State) (m : MethodId) (below : List Frame) (meth : Method) (c : Code) (b : Nat) (D : va_G) (cA : Nat → ClassId) (ad : Nat → Nat) (F : mv_F) : Prop :=
  mv_W p l e room_1 s m #[Value.ref b] below meth c (kw_A s) D kjCl kjKd cA ad 7 (lw_Z below #[Value.ref b] s) F
theorem kw_h6 {vc a : Nat} (h : vc ≤ 1108) (e : a = 0) : vc + a ≤ 1108 := by omega
theorem kw_h7 {vs a : Nat} (h : vs ≤ 62720) (e : a = 0) : vs + a ≤ 62720 := by omega
theorem kw_ofNat {L : Nat} (h : L ≤ 2048) : Int32.ofNat L = w (L : Int) := by
  apply Int32.toInt_inj.mp
  rw [w_nti (by omega)]
  exact Int32.toInt_ofNat_of_lt (by omega)
theorem kw_add4 (i : Nat) : w (i : Int) + (4 : Int32) = w ((i + 4 : Nat) : Int) := by
  (simp only [w_lit, w_neg, w_add, w_sub, w_mul])
  congr 1
theorem kw_at {i k L : Nat} (h : i + k < L) (hL : L ≤ 2048) : vp_in (w (i : Int) + Int32.ofNat k) L := by
  have e : w (i : Int) + Int32.ofNat k = w ((i + k : Nat) : Int) := by
    rw [kw_ofNat (by omega), w_add]
    congr 1
  rw [e]
  refine mv_in_ok (mv_in_of ?_)
  rw [w_nti (by omega)]
  omega
theorem kw_at0 {i L : Nat} (h : i < L) (hL : L ≤ 2048) : vp_in (w (i : Int)) L := by
  refine mv_in_ok (mv_in_of ?_)
  rw [w_nti (by omega)]
  omega
/-- the cells' addresses behind a throw: what comes next lies one further -/
def kw_up (ad : Nat → Nat) : Nat → Nat := fun k => if k < 82 then ad k else if k < 100000 then ad k + 1 else ad k
set_option maxRecDepth 100000 in
theorem kw_refs : ∀ f : Bool, (kjRt f).all (fun r => r.all (fun o => match o with
  | none => true
  | some q => Nat.blt q 82)) = true := by decide +kernel
theorem kw_ref {f : Bool} {k j q : Nat} (h : kjR f k j = some q) : q < 82 := by
  unfold kjR at h
  rw [List.getD_eq_getElem?_getD, List.getD_eq_getElem?_getD] at h
  cases h1 : (kjRt f)[k]? with
  | none => rw [h1] at h; simp at h
  | some r =>
    rw [h1] at h
    have hr := List.all_eq_true.mp (kw_refs f) r (List.mem_of_getElem? h1)
    cases h2 : r[j]? with
    | none => rw [Option.getD_some, h2] at h; simp at h
    | some o =>
      rw [Option.getD_some, h2, Option.getD_some] at h
      have ho := List.all_eq_true.mp hr o (List.mem_of_getElem? h2)
      rw [h] at ho
      exact Nat.le_of_ble_eq_true ho
theorem kw_ws (f : Bool) (cA : Nat → ClassId) (ad : Nat → Nat) (I : kjI) (L : kjL) : mv_ws kjKd cA (kw_up ad) (kjS f I L) = mv_ws kjKd cA ad (kjS f I L) := by
  have key : ∀ q, q < 82 → kw_up ad q = ad q := fun q hq => if_pos hq
  have hc : ∀ (k : Nat) (sh : mv_Sh), mv_cell kjKd cA (kw_up ad) (kjS f I L) k sh = mv_cell kjKd cA ad (kjS f I L) k sh := by
    intro k sh
    cases sh with
    | inl q => rfl
    | inr ci =>
      have hf : (fun (j q : Nat) => mv_tr (kw_up ad) (mv_fval q (kjS f I L) k j)) = (fun (j q : Nat) => mv_tr ad (mv_fval q (kjS f I L) k j)) := by
        funext j q
        unfold mv_fval
        cases Nat.beq q 3 with
        | true => rfl
        | false =>
          cases Nat.beq q 4 with
          | true =>
            show mv_tr (kw_up ad) (match kjR f k j with
              | none => Value.null
              | some q => .ref q) = mv_tr ad (match kjR f k j with
              | none => Value.null
              | some q => .ref q)
            cases hq : kjR f k j with
            | none => rfl
            | some q =>
              show Value.ref (kw_up ad q) = Value.ref (ad q)
              rw [key q (kw_ref hq)]
          | false => rfl
      show Sum.inr (ci, _) = Sum.inr (ci, _)
      rw [hf]
  unfold mv_ws
  refine List.ext_getElem? (fun k => ?_)
  rw [List.getElem?_mapIdx, List.getElem?_mapIdx]
  cases hk : (kjS f I L).1[k]? with
  | none => rfl
  | some sh =>
    have hlt : k < 82 := by
      have h1 := (List.getElem?_eq_some_iff.mp hk).1
      exact h1
    show some (kw_up ad k, mv_cell kjKd cA (kw_up ad) (kjS f I L) k sh) = some (ad k, mv_cell kjKd cA ad (kjS f I L) k sh)
    rw [key k hlt, hc]
section KW
variable {p : Program} {l : Launch} {e : Env} {s : State} {m : MethodId} {below : List Frame} {meth : Method} {c : Code} {b L : Nat} {xs : Nat → Int32} {D : va_G} {cA : Nat → ClassId} {ad : Nat → Nat}
variable {pc vc vs : Nat} {lc : mv_L} {r : List Value} {S : mv_S}
theorem kw_go (C : kw_C p s m meth c b L xs D cA ad) {F : mv_F} (h : mv_Gs kjP kjSta (mv_C kjP kjSta 10) kjLaw (kw_W p l e s m below meth c b D cA ad) F) : kw_W p l e s m below meth c b D cA ad F :=
  h _ (fun _ h => h) (fun F hF => mv_close (d := 10) (Q := fun _ _ => False) kjSy C.1 kjLaw_ok ⟨Nat.le_refl _, Nat.le_refl _⟩ ⟨Nat.le_refl _, Nat.le_refl _⟩ (fun _ _ _ _ _ _ hq => by
    obtain ⟨_, _, _, _, _, _, _, _, -, -, -, -, -, hq⟩ := hq
    exact hq.elim) hF)
theorem kw_len (C : kw_C p s m meth c b L xs D cA ad) (hd : decode code pc = .ok (.arraylength, 1)) (k : kw_W p l e s m below meth c b D cA ad (pc + 1, lc, .int (Int32.ofNat L) :: r, vc, vs, S)) : kw_W p l e s m below meth c b D cA ad (pc, lc, .ref 200000 :: r, vc, vs, S) := by
  intro H locs ls hH hL hcs
  obtain ⟨C1, C2, C3, C4⟩ := C
  have key := k H locs ls hH hL hcs
  show W p l e room_1 s m #[Value.ref b] below meth c H locs vc vs _ (F0 m pc ls (.ref (ad 200000) :: r.map (mv_tr ad)))
  rw [C4]
  exact va_slen C1.1 C1.2.1 C2 C3 (Nat.not_le.mpr C3) hH.2.2.1 hd key
theorem kw_ld (C : kw_C p s m meth c b L xs D cA ad) {i : Int32} (hin : vp_in i L) (hd : decode code pc = .ok (.iaload, 1)) (k : kw_W p l e s m below meth c b D cA ad (pc + 1, lc, .int (xs (Int32.toNatClampNeg i)) :: r, vc, vs, S)) : kw_W p l e s m below meth c b D cA ad (pc, lc, .int i :: .ref 200000 :: r, vc, vs, S) := by
  intro H locs ls hH hL hcs
  obtain ⟨C1, C2, C3, C4⟩ := C
  have key := k H locs ls hH hL hcs
  show W p l e room_1 s m #[Value.ref b] below meth c H locs vc vs _ (F0 m pc ls (.int i :: .ref (ad 200000) :: r.map (mv_tr ad)))
  rw [C4]
  exact va_sld C1.1 C1.2.1 C2 C3 (Nat.not_le.mpr C3) hH.2.2.1 hin hd key
theorem kw_ret (C : kw_C p s m meth c b L xs D cA ad) (hd : decode code pc = .ok (.ireturn, 1)) : kw_W p l e s m below meth c b D cA ad (pc, lc, [.int 1], vc, vs, S) := by
  intro H locs ls hH hL hcs
  obtain ⟨C1, C2, C3, C4⟩ := C
  refine va_forget (fun q hq => hH.2.2.1.2.2 q hq) ?_
  refine W.widen (k := 1108) (n := 62720) hcs.1 hcs.2 ?_
  exact lw_ret C1.1 C1.2.1 C1.2.2.2.2.2.2.2.2.2.1 C1.2.2.2.2.2.2.2.2.1 hd
theorem kw_Sts {A : Nat → Prop} {U : State} (h : mv_Sts A ad kjSta kjStn U) : mv_Sts A (kw_up ad) kjSta kjStn U := by
  intro t q hq
  have e : kw_up ad (100000 + t) = ad (100000 + t) := by
    unfold kw_up
    rw [if_neg (by omega), if_neg (by omega)]
  rw [e]
  exact h t q hq
theorem kw_C_up (C : kw_C p s m meth c b L xs D cA ad) : kw_C p s m meth c b L xs D cA (kw_up ad) := by
  obtain ⟨C1, C2, C3, C4⟩ := C
  obtain ⟨c1, c2, c3, c4, c5, c6, c7, c8, c9, c10, c11, c12⟩ := C1
  exact ⟨⟨c1, c2, c3, c4, c5, c6, c7, c8, c9, c10, c11, kw_Sts c12⟩, C2, C3, C4⟩
def kw_Lo (lc : mv_L) : Prop := ∀ (j k : Nat), lc[j]? = some (some (.ref k)) → k < 82 ∨ 100000 ≤ k
theorem kw_lc {i : Int32} : kw_Lo [some (.ref 200000), some (.ref 0), some (.ref 59), some (.ref 81), some (.int i), none, none] := by
  intro j k h
  match j, h with
  | 0, h => cases h; exact Or.inr (by decide)
  | 1, h => cases h; exact Or.inl (by decide)
  | 2, h => cases h; exact Or.inl (by decide)
  | 3, h => cases h; exact Or.inl (by decide)
  | 4, h => cases h
  | 5, h => cases h
  | 6, h => cases h
  | j + 7, h => cases h
/-- the end of a turn is reached with what is known still -/
def kw_Go (p : Program) (l : Launch) (e : Env) (s : State) (m : MethodId) (below : List Frame) (meth : Method) (c : Code) (b : Nat) (D : va_G) (cA : Nat → ClassId) (i : Int32) (ad : Nat → Nat) (vc vs : Nat) : Prop :=
  ∀ (f : Bool) (I : kjI) (K : kjL), kInv f I → ∀ k5 k6 : Option Value, kw_W p l e s m below meth c b D cA ad (558, [some (.ref 200000), some (.ref 0), some (.ref 59), some (.ref 81), some (.int i), k5, k6], [], vc, vs, kjS f I K)
theorem kw_Lc_up {ls : Array Slot} {n : Nat} (ho : kw_Lo lc) (h : mv_Lc ad ls n lc) : mv_Lc (kw_up ad) ls n lc := by
  obtain ⟨h1, h2, h3⟩ := h
  refine ⟨h1, h2, fun j v hj => ?_⟩
  rw [h3 j v hj]
  cases v with
  | ref k =>
    show some (Slot.val (.ref (ad k))) = some (Slot.val (.ref (kw_up ad k)))
    have : kw_up ad k = ad k := by
      unfold kw_up
      rcases ho j k hj with h | h
      · exact if_pos h
      · rw [if_neg (by omega), if_neg (by omega)]
    rw [this]
  | _ => rfl
/-- behind a call of the law's own load or look -/
theorem kw_behind (C : kw_C p s m meth c b L xs D cA ad) {f : Bool} {I J : kjI} {K K' : kjL} {index : Nat} {y : MethodName} {bytes : ByteArray} {maxL : Nat} {hs : List (Nat × Nat × Nat × Nat)} {Pc : Array Value → State → Prop} {As : List Value} {n : Nat} (ho : kw_Lo lc)
    (hM : Met l y (Jvm.Cond.codeWith y bytes maxL (some .int) hs :: kjTs) { frames := 8, cells := 1, slots := 6, locals := 210 } Pc (kl_Pst (kw_A s) D cA ad (fun S' => S' = kjS f J K')) 1 6 (kw_A s)) (hbl : FrameBlind Pc) (hml : 8 + (maxL + 11) + 210 ≤ 438)
    (hlink : Jvm.Cond.methodLink "KindJudgeLaw" index y ∈ kjTs) (hstat : Jvm.Cond.static y ∈ kjTs) (hcode : Jvm.Cond.codeWith y bytes maxL (some .int) hs ∈ kjTs) (hy : y.cls = "KindJudgeLaw") (hn : (parseMethodDescriptor y.desc).map (fun d => d.parameters.length) = some As.length) (hd : decode code pc = .ok (.invokestatic index, 3)) (hvc : vc + 1 ≤ 1108) (hvs : vs + 6 ≤ 62720)
    (hpre : ∀ (H : Heap) (locs : List Loc), mv_Hc (kw_A s) D kjCl kjKd cA ad s (kjS f I K) vc H locs → ∀ U : State, U.heap = H → s.WarmedH U.vm → Pc (As.map (mv_tr ad)).toArray U)
    (k : kw_C p s m meth c b L xs D cA (kw_up ad) → kw_W p l e s m below meth c b D cA (kw_up ad) (pc + 3, lc, [.int 1], vc + 1, vs + 6, kjS f J K')) : kw_W p l e s m below meth c b D cA ad (pc, lc, As.reverse, vc, vs, kjS f I K) := by
  intro H locs ls hH hL hcs
  have C1 := C.1
  have hts := C1.2.2.2.2.1
  have hini : Jvm.Cond.initialized y.cls ∈ kjTs := by rw [hy]; exact kl_in 9 rfl
  have hwk : ∀ w ∈ kjTs, ∀ (a' : Array Value) (U : State), s.WarmedH U.vm → w.before a' U = true := fun w hw a' U hW => word_at hW (kjSy.2.1 w hw) (hts w hw)
  have hK := mv_backW (p := p) (e := e) (below := below) (s := s) (args := #[Value.ref b]) (R := room_1) hM hbl rfl rfl (Nat.le_of_ble_eq_true rfl) hml (fun w hw => by
    rcases List.mem_cons.mp hw with rfl | hw
    · exact hwk _ hcode
    · exact hwk _ hw) List.mem_cons_self (hwk _ hini)
  have hrun := mv_runSW (meth := meth) (locs := locs) (cells := vc) (slots := vs) (pc := pc) (ls := ls) (rest := []) (As := As.map (mv_tr ad)) C1.1 C1.2.1 C1.2.2.1 C1.2.2.2.1 (hts _ hlink) (hts _ hstat) (hts _ hini) (hts _ hcode) (by rw [hy]; decide) (by rw [List.length_map]; exact kl_len hn) hK (hpre H locs hH) hL.1.1 (Nat.zero_le _) hd ⟨hvc, hvs⟩
  have e0 : (As.map (mv_tr ad)).reverse ++ [] = (As.reverse).map (mv_tr ad) := by rw [List.append_nil, List.map_reverse]
  rw [e0] at hrun
  refine mv_callx hrun (fun v st0 t H1 L' h0 h1 hq hL' => ?_)
  obtain ⟨S', rfl, q2, q3, q4, q5, q6⟩ := hq
  cases q2
  rw [h1] at q3 q6
  rw [h0] at q6
  have hF : va_S (kw_A s) H H1 (locs ++ L') := by
    obtain ⟨f1, f2⟩ := q5
    rw [h0, h1] at f1
    refine ⟨f1, fun q q1 q2 => ?_, fun q hq => ?_⟩
    · have := f2 q (by rw [h0]; exact q1) q2
      rw [h0, h1] at this
      exact this
    · rcases List.mem_append.mp hq with h | h
      · exact hH.2.2.1.2.2 q h
      · exact hL' q h
  have h4 : H.size = s.heap.size + vc := hH.2.2.2.1
  have h5 : ∀ k, 82 ≤ k → k < 100000 → ad k + 82 = H.size + k := hH.2.2.2.2
  refine k (kw_C_up C) H1 (locs ++ L') ls ⟨by rw [kw_ws]; exact q3, by rw [kw_ws]; exact q4, mv_S_trans hH.2.2.1 hF, by show H1.size = s.heap.size + (vc + 1); omega, fun q g1 g2 => ?_⟩ (kw_Lc_up ho hL) ⟨hvc, hvs⟩
  have g1 : 82 ≤ q := g1
  have h6 := h5 q g1 g2
  have e1 : kw_up ad q = ad q + 1 := by
    unfold kw_up
    rw [if_neg (by omega), if_pos g2]
  show kw_up ad q + 82 = H1.size + q
  omega
/-- the same where nothing was thrown -/
theorem kw_behindR (C : kw_C p s m meth c b L xs D cA ad) {f g : Bool} {I J : kjI} {K K' : kjL} {index : Nat} {y : MethodName} {bytes : ByteArray} {maxL : Nat} {hs : List (Nat × Nat × Nat × Nat)} {Pc : Array Value → State → Prop} {As : List Value} {n : Nat}
    (hM : Met l y (Jvm.Cond.codeWith y bytes maxL (some .int) hs :: kjTs) { frames := 8, cells := 0, slots := 0, locals := 210 } Pc (mv_Pst (kw_A s) D kjCl kjKd cA ad 0 (fun v S' => v = some (.int (0 : Int32)) ∧ S' = kjS g J K')) 0 0 (kw_A s)) (hbl : FrameBlind Pc) (hml : 8 + (maxL + 11) + 210 ≤ 438)
    (hlink : Jvm.Cond.methodLink "KindJudgeLaw" index y ∈ kjTs) (hstat : Jvm.Cond.static y ∈ kjTs) (hcode : Jvm.Cond.codeWith y bytes maxL (some .int) hs ∈ kjTs) (hy : y.cls = "KindJudgeLaw") (hn : (parseMethodDescriptor y.desc).map (fun d => d.parameters.length) = some As.length) (hd : decode code pc = .ok (.invokestatic index, 3)) (hvc : vc ≤ 1108) (hvs : vs ≤ 62720)
    (hpre : ∀ (H : Heap) (locs : List Loc), mv_Hc (kw_A s) D kjCl kjKd cA ad s (kjS f I K) vc H locs → ∀ U : State, U.heap = H → s.WarmedH U.vm → Pc (As.map (mv_tr ad)).toArray U)
    (k : kw_W p l e s m below meth c b D cA ad (pc + 3, lc, [.int (0 : Int32)], vc, vs, kjS g J K')) : kw_W p l e s m below meth c b D cA ad (pc, lc, As.reverse, vc, vs, kjS f I K) := by
  intro H locs ls hH hL hcs
  have C1 := C.1
  have hts := C1.2.2.2.2.1
  have hini : Jvm.Cond.initialized y.cls ∈ kjTs := by rw [hy]; exact kl_in 9 rfl
  have hwk : ∀ w ∈ kjTs, ∀ (a' : Array Value) (U : State), s.WarmedH U.vm → w.before a' U = true := fun w hw a' U hW => word_at hW (kjSy.2.1 w hw) (hts w hw)
  have hK := mv_backW (p := p) (e := e) (below := below) (s := s) (args := #[Value.ref b]) (R := room_1) hM hbl rfl rfl (Nat.le_of_ble_eq_true rfl) hml (fun w hw => by
    rcases List.mem_cons.mp hw with rfl | hw
    · exact hwk _ hcode
    · exact hwk _ hw) List.mem_cons_self (hwk _ hini)
  have hrun := mv_runSW (meth := meth) (locs := locs) (cells := vc) (slots := vs) (pc := pc) (ls := ls) (rest := []) (As := As.map (mv_tr ad)) C1.1 C1.2.1 C1.2.2.1 C1.2.2.2.1 (hts _ hlink) (hts _ hstat) (hts _ hini) (hts _ hcode) (by rw [hy]; decide) (by rw [List.length_map]; exact kl_len hn) hK (hpre H locs hH) hL.1.1 (Nat.zero_le _) hd ⟨hvc, hvs⟩
  have e0 : (As.map (mv_tr ad)).reverse ++ [] = (As.reverse).map (mv_tr ad) := by rw [List.append_nil, List.map_reverse]
  rw [e0] at hrun
  refine mv_callx hrun (fun v st0 t H1 L' h0 h1 hq hL' => ?_)
  obtain ⟨v', S', ⟨rfl, rfl⟩, q2, q3, q4, q5, q6, q7⟩ := hq
  cases q2
  rw [h1] at q3 q6 q7
  rw [h0] at q6
  have hF : va_S (kw_A s) H H1 (locs ++ L') := by
    obtain ⟨f1, f2⟩ := q5
    rw [h0, h1] at f1
    refine ⟨f1, fun q q1 q2 => ?_, fun q hq => ?_⟩
    · have := f2 q (by rw [h0]; exact q1) q2
      rw [h0, h1] at this
      exact this
    · rcases List.mem_append.mp hq with h | h
      · exact hH.2.2.1.2.2 q h
      · exact hL' q h
  have h4 : H.size = s.heap.size + vc := hH.2.2.2.1
  exact k H1 (locs ++ L') ls ⟨q3, q4, mv_S_trans hH.2.2.1 hF, by show H1.size = s.heap.size + vc; omega, q7⟩ hL ⟨hvc, hvs⟩
theorem kw_pre (C : kw_C p s m meth c b L xs D cA ad) {f : Bool} {I : kjI} {K : kjL} {as : List Value} {own text : String} {is sa : Nat} (hex : mv_Ex kt_F own is text sa (kw_A s) s) (H : Heap) (locs : List Loc) (hH : mv_Hc (kw_A s) D kjCl kjKd cA ad s (kjS f I K) vc H locs) (U : State) (hU : U.heap = H) (hW : s.WarmedH U.vm) : mv_PreT (kw_A s) D kjCl kjKd cA ad kjNw kjSta kjStn as (kjS f I K) kt_F own is text sa (as.map (mv_tr ad)).toArray U := by
  obtain ⟨h1, h2, h3, h4, h5⟩ := hH
  obtain ⟨c1, c2, c3, c4, c5, c6, c7, c8, c9, c10, c11, c12⟩ := C.1
  exact ⟨⟨rfl, mv_Nw_warm mv_nest_all hW c6, va_K.moved hW.alike c7, mv_Sts_go hW.alike h3 hU c12, fun q hq => c8 q (Nat.le_trans h3.1 (by rw [← hU]; exact hq)), by rw [hU]; exact h1, h2, by rw [hU]; exact h5⟩, mv_Ex_go kt_Fo hW h3 hU hex⟩
theorem kw_preR (C : kw_C p s m meth c b L xs D cA ad) {f : Bool} {I : kjI} {K : kjL} {as : List Value} (H : Heap) (locs : List Loc) (hH : mv_Hc (kw_A s) D kjCl kjKd cA ad s (kjS f I K) vc H locs) (U : State) (hU : U.heap = H) (hW : s.WarmedH U.vm) : mv_Pre (kw_A s) D kjCl kjKd cA ad kjNw kjSta kjStn as (kjS f I K) (as.map (mv_tr ad)).toArray U := by
  obtain ⟨h1, h2, h3, h4, h5⟩ := hH
  obtain ⟨c1, c2, c3, c4, c5, c6, c7, c8, c9, c10, c11, c12⟩ := C.1
  exact ⟨rfl, mv_Nw_warm mv_nest_all hW c6, va_K.moved hW.alike c7, mv_Sts_go hW.alike h3 hU c12, fun q hq => c8 q (Nat.le_trans h3.1 (by rw [← hU]; exact hq)), by rw [hU]; exact h1, h2, by rw [hU]; exact h5⟩
theorem kw_cload (C : kw_C p s m meth c b L xs D cA ad) (hfl : l.flags.contains noTraceFlag = true) (hex : ∃ (text : String) (sa : Nat), mv_Ex kt_F "KindJudge" 41 text sa (kw_A s) s) (hv : vc + 1 ≤ 1108 ∧ vs + 6 ≤ 62720) {f : Bool} {N : Nat} {I I1 : kjI} {K K1 : kjL} (h1 : kf13 f N I K = some (I1, K1)) (h2 : ¬ I1 0 3 = 0) (ho : kw_Lo lc)
    (k : kw_C p s m meth c b L xs D cA (kw_up ad) → kw_W p l e s m below meth c b D cA (kw_up ad) (174, lc, [.int 1], vc + 1, vs + 6, kjS f (mv_up I1 (kb (!f) 2) 1 (0 : Int32)) K1)) : kw_W p l e s m below meth c b D cA ad (171, lc, [.ref 81, .ref 0], vc, vs, kjS f I K) := by
  obtain ⟨text, sa, hex⟩ := hex
  exact kw_behind (As := [.ref 0, .ref 81]) (n := 2) C ho (kl_load l hfl (kw_A s) D cA ad h1 h2 text sa) (mv_PreT_blind mv_nest_all kt_Fo _) (Nat.le_of_ble_eq_true rfl) (kl_in 10 rfl) (kl_in 12 rfl) (kl_in 14 rfl) rfl (by decide +kernel) (by decide +kernel) hv.1 hv.2 (kw_pre C hex) k
theorem kw_clook (C : kw_C p s m meth c b L xs D cA ad) (hfl : l.flags.contains noTraceFlag = true) (hex : ∃ (text : String) (sa : Nat), mv_Ex kt_F "KindJudge" 100 text sa (kw_A s) s) (hv : vc + 1 ≤ 1108 ∧ vs + 6 ≤ 62720) {f : Bool} {I : kjI} {K : kjL} {w1 w2 w3 : Int32} (hx : w3 < 0 ∨ (5 : Int32) < w3 ∨ kf66 f I K w1 w2 = some 0) (ho : kw_Lo lc)
    (k : kw_C p s m meth c b L xs D cA (kw_up ad) → kw_W p l e s m below meth c b D cA (kw_up ad) (282, lc, [.int 1], vc + 1, vs + 6, kjS f I K)) : kw_W p l e s m below meth c b D cA ad (279, lc, [.ref 81, .int w3, .int w2, .int w1, .ref 0], vc, vs, kjS f I K) := by
  obtain ⟨text, sa, hex⟩ := hex
  exact kw_behind (As := [.ref 0, .int w1, .int w2, .int w3, .ref 81]) (n := 5) C ho (kl_look l hfl (kw_A s) D cA ad w1 w2 w3 hx text sa) (mv_PreT_blind mv_nest_all kt_Fo _) (Nat.le_of_ble_eq_true rfl) (kl_in 11 rfl) (kl_in 13 rfl) (kl_in 15 rfl) rfl (by show (parseMethodDescriptor kl_nk.desc).map (fun d => d.parameters.length) = some 5; decide +kernel) (by decide +kernel) hv.1 hv.2 (kw_pre C hex) k
theorem kw_cloadR (C : kw_C p s m meth c b L xs D cA ad) (hv : vc + 1 ≤ 1108 ∧ vs + 6 ≤ 62720) {f g : Bool} {I J : kjI} {K K1 : kjL} {x : Int32} (hb : mv_C kjP kjSta 8 2 [.ref 0] (kjS f I K) (kjQwi g (x, J, K1)))
    (k : kw_W p l e s m below meth c b D cA ad (174, lc, [.int (0 : Int32)], vc, vs, kjS g J (mv_up K1 81 (Int32.toNatClampNeg (0 : Int32)) (Int32.toInt64 x)))) : kw_W p l e s m below meth c b D cA ad (171, lc, [.ref 81, .ref 0], vc, vs, kjS f I K) :=
  kw_behindR (As := [.ref 0, .ref 81]) (n := 2) C (kl_loadR l (kw_A s) D cA ad hb) (mv_Pre_blind mv_nest_all _) (Nat.le_of_ble_eq_true rfl) (kl_in 10 rfl) (kl_in 12 rfl) (kl_in 14 rfl) rfl (by decide +kernel) (by decide +kernel) (by omega) (by omega) (kw_preR C) k
theorem kw_clookR (C : kw_C p s m meth c b L xs D cA ad) (hv : vc + 1 ≤ 1108 ∧ vs + 6 ≤ 62720) {f : Bool} {I : kjI} {K : kjL} {x w1 w2 w3 : Int32} (h5 : kf5 f I K w1 w2 w3 = some x)
    (k : kw_W p l e s m below meth c b D cA ad (282, lc, [.int (0 : Int32)], vc, vs, kjS f I (mv_up K 81 (Int32.toNatClampNeg (0 : Int32)) (Int32.toInt64 x)))) : kw_W p l e s m below meth c b D cA ad (279, lc, [.ref 81, .int w3, .int w2, .int w1, .ref 0], vc, vs, kjS f I K) :=
  kw_behindR (As := [.ref 0, .int w1, .int w2, .int w3, .ref 81]) (n := 5) C (kl_lookR (g := f) (J := I) (K := K) (x := x) l (kw_A s) D cA ad (kf5_ok f I K w1 w2 w3 3 x h5)) (mv_Pre_blind mv_nest_all _) (Nat.le_of_ble_eq_true rfl) (kl_in 11 rfl) (kl_in 13 rfl) (kl_in 15 rfl) rfl (by show (parseMethodDescriptor kl_nk.desc).map (fun d => d.parameters.length) = some 5; decide +kernel) (by decide +kernel) (by omega) (by omega) (kw_preR C) k
end KW
