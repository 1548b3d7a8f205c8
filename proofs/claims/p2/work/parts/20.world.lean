/-! The world of the law: the cells of the class (two Books), of the reference, and the answers' array; by program (wip/p2/emit.py). -/
def kb (b : Bool) (k : Nat) : Nat := bif b then k + 29 else k
def kjSH : List mv_Sh := [.inr 0, .inr 1, .inr 2, .inl (2, 1500), .inr 3, .inr 4, .inl (0, 8), .inl (0, 8), .inl (0, 64), .inl (0, 8), .inr 5, .inl (0, 16), .inl (0, 64), .inl (0, 16), .inr 5, .inl (0, 16), .inl (0, 64), .inl (0, 16), .inl (0, 16), .inl (0, 16), .inl (0, 16), .inl (0, 16), .inl (0, 64), .inr 6, .inr 7, .inl (1, 1500), .inr 8, .inl (2, 1500), .inl (3, 1500), .inl (1, 120), .inr 1, .inr 2, .inl (2, 1500), .inr 3, .inr 4, .inl (0, 8), .inl (0, 8), .inl (0, 64), .inl (0, 8), .inr 5, .inl (0, 16), .inl (0, 64), .inl (0, 16), .inr 5, .inl (0, 16), .inl (0, 64), .inl (0, 16), .inl (0, 16), .inl (0, 16), .inl (0, 16), .inl (0, 16), .inl (0, 64), .inr 6, .inr 7, .inl (1, 1500), .inr 8, .inl (2, 1500), .inl (3, 1500), .inl (1, 120), .inr 9, .inl (0, 1500), .inl (0, 1500), .inl (0, 1500), .inl (0, 8), .inl (0, 8), .inl (0, 64), .inl (0, 8), .inl (0, 24), .inl (0, 8), .inl (0, 16), .inl (0, 64), .inl (0, 16), .inl (0, 16), .inl (0, 16), .inl (0, 16), .inl (0, 1920), .inl (1, 1920), .inl (0, 64), .inl (0, 1920), .inl (0, 30720), .inl (0, 16), .inl (3, 1)]
def kjRt (f : Bool) : List (List (Option Nat)) := [[some (kb f 1), some (kb (!f) 1)], [some 2, some 4, some 24, some 26], [some 3], [], [some 5, some 10, some 14, some 23, some 18, some 19, some 20, some 21, some 22], [some 6, some 7, some 8, some 9], [], [], [], [], [some 11, some 12, some 13], [], [], [], [some 15, some 16, some 17], [], [], [], [], [], [], [], [], [some 2], [some 2, some 4, some 25], [], [some 4, some 24, some 27, some 28, some 29], [], [], [], [some 31, some 33, some 53, some 55], [some 32], [], [some 34, some 39, some 43, some 52, some 47, some 48, some 49, some 50, some 51], [some 35, some 36, some 37, some 38], [], [], [], [], [some 40, some 41, some 42], [], [], [], [some 44, some 45, some 46], [], [], [], [], [], [], [], [], [some 31], [some 31, some 33, some 54], [], [some 33, some 53, some 56, some 57, some 58], [], [], [], [none, none, none, some 60, some 61, none, some 62, none, none, none, none, none, none, some 63, some 64, some 65, none, some 66, some 67, some 68, none, some 69, some 70, some 71, some 72, some 73, some 74, some 75, some 76, some 77, some 78, some 79, some 80], [], [], [], [], [], [], [], [], [], [], [], [], [], [], [], [], [], [], [], [], [], []]
def kjR (f : Bool) (k j : Nat) : Option Nat := ((kjRt f).getD k []).getD j none
abbrev kjI : Type := Nat → Nat → Int32
abbrev kjL : Type := Nat → Nat → Int64
abbrev kjS (f : Bool) (I : kjI) (L : kjL) : mv_S := (kjSH, I, L, kjR f)
def kjQi (f : Bool) (I : kjI) (L : kjL) (r : Int32) : Option Value → mv_S → Prop := fun v S => v = some (.int r) ∧ S = kjS f I L
def kjQl (f : Bool) (I : kjI) (L : kjL) (r : Int64) : Option Value → mv_S → Prop := fun v S => v = some (.long r) ∧ S = kjS f I L
def kjQwi (f : Bool) (r : Int32 × kjI × kjL) : Option Value → mv_S → Prop := fun v S => v = some (.int r.1) ∧ S = kjS f r.2.1 r.2.2
def kjQwv (f : Bool) (r : kjI × kjL) : Option Value → mv_S → Prop := fun v S => v = none ∧ S = kjS f r.1 r.2
def mv_in (i : Int32) (n : Nat) : Bool := !(decide (i < 0)) && Nat.blt i.toNatClampNeg n
theorem mv_in_ok {i : Int32} {n : Nat} (h : mv_in i n = true) : vp_in i n := by
  unfold mv_in at h
  rw [Bool.and_eq_true] at h
  intro q
  rcases q with q | q
  · have := h.1
    simp [q] at this
  · have : i.toNatClampNeg < n := Nat.le_of_ble_eq_true h.2
    omega
theorem mv_bifs {α : Type} {b : Bool} {x : Option α} {r : α} (h : (bif b then x else none) = some r) : b = true ∧ x = some r := by
  cases b with
  | true => exact ⟨rfl, h⟩
  | false => cases h
theorem mv_ifs {α : Type} {c : Prop} {d : Decidable c} {x : Option α} {r : α} (h : (if c then x else none) = some r) : c ∧ x = some r := by
  by_cases hc : c
  · rw [if_pos hc] at h
    exact ⟨hc, h⟩
  · rw [if_neg hc] at h
    cases h
theorem mv_bd {α β : Type} {o : Option α} {f : α → Option β} {r : β} (h : o.bind f = some r) : ∃ x, o = some x ∧ f x = some r := by
  cases o with
  | none => cases h
  | some x => exact ⟨x, rfl, h⟩
theorem mv_C_in {prog : List mv_Me} {sta : Nat → List Int32} {d i : Nat} {as : List Value} {S : mv_S} {Q : Option Value → mv_S → Prop} (M : mv_Me) {lc : mv_L} (h1 : prog[i]? = some M) (h2 : mv_ent (mv_ml M) as = lc) (h3 : lc.length = mv_ml M) (h4 : mv_G prog sta (mv_C prog sta d) M Q (0, lc, [], 0, 0, S)) : mv_C prog sta (d + 1) i as S Q := by
  subst h2
  exact ⟨M, h1, h3, h4⟩
