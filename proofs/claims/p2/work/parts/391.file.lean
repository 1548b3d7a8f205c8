/-! What a FILE without FAULT 1 tells, apart from how it is kept. -/
def KF : Type := (Nat × Nat × Nat) × ((Nat → Int) × (Nat → Nat) × (Nat → Nat → Nat)) × ((Nat → Nat) × (Nat → Nat → Nat) × (Nat → Nat)) × ((Nat → Nat) × (Nat → Nat → Nat) × (Nat → Nat) × (Nat → Nat) × (Nat → Nat) × (Nat → Nat) × (Nat → Nat) × (Nat → Nat → Nat)) × ((Nat → Nat → Int) × (Nat → Nat → Nat))
def KF.nc (F : KF) : Nat := F.1.1
def KF.ns (F : KF) : Nat := F.1.2.1
def KF.nm (F : KF) : Nat := F.1.2.2
/-- the SUPER -/
def KF.P (F : KF) : Nat → Int := F.2.1.1
/-- the number of fields -/
def KF.nf (F : KF) : Nat → Nat := F.2.1.2.1
def KF.ft (F : KF) : Nat → Nat → Nat := F.2.1.2.2
/-- of a SELECTOR: PARAMETERS, their TYPES, what is RETURNED -/
def KF.sp (F : KF) : Nat → Nat := F.2.2.1.1
def KF.st (F : KF) : Nat → Nat → Nat := F.2.2.1.2.1
def KF.sr (F : KF) : Nat → Nat := F.2.2.1.2.2
/-- of a METHOD the same, LOCALS, the STACK's most, the CODE's length, where it is, its bytes -/
def KF.mp (F : KF) : Nat → Nat := F.2.2.2.1.1
def KF.mt (F : KF) : Nat → Nat → Nat := F.2.2.2.1.2.1
def KF.mr (F : KF) : Nat → Nat := F.2.2.2.1.2.2.1
def KF.ml (F : KF) : Nat → Nat := F.2.2.2.1.2.2.2.1
def KF.ms (F : KF) : Nat → Nat := F.2.2.2.1.2.2.2.2.1
def KF.mn (F : KF) : Nat → Nat := F.2.2.2.1.2.2.2.2.2.1
def KF.ma (F : KF) : Nat → Nat := F.2.2.2.1.2.2.2.2.2.2.1
def KF.mb (F : KF) : Nat → Nat → Nat := F.2.2.2.1.2.2.2.2.2.2.2
/-- the table: what a call comes to; what is told -/
def KF.te (F : KF) : Nat → Nat → Int := F.2.2.2.2.1
def KF.tr (F : KF) : Nat → Nat → Nat := F.2.2.2.2.2
abbrev KFok (F : KF) : Prop := (F.nc ≤ 8) ∧ (F.ns ≤ 8) ∧ (1 ≤ F.nm ∧ F.nm ≤ 16) ∧ (HP F.nc F.P) ∧ (∀ c, c < F.nc → F.nf c ≤ 8) ∧ (∀ c, c < F.nc → ∀ i, i < F.nf c → tyOk F.nc false (F.ft c i)) ∧ (∀ s, s < F.ns → F.sp s ≤ 3) ∧ (∀ s, s < F.ns → tyOk F.nc true (F.sr s)) ∧ (∀ s, s < F.ns → ∀ i, i < F.sp s → tyOk F.nc false (F.st s i)) ∧ (∀ m, m < F.nm → F.mp m ≤ 4) ∧ (∀ m, m < F.nm → tyOk F.nc true (F.mr m)) ∧ (∀ m, m < F.nm → ∀ i, i < F.mp m → tyOk F.nc false (F.mt m i)) ∧ (∀ m, m < F.nm → F.mp m ≤ F.ml m ∧ F.ml m ≤ 8) ∧ (∀ m, m < F.nm → F.ms m ≤ 8) ∧ (∀ m, m < F.nm → 1 ≤ F.mn m ∧ F.mn m ≤ 120) ∧ (∀ m, m < F.nm → F.ma m + F.mn m ≤ 1500) ∧ (∀ m m', m < m' → m' < F.nm → F.ma m + F.mn m ≤ F.ma m') ∧ (∀ m, m < F.nm → ∀ i, i < F.mn m → F.mb m i < 256) ∧ (∀ c s, c < F.nc → s < F.ns → -1 ≤ F.te c s ∧ F.te c s < F.nm) ∧ (∀ c s, c < F.nc → s < F.ns → F.tr c s ≤ F.nm) ∧ (∀ c s, c < F.nc → s < F.ns → 0 < F.tr c s → F.te c s = (F.tr c s : Int) - 1) ∧ (∀ c s, c < F.nc → s < F.ns → F.tr c s = 0 → F.P c < 0 → F.te c s = -1) ∧ (∀ c s, c < F.nc → s < F.ns → F.tr c s = 0 → 0 ≤ F.P c → F.te c s = F.te (F.P c).toNat s)
theorem KFok.nc8 {F : KF} (h : KFok F) : F.nc ≤ 8 := h.1
theorem KFok.ns8 {F : KF} (h : KFok F) : F.ns ≤ 8 := h.2.1
theorem KFok.nm16 {F : KF} (h : KFok F) : 1 ≤ F.nm ∧ F.nm ≤ 16 := h.2.2.1
theorem KFok.hp {F : KF} (h : KFok F) : HP F.nc F.P := h.2.2.2.1
theorem KFok.nf8 {F : KF} (h : KFok F) : ∀ c, c < F.nc → F.nf c ≤ 8 := h.2.2.2.2.1
theorem KFok.fty {F : KF} (h : KFok F) : ∀ c, c < F.nc → ∀ i, i < F.nf c → tyOk F.nc false (F.ft c i) := h.2.2.2.2.2.1
theorem KFok.sp3 {F : KF} (h : KFok F) : ∀ s, s < F.ns → F.sp s ≤ 3 := h.2.2.2.2.2.2.1
theorem KFok.srt {F : KF} (h : KFok F) : ∀ s, s < F.ns → tyOk F.nc true (F.sr s) := h.2.2.2.2.2.2.2.1
theorem KFok.sty {F : KF} (h : KFok F) : ∀ s, s < F.ns → ∀ i, i < F.sp s → tyOk F.nc false (F.st s i) := h.2.2.2.2.2.2.2.2.1
theorem KFok.mp4 {F : KF} (h : KFok F) : ∀ m, m < F.nm → F.mp m ≤ 4 := h.2.2.2.2.2.2.2.2.2.1
theorem KFok.mrt {F : KF} (h : KFok F) : ∀ m, m < F.nm → tyOk F.nc true (F.mr m) := h.2.2.2.2.2.2.2.2.2.2.1
theorem KFok.mty {F : KF} (h : KFok F) : ∀ m, m < F.nm → ∀ i, i < F.mp m → tyOk F.nc false (F.mt m i) := h.2.2.2.2.2.2.2.2.2.2.2.1
theorem KFok.ml8 {F : KF} (h : KFok F) : ∀ m, m < F.nm → F.mp m ≤ F.ml m ∧ F.ml m ≤ 8 := h.2.2.2.2.2.2.2.2.2.2.2.2.1
theorem KFok.ms8 {F : KF} (h : KFok F) : ∀ m, m < F.nm → F.ms m ≤ 8 := h.2.2.2.2.2.2.2.2.2.2.2.2.2.1
theorem KFok.mn120 {F : KF} (h : KFok F) : ∀ m, m < F.nm → 1 ≤ F.mn m ∧ F.mn m ≤ 120 := h.2.2.2.2.2.2.2.2.2.2.2.2.2.2.1
theorem KFok.ma1500 {F : KF} (h : KFok F) : ∀ m, m < F.nm → F.ma m + F.mn m ≤ 1500 := h.2.2.2.2.2.2.2.2.2.2.2.2.2.2.2.1
theorem KFok.dis {F : KF} (h : KFok F) : ∀ m m', m < m' → m' < F.nm → F.ma m + F.mn m ≤ F.ma m' := h.2.2.2.2.2.2.2.2.2.2.2.2.2.2.2.2.1
theorem KFok.mb256 {F : KF} (h : KFok F) : ∀ m, m < F.nm → ∀ i, i < F.mn m → F.mb m i < 256 := h.2.2.2.2.2.2.2.2.2.2.2.2.2.2.2.2.2.1
theorem KFok.ter {F : KF} (h : KFok F) : ∀ c s, c < F.nc → s < F.ns → -1 ≤ F.te c s ∧ F.te c s < F.nm := h.2.2.2.2.2.2.2.2.2.2.2.2.2.2.2.2.2.2.1
theorem KFok.trr {F : KF} (h : KFok F) : ∀ c s, c < F.nc → s < F.ns → F.tr c s ≤ F.nm := h.2.2.2.2.2.2.2.2.2.2.2.2.2.2.2.2.2.2.2.1
theorem KFok.town {F : KF} (h : KFok F) : ∀ c s, c < F.nc → s < F.ns → 0 < F.tr c s → F.te c s = (F.tr c s : Int) - 1 := h.2.2.2.2.2.2.2.2.2.2.2.2.2.2.2.2.2.2.2.2.1
theorem KFok.tnon {F : KF} (h : KFok F) : ∀ c s, c < F.nc → s < F.ns → F.tr c s = 0 → F.P c < 0 → F.te c s = -1 := h.2.2.2.2.2.2.2.2.2.2.2.2.2.2.2.2.2.2.2.2.2.1
theorem KFok.tinh {F : KF} (h : KFok F) : ∀ c s, c < F.nc → s < F.ns → F.tr c s = 0 → 0 ≤ F.P c → F.te c s = F.te (F.P c).toNat s := h.2.2.2.2.2.2.2.2.2.2.2.2.2.2.2.2.2.2.2.2.2.2
/-- it lies in a Book -/
abbrev CV (b : Bool) (F : KF) (I : kjI) : Prop := (I (kb b 5) 4 = w F.nc) ∧ (∀ c, c < F.nc → I (kb b 6) c = w (F.P c)) ∧ (∀ c, c < F.nc → I (kb b 7) c = w (F.nf c)) ∧ (∀ c, c < F.nc → ∀ i, i < F.nf c → I (kb b 8) (8 * c + i) = w (F.ft c i)) ∧ (∀ c, c < F.nc → ∃ A : Nat, A < 256 ∧ I (kb b 9) c = w A ∧ ∀ d, d < 8 → A.testBit d = anc F.P 8 c d) ∧ (I (kb b 10) 3 = w F.ns) ∧ (∀ s, s < F.ns → I (kb b 11) s = w (F.sp s)) ∧ (∀ s, s < F.ns → ∀ i, i < F.sp s → I (kb b 12) (4 * s + i) = w (F.st s i)) ∧ (∀ s, s < F.ns → I (kb b 13) s = w (F.sr s)) ∧ (I (kb b 14) 3 = w F.nm) ∧ (∀ m, m < F.nm → I (kb b 15) m = w (F.mp m)) ∧ (∀ m, m < F.nm → ∀ i, i < F.mp m → I (kb b 16) (4 * m + i) = w (F.mt m i)) ∧ (∀ m, m < F.nm → I (kb b 17) m = w (F.mr m)) ∧ (∀ m, m < F.nm → I (kb b 18) m = w (F.ml m)) ∧ (∀ m, m < F.nm → I (kb b 19) m = w (F.ms m)) ∧ (∀ m, m < F.nm → I (kb b 20) m = w (F.ma m)) ∧ (∀ m, m < F.nm → I (kb b 21) m = w (F.mn m)) ∧ (∀ c s, c < F.nc → s < F.ns → I (kb b 22) (8 * c + s) = w (F.te c s)) ∧ (∃ n : Nat, n ≤ 1500 ∧ I (kb b 2) 1 = w n ∧ ∀ m, m < F.nm → F.ma m + F.mn m ≤ n) ∧ (∀ m, m < F.nm → ∀ i, i < F.mn m → I (kb b 3) (F.ma m + i) &&& 255 = w (F.mb m i))
theorem CV.n5 {b : Bool} {F : KF} {I : kjI} (h : CV b F I) : I (kb b 5) 4 = w F.nc := h.1
theorem CV.v6 {b : Bool} {F : KF} {I : kjI} (h : CV b F I) : ∀ c, c < F.nc → I (kb b 6) c = w (F.P c) := h.2.1
theorem CV.v7 {b : Bool} {F : KF} {I : kjI} (h : CV b F I) : ∀ c, c < F.nc → I (kb b 7) c = w (F.nf c) := h.2.2.1
theorem CV.v8 {b : Bool} {F : KF} {I : kjI} (h : CV b F I) : ∀ c, c < F.nc → ∀ i, i < F.nf c → I (kb b 8) (8 * c + i) = w (F.ft c i) := h.2.2.2.1
theorem CV.v9 {b : Bool} {F : KF} {I : kjI} (h : CV b F I) : ∀ c, c < F.nc → ∃ A : Nat, A < 256 ∧ I (kb b 9) c = w A ∧ ∀ d, d < 8 → A.testBit d = anc F.P 8 c d := h.2.2.2.2.1
theorem CV.n10 {b : Bool} {F : KF} {I : kjI} (h : CV b F I) : I (kb b 10) 3 = w F.ns := h.2.2.2.2.2.1
theorem CV.v11 {b : Bool} {F : KF} {I : kjI} (h : CV b F I) : ∀ s, s < F.ns → I (kb b 11) s = w (F.sp s) := h.2.2.2.2.2.2.1
theorem CV.v12 {b : Bool} {F : KF} {I : kjI} (h : CV b F I) : ∀ s, s < F.ns → ∀ i, i < F.sp s → I (kb b 12) (4 * s + i) = w (F.st s i) := h.2.2.2.2.2.2.2.1
theorem CV.v13 {b : Bool} {F : KF} {I : kjI} (h : CV b F I) : ∀ s, s < F.ns → I (kb b 13) s = w (F.sr s) := h.2.2.2.2.2.2.2.2.1
theorem CV.n14 {b : Bool} {F : KF} {I : kjI} (h : CV b F I) : I (kb b 14) 3 = w F.nm := h.2.2.2.2.2.2.2.2.2.1
theorem CV.v15 {b : Bool} {F : KF} {I : kjI} (h : CV b F I) : ∀ m, m < F.nm → I (kb b 15) m = w (F.mp m) := h.2.2.2.2.2.2.2.2.2.2.1
theorem CV.v16 {b : Bool} {F : KF} {I : kjI} (h : CV b F I) : ∀ m, m < F.nm → ∀ i, i < F.mp m → I (kb b 16) (4 * m + i) = w (F.mt m i) := h.2.2.2.2.2.2.2.2.2.2.2.1
theorem CV.v17 {b : Bool} {F : KF} {I : kjI} (h : CV b F I) : ∀ m, m < F.nm → I (kb b 17) m = w (F.mr m) := h.2.2.2.2.2.2.2.2.2.2.2.2.1
theorem CV.v18 {b : Bool} {F : KF} {I : kjI} (h : CV b F I) : ∀ m, m < F.nm → I (kb b 18) m = w (F.ml m) := h.2.2.2.2.2.2.2.2.2.2.2.2.2.1
theorem CV.v19 {b : Bool} {F : KF} {I : kjI} (h : CV b F I) : ∀ m, m < F.nm → I (kb b 19) m = w (F.ms m) := h.2.2.2.2.2.2.2.2.2.2.2.2.2.2.1
theorem CV.v20 {b : Bool} {F : KF} {I : kjI} (h : CV b F I) : ∀ m, m < F.nm → I (kb b 20) m = w (F.ma m) := h.2.2.2.2.2.2.2.2.2.2.2.2.2.2.2.1
theorem CV.v21 {b : Bool} {F : KF} {I : kjI} (h : CV b F I) : ∀ m, m < F.nm → I (kb b 21) m = w (F.mn m) := h.2.2.2.2.2.2.2.2.2.2.2.2.2.2.2.2.1
theorem CV.v22 {b : Bool} {F : KF} {I : kjI} (h : CV b F I) : ∀ c s, c < F.nc → s < F.ns → I (kb b 22) (8 * c + s) = w (F.te c s) := h.2.2.2.2.2.2.2.2.2.2.2.2.2.2.2.2.2.1
theorem CV.n2 {b : Bool} {F : KF} {I : kjI} (h : CV b F I) : ∃ n : Nat, n ≤ 1500 ∧ I (kb b 2) 1 = w n ∧ ∀ m, m < F.nm → F.ma m + F.mn m ≤ n := h.2.2.2.2.2.2.2.2.2.2.2.2.2.2.2.2.2.2.1
theorem CV.v3 {b : Bool} {F : KF} {I : kjI} (h : CV b F I) : ∀ m, m < F.nm → ∀ i, i < F.mn m → I (kb b 3) (F.ma m + i) &&& 255 = w (F.mb m i) := h.2.2.2.2.2.2.2.2.2.2.2.2.2.2.2.2.2.2.2
/-- it lies in the reference -/
abbrev MV (F : KF) (J : kjI) : Prop := (J 59 12 = w F.nc) ∧ (J 59 16 = w F.ns) ∧ (J 59 20 = w F.nm) ∧ (∀ c, c < F.nc → J 63 c = w (F.P c)) ∧ (∀ c, c < F.nc → J 64 c = w (F.nf c)) ∧ (∀ c, c < F.nc → ∀ i, i < F.nf c → J 65 (8 * c + i) = w (F.ft c i)) ∧ (∀ s, s < F.ns → J 66 s = w (F.sp s)) ∧ (∀ s, s < F.ns → ∀ i, i < F.sp s → J 67 (3 * s + i) = w (F.st s i)) ∧ (∀ s, s < F.ns → J 68 s = w (F.sr s)) ∧ (∀ m, m < F.nm → J 69 m = w (F.mp m)) ∧ (∀ m, m < F.nm → ∀ i, i < F.mp m → J 70 (4 * m + i) = w (F.mt m i)) ∧ (∀ m, m < F.nm → J 71 m = w (F.mr m)) ∧ (∀ m, m < F.nm → J 72 m = w (F.ml m)) ∧ (∀ m, m < F.nm → J 73 m = w (F.ms m)) ∧ (∀ m, m < F.nm → J 74 m = w (F.mn m)) ∧ (∀ m, m < F.nm → ∀ i, i < F.mn m → J 75 (120 * m + i) = w (F.mb m i)) ∧ (∀ c s, c < F.nc → s < F.ns → J 77 (8 * c + s) = w (F.tr c s))
theorem MV.n12 {F : KF} {J : kjI} (h : MV F J) : J 59 12 = w F.nc := h.1
theorem MV.n16 {F : KF} {J : kjI} (h : MV F J) : J 59 16 = w F.ns := h.2.1
theorem MV.n20 {F : KF} {J : kjI} (h : MV F J) : J 59 20 = w F.nm := h.2.2.1
theorem MV.v63 {F : KF} {J : kjI} (h : MV F J) : ∀ c, c < F.nc → J 63 c = w (F.P c) := h.2.2.2.1
theorem MV.v64 {F : KF} {J : kjI} (h : MV F J) : ∀ c, c < F.nc → J 64 c = w (F.nf c) := h.2.2.2.2.1
theorem MV.v65 {F : KF} {J : kjI} (h : MV F J) : ∀ c, c < F.nc → ∀ i, i < F.nf c → J 65 (8 * c + i) = w (F.ft c i) := h.2.2.2.2.2.1
theorem MV.v66 {F : KF} {J : kjI} (h : MV F J) : ∀ s, s < F.ns → J 66 s = w (F.sp s) := h.2.2.2.2.2.2.1
theorem MV.v67 {F : KF} {J : kjI} (h : MV F J) : ∀ s, s < F.ns → ∀ i, i < F.sp s → J 67 (3 * s + i) = w (F.st s i) := h.2.2.2.2.2.2.2.1
theorem MV.v68 {F : KF} {J : kjI} (h : MV F J) : ∀ s, s < F.ns → J 68 s = w (F.sr s) := h.2.2.2.2.2.2.2.2.1
theorem MV.v69 {F : KF} {J : kjI} (h : MV F J) : ∀ m, m < F.nm → J 69 m = w (F.mp m) := h.2.2.2.2.2.2.2.2.2.1
theorem MV.v70 {F : KF} {J : kjI} (h : MV F J) : ∀ m, m < F.nm → ∀ i, i < F.mp m → J 70 (4 * m + i) = w (F.mt m i) := h.2.2.2.2.2.2.2.2.2.2.1
theorem MV.v71 {F : KF} {J : kjI} (h : MV F J) : ∀ m, m < F.nm → J 71 m = w (F.mr m) := h.2.2.2.2.2.2.2.2.2.2.2.1
theorem MV.v72 {F : KF} {J : kjI} (h : MV F J) : ∀ m, m < F.nm → J 72 m = w (F.ml m) := h.2.2.2.2.2.2.2.2.2.2.2.2.1
theorem MV.v73 {F : KF} {J : kjI} (h : MV F J) : ∀ m, m < F.nm → J 73 m = w (F.ms m) := h.2.2.2.2.2.2.2.2.2.2.2.2.2.1
theorem MV.v74 {F : KF} {J : kjI} (h : MV F J) : ∀ m, m < F.nm → J 74 m = w (F.mn m) := h.2.2.2.2.2.2.2.2.2.2.2.2.2.2.1
theorem MV.v75 {F : KF} {J : kjI} (h : MV F J) : ∀ m, m < F.nm → ∀ i, i < F.mn m → J 75 (120 * m + i) = w (F.mb m i) := h.2.2.2.2.2.2.2.2.2.2.2.2.2.2.2.1
theorem MV.v77 {F : KF} {J : kjI} (h : MV F J) : ∀ c s, c < F.nc → s < F.ns → J 77 (8 * c + s) = w (F.tr c s) := h.2.2.2.2.2.2.2.2.2.2.2.2.2.2.2.2
def un (x : Int32) : Nat := x.toInt.toNat
theorem un_w {z : Nat} (h : z < 2147483648) : un (w z) = z := by
  unfold un
  rw [w_toInt (by omega)]
  omega
theorem ty_lt {nc : Nat} {z : Bool} {t : Nat} (h : tyOk nc z t) (hn : nc ≤ 8) : t < 24 := by
  unfold tyOk at h
  omega
/-- what was read, without the stores -/
def mkF (b : Bool) (B : Nat → Nat) (nc ns nm : Nat) (P : Nat → Int) (I J : kjI) : KF :=
  ((nc, ns, nm), (P, (fun c => un (J 64 c)), fun c i => un (J 65 (8 * c + i))), ((fun s => un (J 66 s)), (fun s i => un (J 67 (3 * s + i))), fun s => un (J 68 s)), ((fun m => un (J 69 m)), (fun m i => un (J 70 (4 * m + i))), (fun m => un (J 71 m)), (fun m => un (J 72 m)), (fun m => un (J 73 m)), (fun m => un (J 74 m)), (fun m => un (I (kb b 20) m)), fun m i => B (un (I (kb b 20) m) + i)), ((fun c s => (I (kb b 22) (8 * c + s)).toInt), fun c s => un (J 77 (8 * c + s))))
theorem r_file {b : Bool} {n : Nat} {B : Nat → Nat} {nc ns nm : Nat} {P : Nat → Int} {I J : kjI} (hB : k_row b n B I) (h : PD b n B nc ns nm n P I J) (hT : TD b nm P ns nc 0 I J) : ∃ F : KF, KFok F ∧ CV b F I ∧ MV F J := by
  have hn := hB.1
  have hnc := h.ab.le
  have fC : ∀ c, c < nc → un (J 64 c) ≤ 8 ∧ I (kb b 7) c = w (un (J 64 c)) ∧ J 64 c = w (un (J 64 c)) ∧ ∀ i, i < un (J 64 c) → tyOk nc false (un (J 65 (8 * c + i))) ∧ I (kb b 8) (8 * c + i) = w (un (J 65 (8 * c + i))) ∧ J 65 (8 * c + i) = w (un (J 65 (8 * c + i))) := by
    intro c hc
    obtain ⟨p, f, A, hA⟩ := h.cd c hc
    have hf := hA.fcr
    have e : un (J 64 c) = f := by rw [hA.fc2, un_w (by omega)]
    rw [e]
    refine ⟨hf, hA.fc1, hA.fc2, fun i hi => ?_⟩
    obtain ⟨t, q1, q2, q3⟩ := hA.ft i hi
    have e2 : un (J 65 (8 * c + i)) = t := by rw [q2, un_w (by have := ty_lt q3 hnc; omega)]
    rw [e2]
    exact ⟨q3, q1, q2⟩
  have fS : ∀ s, s < ns → un (J 66 s) ≤ 3 ∧ I (kb b 11) s = w (un (J 66 s)) ∧ J 66 s = w (un (J 66 s)) ∧ tyOk nc true (un (J 68 s)) ∧ I (kb b 13) s = w (un (J 68 s)) ∧ J 68 s = w (un (J 68 s)) ∧ ∀ i, i < un (J 66 s) → tyOk nc false (un (J 67 (3 * s + i))) ∧ I (kb b 12) (4 * s + i) = w (un (J 67 (3 * s + i))) ∧ J 67 (3 * s + i) = w (un (J 67 (3 * s + i))) := by
    intro s hs
    obtain ⟨p, r, hA⟩ := h.sd s hs
    have hf := hA.nr
    have e : un (J 66 s) = p := by rw [hA.n2, un_w (by omega)]
    have e1 : un (J 68 s) = r := by rw [hA.r2, un_w (by have := ty_lt hA.rr hnc; omega)]
    rw [e, e1]
    refine ⟨hf, hA.n1, hA.n2, hA.rr, hA.r1, hA.r2, fun i hi => ?_⟩
    obtain ⟨t, q1, q2, q3⟩ := hA.ty i hi
    have e2 : un (J 67 (3 * s + i)) = t := by rw [q2, un_w (by have := ty_lt q3 hnc; omega)]
    rw [e2]
    exact ⟨q3, q1, q2⟩
  have fM : ∀ m, m < nm → MDa b n B nc m I J (un (J 69 m)) (un (J 71 m)) (un (J 72 m)) (un (J 73 m)) (un (J 74 m)) (un (I (kb b 20) m)) := by
    intro m hm
    obtain ⟨p, r, lo, st, ln, sta, hA, -⟩ := h.md m hm
    have h1 := hA.nr
    have h2 := hA.lor
    have h3 := hA.str
    have h4 := hA.lnr
    have h5 := hA.sar
    have e1 : un (J 69 m) = p := by rw [hA.n2, un_w (by omega)]
    have e2 : un (J 71 m) = r := by rw [hA.r2, un_w (by have := ty_lt hA.rr hnc; omega)]
    have e3 : un (J 72 m) = lo := by rw [hA.lo2, un_w (by omega)]
    have e4 : un (J 73 m) = st := by rw [hA.st2, un_w (by omega)]
    have e5 : un (J 74 m) = ln := by rw [hA.ln2, un_w (by omega)]
    have e6 : un (I (kb b 20) m) = sta := by rw [hA.sa, un_w (by omega)]
    rw [e1, e2, e3, e4, e5, e6]
    exact hA
  have fMt : ∀ m, m < nm → ∀ i, i < un (J 69 m) → tyOk nc false (un (J 70 (4 * m + i))) ∧ I (kb b 16) (4 * m + i) = w (un (J 70 (4 * m + i))) ∧ J 70 (4 * m + i) = w (un (J 70 (4 * m + i))) := by
    intro m hm i hi
    obtain ⟨t, q1, q2, q3⟩ := (fM m hm).ty i hi
    have e2 : un (J 70 (4 * m + i)) = t := by rw [q2, un_w (by have := ty_lt q3 hnc; omega)]
    rw [e2]
    exact ⟨q3, q1, q2⟩
  have fT : ∀ c s, c < nc → s < ns → TDa b nm P c s I J (I (kb b 22) (8 * c + s)).toInt (un (J 77 (8 * c + s))) := by
    intro c s hc hs
    obtain ⟨e, v, hA⟩ := hT c s hs (Or.inl hc)
    have h1 := hA.er
    have h2 := hA.vr
    have h3 := h.nm16
    have e1 : (I (kb b 22) (8 * c + s)).toInt = e := by rw [hA.t1, w_toInt (by omega)]
    have e2 : un (J 77 (8 * c + s)) = v := by rw [hA.t2, un_w (by omega)]
    rw [e1, e2]
    exact hA
  refine ⟨mkF b B nc ns nm P I J, ?_, ?_, ?_⟩
  · refine ⟨hnc, h.ns8, h.nm16, h.ab.hp, fun c hc => (fC c hc).1, fun c hc i hi => ((fC c hc).2.2.2 i hi).1, fun s hs => (fS s hs).1, fun s hs => (fS s hs).2.2.2.1, fun s hs i hi => ((fS s hs).2.2.2.2.2.2 i hi).1, fun m hm => (fM m hm).nr, fun m hm => (fM m hm).rr, fun m hm i hi => (fMt m hm i hi).1, fun m hm => (fM m hm).lor, fun m hm => (fM m hm).str, fun m hm => (fM m hm).lnr, fun m hm => ?_, fun m m' hm hm' => ?_, fun m hm i hi => ?_, fun c s hc hs => (fT c s hc hs).er, fun c s hc hs => (fT c s hc hs).vr, fun c s hc hs => (fT c s hc hs).own, fun c s hc hs => (fT c s hc hs).none', fun c s hc hs z1 z2 => ?_⟩
    · have := (fM m hm).sar
      show un (I (kb b 20) m) + un (J 74 m) ≤ 1500
      omega
    · obtain ⟨s2, l2, q1, q2, q3⟩ := (fM m' hm').dis m hm
      have a1 := fM m (Nat.lt_trans hm hm')
      have b1 : un (I (kb b 20) m) = s2 := by
        have := a1.sa
        have h5 := a1.sar
        have h6 := (fM m' hm').sar
        rw [q1]
        exact un_w (by omega)
      have b2 : un (J 74 m) = l2 := by
        have h6 := (fM m' hm').sar
        have : un (I (kb b 21) m) = l2 := by rw [q2]; exact un_w (by omega)
        have h7 := a1.lnr
        have h8 : un (I (kb b 21) m) = un (J 74 m) := by rw [a1.ln1]; exact un_w (by omega)
        omega
      show un (I (kb b 20) m) + un (J 74 m) ≤ un (I (kb b 20) m')
      rw [b1, b2]
      exact q3
    · have h5 := (fM m hm).sar
      have hi' : i < un (J 74 m) := hi
      exact (hB.2.2 (un (I (kb b 20) m) + i) (by omega)).2
    · have := (fT c s hc hs).inh z1 z2
      show (I (kb b 22) (8 * c + s)).toInt = (I (kb b 22) (8 * (P c).toNat + s)).toInt
      rw [this, w_of]
  · refine ⟨h.ab.n1, h.ab.sup1, fun c hc => (fC c hc).2.1, fun c hc i hi => ((fC c hc).2.2.2 i hi).2.1, h.ab.bits, h.ns1, fun s hs => (fS s hs).2.1, fun s hs i hi => ((fS s hs).2.2.2.2.2.2 i hi).2.1, fun s hs => (fS s hs).2.2.2.2.1, h.nm1, fun m hm => (fM m hm).n1, fun m hm i hi => (fMt m hm i hi).2.1, fun m hm => (fM m hm).r1, fun m hm => (fM m hm).lo1, fun m hm => (fM m hm).st1, fun m hm => (fM m hm).sa, fun m hm => (fM m hm).ln1, fun c s hc hs => (fT c s hc hs).t1, ⟨n, hn, hB.2.1, fun m hm => (fM m hm).sar⟩, fun m hm i hi => ?_⟩
    have h5 := (fM m hm).sar
    have hi' : i < un (J 74 m) := hi
    exact (hB.2.2 (un (I (kb b 20) m) + i) (by omega)).1
  · exact ⟨h.ab.n2, h.ns2, h.nm2, h.ab.sup2, fun c hc => (fC c hc).2.2.1, fun c hc i hi => ((fC c hc).2.2.2 i hi).2.2, fun s hs => (fS s hs).2.2.1, fun s hs i hi => ((fS s hs).2.2.2.2.2.2 i hi).2.2, fun s hs => (fS s hs).2.2.2.2.2.1, fun m hm => (fM m hm).n2, fun m hm i hi => (fMt m hm i hi).2.2, fun m hm => (fM m hm).r2, fun m hm => (fM m hm).lo2, fun m hm => (fM m hm).st2, fun m hm => (fM m hm).ln2, fun m hm i hi => (fM m hm).cd i hi, fun c s hc hs => (fT c s hc hs).t2⟩
