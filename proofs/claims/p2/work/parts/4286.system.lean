/-! The system keeps to what the small machine asks. -/
def mv_KtB (kc : Nat) (t : FieldType) : Bool := match kc with
  | 0 => decide (t = .int)
  | 1 => decide (t = .boolean)
  | 3 => decide (t = .long)
  | 4 => (match t with
    | .object _ => true
    | .array _ => true
    | _ => false)
  | _ => false
theorem mv_KtB_ok {kc : Nat} {t : FieldType} (h : mv_KtB kc t = true) : mv_Kt kc t := by
  unfold mv_KtB at h
  unfold mv_Kt
  split at h
  · have h2 : t = .int := of_decide_eq_true h
    exact h2
  · have h2 : t = .boolean := of_decide_eq_true h
    exact h2
  · have h2 : t = .long := of_decide_eq_true h
    exact h2
  · split at h
    · exact Or.inl ⟨_, rfl⟩
    · exact Or.inr ⟨_, rfl⟩
    · cases h
  · cases h
def mv_Cl1 (kl : List Nat) (Ts : List Jvm.Cond) (C : String) (T : u_T) (N : Nat) : Prop := (∀ w ∈ u_ws C T N, w ∈ Ts) ∧ kl.length = N ∧ (∃ ty : Nat → FieldType, ∀ k, k < N → parseFieldDescriptor (T k).2.2.1 = some (ty k) ∧ ∀ kc, kl[k]? = some kc → mv_Kt kc (ty k)) ∧ ∀ a, a < N → ∀ b, b < N → a ≠ b → (T a).2.1 ≠ (T b).2.1
theorem mv_Cl1_of {kl : List Nat} {tb : List Jvm.Cond} {C : String} {T : u_T} {N : Nat} (ty : Nat → FieldType) (ps : List Nat) (h1 : u_ws C T N = ps.filterMap (fun i => tb[i]?)) (h2 : (u_ws C T N).all goodWord = true) (h3 : kl.length = N) (h4 : ∀ k, k < N → parseFieldDescriptor (T k).2.2.1 = some (ty k)) (h5 : ∀ k, k < N → (match kl[k]? with
    | some kc => mv_KtB kc (ty k)
    | none => false) = true) (h6 : ∀ a, a < N → ∀ b, b < N → a ≠ b → (T a).2.1 ≠ (T b).2.1) : mv_Cl1 kl (tb.filter goodWord) C T N := by
  refine ⟨fun w hw => List.mem_filter.mpr ⟨mv_sub_of ps h1 w hw, List.all_eq_true.mp h2 w hw⟩, h3, ⟨ty, fun k hk => ⟨h4 k hk, fun kc hkc => ?_⟩⟩, h6⟩
  have h := h5 k hk
  rw [hkc] at h
  exact mv_KtB_ok h
set_option maxRecDepth 100000 in
set_option maxHeartbeats 4000000 in
theorem kjC_0 : mv_Cl1 (kjKd.getD 0 []) kjTs "KindJudge" kjF_0 6 := mv_Cl1_of kjY_0 [300, 302, 304, 306, 308, 310] (by decide +kernel) (by decide +kernel) rfl (by decide +kernel) (by decide +kernel) (by decide +kernel)
set_option maxRecDepth 100000 in
set_option maxHeartbeats 4000000 in
theorem kjC_1 : mv_Cl1 (kjKd.getD 1 []) kjTs "KindJudge$Book" kjF_1 4 := mv_Cl1_of kjY_1 [285, 287, 289, 291] (by decide +kernel) (by decide +kernel) rfl (by decide +kernel) (by decide +kernel) (by decide +kernel)
set_option maxRecDepth 100000 in
set_option maxHeartbeats 4000000 in
theorem kjC_2 : mv_Cl1 (kjKd.getD 2 []) kjTs "KindJudge$Bytes" kjF_2 2 := mv_Cl1_of kjY_2 [105, 107] (by decide +kernel) (by decide +kernel) rfl (by decide +kernel) (by decide +kernel) (by decide +kernel)
set_option maxRecDepth 100000 in
set_option maxHeartbeats 4000000 in
theorem kjC_3 : mv_Cl1 (kjKd.getD 3 []) kjTs "KindJudge$Layout" kjF_3 9 := mv_Cl1_of kjY_3 [197, 199, 201, 203, 205, 207, 209, 211, 213] (by decide +kernel) (by decide +kernel) rfl (by decide +kernel) (by decide +kernel) (by decide +kernel)
set_option maxRecDepth 100000 in
set_option maxHeartbeats 4000000 in
theorem kjC_4 : mv_Cl1 (kjKd.getD 4 []) kjTs "KindJudge$Classes" kjF_4 5 := mv_Cl1_of kjY_4 [130, 132, 134, 136, 138] (by decide +kernel) (by decide +kernel) rfl (by decide +kernel) (by decide +kernel) (by decide +kernel)
set_option maxRecDepth 100000 in
set_option maxHeartbeats 4000000 in
theorem kjC_5 : mv_Cl1 (kjKd.getD 5 []) kjTs "KindJudge$Signatures" kjF_5 4 := mv_Cl1_of kjY_5 [154, 156, 158, 160] (by decide +kernel) (by decide +kernel) rfl (by decide +kernel) (by decide +kernel) (by decide +kernel)
set_option maxRecDepth 100000 in
set_option maxHeartbeats 4000000 in
theorem kjC_6 : mv_Cl1 (kjKd.getD 6 []) kjTs "KindJudge$Reader" kjF_6 3 := mv_Cl1_of kjY_6 [172, 174, 176] (by decide +kernel) (by decide +kernel) rfl (by decide +kernel) (by decide +kernel) (by decide +kernel)
set_option maxRecDepth 100000 in
set_option maxHeartbeats 4000000 in
theorem kjC_7 : mv_Cl1 (kjKd.getD 7 []) kjTs "KindJudge$Code" kjF_7 3 := mv_Cl1_of kjY_7 [225, 227, 229] (by decide +kernel) (by decide +kernel) rfl (by decide +kernel) (by decide +kernel) (by decide +kernel)
set_option maxRecDepth 100000 in
set_option maxHeartbeats 4000000 in
theorem kjC_8 : mv_Cl1 (kjKd.getD 8 []) kjTs "KindJudge$Flow" kjF_8 12 := mv_Cl1_of kjY_8 [251, 253, 255, 257, 259, 261, 263, 265, 267, 269, 271, 273] (by decide +kernel) (by decide +kernel) rfl (by decide +kernel) (by decide +kernel) (by decide +kernel)
set_option maxRecDepth 100000 in
set_option maxHeartbeats 4000000 in
theorem kjC_9 : mv_Cl1 (kjKd.getD 9 []) kjTs "KindJudgeModel" kjF_9 37 := mv_Cl1_of kjY_9 [867, 869, 871, 873, 875, 877, 879, 881, 883, 885, 887, 889, 891, 893, 895, 897, 899, 901, 903, 905, 907, 909, 911, 913, 915, 917, 919, 921, 923, 925, 927, 929, 931, 933, 935, 937, 939] (by decide +kernel) (by decide +kernel) rfl (by decide +kernel) (by decide +kernel) (by decide +kernel)
theorem kjCl_ok : mv_Cl kjCl kjKd kjTs := by
  intro ci C T N h
  match ci, h with
  | 0, h => cases h; exact kjC_0
  | 1, h => cases h; exact kjC_1
  | 2, h => cases h; exact kjC_2
  | 3, h => cases h; exact kjC_3
  | 4, h => cases h; exact kjC_4
  | 5, h => cases h; exact kjC_5
  | 6, h => cases h; exact kjC_6
  | 7, h => cases h; exact kjC_7
  | 8, h => cases h; exact kjC_8
  | 9, h => cases h; exact kjC_9
  | n + 10, h => cases h
set_option maxRecDepth 100000 in
theorem kjMk_ok : ∀ M ∈ kjP, mv_Mk kjCl kjKd kjTs kjNw kjP kjStn M := List.forall_mem_cons.mpr ⟨mv_mkB_ok kjS_0 kjK_0, List.forall_mem_cons.mpr ⟨mv_mkB_ok kjS_1 kjK_1, List.forall_mem_cons.mpr ⟨mv_mkB_ok kjS_2 kjK_2, List.forall_mem_cons.mpr ⟨mv_mkB_ok kjS_3 kjK_3, List.forall_mem_cons.mpr ⟨mv_mkB_ok kjS_4 kjK_4, List.forall_mem_cons.mpr ⟨mv_mkB_ok kjS_5 kjK_5, List.forall_mem_cons.mpr ⟨mv_mkB_ok kjS_6 kjK_6, List.forall_mem_cons.mpr ⟨mv_mkB_ok kjS_7 kjK_7, List.forall_mem_cons.mpr ⟨mv_mkB_ok kjS_8 kjK_8, List.forall_mem_cons.mpr ⟨mv_mkB_ok kjS_9 kjK_9, List.forall_mem_cons.mpr ⟨mv_mkB_ok kjS_10 kjK_10, List.forall_mem_cons.mpr ⟨mv_mkB_ok kjS_11 kjK_11, List.forall_mem_cons.mpr ⟨mv_mkB_ok kjS_12 kjK_12, List.forall_mem_cons.mpr ⟨mv_mkB_ok kjS_13 kjK_13, List.forall_mem_cons.mpr ⟨mv_mkB_ok kjS_14 kjK_14, List.forall_mem_cons.mpr ⟨mv_mkB_ok kjS_15 kjK_15, List.forall_mem_cons.mpr ⟨mv_mkB_ok kjS_16 kjK_16, List.forall_mem_cons.mpr ⟨mv_mkB_ok kjS_17 kjK_17, List.forall_mem_cons.mpr ⟨mv_mkB_ok kjS_18 kjK_18, List.forall_mem_cons.mpr ⟨mv_mkB_ok kjS_19 kjK_19, List.forall_mem_cons.mpr ⟨mv_mkB_ok kjS_20 kjK_20, List.forall_mem_cons.mpr ⟨mv_mkB_ok kjS_21 kjK_21, List.forall_mem_cons.mpr ⟨mv_mkB_ok kjS_22 kjK_22, List.forall_mem_cons.mpr ⟨mv_mkB_ok kjS_23 kjK_23, List.forall_mem_cons.mpr ⟨mv_mkB_ok kjS_24 kjK_24, List.forall_mem_cons.mpr ⟨mv_mkB_ok kjS_25 kjK_25, List.forall_mem_cons.mpr ⟨mv_mkB_ok kjS_26 kjK_26, List.forall_mem_cons.mpr ⟨mv_mkB_ok kjS_27 kjK_27, List.forall_mem_cons.mpr ⟨mv_mkB_ok kjS_28 kjK_28, List.forall_mem_cons.mpr ⟨mv_mkB_ok kjS_29 kjK_29, List.forall_mem_cons.mpr ⟨mv_mkB_ok kjS_30 kjK_30, List.forall_mem_cons.mpr ⟨mv_mkB_ok kjS_31 kjK_31, List.forall_mem_cons.mpr ⟨mv_mkB_ok kjS_32 kjK_32, List.forall_mem_cons.mpr ⟨mv_mkB_ok kjS_33 kjK_33, List.forall_mem_cons.mpr ⟨mv_mkB_ok kjS_34 kjK_34, List.forall_mem_cons.mpr ⟨mv_mkB_ok kjS_35 kjK_35, List.forall_mem_cons.mpr ⟨mv_mkB_ok kjS_36 kjK_36, List.forall_mem_cons.mpr ⟨mv_mkB_ok kjS_37 kjK_37, List.forall_mem_cons.mpr ⟨mv_mkB_ok kjS_38 kjK_38, List.forall_mem_cons.mpr ⟨mv_mkB_ok kjS_39 kjK_39, List.forall_mem_cons.mpr ⟨mv_mkB_ok kjS_40 kjK_40, List.forall_mem_cons.mpr ⟨mv_mkB_ok kjS_41 kjK_41, List.forall_mem_cons.mpr ⟨mv_mkB_ok kjS_42 kjK_42, List.forall_mem_cons.mpr ⟨mv_mkB_ok kjS_43 kjK_43, List.forall_mem_cons.mpr ⟨mv_mkB_ok kjS_44 kjK_44, List.forall_mem_cons.mpr ⟨mv_mkB_ok kjS_45 kjK_45, List.forall_mem_cons.mpr ⟨mv_mkB_ok kjS_46 kjK_46, List.forall_mem_cons.mpr ⟨mv_mkB_ok kjS_47 kjK_47, List.forall_mem_cons.mpr ⟨mv_mkB_ok kjS_48 kjK_48, List.forall_mem_cons.mpr ⟨mv_mkB_ok kjS_49 kjK_49, List.forall_mem_cons.mpr ⟨mv_mkB_ok kjS_50 kjK_50, List.forall_mem_cons.mpr ⟨mv_mkB_ok kjS_51 kjK_51, List.forall_mem_cons.mpr ⟨mv_mkB_ok kjS_52 kjK_52, List.forall_mem_cons.mpr ⟨mv_mkB_ok kjS_53 kjK_53, List.forall_mem_cons.mpr ⟨mv_mkB_ok kjS_54 kjK_54, List.forall_mem_cons.mpr ⟨mv_mkB_ok kjS_55 kjK_55, List.forall_mem_cons.mpr ⟨mv_mkB_ok kjS_56 kjK_56, List.forall_mem_cons.mpr ⟨mv_mkB_ok kjS_57 kjK_57, List.forall_mem_cons.mpr ⟨mv_mkB_ok kjS_58 kjK_58, List.forall_mem_cons.mpr ⟨mv_mkB_ok kjS_59 kjK_59, List.forall_mem_cons.mpr ⟨mv_mkB_ok kjS_60 kjK_60, List.forall_mem_cons.mpr ⟨mv_mkB_ok kjS_61 kjK_61, List.forall_mem_cons.mpr ⟨mv_mkB_ok kjS_62 kjK_62, List.forall_mem_cons.mpr ⟨mv_mkB_ok kjS_63 kjK_63, List.forall_mem_cons.mpr ⟨mv_mkB_ok kjS_64 kjK_64, List.forall_mem_cons.mpr ⟨mv_mkB_ok kjS_65 kjK_65, List.forall_mem_cons.mpr ⟨mv_mkB_ok kjS_66 kjK_66, List.forall_mem_cons.mpr ⟨mv_mkB_ok kjS_67 kjK_67, List.forall_mem_cons.mpr ⟨mv_mkB_ok kjS_68 kjK_68, List.forall_mem_cons.mpr ⟨mv_mkB_ok kjS_69 kjK_69, List.forall_mem_cons.mpr ⟨mv_mkB_ok kjS_70 kjK_70, List.forall_mem_cons.mpr ⟨mv_mkB_ok kjS_71 kjK_71, List.forall_mem_cons.mpr ⟨mv_mkB_ok kjS_72 kjK_72, List.forall_mem_cons.mpr ⟨mv_mkB_ok kjS_73 kjK_73, List.forall_mem_cons.mpr ⟨mv_mkB_ok kjS_74 kjK_74, List.forall_mem_cons.mpr ⟨mv_mkB_ok kjS_75 kjK_75, List.forall_mem_cons.mpr ⟨mv_mkB_ok kjS_76 kjK_76, List.forall_mem_cons.mpr ⟨mv_mkB_ok kjS_77 kjK_77, List.forall_mem_cons.mpr ⟨mv_mkB_ok kjS_78 kjK_78, List.forall_mem_cons.mpr ⟨mv_mkB_ok kjS_79 kjK_79, List.forall_mem_cons.mpr ⟨mv_mkB_ok kjS_80 kjK_80, List.forall_mem_cons.mpr ⟨mv_mkB_ok kjS_81 kjK_81, List.forall_mem_cons.mpr ⟨mv_mkB_ok kjS_82 kjK_82, List.forall_mem_cons.mpr ⟨mv_mkB_ok kjS_83 kjK_83, List.forall_mem_cons.mpr ⟨mv_mkB_ok kjS_84 kjK_84, List.forall_mem_cons.mpr ⟨mv_mkB_ok kjS_85 kjK_85, List.forall_mem_cons.mpr ⟨mv_mkB_ok kjS_86 kjK_86, List.forall_mem_cons.mpr ⟨mv_mkB_ok kjS_87 kjK_87, List.forall_mem_cons.mpr ⟨mv_mkB_ok kjS_88 kjK_88, List.forall_mem_cons.mpr ⟨mv_mkB_ok kjS_89 kjK_89, List.forall_mem_cons.mpr ⟨mv_mkB_ok kjS_90 kjK_90, List.forall_mem_cons.mpr ⟨mv_mkB_ok kjS_91 kjK_91, List.forall_mem_cons.mpr ⟨mv_mkB_ok kjS_92 kjK_92, List.forall_mem_cons.mpr ⟨mv_mkB_ok kjS_93 kjK_93, List.forall_mem_cons.mpr ⟨mv_mkB_ok kjS_94 kjK_94, List.forall_mem_cons.mpr ⟨mv_mkB_ok kjS_95 kjK_95, List.forall_mem_cons.mpr ⟨mv_mkB_ok kjS_96 kjK_96, List.forall_mem_cons.mpr ⟨mv_mkB_ok kjS_97 kjK_97, List.forall_mem_cons.mpr ⟨mv_mkB_ok kjS_98 kjK_98, List.forall_mem_cons.mpr ⟨mv_mkB_ok kjS_99 kjK_99, List.forall_mem_cons.mpr ⟨mv_mkB_ok kjS_100 kjK_100, List.forall_mem_cons.mpr ⟨mv_mkB_ok kjS_101 kjK_101, List.forall_mem_cons.mpr ⟨mv_mkB_ok kjS_102 kjK_102, List.forall_mem_cons.mpr ⟨mv_mkB_ok kjS_103 kjK_103, List.forall_mem_cons.mpr ⟨mv_mkB_ok kjS_104 kjK_104, List.forall_mem_cons.mpr ⟨mv_mkB_ok kjS_105 kjK_105, List.forall_mem_cons.mpr ⟨mv_mkB_ok kjS_106 kjK_106, List.forall_mem_cons.mpr ⟨mv_mkB_ok kjS_107 kjK_107, List.forall_mem_cons.mpr ⟨mv_mkB_ok kjS_108 kjK_108, List.forall_mem_cons.mpr ⟨mv_mkB_ok kjS_109 kjK_109, List.forall_mem_cons.mpr ⟨mv_mkB_ok kjS_110 kjK_110, List.forall_mem_cons.mpr ⟨mv_mkB_ok kjS_111 kjK_111, List.forall_mem_cons.mpr ⟨mv_mkB_ok kjS_112 kjK_112, List.forall_mem_cons.mpr ⟨mv_mkB_ok kjS_113 kjK_113, List.forall_mem_cons.mpr ⟨mv_mkB_ok kjS_114 kjK_114, List.forall_mem_cons.mpr ⟨mv_mkB_ok kjS_115 kjK_115, List.forall_mem_cons.mpr ⟨mv_mkB_ok kjS_116 kjK_116, List.forall_mem_cons.mpr ⟨mv_mkB_ok kjS_117 kjK_117, List.forall_mem_cons.mpr ⟨mv_mkB_ok kjS_118 kjK_118, List.forall_mem_cons.mpr ⟨mv_mkB_ok kjS_119 kjK_119, List.forall_mem_cons.mpr ⟨mv_mkB_ok kjS_120 kjK_120, List.forall_mem_cons.mpr ⟨mv_mkB_ok kjS_121 kjK_121, List.forall_mem_cons.mpr ⟨mv_mkB_ok kjS_122 kjK_122, List.forall_mem_cons.mpr ⟨mv_mkB_ok kjS_123 kjK_123, List.forall_mem_cons.mpr ⟨mv_mkB_ok kjS_124 kjK_124, List.forall_mem_cons.mpr ⟨mv_mkB_ok kjS_125 kjK_125, List.forall_mem_cons.mpr ⟨mv_mkB_ok kjS_126 kjK_126, List.forall_mem_cons.mpr ⟨mv_mkB_ok kjS_127 kjK_127, List.forall_mem_cons.mpr ⟨mv_mkB_ok kjS_128 kjK_128, List.forall_mem_cons.mpr ⟨mv_mkB_ok kjS_129 kjK_129, List.forall_mem_cons.mpr ⟨mv_mkB_ok kjS_130 kjK_130, List.forall_mem_cons.mpr ⟨mv_mkB_ok kjS_131 kjK_131, List.forall_mem_cons.mpr ⟨mv_mkB_ok kjS_132 kjK_132, List.forall_mem_cons.mpr ⟨mv_mkB_ok kjS_133 kjK_133, List.forall_mem_cons.mpr ⟨mv_mkB_ok kjS_134 kjK_134, List.forall_mem_cons.mpr ⟨mv_mkB_ok kjS_135 kjK_135, List.forall_mem_cons.mpr ⟨mv_mkB_ok kjS_136 kjK_136, List.forall_mem_cons.mpr ⟨mv_mkB_ok kjS_137 kjK_137, List.forall_mem_cons.mpr ⟨mv_mkB_ok kjS_138 kjK_138, List.forall_mem_cons.mpr ⟨mv_mkB_ok kjS_139 kjK_139, List.forall_mem_cons.mpr ⟨mv_mkB_ok kjS_140 kjK_140, List.forall_mem_cons.mpr ⟨mv_mkB_ok kjS_141 kjK_141, List.forall_mem_cons.mpr ⟨mv_mkB_ok kjS_142 kjK_142, List.forall_mem_cons.mpr ⟨mv_mkB_ok kjS_143 kjK_143, List.forall_mem_cons.mpr ⟨mv_mkB_ok kjS_144 kjK_144, List.forall_mem_cons.mpr ⟨mv_mkB_ok kjS_145 kjK_145, List.forall_mem_cons.mpr ⟨mv_mkB_ok kjS_146 kjK_146, List.forall_mem_cons.mpr ⟨mv_mkB_ok kjS_147 kjK_147, List.forall_mem_cons.mpr ⟨mv_mkB_ok kjS_148 kjK_148, List.forall_mem_cons.mpr ⟨mv_mkB_ok kjS_149 kjK_149, List.forall_mem_cons.mpr ⟨mv_mkB_ok kjS_150 kjK_150, List.forall_mem_cons.mpr ⟨mv_mkB_ok kjS_151 kjK_151, List.forall_mem_cons.mpr ⟨mv_mkB_ok kjS_152 kjK_152, fun _ h => absurd h List.not_mem_nil⟩⟩⟩⟩⟩⟩⟩⟩⟩⟩⟩⟩⟩⟩⟩⟩⟩⟩⟩⟩⟩⟩⟩⟩⟩⟩⟩⟩⟩⟩⟩⟩⟩⟩⟩⟩⟩⟩⟩⟩⟩⟩⟩⟩⟩⟩⟩⟩⟩⟩⟩⟩⟩⟩⟩⟩⟩⟩⟩⟩⟩⟩⟩⟩⟩⟩⟩⟩⟩⟩⟩⟩⟩⟩⟩⟩⟩⟩⟩⟩⟩⟩⟩⟩⟩⟩⟩⟩⟩⟩⟩⟩⟩⟩⟩⟩⟩⟩⟩⟩⟩⟩⟩⟩⟩⟩⟩⟩⟩⟩⟩⟩⟩⟩⟩⟩⟩⟩⟩⟩⟩⟩⟩⟩⟩⟩⟩⟩⟩⟩⟩⟩⟩⟩⟩⟩⟩⟩⟩⟩⟩⟩⟩⟩⟩⟩⟩⟩⟩⟩⟩⟩⟩
theorem kjStn_ok : ∀ t, (kjSta t).length = 0 ∨ ∃ q, kjStn[t]? = some q := by
  intro t
  match t with
  | 0 => exact Or.inr ⟨_, rfl⟩
  | 1 => exact Or.inr ⟨_, rfl⟩
  | 2 => exact Or.inr ⟨_, rfl⟩
  | t + 3 => exact Or.inl rfl
theorem kjSy : mv_Sy kjCl kjKd kjTs kjNw kjP kjSta kjStn := ⟨kjCl_ok, mv_good_all, mv_nest_all, fun i M h => kjMk_ok M (List.mem_of_getElem? h), fun k _ => kjStn_ok (k - 100000)⟩
