set_option maxRecDepth 40000
theorem mu0_z {L : Nat} {xs : Nat → Int32} {k : Nat} (hk : k < 1000) : mj_mu0 L xs k = fun _ => 0 := by
  funext j
  unfold mj_mu0
  rw [if_neg (by omega), if_neg (by omega)]
theorem FR_0 (L : Nat) (xs : Nat → Int32) : FR 1 (fun _ _ => 0) (mj_mu0 L xs) := fun k _ hk => ⟨fun _ => rfl, fun j => by rw [mu0_z hk]⟩
theorem mu0_st (L : Nat) (xs : Nat → Int32) : JST (mj_mu0 L xs 1001) (mj_mu0 L xs 1002) (mj_mu0 L xs 1003) := by
  unfold JST mj_mu0 sd_tab
  simp
theorem mu0_sc (L : Nat) (xs : Nat → Int32) (i : Int) : -2147483648 ≤ mj_mu0 L xs 1000 i ∧ mj_mu0 L xs 1000 i < 2147483648 := by
  unfold mj_mu0
  rw [if_pos rfl]
  split
  · have h1 := Int32.le_toInt (xs i.toNat)
    have h2 := Int32.toInt_lt (xs i.toNat)
    omega
  · omega
noncomputable def iMF (μ : mj_M) : mj_M := mj_ua (mj_ua (iM2 μ) 105 (zfl (iM2 μ 105) 0 4 (-4))) 68 (frs (iM2 μ 68))
theorem iMF_o {μ : mj_M} {q : Nat} (h : q ≠ 22 ∧ q ≠ 59 ∧ q ≠ 68 ∧ q ≠ 105 ∧ ¬ (31 ≤ q ∧ q ≤ 35) ∧ ¬ (62 ≤ q ∧ q ≤ 66)) : iMF μ q = μ q := by
  unfold iMF iM2 iM1
  rw [g_an (by omega), g_an (by omega), fgt_o (by omega), g_an (by omega), fgt_o (by omega), g_an (by omega)]
theorem J_0 (L : Nat) (xs : Nat → Int32) : J 31 62 (iMF (mj_mu0 L xs)) := by
  have hst := mu0_st L xs
  have hsc := mu0_sc L xs
  have hz : ∀ q : Nat, q < 1000 → mj_mu0 L xs q = fun _ => 0 := fun q hq => mu0_z hq
  generalize mj_mu0 L xs = μ at *
  have ho : ∀ q : Nat, q < 1000 → (q ≠ 22 ∧ q ≠ 59 ∧ q ≠ 68 ∧ q ≠ 105 ∧ ¬ (31 ≤ q ∧ q ≤ 35) ∧ ¬ (62 ≤ q ∧ q ≤ 66)) → iMF μ q = fun _ => 0 := fun q h1 h2 => by rw [iMF_o h2]; exact hz q h1
  have e22 : iMF μ 22 = zfl (fun _ => 0) 0 120 (-4) := by
    unfold iMF iM2 iM1
    rw [g_an (by decide), g_an (by decide), fgt_o (by decide), g_an (by decide), fgt_o (by decide), g_as, hz 22 (by decide)]
  have m1 : ∀ q : Nat, 31 ≤ q → q ≤ 35 → iMF μ q = iM1 μ q := fun q a b => by
    unfold iMF iM2
    rw [g_an (by omega), g_an (by omega), fgt_o (by omega), g_an (by omega)]
  have e59 : iMF μ 59 = zfl (fun _ => 0) 0 4 (-4) := by
    unfold iMF iM2
    rw [g_an (by decide), g_an (by decide), fgt_o (by decide), g_as]
    unfold iM1
    rw [fgt_o (by decide), g_an (by decide), hz 59 (by decide)]
  have e105 : iMF μ 105 = zfl (fun _ => 0) 0 4 (-4) := by
    unfold iMF
    rw [g_an (by decide), g_as]
    unfold iM2 iM1
    rw [fgt_o (by decide), g_an (by decide), fgt_o (by decide), g_an (by decide), hz 105 (by decide)]
  have e68 : iMF μ 68 = frs (iM2 μ 68) := by unfold iMF; rw [g_as]
  have hrd : RD 31 (iM1 μ) (fun _ => frs (iM2 μ 68)) := RD_first (Or.inl rfl) hst (iM2 μ 68) rfl
  unfold RD at hrd
  have o1 := ho 1 (by decide) (by decide)
  have o2 := ho 2 (by decide) (by decide)
  have o3 := ho 3 (by decide) (by decide)
  have o4 := ho 4 (by decide) (by decide)
  have o5 := ho 5 (by decide) (by decide)
  have o6 := ho 6 (by decide) (by decide)
  have o7 := ho 7 (by decide) (by decide)
  have o8 := ho 8 (by decide) (by decide)
  have o9 := ho 9 (by decide) (by decide)
  have o10 := ho 10 (by decide) (by decide)
  have o11 := ho 11 (by decide) (by decide)
  have o12 := ho 12 (by decide) (by decide)
  have o13 := ho 13 (by decide) (by decide)
  have o14 := ho 14 (by decide) (by decide)
  have o15 := ho 15 (by decide) (by decide)
  have o16 := ho 16 (by decide) (by decide)
  have o17 := ho 17 (by decide) (by decide)
  have o18 := ho 18 (by decide) (by decide)
  have o19 := ho 19 (by decide) (by decide)
  have o20 := ho 20 (by decide) (by decide)
  have o21 := ho 21 (by decide) (by decide)
  have o23 := ho 23 (by decide) (by decide)
  have o24 := ho 24 (by decide) (by decide)
  have o25 := ho 25 (by decide) (by decide)
  have o26 := ho 26 (by decide) (by decide)
  have o27 := ho 27 (by decide) (by decide)
  have o28 := ho 28 (by decide) (by decide)
  have o29 := ho 29 (by decide) (by decide)
  have o30 := ho 30 (by decide) (by decide)
  have o36 := ho 36 (by decide) (by decide)
  have o37 := ho 37 (by decide) (by decide)
  have o38 := ho 38 (by decide) (by decide)
  have o39 := ho 39 (by decide) (by decide)
  have o40 := ho 40 (by decide) (by decide)
  have o41 := ho 41 (by decide) (by decide)
  have o42 := ho 42 (by decide) (by decide)
  have o43 := ho 43 (by decide) (by decide)
  have o44 := ho 44 (by decide) (by decide)
  have o45 := ho 45 (by decide) (by decide)
  have o46 := ho 46 (by decide) (by decide)
  have o47 := ho 47 (by decide) (by decide)
  have o48 := ho 48 (by decide) (by decide)
  have o49 := ho 49 (by decide) (by decide)
  have o50 := ho 50 (by decide) (by decide)
  have o51 := ho 51 (by decide) (by decide)
  have o52 := ho 52 (by decide) (by decide)
  have o53 := ho 53 (by decide) (by decide)
  have o54 := ho 54 (by decide) (by decide)
  have o55 := ho 55 (by decide) (by decide)
  have o56 := ho 56 (by decide) (by decide)
  have o57 := ho 57 (by decide) (by decide)
  have o58 := ho 58 (by decide) (by decide)
  have o60 := ho 60 (by decide) (by decide)
  have o61 := ho 61 (by decide) (by decide)
  have o67 := ho 67 (by decide) (by decide)
  have o69 := ho 69 (by decide) (by decide)
  have o70 := ho 70 (by decide) (by decide)
  have o71 := ho 71 (by decide) (by decide)
  have o72 := ho 72 (by decide) (by decide)
  have o73 := ho 73 (by decide) (by decide)
  have o74 := ho 74 (by decide) (by decide)
  have o75 := ho 75 (by decide) (by decide)
  have o76 := ho 76 (by decide) (by decide)
  have o77 := ho 77 (by decide) (by decide)
  have o78 := ho 78 (by decide) (by decide)
  have o79 := ho 79 (by decide) (by decide)
  have o80 := ho 80 (by decide) (by decide)
  have o81 := ho 81 (by decide) (by decide)
  have o82 := ho 82 (by decide) (by decide)
  have o83 := ho 83 (by decide) (by decide)
  have o84 := ho 84 (by decide) (by decide)
  have o85 := ho 85 (by decide) (by decide)
  have o86 := ho 86 (by decide) (by decide)
  have o87 := ho 87 (by decide) (by decide)
  have o88 := ho 88 (by decide) (by decide)
  have o89 := ho 89 (by decide) (by decide)
  have o90 := ho 90 (by decide) (by decide)
  have o91 := ho 91 (by decide) (by decide)
  have o92 := ho 92 (by decide) (by decide)
  have o93 := ho 93 (by decide) (by decide)
  have o94 := ho 94 (by decide) (by decide)
  have o95 := ho 95 (by decide) (by decide)
  have o96 := ho 96 (by decide) (by decide)
  have o97 := ho 97 (by decide) (by decide)
  have o98 := ho 98 (by decide) (by decide)
  have o99 := ho 99 (by decide) (by decide)
  have o100 := ho 100 (by decide) (by decide)
  have o101 := ho 101 (by decide) (by decide)
  have o102 := ho 102 (by decide) (by decide)
  have o103 := ho 103 (by decide) (by decide)
  have o104 := ho 104 (by decide) (by decide)
  have o106 := ho 106 (by decide) (by decide)
  have o107 := ho 107 (by decide) (by decide)
  have o109 := ho 109 (by decide) (by decide)
  have k1000 : iMF μ 1000 = μ 1000 := iMF_o (by decide)
  have k1001 : iMF μ 1001 = μ 1001 := iMF_o (by decide)
  have k1002 : iMF μ 1002 = μ 1002 := iMF_o (by decide)
  have k1003 : iMF μ 1003 = μ 1003 := iMF_o (by decide)
  unfold J JA
  rw [m1 (31 + 1) (by decide) (by decide), m1 (31 + 2) (by decide) (by decide), m1 (31 + 3) (by decide) (by decide), m1 (31 + 4) (by decide) (by decide), m1 31 (by decide) (by decide), e68]
  simp only [e22, e59, e105, k1000, k1001, k1002, k1003, o1, o2, o3, o4, o5, o6, o7, o8, o9, o10, o11, o12, o13, o14, o15, o16, o17, o18, o19, o20, o21, o23, o24, o25, o26, o27, o28, o29, o30, o36, o37, o38, o39, o40, o41, o42, o43, o44, o45, o46, o47, o48, o49, o50, o51, o52, o53, o54, o55, o56, o57, o58, o60, o61, o67, o69, o70, o71, o72, o73, o74, o75, o76, o77, o78, o79, o80, o81, o82, o83, o84, o85, o86, o87, o88, o89, o90, o91, o92, o93, o94, o95, o96, o97, o98, o99, o100, o101, o102, o103, o104, o106, o107, o109]
  refine ⟨⟨by decide, by unfold JN; decide, ?_, ?_, ?_, ?_, ?_, ?_, ?_, hst, hsc⟩, by decide, by simp, by simp, by simp, by simp, by simp, ?_, ?_, hrd, ?_⟩
  · unfold JT
    exact ⟨fun i a b => by omega, fun i => by simp, fun i => by simp⟩
  · unfold JC
    exact ⟨fun i a b => by omega, fun i a => rfl⟩
  · exact fun i a b => by omega
  · unfold JL
    exact ⟨fun i a b => by omega, fun i a => rfl⟩
  · exact fun i a b => by omega
  · exact fun i a b => by omega
  · unfold JP
    refine ⟨fun i => ⟨by simp, by simp, by simp, fun q => absurd rfl q, fun _ => ⟨rfl, rfl, rfl⟩⟩, by simp, by simp, fun q => absurd rfl q, fun _ => rfl⟩
  · unfold JLt zfl
    refine ⟨fun i a => ?_, fun i a b => ?_, fun i => ?_⟩
    · rw [if_neg (by omega)]
    · rw [if_pos (by omega)]
    · split <;> simp
  · intro i
    refine ⟨by unfold mj_b; decide, by decide, by decide⟩
  · intro k a b
    unfold zfl
    rw [if_pos (by omega)]
    exact Or.inl ⟨rfl, rfl⟩
theorem mj_law {L : Nat} {xs : Nat → Int32} (hL : L ≤ 3584) (h_parcels : ∀ (x y z : Nat) (μ : mj_M), J x y μ → ∀ a0 : Int, (-2147483648 ≤ a0 ∧ a0 < 2147483648) → KK L 130 210 [.inl a0] x y z μ) (h_program : ∀ (x y z : Nat) (μ : mj_M), J x y μ → ∀ a0 a1 a2 a3 a4 a5 : Int, (-2147483648 ≤ a0 ∧ a0 < 2147483648) → (-2147483648 ≤ a1 ∧ a1 < 2147483648) → (-2147483648 ≤ a2 ∧ a2 < 2147483648) → (-2147483648 ≤ a3 ∧ a3 < 2147483648) → (-2147483648 ≤ a4 ∧ a4 < 2147483648) → (-2147483648 ≤ a5 ∧ a5 < 2147483648) → KK L 131 213 [.inl a0, .inl a1, .inl a2, .inl a3, .inl a4, .inl a5] x y z μ) : mj_call L 100 238 [.inr (.inr 1000)] 1 (fun _ _ => 0) (mj_mu0 L xs) (fun r c' _ _ => r = [.inl 1] ∧ c' = 110) := by
  have hl := lw_loop (L := L) hL h_parcels h_program L 31 62 0 (iMF (mj_mu0 L xs)) 0 (by omega) (by omega) (by omega) (J_0 L xs)
  rw [← i_pz] at hl
  have hf := FR_0 L xs
  generalize (fun r c' _ _ => r = [.inl 1] ∧ c' = 110 : mj_Q) = P at *
  generalize mj_mu0 L xs = μ at *
  have hf2 : FR 69 (ppL iT1 (fun _ _ => 0)) (iM2 μ) := by
    intro k a b
    have hcs := mj_ix_cs k
    refine ⟨fun j => ?_, fun j => ?_⟩
    · rw [ppL_at, lk_no]
      · rfl
      · intro hm
        have hc : (iT1.map Prod.fst).all (fun q => decide (mj_ix q.1 < 69)) = true := by decide +kernel
        have : mj_ix k < 69 := of_decide_eq_true ((List.all_eq_true.mp hc) _ hm)
        omega
    · unfold iM2 iM1
      rw [fgt_o (by omega), g_an (by omega), fgt_o (by omega), g_an (by omega)]
      exact (hf k (by omega) b).2 j
  simp only [e_238, mj_go_eq, g_cut, g_k0, g_k1, g_w0, g_w1, g_w2, g_w3, g_w4, g_c1, g_c2, g_c3, g_us, g_new, g_dupi, g_dupr, g_call1, o_107, g_str_1, o_147, g_str_2, g_const, g_sti_3, g_ldi_3, g_ldr_0, g_alen, g_isub, g_icgt, g_iald, g_iand, g_sw, g_sw0, g_sw1, g_ldr_1, g_iadd, g_i2l, g_lshl, g_lconst, g_land, g_lor, g_call2, o_108, g_ldr_2, o_151, g_iceq, g_zret, o_109, o_152, o_110, o_166, o_111, o_167, o_112, o_168, o_113, o_172, g_call4, o_114, o_173, g_call3, o_115, o_174, o_116, o_179, o_117, o_180, o_118, o_181, o_119, o_185, o_120, o_186, o_121, o_189, o_122, o_193, o_123, o_194, o_124, o_195, o_125, o_196, o_126, o_198, o_127, o_203, o_128, o_207, o_129, o_208, o_130, o_210, g_call7, o_131, o_213, g_call5, o_132, o_215, o_133, o_216, o_134, o_218, o_135, o_219, o_136, o_220, o_137, o_221, o_138, o_223, o_139, o_224, g_call6, o_140, o_225, o_141, o_226, g_inc_3, g_goto, a_238_0, a_238_3, a_238_4, ne_eq, not_false_eq_true, true_and, and_true, and_self, Int.cast_ofNat_Int, reduceCtorEq, or_false, false_or, not_true_eq_false, or_true, true_or, Int.reduceToNat, Int.reduceAdd, Int.reduceEq, Int.reduceNe, Int.reduceLT, Int.reduceLE, Int.reduceNeg, Int.reduceSub, Int.reduceMul, Nat.reduceAdd, Nat.reduceLT, Nat.reduceLeDiff, Nat.reduceEqDiff, forall_const, false_implies, true_implies, y_1, y_2, y_3, y_4, y_5, y_6, y_7, y_8, y_9, y_10, y_11, y_12, y_13, y_14, y_15, y_16, y_17, y_18, y_19, y_20, y_21, y_22, y_23, y_24, y_25, y_26, y_27, y_28, y_29, y_30, y_31, y_32, y_33, y_34, y_35, y_36, y_37, y_38, y_39, y_40, y_41, y_42, y_43, y_44, y_45, y_46, y_47, y_48, y_49, y_50, y_51, y_52, y_53, y_54, y_55, y_56, y_57, y_58, y_59, y_60, y_61, y_62, y_63, y_64, y_65, y_66, y_67, y_68, y_69, y_70, y_71, y_72, y_73, y_74, y_75, y_76, y_77, y_78, y_79, y_80, y_81, y_82, y_83, y_84, y_85, y_86, y_87, y_88, y_89, y_90, y_91, y_92, y_93, y_94, y_95, y_96, y_97, y_98, y_99, y_100, y_101, y_102, y_103, y_104, y_105, y_106, y_107, y_108, y_109, y_1000, y_1001, y_1002, y_1003, nm_1, nm_2, nm_3, nm_4, nm_5, nm_6, nm_7, nm_8, nm_9, nm_10, nm_11, nm_12, nm_13, nm_14, nm_15, nm_16, nm_17, nm_18, nm_19, nm_20, nm_21, nm_22, nm_23, nm_24, nm_25, nm_26, nm_27, nm_28, nm_29, nm_30, nm_31, nm_32, nm_33, nm_34, nm_35, nm_36, nm_37, nm_38, nm_39, nm_40, nm_41, nm_42, nm_43, nm_44, nm_45, nm_46, nm_47, nm_48, nm_49, nm_50, nm_51, nm_52, nm_53, nm_54, nm_55, nm_56, nm_57, nm_58, nm_59, nm_60, nm_61, nm_62, nm_63, nm_64, nm_65, nm_66, nm_67, nm_68, nm_69, nm_70, nm_71, nm_72, nm_73, nm_74, nm_75, nm_76, nm_77, nm_78, nm_79, nm_80, nm_81, nm_82, nm_83, nm_84, nm_85, nm_86, nm_87, nm_88, nm_89, nm_90, nm_91, nm_92, nm_93, nm_94, nm_95, nm_96, nm_97, nm_98, nm_99, nm_100, nm_101, nm_102, nm_103, nm_104, nm_105, nm_106, nm_107, nm_108, nm_109]
  refine ⟨FR_new hf rfl (by decide), ?_⟩
  repeat' (first | intro _ | with_reducible apply And.intro)
  all_goals (first | omega | skip)
  refine i_Sb (FR_m hf (by decide)) ?_
  simp only [mj_go_eq, g_cut, g_k0, g_k1, g_w0, g_w1, g_w2, g_w3, g_w4, g_c1, g_c2, g_c3, g_us, g_new, g_dupi, g_dupr, g_call1, o_107, g_str_1, o_147, g_str_2, g_const, g_sti_3, g_ldi_3, g_ldr_0, g_alen, g_isub, g_icgt, g_iald, g_iand, g_sw, g_sw0, g_sw1, g_ldr_1, g_iadd, g_i2l, g_lshl, g_lconst, g_land, g_lor, g_call2, o_108, g_ldr_2, o_151, g_iceq, g_zret, o_109, o_152, o_110, o_166, o_111, o_167, o_112, o_168, o_113, o_172, g_call4, o_114, o_173, g_call3, o_115, o_174, o_116, o_179, o_117, o_180, o_118, o_181, o_119, o_185, o_120, o_186, o_121, o_189, o_122, o_193, o_123, o_194, o_124, o_195, o_125, o_196, o_126, o_198, o_127, o_203, o_128, o_207, o_129, o_208, o_130, o_210, g_call7, o_131, o_213, g_call5, o_132, o_215, o_133, o_216, o_134, o_218, o_135, o_219, o_136, o_220, o_137, o_221, o_138, o_223, o_139, o_224, g_call6, o_140, o_225, o_141, o_226, g_inc_3, g_goto, a_238_7, a_238_8, a_238_11, a_238_12, ne_eq, not_false_eq_true, true_and, and_true, and_self, Int.cast_ofNat_Int, reduceCtorEq, or_false, false_or, not_true_eq_false, or_true, true_or, Int.reduceToNat, Int.reduceAdd, Int.reduceEq, Int.reduceNe, Int.reduceLT, Int.reduceLE, Int.reduceNeg, Int.reduceSub, Int.reduceMul, Nat.reduceAdd, Nat.reduceLT, Nat.reduceLeDiff, Nat.reduceEqDiff, forall_const, false_implies, true_implies, y_1, y_2, y_3, y_4, y_5, y_6, y_7, y_8, y_9, y_10, y_11, y_12, y_13, y_14, y_15, y_16, y_17, y_18, y_19, y_20, y_21, y_22, y_23, y_24, y_25, y_26, y_27, y_28, y_29, y_30, y_31, y_32, y_33, y_34, y_35, y_36, y_37, y_38, y_39, y_40, y_41, y_42, y_43, y_44, y_45, y_46, y_47, y_48, y_49, y_50, y_51, y_52, y_53, y_54, y_55, y_56, y_57, y_58, y_59, y_60, y_61, y_62, y_63, y_64, y_65, y_66, y_67, y_68, y_69, y_70, y_71, y_72, y_73, y_74, y_75, y_76, y_77, y_78, y_79, y_80, y_81, y_82, y_83, y_84, y_85, y_86, y_87, y_88, y_89, y_90, y_91, y_92, y_93, y_94, y_95, y_96, y_97, y_98, y_99, y_100, y_101, y_102, y_103, y_104, y_105, y_106, y_107, y_108, y_109, y_1000, y_1001, y_1002, y_1003, nm_1, nm_2, nm_3, nm_4, nm_5, nm_6, nm_7, nm_8, nm_9, nm_10, nm_11, nm_12, nm_13, nm_14, nm_15, nm_16, nm_17, nm_18, nm_19, nm_20, nm_21, nm_22, nm_23, nm_24, nm_25, nm_26, nm_27, nm_28, nm_29, nm_30, nm_31, nm_32, nm_33, nm_34, nm_35, nm_36, nm_37, nm_38, nm_39, nm_40, nm_41, nm_42, nm_43, nm_44, nm_45, nm_46, nm_47, nm_48, nm_49, nm_50, nm_51, nm_52, nm_53, nm_54, nm_55, nm_56, nm_57, nm_58, nm_59, nm_60, nm_61, nm_62, nm_63, nm_64, nm_65, nm_66, nm_67, nm_68, nm_69, nm_70, nm_71, nm_72, nm_73, nm_74, nm_75, nm_76, nm_77, nm_78, nm_79, nm_80, nm_81, nm_82, nm_83, nm_84, nm_85, nm_86, nm_87, nm_88, nm_89, nm_90, nm_91, nm_92, nm_93, nm_94, nm_95, nm_96, nm_97, nm_98, nm_99, nm_100, nm_101, nm_102, nm_103, nm_104, nm_105, nm_106, nm_107, nm_108, nm_109]
  refine ⟨FR_new hf2 rfl (by decide), ?_⟩
  repeat' (first | intro _ | with_reducible apply And.intro)
  all_goals (first | omega | skip)
  refine i_Mo (FR_m hf2 (by decide)) ?_
  simp only [mj_go_eq, g_cut, g_k0, g_k1, g_w0, g_w1, g_w2, g_w3, g_w4, g_c1, g_c2, g_c3, g_us, g_new, g_dupi, g_dupr, g_call1, o_107, g_str_1, o_147, g_str_2, g_const, g_sti_3, g_ldi_3, g_ldr_0, g_alen, g_isub, g_icgt, g_iald, g_iand, g_sw, g_sw0, g_sw1, g_ldr_1, g_iadd, g_i2l, g_lshl, g_lconst, g_land, g_lor, g_call2, o_108, g_ldr_2, o_151, g_iceq, g_zret, o_109, o_152, o_110, o_166, o_111, o_167, o_112, o_168, o_113, o_172, g_call4, o_114, o_173, g_call3, o_115, o_174, o_116, o_179, o_117, o_180, o_118, o_181, o_119, o_185, o_120, o_186, o_121, o_189, o_122, o_193, o_123, o_194, o_124, o_195, o_125, o_196, o_126, o_198, o_127, o_203, o_128, o_207, o_129, o_208, o_130, o_210, g_call7, o_131, o_213, g_call5, o_132, o_215, o_133, o_216, o_134, o_218, o_135, o_219, o_136, o_220, o_137, o_221, o_138, o_223, o_139, o_224, g_call6, o_140, o_225, o_141, o_226, g_inc_3, g_goto, a_238_15, a_238_16, a_238_17, a_238_18, ne_eq, not_false_eq_true, true_and, and_true, and_self, Int.cast_ofNat_Int, reduceCtorEq, or_false, false_or, not_true_eq_false, or_true, true_or, Int.reduceToNat, Int.reduceAdd, Int.reduceEq, Int.reduceNe, Int.reduceLT, Int.reduceLE, Int.reduceNeg, Int.reduceSub, Int.reduceMul, Nat.reduceAdd, Nat.reduceLT, Nat.reduceLeDiff, Nat.reduceEqDiff, forall_const, false_implies, true_implies, y_1, y_2, y_3, y_4, y_5, y_6, y_7, y_8, y_9, y_10, y_11, y_12, y_13, y_14, y_15, y_16, y_17, y_18, y_19, y_20, y_21, y_22, y_23, y_24, y_25, y_26, y_27, y_28, y_29, y_30, y_31, y_32, y_33, y_34, y_35, y_36, y_37, y_38, y_39, y_40, y_41, y_42, y_43, y_44, y_45, y_46, y_47, y_48, y_49, y_50, y_51, y_52, y_53, y_54, y_55, y_56, y_57, y_58, y_59, y_60, y_61, y_62, y_63, y_64, y_65, y_66, y_67, y_68, y_69, y_70, y_71, y_72, y_73, y_74, y_75, y_76, y_77, y_78, y_79, y_80, y_81, y_82, y_83, y_84, y_85, y_86, y_87, y_88, y_89, y_90, y_91, y_92, y_93, y_94, y_95, y_96, y_97, y_98, y_99, y_100, y_101, y_102, y_103, y_104, y_105, y_106, y_107, y_108, y_109, y_1000, y_1001, y_1002, y_1003]
  repeat' (first | intro _ | with_reducible apply And.intro)
  all_goals (first | omega | exact hl | skip)
