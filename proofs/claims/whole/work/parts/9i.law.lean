set_option maxRecDepth 20000
theorem lw_head {L x y z : Nat} {μ : mj_M} {i : Int} {P : mj_Q} (hL : L ≤ 3584) (h_parcels : ∀ (x y z : Nat) (μ : mj_M), J x y μ → ∀ a0 : Int, (-2147483648 ≤ a0 ∧ a0 < 2147483648) → KK L 130 210 [.inl a0] x y z μ) (h_program : ∀ (x y z : Nat) (μ : mj_M), J x y μ → ∀ a0 a1 a2 a3 a4 a5 : Int, (-2147483648 ≤ a0 ∧ a0 < 2147483648) → (-2147483648 ≤ a1 ∧ a1 < 2147483648) → (-2147483648 ≤ a2 ∧ a2 < 2147483648) → (-2147483648 ≤ a3 ∧ a3 < 2147483648) → (-2147483648 ≤ a4 ∧ a4 < 2147483648) → (-2147483648 ≤ a5 ∧ a5 < 2147483648) → KK L 131 213 [.inl a0, .inl a1, .inl a2, .inl a3, .inl a4, .inl a5] x y z μ) (hi : 0 ≤ i ∧ i + 7 ≤ L) (hJ : J x y μ) (hN : ∀ (x y z : Nat) (μ' : mj_M), J x y μ' → μ' 1000 = μ 1000 → mj_go L 100 238 1278 [.inr (.inr 1000), .inr (.inr 1), .inr (.inr 67), .inl i] [] 110 (pz x y z) μ' P) : mj_run L 100 238 18 [.inr (.inr 1000), .inr (.inr 1), .inr (.inr 67), .inl i] [] 110 (pz x y z) μ P := by
  have hsc := hJ.a.sc
  have g184 := lw_feed (L := L) (z := z) (P := P) hL hi (k_feed hJ _) hN
  have g237 := lw_end (L := L) (z := z) (P := P) hL hi (k_end hJ (μ 1000 (i + 1)) (hsc (i + 1))) hN
  have g260 := lw_rules (L := L) (z := z) (P := P) hL hi (k_rules hJ) hN
  have g273 := lw_fault (L := L) (z := z) (P := P) hL hi (k_fault hJ) hN
  have g286 := lw_rule (L := L) (z := z) (P := P) hL hi (k_rule hJ (μ 1000 (i + 1)) (hsc (i + 1))) hN
  have g309 := lw_reader (L := L) (z := z) (P := P) hL hi (k_reader hJ (μ 1000 (i + 1)) (hsc (i + 1))) hN
  have g332 := lw_title (L := L) (z := z) (P := P) hL hi (k_title hJ (μ 1000 (i + 1)) (μ 1000 (i + 2)) (μ 1000 (i + 3)) (hsc (i + 1)) (hsc (i + 2)) (hsc (i + 3))) hN
  have g375 := lw_side (L := L) (z := z) (P := P) hL hi (k_side hJ (μ 1000 (i + 1)) (μ 1000 (i + 2)) (hsc (i + 1)) (hsc (i + 2))) hN
  have g408 := lw_titleOf (L := L) (z := z) (P := P) hL hi (k_titleOf hJ (μ 1000 (i + 1)) (μ 1000 (i + 2)) (hsc (i + 1)) (hsc (i + 2))) hN
  have g441 := lw_copy (L := L) (z := z) (P := P) hL hi (k_copy hJ (μ 1000 (i + 1)) (hsc (i + 1))) hN
  have g464 := lw_copyOf (L := L) (z := z) (P := P) hL hi (k_copyOf hJ (μ 1000 (i + 1)) (μ 1000 (i + 2)) (hsc (i + 1)) (hsc (i + 2))) hN
  have g497 := lw_back (L := L) (z := z) (P := P) hL hi (k_back hJ (μ 1000 (i + 1)) (hsc (i + 1))) hN
  have g520 := lw_lose (L := L) (z := z) (P := P) hL hi (k_lose hJ (μ 1000 (i + 1)) (hsc (i + 1))) hN
  have g543 := lw_listener (L := L) (z := z) (P := P) hL hi (k_listener hJ (μ 1000 (i + 1)) (μ 1000 (i + 2)) (hsc (i + 1)) (hsc (i + 2))) hN
  have g576 := lw_told (L := L) (z := z) (P := P) hL hi (k_told hJ (μ 1000 (i + 1)) (μ 1000 (i + 2)) (hsc (i + 1)) (hsc (i + 2))) hN
  have g609 := lw_ask (L := L) (z := z) (P := P) hL hi (k_ask hJ (μ 1000 (i + 1)) (μ 1000 (i + 2)) (hsc (i + 1)) (hsc (i + 2))) hN
  have g642 := lw_unask (L := L) (z := z) (P := P) hL hi (k_unask hJ (μ 1000 (i + 1)) (hsc (i + 1))) hN
  have g665 := lw_request (L := L) (z := z) (P := P) hL hi (k_request hJ (μ 1000 (i + 1)) (μ 1000 (i + 2)) (hsc (i + 1)) (hsc (i + 2))) hN
  have g698 := lw_may (L := L) (z := z) (P := P) hL hi (k_may hJ (μ 1000 (i + 1)) (μ 1000 (i + 2)) (hsc (i + 1)) (hsc (i + 2))) hN
  have g731 := lw_queue (L := L) (z := z) (P := P) hL hi (k_queue hJ (μ 1000 (i + 1)) (μ 1000 (i + 2)) (hsc (i + 1)) (hsc (i + 2))) hN
  have g764 := lw_day (L := L) (z := z) (P := P) hL hi (k_day hJ) hN
  have g777 := lw_serve (L := L) (z := z) (P := P) hL hi (k_serve hJ) hN
  have g790 := lw_parcels (L := L) (z := z) (P := P) hL hi (h_parcels x y z μ hJ _ (hsc (i + 1))) hN
  have g813 := lw_program (L := L) (z := z) (P := P) hL hi (h_program x y z μ hJ _ _ _ _ _ _ (hsc (i + 1)) (hsc (i + 2)) (hsc (i + 3)) (hsc (i + 4)) (hsc (i + 5)) (hsc (i + 6))) hN
  have g888 := lw_error (L := L) (z := z) (P := P) hL hi (k_error hJ (μ 1000 (i + 1)) (μ 1000 (i + 2)) (μ 1000 (i + 3)) (μ 1000 (i + 4)) (hsc (i + 1)) (hsc (i + 2)) (hsc (i + 3)) (hsc (i + 4))) hN
  have g941 := lw_errorOf (L := L) (z := z) (P := P) hL hi (k_errorOf hJ (μ 1000 (i + 1)) (μ 1000 (i + 2)) (hsc (i + 1)) (hsc (i + 2))) hN
  have g974 := lw_all (L := L) (z := z) (P := P) hL hi (k_all hJ (μ 1000 (i + 1)) (μ 1000 (i + 2)) (hsc (i + 1)) (hsc (i + 2))) hN
  have g1007 := lw_habit (L := L) (z := z) (P := P) hL hi (k_habit hJ (μ 1000 (i + 1)) (μ 1000 (i + 2)) (hsc (i + 1)) (hsc (i + 2))) hN
  have g1040 := lw_led (L := L) (z := z) (P := P) hL hi (k_led hJ (μ 1000 (i + 1)) (μ 1000 (i + 2)) (hsc (i + 1)) (hsc (i + 2))) hN
  have g1073 := lw_known (L := L) (z := z) (P := P) hL hi (k_known hJ (μ 1000 (i + 1)) (μ 1000 (i + 2)) (hsc (i + 1)) (hsc (i + 2))) hN
  have g1106 := lw_sheet (L := L) (z := z) (P := P) hL hi (k_sheet hJ (μ 1000 (i + 1)) (μ 1000 (i + 2)) (μ 1000 (i + 3)) (hsc (i + 1)) (hsc (i + 2)) (hsc (i + 3))) hN
  have g1149 := lw_lay (L := L) (z := z) (P := P) hL hi (k_lay hJ (μ 1000 (i + 1)) (μ 1000 (i + 2)) (μ 1000 (i + 3)) (hsc (i + 1)) (hsc (i + 2)) (hsc (i + 3))) hN
  have g1192 := lw_sides (L := L) (z := z) (P := P) hL hi (k_sides hJ (μ 1000 (i + 1)) (μ 1000 (i + 2)) (μ 1000 (i + 3)) (μ 1000 (i + 4)) (μ 1000 (i + 5)) (hsc (i + 1)) (hsc (i + 2)) (hsc (i + 3)) (hsc (i + 4)) (hsc (i + 5))) hN
  have g1255 := lw_count (L := L) (z := z) (P := P) hL hi (k_count hJ (μ 1000 (i + 1)) (hsc (i + 1))) hN
  have gd := hN x y z μ hJ rfl
  simp only [mj_go_eq] at gd g184 g237 g260 g273 g286 g309 g332 g375 g408 g441 g464 g497 g520 g543 g576 g609 g642 g665 g698 g731 g764 g777 g790 g813 g888 g941 g974 g1007 g1040 g1073 g1106 g1149 g1192 g1255
  have w7 : mj_w ((L : Int) - 7) = L - 7 := mj_w_id (by omega) (by omega)
  refine mj_start ?_
  simp only [w7, mj_go_eq, g_cut, g_k0, g_k1, g_w0, g_w1, g_w2, g_w3, g_w4, g_c1, g_c2, g_c3, g_us, g_new, g_dupi, g_dupr, g_call1, o_107, g_str_1, o_147, g_str_2, g_const, g_sti_3, g_ldi_3, g_ldr_0, g_alen, g_isub, g_icgt, g_iald, g_iand, g_sw, g_sw0, g_sw1, g_ldr_1, g_iadd, g_i2l, g_lshl, g_lconst, g_land, g_lor, g_call2, o_108, g_ldr_2, o_151, g_iceq, g_zret, o_109, o_152, o_110, o_166, o_111, o_167, o_112, o_168, o_113, o_172, g_call4, o_114, o_173, g_call3, o_115, o_174, o_116, o_179, o_117, o_180, o_118, o_181, o_119, o_185, o_120, o_186, o_121, o_189, o_122, o_193, o_123, o_194, o_124, o_195, o_125, o_196, o_126, o_198, o_127, o_203, o_128, o_207, o_129, o_208, o_130, o_210, g_call7, o_131, o_213, g_call5, o_132, o_215, o_133, o_216, o_134, o_218, o_135, o_219, o_136, o_220, o_137, o_221, o_138, o_223, o_139, o_224, g_call6, o_140, o_225, o_141, o_226, g_inc_3, g_goto, a_238_18, a_238_19, a_238_20, a_238_21, a_238_23, a_238_24, a_238_27, a_238_28, a_238_29, a_238_30, a_238_32, a_238_33, w_238_33, ne_eq, not_false_eq_true, true_and, and_true, and_self, Int.cast_ofNat_Int, reduceCtorEq, or_false, false_or, not_true_eq_false, or_true, true_or, Int.reduceToNat, Int.reduceAdd, Int.reduceEq, Int.reduceNe, Int.reduceLT, Int.reduceLE, Int.reduceNeg, Int.reduceSub, Int.reduceMul, Nat.reduceAdd, Nat.reduceLT, Nat.reduceLeDiff, Nat.reduceEqDiff, forall_const, false_implies, true_implies, y_1, y_2, y_3, y_4, y_5, y_6, y_7, y_8, y_9, y_10, y_11, y_12, y_13, y_14, y_15, y_16, y_17, y_18, y_19, y_20, y_21, y_22, y_23, y_24, y_25, y_26, y_27, y_28, y_29, y_30, y_31, y_32, y_33, y_34, y_35, y_36, y_37, y_38, y_39, y_40, y_41, y_42, y_43, y_44, y_45, y_46, y_47, y_48, y_49, y_50, y_51, y_52, y_53, y_54, y_55, y_56, y_57, y_58, y_59, y_60, y_61, y_62, y_63, y_64, y_65, y_66, y_67, y_68, y_69, y_70, y_71, y_72, y_73, y_74, y_75, y_76, y_77, y_78, y_79, y_80, y_81, y_82, y_83, y_84, y_85, y_86, y_87, y_88, y_89, y_90, y_91, y_92, y_93, y_94, y_95, y_96, y_97, y_98, y_99, y_100, y_101, y_102, y_103, y_104, y_105, y_106, y_107, y_108, y_109, y_1000, y_1001, y_1002, y_1003]
  repeat' (first | intro _ | with_reducible apply And.intro)
  all_goals (first | omega | exact gd | exact g184 | exact g237 | exact g260 | exact g273 | exact g286 | exact g309 | exact g332 | exact g375 | exact g408 | exact g441 | exact g464 | exact g497 | exact g520 | exact g543 | exact g576 | exact g609 | exact g642 | exact g665 | exact g698 | exact g731 | exact g764 | exact g777 | exact g790 | exact g813 | exact g888 | exact g941 | exact g974 | exact g1007 | exact g1040 | exact g1073 | exact g1106 | exact g1149 | exact g1192 | exact g1255)
