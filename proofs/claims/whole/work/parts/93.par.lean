set_option maxRecDepth 20000
theorem c_Jx_fill {L d c k n : Nat} {π : mj_P} {μ : mj_M} {v : Int} (hk : mj_lay L (k + 1) = (1, n)) (h1 : k + 1 < 1000) (hn : n < 1000) (Q : mj_Q) : mj_call L d 236 [.inr (.inr (k + 1)), .inl v] c π μ Q = Q [] c π (mj_ua μ (k + 1) (zfl (μ (k + 1)) 0 n v)) := by
  refine mj_call_eq ?_ Q
  have key : ∀ j, j ≤ n → mj_run L d 236 5 [.inr (.inr (k + 1)), .inl v, .inl (j : Int), .inl (n : Int)] [] c π (mj_ua μ (k + 1) (zfl (μ (k + 1)) 0 j v)) (fun r c' π' μ' => r = [] ∧ c' = c ∧ π' = π ∧ μ' = mj_ua μ (k + 1) (zfl (μ (k + 1)) 0 n v)) := by
    refine mj_down ?_ ?_
    · refine mj_start ?_
      simp only [mj_go_eq, g_cut, g_k0, g_k1, g_w0, g_w1, g_w2, g_w3, g_w4, g_c1, g_c2, g_c3, g_us, g_const, g_sti_2, g_ldr_0, g_alen, g_sti_3, g_ldi_2, g_ldi_3, g_icge, g_ldi_1, g_iast, g_inc_2, g_goto, g_vret, a_236_0, a_236_1, a_236_2, a_236_3, a_236_4, a_236_5, a_236_6, a_236_7, a_236_10, a_236_11, a_236_12, a_236_13, a_236_14, a_236_17, a_236_20, ne_eq, not_false_eq_true, true_and, and_true, and_self, Int.cast_ofNat_Int, reduceCtorEq, or_false, false_or, not_true_eq_false, or_true, true_or, Int.reduceToNat, Int.reduceAdd, Int.reduceEq, Int.reduceNe, Int.reduceLT, Int.reduceLE, Int.reduceNeg, Int.reduceSub, Int.reduceMul, Nat.reduceAdd, Nat.reduceLT, Nat.reduceLeDiff, Nat.reduceEqDiff, forall_const, false_implies, true_implies, hk]
      repeat' (first | intro _ | with_reducible apply And.intro)
      all_goals (first | omega | trivial)
    · intro j hj ih
      have w0 := zfl_s (f := μ (k + 1)) (a := 0) (j := j) (v := v) (by omega)
      rw [Int.zero_add] at w0
      rw [Int.natCast_succ, ← w0] at ih
      refine mj_start ?_
      simp only [mj_go_eq, g_cut, g_k0, g_k1, g_w0, g_w1, g_w2, g_w3, g_w4, g_c1, g_c2, g_c3, g_us, g_const, g_sti_2, g_ldr_0, g_alen, g_sti_3, g_ldi_2, g_ldi_3, g_icge, g_ldi_1, g_iast, g_inc_2, g_goto, g_vret, a_236_0, a_236_1, a_236_2, a_236_3, a_236_4, a_236_5, a_236_6, a_236_7, a_236_10, a_236_11, a_236_12, a_236_13, a_236_14, a_236_17, a_236_20, ne_eq, not_false_eq_true, true_and, and_true, and_self, Int.cast_ofNat_Int, reduceCtorEq, or_false, false_or, not_true_eq_false, or_true, true_or, Int.reduceToNat, Int.reduceAdd, Int.reduceEq, Int.reduceNe, Int.reduceLT, Int.reduceLE, Int.reduceNeg, Int.reduceSub, Int.reduceMul, Nat.reduceAdd, Nat.reduceLT, Nat.reduceLeDiff, Nat.reduceEqDiff, forall_const, false_implies, true_implies, hk, g_au]
      try (simp (disch := omega) only [mj_w_id])
      repeat' (first | intro _ | with_reducible apply And.intro)
      all_goals (first | omega | exact ih)
  have h0 := key 0 (Nat.zero_le _)
  rw [Int.natCast_zero, zfl_0, g_aid] at h0
  simp only [e_236, mj_go_eq, g_cut, g_k0, g_k1, g_w0, g_w1, g_w2, g_w3, g_w4, g_c1, g_c2, g_c3, g_us, g_const, g_sti_2, g_ldr_0, g_alen, g_sti_3, g_ldi_2, g_ldi_3, g_icge, g_ldi_1, g_iast, g_inc_2, g_goto, g_vret, a_236_0, a_236_1, a_236_2, a_236_3, a_236_4, a_236_5, a_236_6, a_236_7, a_236_10, a_236_11, a_236_12, a_236_13, a_236_14, a_236_17, a_236_20, ne_eq, not_false_eq_true, true_and, and_true, and_self, Int.cast_ofNat_Int, reduceCtorEq, or_false, false_or, not_true_eq_false, or_true, true_or, Int.reduceToNat, Int.reduceAdd, Int.reduceEq, Int.reduceNe, Int.reduceLT, Int.reduceLE, Int.reduceNeg, Int.reduceSub, Int.reduceMul, Nat.reduceAdd, Nat.reduceLT, Nat.reduceLeDiff, Nat.reduceEqDiff, forall_const, false_implies, true_implies, hk]
  repeat' (first | intro _ | with_reducible apply And.intro)
  all_goals (first | omega | exact h0)
noncomputable def fgt (ρ : mj_M) (w : Nat) : mj_M := mj_ua (mj_ua (mj_up (mj_up (mj_ua ρ (w + 1) (zcp (ρ (w + 1)) 0 5 (ρ 1003))) (w + 2) 0 0) w 4 1) (w + 3) (zfl (ρ (w + 3)) 0 12 (-4))) (w + 4) (zfl (ρ (w + 4)) 0 12 (-4))
theorem c_forget_31 {L d c x y z : Nat} {μ : mj_M} (Q : mj_Q) : mj_call L (d + 1) 73 [.inr (.inr 31)] c (pz x y z) μ Q = Q [] c (pz x y z) (fgt μ 31) := by
  refine mj_call_eq ?_ Q
  unfold fgt
  simp only [Nat.reduceAdd]
  have key : ∀ j : Nat, j ≤ 5 → mj_run L (d + 1) 73 2 [.inr (.inr 31), .inl (j : Int)] [] c (pz x y z) (mj_ua μ 32 (zcp (μ 32) 0 j (μ 1003))) (fun r c' π' μ' => r = [] ∧ c' = c ∧ π' = pz x y z ∧ μ' = mj_ua (mj_ua (mj_up (mj_up (mj_ua μ 32 (zcp (μ 32) 0 5 (μ 1003))) 33 0 0) 31 4 1) 34 (zfl (μ 34) 0 12 (-4))) 35 (zfl (μ 35) 0 12 (-4))) := by
    refine mj_down ?_ ?_
    · have f1 := fun μ Q => c_Jx_fill (L := L) (d := d) (c := c) (k := 33) (n := 12) (π := pz x y z) (μ := μ) (v := -4) (y_34 L) (by decide) (by decide) Q
      have f2 := fun μ Q => c_Jx_fill (L := L) (d := d) (c := c) (k := 34) (n := 12) (π := pz x y z) (μ := μ) (v := -4) (y_35 L) (by decide) (by decide) Q
      simp only [Nat.reduceAdd] at f1 f2
      refine mj_start ?_
      simp only [f1, f2, mj_go_eq, g_cut, g_k0, g_k1, g_w0, g_w1, g_w2, g_w3, g_w4, g_c1, g_c2, g_c3, g_us, g_const, g_sti_1, g_ldi_1, g_icge, g_ldr_0, g_getr, g_gets, g_iald, g_iast, g_inc_1, g_goto, g_putf, g_call2, o_236, g_vret, a_73_0, a_73_1, a_73_2, a_73_3, a_73_4, a_73_7, a_73_8, a_73_11, a_73_12, a_73_15, a_73_16, a_73_17, a_73_18, a_73_21, a_73_24, a_73_25, a_73_28, a_73_29, a_73_30, a_73_31, a_73_32, a_73_33, a_73_36, a_73_37, a_73_40, a_73_42, a_73_45, a_73_46, a_73_49, a_73_51, a_73_54, ne_eq, not_false_eq_true, true_and, and_true, and_self, Int.cast_ofNat_Int, reduceCtorEq, or_false, false_or, not_true_eq_false, or_true, true_or, Int.reduceToNat, Int.reduceAdd, Int.reduceEq, Int.reduceNe, Int.reduceLT, Int.reduceLE, Int.reduceNeg, Int.reduceSub, Int.reduceMul, Nat.reduceAdd, Nat.reduceLT, Nat.reduceLeDiff, Nat.reduceEqDiff, forall_const, false_implies, true_implies, p_1_0, p_1_1, p_1_2, p_1_3, p_1_4, p_1_5, p_1_6, p_1_7, p_1_8, p_1_9, p_2_0, p_4_0, p_4_1, p_4_2, p_4_3, p_4_4, p_4_5, p_5_0, p_5_1, p_5_2, p_5_3, p_5_4, p_5_5, p_12_0, p_12_1, p_12_2, p_12_3, p_12_4, p_18_0, p_18_1, p_18_2, p_18_3, p_23_0, p_23_1, p_23_2, p_23_3, p_23_4, p_31_0, p_31_1, p_31_2, p_31_3, p_36_0, p_36_1, p_36_2, p_36_3, p_36_4, p_42_0, p_42_1, p_42_2, p_42_3, p_42_4, p_42_5, p_42_6, p_42_7, p_42_8, p_52_0, p_52_1, p_52_2, p_52_3, p_52_4, p_52_5, p_52_6, p_58_0, p_58_1, p_58_2, p_62_0, p_62_1, p_62_2, p_62_3, p_67_1, p_67_2, p_67_3, p_67_4, p_67_13, p_67_15, p_67_16, p_67_17, p_67_18, p_67_19, p_67_21, p_67_22, p_67_23, p_67_24, p_67_25, p_67_26, p_67_28, p_67_29, p_67_30, p_67_31, p_67_33, p_67_34, p_67_35, p_67_36, p_67_37, p_67_38, p_67_39, p_67_40, p_67_41, p_67_42, p_67_43, p_67_44, p_67_48, p_67_49, p_67_50, p_67_51, p_67_52, p_67_53, p_67_54, p_67_55, p_x, p_y, p_z, p_sx, p_sy, p_sz, y_1, y_2, y_3, y_4, y_5, y_6, y_7, y_8, y_9, y_10, y_11, y_12, y_13, y_14, y_15, y_16, y_17, y_18, y_19, y_20, y_21, y_22, y_23, y_24, y_25, y_26, y_27, y_28, y_29, y_30, y_31, y_32, y_33, y_34, y_35, y_36, y_37, y_38, y_39, y_40, y_41, y_42, y_43, y_44, y_45, y_46, y_47, y_48, y_49, y_50, y_51, y_52, y_53, y_54, y_55, y_56, y_57, y_58, y_59, y_60, y_61, y_62, y_63, y_64, y_65, y_66, y_67, y_68, y_69, y_70, y_71, y_72, y_73, y_74, y_75, y_76, y_77, y_78, y_79, y_80, y_81, y_82, y_83, y_84, y_85, y_86, y_87, y_88, y_89, y_90, y_91, y_92, y_93, y_94, y_95, y_96, y_97, y_98, y_99, y_100, y_101, y_102, y_103, y_104, y_105, y_106, y_107, y_108, y_109, y_1000, y_1001, y_1002, y_1003, g_us, g_un, g_ps, g_pn, if_true, if_false, g_as, g_an]
    · intro j hj ih
      have w0 := zcp_s (f := μ 32) (a := 0) (j := j) (g := μ 1003) (by omega)
      rw [Int.zero_add] at w0
      rw [Int.natCast_succ, ← w0] at ih
      refine mj_start ?_
      simp only [mj_go_eq, g_cut, g_k0, g_k1, g_w0, g_w1, g_w2, g_w3, g_w4, g_c1, g_c2, g_c3, g_us, g_const, g_sti_1, g_ldi_1, g_icge, g_ldr_0, g_getr, g_gets, g_iald, g_iast, g_inc_1, g_goto, g_putf, g_call2, o_236, g_vret, a_73_0, a_73_1, a_73_2, a_73_3, a_73_4, a_73_7, a_73_8, a_73_11, a_73_12, a_73_15, a_73_16, a_73_17, a_73_18, a_73_21, a_73_24, a_73_25, a_73_28, a_73_29, a_73_30, a_73_31, a_73_32, a_73_33, a_73_36, a_73_37, a_73_40, a_73_42, a_73_45, a_73_46, a_73_49, a_73_51, a_73_54, ne_eq, not_false_eq_true, true_and, and_true, and_self, Int.cast_ofNat_Int, reduceCtorEq, or_false, false_or, not_true_eq_false, or_true, true_or, Int.reduceToNat, Int.reduceAdd, Int.reduceEq, Int.reduceNe, Int.reduceLT, Int.reduceLE, Int.reduceNeg, Int.reduceSub, Int.reduceMul, Nat.reduceAdd, Nat.reduceLT, Nat.reduceLeDiff, Nat.reduceEqDiff, forall_const, false_implies, true_implies, p_1_0, p_1_1, p_1_2, p_1_3, p_1_4, p_1_5, p_1_6, p_1_7, p_1_8, p_1_9, p_2_0, p_4_0, p_4_1, p_4_2, p_4_3, p_4_4, p_4_5, p_5_0, p_5_1, p_5_2, p_5_3, p_5_4, p_5_5, p_12_0, p_12_1, p_12_2, p_12_3, p_12_4, p_18_0, p_18_1, p_18_2, p_18_3, p_23_0, p_23_1, p_23_2, p_23_3, p_23_4, p_31_0, p_31_1, p_31_2, p_31_3, p_36_0, p_36_1, p_36_2, p_36_3, p_36_4, p_42_0, p_42_1, p_42_2, p_42_3, p_42_4, p_42_5, p_42_6, p_42_7, p_42_8, p_52_0, p_52_1, p_52_2, p_52_3, p_52_4, p_52_5, p_52_6, p_58_0, p_58_1, p_58_2, p_62_0, p_62_1, p_62_2, p_62_3, p_67_1, p_67_2, p_67_3, p_67_4, p_67_13, p_67_15, p_67_16, p_67_17, p_67_18, p_67_19, p_67_21, p_67_22, p_67_23, p_67_24, p_67_25, p_67_26, p_67_28, p_67_29, p_67_30, p_67_31, p_67_33, p_67_34, p_67_35, p_67_36, p_67_37, p_67_38, p_67_39, p_67_40, p_67_41, p_67_42, p_67_43, p_67_44, p_67_48, p_67_49, p_67_50, p_67_51, p_67_52, p_67_53, p_67_54, p_67_55, p_x, p_y, p_z, p_sx, p_sy, p_sz, y_1, y_2, y_3, y_4, y_5, y_6, y_7, y_8, y_9, y_10, y_11, y_12, y_13, y_14, y_15, y_16, y_17, y_18, y_19, y_20, y_21, y_22, y_23, y_24, y_25, y_26, y_27, y_28, y_29, y_30, y_31, y_32, y_33, y_34, y_35, y_36, y_37, y_38, y_39, y_40, y_41, y_42, y_43, y_44, y_45, y_46, y_47, y_48, y_49, y_50, y_51, y_52, y_53, y_54, y_55, y_56, y_57, y_58, y_59, y_60, y_61, y_62, y_63, y_64, y_65, y_66, y_67, y_68, y_69, y_70, y_71, y_72, y_73, y_74, y_75, y_76, y_77, y_78, y_79, y_80, y_81, y_82, y_83, y_84, y_85, y_86, y_87, y_88, y_89, y_90, y_91, y_92, y_93, y_94, y_95, y_96, y_97, y_98, y_99, y_100, y_101, y_102, y_103, y_104, y_105, y_106, y_107, y_108, y_109, y_1000, y_1001, y_1002, y_1003, g_as, g_an, g_au]
      try (simp (disch := omega) only [mj_w_id])
      repeat' (first | intro _ | with_reducible apply And.intro)
      all_goals (first | omega | exact ih)
  have h0 := key 0 (Nat.zero_le _)
  rw [Int.natCast_zero, zcp_0, g_aid] at h0
  simp only [e_73, mj_go_eq, g_cut, g_k0, g_k1, g_w0, g_w1, g_w2, g_w3, g_w4, g_c1, g_c2, g_c3, g_us, g_const, g_sti_1, g_ldi_1, g_icge, g_ldr_0, g_getr, g_gets, g_iald, g_iast, g_inc_1, g_goto, g_putf, g_call2, o_236, g_vret, a_73_0, a_73_1, a_73_2, a_73_3, a_73_4, a_73_7, a_73_8, a_73_11, a_73_12, a_73_15, a_73_16, a_73_17, a_73_18, a_73_21, a_73_24, a_73_25, a_73_28, a_73_29, a_73_30, a_73_31, a_73_32, a_73_33, a_73_36, a_73_37, a_73_40, a_73_42, a_73_45, a_73_46, a_73_49, a_73_51, a_73_54, ne_eq, not_false_eq_true, true_and, and_true, and_self, Int.cast_ofNat_Int, reduceCtorEq, or_false, false_or, not_true_eq_false, or_true, true_or, Int.reduceToNat, Int.reduceAdd, Int.reduceEq, Int.reduceNe, Int.reduceLT, Int.reduceLE, Int.reduceNeg, Int.reduceSub, Int.reduceMul, Nat.reduceAdd, Nat.reduceLT, Nat.reduceLeDiff, Nat.reduceEqDiff, forall_const, false_implies, true_implies]
  exact h0
theorem c_forget_62 {L d c x y z : Nat} {μ : mj_M} (Q : mj_Q) : mj_call L (d + 1) 73 [.inr (.inr 62)] c (pz x y z) μ Q = Q [] c (pz x y z) (fgt μ 62) := by
  refine mj_call_eq ?_ Q
  unfold fgt
  simp only [Nat.reduceAdd]
  have key : ∀ j : Nat, j ≤ 5 → mj_run L (d + 1) 73 2 [.inr (.inr 62), .inl (j : Int)] [] c (pz x y z) (mj_ua μ 63 (zcp (μ 63) 0 j (μ 1003))) (fun r c' π' μ' => r = [] ∧ c' = c ∧ π' = pz x y z ∧ μ' = mj_ua (mj_ua (mj_up (mj_up (mj_ua μ 63 (zcp (μ 63) 0 5 (μ 1003))) 64 0 0) 62 4 1) 65 (zfl (μ 65) 0 12 (-4))) 66 (zfl (μ 66) 0 12 (-4))) := by
    refine mj_down ?_ ?_
    · have f1 := fun μ Q => c_Jx_fill (L := L) (d := d) (c := c) (k := 64) (n := 12) (π := pz x y z) (μ := μ) (v := -4) (y_65 L) (by decide) (by decide) Q
      have f2 := fun μ Q => c_Jx_fill (L := L) (d := d) (c := c) (k := 65) (n := 12) (π := pz x y z) (μ := μ) (v := -4) (y_66 L) (by decide) (by decide) Q
      simp only [Nat.reduceAdd] at f1 f2
      refine mj_start ?_
      simp only [f1, f2, mj_go_eq, g_cut, g_k0, g_k1, g_w0, g_w1, g_w2, g_w3, g_w4, g_c1, g_c2, g_c3, g_us, g_const, g_sti_1, g_ldi_1, g_icge, g_ldr_0, g_getr, g_gets, g_iald, g_iast, g_inc_1, g_goto, g_putf, g_call2, o_236, g_vret, a_73_0, a_73_1, a_73_2, a_73_3, a_73_4, a_73_7, a_73_8, a_73_11, a_73_12, a_73_15, a_73_16, a_73_17, a_73_18, a_73_21, a_73_24, a_73_25, a_73_28, a_73_29, a_73_30, a_73_31, a_73_32, a_73_33, a_73_36, a_73_37, a_73_40, a_73_42, a_73_45, a_73_46, a_73_49, a_73_51, a_73_54, ne_eq, not_false_eq_true, true_and, and_true, and_self, Int.cast_ofNat_Int, reduceCtorEq, or_false, false_or, not_true_eq_false, or_true, true_or, Int.reduceToNat, Int.reduceAdd, Int.reduceEq, Int.reduceNe, Int.reduceLT, Int.reduceLE, Int.reduceNeg, Int.reduceSub, Int.reduceMul, Nat.reduceAdd, Nat.reduceLT, Nat.reduceLeDiff, Nat.reduceEqDiff, forall_const, false_implies, true_implies, p_1_0, p_1_1, p_1_2, p_1_3, p_1_4, p_1_5, p_1_6, p_1_7, p_1_8, p_1_9, p_2_0, p_4_0, p_4_1, p_4_2, p_4_3, p_4_4, p_4_5, p_5_0, p_5_1, p_5_2, p_5_3, p_5_4, p_5_5, p_12_0, p_12_1, p_12_2, p_12_3, p_12_4, p_18_0, p_18_1, p_18_2, p_18_3, p_23_0, p_23_1, p_23_2, p_23_3, p_23_4, p_31_0, p_31_1, p_31_2, p_31_3, p_36_0, p_36_1, p_36_2, p_36_3, p_36_4, p_42_0, p_42_1, p_42_2, p_42_3, p_42_4, p_42_5, p_42_6, p_42_7, p_42_8, p_52_0, p_52_1, p_52_2, p_52_3, p_52_4, p_52_5, p_52_6, p_58_0, p_58_1, p_58_2, p_62_0, p_62_1, p_62_2, p_62_3, p_67_1, p_67_2, p_67_3, p_67_4, p_67_13, p_67_15, p_67_16, p_67_17, p_67_18, p_67_19, p_67_21, p_67_22, p_67_23, p_67_24, p_67_25, p_67_26, p_67_28, p_67_29, p_67_30, p_67_31, p_67_33, p_67_34, p_67_35, p_67_36, p_67_37, p_67_38, p_67_39, p_67_40, p_67_41, p_67_42, p_67_43, p_67_44, p_67_48, p_67_49, p_67_50, p_67_51, p_67_52, p_67_53, p_67_54, p_67_55, p_x, p_y, p_z, p_sx, p_sy, p_sz, y_1, y_2, y_3, y_4, y_5, y_6, y_7, y_8, y_9, y_10, y_11, y_12, y_13, y_14, y_15, y_16, y_17, y_18, y_19, y_20, y_21, y_22, y_23, y_24, y_25, y_26, y_27, y_28, y_29, y_30, y_31, y_32, y_33, y_34, y_35, y_36, y_37, y_38, y_39, y_40, y_41, y_42, y_43, y_44, y_45, y_46, y_47, y_48, y_49, y_50, y_51, y_52, y_53, y_54, y_55, y_56, y_57, y_58, y_59, y_60, y_61, y_62, y_63, y_64, y_65, y_66, y_67, y_68, y_69, y_70, y_71, y_72, y_73, y_74, y_75, y_76, y_77, y_78, y_79, y_80, y_81, y_82, y_83, y_84, y_85, y_86, y_87, y_88, y_89, y_90, y_91, y_92, y_93, y_94, y_95, y_96, y_97, y_98, y_99, y_100, y_101, y_102, y_103, y_104, y_105, y_106, y_107, y_108, y_109, y_1000, y_1001, y_1002, y_1003, g_us, g_un, g_ps, g_pn, if_true, if_false, g_as, g_an]
    · intro j hj ih
      have w0 := zcp_s (f := μ 63) (a := 0) (j := j) (g := μ 1003) (by omega)
      rw [Int.zero_add] at w0
      rw [Int.natCast_succ, ← w0] at ih
      refine mj_start ?_
      simp only [mj_go_eq, g_cut, g_k0, g_k1, g_w0, g_w1, g_w2, g_w3, g_w4, g_c1, g_c2, g_c3, g_us, g_const, g_sti_1, g_ldi_1, g_icge, g_ldr_0, g_getr, g_gets, g_iald, g_iast, g_inc_1, g_goto, g_putf, g_call2, o_236, g_vret, a_73_0, a_73_1, a_73_2, a_73_3, a_73_4, a_73_7, a_73_8, a_73_11, a_73_12, a_73_15, a_73_16, a_73_17, a_73_18, a_73_21, a_73_24, a_73_25, a_73_28, a_73_29, a_73_30, a_73_31, a_73_32, a_73_33, a_73_36, a_73_37, a_73_40, a_73_42, a_73_45, a_73_46, a_73_49, a_73_51, a_73_54, ne_eq, not_false_eq_true, true_and, and_true, and_self, Int.cast_ofNat_Int, reduceCtorEq, or_false, false_or, not_true_eq_false, or_true, true_or, Int.reduceToNat, Int.reduceAdd, Int.reduceEq, Int.reduceNe, Int.reduceLT, Int.reduceLE, Int.reduceNeg, Int.reduceSub, Int.reduceMul, Nat.reduceAdd, Nat.reduceLT, Nat.reduceLeDiff, Nat.reduceEqDiff, forall_const, false_implies, true_implies, p_1_0, p_1_1, p_1_2, p_1_3, p_1_4, p_1_5, p_1_6, p_1_7, p_1_8, p_1_9, p_2_0, p_4_0, p_4_1, p_4_2, p_4_3, p_4_4, p_4_5, p_5_0, p_5_1, p_5_2, p_5_3, p_5_4, p_5_5, p_12_0, p_12_1, p_12_2, p_12_3, p_12_4, p_18_0, p_18_1, p_18_2, p_18_3, p_23_0, p_23_1, p_23_2, p_23_3, p_23_4, p_31_0, p_31_1, p_31_2, p_31_3, p_36_0, p_36_1, p_36_2, p_36_3, p_36_4, p_42_0, p_42_1, p_42_2, p_42_3, p_42_4, p_42_5, p_42_6, p_42_7, p_42_8, p_52_0, p_52_1, p_52_2, p_52_3, p_52_4, p_52_5, p_52_6, p_58_0, p_58_1, p_58_2, p_62_0, p_62_1, p_62_2, p_62_3, p_67_1, p_67_2, p_67_3, p_67_4, p_67_13, p_67_15, p_67_16, p_67_17, p_67_18, p_67_19, p_67_21, p_67_22, p_67_23, p_67_24, p_67_25, p_67_26, p_67_28, p_67_29, p_67_30, p_67_31, p_67_33, p_67_34, p_67_35, p_67_36, p_67_37, p_67_38, p_67_39, p_67_40, p_67_41, p_67_42, p_67_43, p_67_44, p_67_48, p_67_49, p_67_50, p_67_51, p_67_52, p_67_53, p_67_54, p_67_55, p_x, p_y, p_z, p_sx, p_sy, p_sz, y_1, y_2, y_3, y_4, y_5, y_6, y_7, y_8, y_9, y_10, y_11, y_12, y_13, y_14, y_15, y_16, y_17, y_18, y_19, y_20, y_21, y_22, y_23, y_24, y_25, y_26, y_27, y_28, y_29, y_30, y_31, y_32, y_33, y_34, y_35, y_36, y_37, y_38, y_39, y_40, y_41, y_42, y_43, y_44, y_45, y_46, y_47, y_48, y_49, y_50, y_51, y_52, y_53, y_54, y_55, y_56, y_57, y_58, y_59, y_60, y_61, y_62, y_63, y_64, y_65, y_66, y_67, y_68, y_69, y_70, y_71, y_72, y_73, y_74, y_75, y_76, y_77, y_78, y_79, y_80, y_81, y_82, y_83, y_84, y_85, y_86, y_87, y_88, y_89, y_90, y_91, y_92, y_93, y_94, y_95, y_96, y_97, y_98, y_99, y_100, y_101, y_102, y_103, y_104, y_105, y_106, y_107, y_108, y_109, y_1000, y_1001, y_1002, y_1003, g_as, g_an, g_au]
      try (simp (disch := omega) only [mj_w_id])
      repeat' (first | intro _ | with_reducible apply And.intro)
      all_goals (first | omega | exact ih)
  have h0 := key 0 (Nat.zero_le _)
  rw [Int.natCast_zero, zcp_0, g_aid] at h0
  simp only [e_73, mj_go_eq, g_cut, g_k0, g_k1, g_w0, g_w1, g_w2, g_w3, g_w4, g_c1, g_c2, g_c3, g_us, g_const, g_sti_1, g_ldi_1, g_icge, g_ldr_0, g_getr, g_gets, g_iald, g_iast, g_inc_1, g_goto, g_putf, g_call2, o_236, g_vret, a_73_0, a_73_1, a_73_2, a_73_3, a_73_4, a_73_7, a_73_8, a_73_11, a_73_12, a_73_15, a_73_16, a_73_17, a_73_18, a_73_21, a_73_24, a_73_25, a_73_28, a_73_29, a_73_30, a_73_31, a_73_32, a_73_33, a_73_36, a_73_37, a_73_40, a_73_42, a_73_45, a_73_46, a_73_49, a_73_51, a_73_54, ne_eq, not_false_eq_true, true_and, and_true, and_self, Int.cast_ofNat_Int, reduceCtorEq, or_false, false_or, not_true_eq_false, or_true, true_or, Int.reduceToNat, Int.reduceAdd, Int.reduceEq, Int.reduceNe, Int.reduceLT, Int.reduceLE, Int.reduceNeg, Int.reduceSub, Int.reduceMul, Nat.reduceAdd, Nat.reduceLT, Nat.reduceLeDiff, Nat.reduceEqDiff, forall_const, false_implies, true_implies]
  exact h0
theorem c_Ru_forget {L d c x y z w : Nat} {μ : mj_M} (hw : w = 31 ∨ w = 62) (Q : mj_Q) : mj_call L (d + 1) 73 [.inr (.inr w)] c (pz x y z) μ Q = Q [] c (pz x y z) (fgt μ w) := by
  rcases hw with rfl | rfl
  · exact c_forget_31 Q
  · exact c_forget_62 Q
theorem fgt_o {ρ : mj_M} {w q : Nat} (h : ¬ (w ≤ q ∧ q ≤ w + 4)) : fgt ρ w q = ρ q := by
  unfold fgt
  rw [g_an (by omega), g_an (by omega), g_un (by omega), g_un (by omega), g_an (by omega)]
theorem PF_pt {f : Int → Int} (h : PF f) {i v : Int} (hi : i ≠ 1 ∧ i ≠ 2 ∧ i ≠ 5) : PF (mj_pt f i v) := by
  unfold PF at *
  rw [g_pn (by omega), g_pn (by omega), g_pn (by omega)]
  exact h
theorem PF_flt {f : Int → Int} (h : PF f) {v : Int} (hv : v ≠ 0) : PF (mj_pt f 2 v) := by
  unfold PF at *
  rw [g_pn (x := 1) (by omega), g_pn (x := 5) (by omega), g_ps]
  exact ⟨h.1, fun q => absurd q hv⟩
theorem kl_p {z : Nat} {t : Int → Int} (hz : z = 31 ∨ z = 62) : ∀ (k : Nat) (ρ : mj_M) (f : Int → Int), TB (ρ 3) t → PF f → PF (kl z k ρ f).2 ∧ (∀ q : Nat, ¬ (z ≤ q ∧ q ≤ z + 4) → (kl z k ρ f).1 q = ρ q)
  | 0, ρ, f, hb, h => ⟨h, fun _ _ => rfl⟩
  | k + 1, ρ, f, hb, h => by
    have p1 : PF (rsf (ρ 3) f 43 45) := PF_rsf hb h
    have p2 : PF (rkf ρ z (rsf (ρ 3) f 43 45)) := PF_rkf hb p1
    have p3 : PF (rsf (ρ 3) (rkf ρ z (rsf (ρ 3) f 43 45)) 44 59) := PF_rsf hb p2
    unfold kl
    split
    · have e3 : ∀ lf, rkr ρ z (rsf (ρ 3) f 43 45) lf 3 = ρ 3 := fun lf => rkr_o (by omega)
      have ih := kl_p hz k (rkr ρ z (rsf (ρ 3) f 43 45) (if v0 (rsf (ρ 3) f 43 45) 6 = 45 then 1 else 0)) (rsf (ρ 3) (rkf ρ z (rsf (ρ 3) f 43 45)) 44 59) (by rw [e3]; exact hb) p3
      exact ⟨ih.1, fun q hq => by rw [ih.2 q hq]; exact rkr_o (by omega)⟩
    · exact ⟨p3, fun q hq => rkr_o (by omega)⟩
theorem rln_p {z : Nat} {ρ : mj_M} {f t : Int → Int} (hz : z = 31 ∨ z = 62) (hb : TB (ρ 3) t) (h : PF f) : PF (rln z ρ f).2 ∧ (∀ q : Nat, ¬ (z ≤ q ∧ q ≤ z + 4) → (rln z ρ f).1 q = ρ q) := by
  unfold rln
  split
  · split
    · unfold rrt
      have p1 : PF (rnf (ρ 3) f 0 11) := PF_rnf hb h
      have p2 : PF (rnf (ρ 3) (rnf (ρ 3) f 0 11) 0 999) := PF_rnf hb p1
      have p3 : PF (rnf (ρ 3) (rnf (ρ 3) (rnf (ρ 3) f 0 11) 0 999) (rnf (ρ 3) (rnf (ρ 3) f 0 11) 0 999 8) 999) := PF_rnf hb p2
      split
      · split
        · split
          · split
            · exact ⟨PF_rsf hb p3, fun q hq => by dsimp only; rw [g_un (by omega), g_un (by omega)]⟩
            · exact ⟨p3, fun _ _ => rfl⟩
          · exact ⟨p2, fun _ _ => rfl⟩
        · exact ⟨PF_flt p1 (by decide), fun _ _ => rfl⟩
      · exact ⟨p1, fun _ _ => rfl⟩
    · have pG : PF (mj_pt f 4 (mj_or (f 4) (mj_shl 1 (f 8)))) := PF_pt h (by decide)
      split
      · split
        · have := kl_p hz 6 (mj_up ρ z 4 0) (mj_pt f 4 (mj_or (f 4) (mj_shl 1 (f 8)))) (t := t) (by rw [g_un (by omega)]; exact hb) pG
          exact ⟨this.1, fun q hq => by rw [this.2 q hq, g_un (by omega)]⟩
        · split
          · exact ⟨PF_rsf hb (PF_rnf hb pG), fun q hq => by dsimp only; rw [g_un (by omega)]⟩
          · exact ⟨PF_rnf hb pG, fun _ _ => rfl⟩
      · exact ⟨PF_flt h (by decide), fun _ _ => rfl⟩
  · exact ⟨PF_flt h (by decide), fun _ _ => rfl⟩
noncomputable def rd (z : Nat) : Nat → mj_M → (Int → Int) → Int → mj_M × (Int → Int) × Int
  | 0, ρ, f, n => (ρ, f, n)
  | k + 1, ρ, f, n => if f 2 = 0 ∧ f 6 ≠ 0 then (if (rln z ρ f).2 2 = 0 then rd z k (rln z ρ f).1 (nxf (ρ 3) (rln z ρ f).2) (n + 1) else ((rln z ρ f).1, (rln z ρ f).2, n)) else (ρ, f, n)
def TV (f : Int → Int) : Prop := f 2 = 0 → f 6 = 1 → 0 ≤ f 8
theorem TV_next {b t f : Int → Int} (hb : TB b t) (h : PF f) (h2 : f 2 = 0) : TV (nxf b f) := fun q1 q2 => by
  obtain ⟨s, m, hk⟩ := (nxf_tk hb h h2).1 q1
  unfold TKR at hk
  omega
theorem r_read {L d c x y z : Nat} {t : Int → Int} (hz : z = 31 ∨ z = 62) {R : mj_M × (Int → Int) × Int} : ∀ i : Nat, i ≤ 200 → ∀ (ρ : mj_M) (f : Int → Int) (n : Int), TB (ρ 3) t → PF f → TV f → (0 ≤ n ∧ n ≤ i) → rd z (200 - i) ρ f n = R → mj_run L (d + 9) 87 35 [.inr (.inr 2), .inr (.inr z), .inl n, .inl (i : Int)] [] c (pz x y z) (mj_ua ρ 2 f) (fun r c' π' μ' => r = [.inl (if R.2.1 2 = 0 then R.2.2 else mj_w (-10 - R.2.1 7))] ∧ c' = c ∧ π' = pz x y z ∧ μ' = mj_ua R.1 2 (mj_pt R.2.1 1 0)) := by
  have ex : ∀ (ρ : mj_M) (f : Int → Int) (n : Int) (i : Nat), (200 ≤ i ∨ ¬ (f 2 = 0 ∧ f 6 ≠ 0)) → (ρ, f, n) = R → mj_run L (d + 9) 87 35 [.inr (.inr 2), .inr (.inr z), .inl n, .inl (i : Int)] [] c (pz x y z) (mj_ua ρ 2 f) (fun r c' π' μ' => r = [.inl (if R.2.1 2 = 0 then R.2.2 else mj_w (-10 - R.2.1 7))] ∧ c' = c ∧ π' = pz x y z ∧ μ' = mj_ua R.1 2 (mj_pt R.2.1 1 0)) := by
    intro ρ f n i hi hr
    subst hr
    refine mj_start ?_
    by_cases h2 : f 2 = 0
    · simp only [h2, mj_go_eq, g_cut, g_k0, g_k1, g_w0, g_w1, g_w2, g_w3, g_w4, g_c1, g_c2, g_c3, g_us, g_ldr_0, g_ldr_1, g_putr, g_getr, g_call1, o_73, o_73', g_const, g_putf, g_sti_2, o_94, g_sti_3, g_ldi_3, g_icge, g_getf, g_ifne, g_ifeq, o_88, g_inc_2, g_inc_3, g_goto, g_ldi_2, g_isub, g_ret, a_87_0, a_87_1, a_87_2, a_87_5, a_87_6, a_87_9, a_87_12, a_87_13, a_87_14, a_87_17, a_87_18, a_87_19, a_87_22, a_87_23, a_87_24, a_87_27, a_87_28, a_87_29, a_87_30, a_87_33, a_87_34, a_87_35, a_87_36, a_87_39, a_87_42, a_87_43, a_87_46, a_87_49, a_87_50, a_87_53, a_87_56, a_87_57, a_87_60, a_87_61, a_87_64, a_87_67, a_87_70, a_87_71, a_87_74, a_87_77, a_87_80, a_87_81, a_87_82, a_87_85, a_87_86, a_87_89, a_87_92, a_87_93, a_87_96, a_87_98, a_87_99, a_87_102, a_87_103, ne_eq, not_false_eq_true, true_and, and_true, and_self, Int.cast_ofNat_Int, reduceCtorEq, or_false, false_or, not_true_eq_false, or_true, true_or, Int.reduceToNat, Int.reduceAdd, Int.reduceEq, Int.reduceNe, Int.reduceLT, Int.reduceLE, Int.reduceNeg, Int.reduceSub, Int.reduceMul, Nat.reduceAdd, Nat.reduceLT, Nat.reduceLeDiff, Nat.reduceEqDiff, forall_const, false_implies, true_implies, p_1_0, p_1_1, p_1_2, p_1_3, p_1_4, p_1_5, p_1_6, p_1_7, p_1_8, p_1_9, p_2_0, p_4_0, p_4_1, p_4_2, p_4_3, p_4_4, p_4_5, p_5_0, p_5_1, p_5_2, p_5_3, p_5_4, p_5_5, p_12_0, p_12_1, p_12_2, p_12_3, p_12_4, p_18_0, p_18_1, p_18_2, p_18_3, p_23_0, p_23_1, p_23_2, p_23_3, p_23_4, p_31_0, p_31_1, p_31_2, p_31_3, p_36_0, p_36_1, p_36_2, p_36_3, p_36_4, p_42_0, p_42_1, p_42_2, p_42_3, p_42_4, p_42_5, p_42_6, p_42_7, p_42_8, p_52_0, p_52_1, p_52_2, p_52_3, p_52_4, p_52_5, p_52_6, p_58_0, p_58_1, p_58_2, p_62_0, p_62_1, p_62_2, p_62_3, p_67_1, p_67_2, p_67_3, p_67_4, p_67_13, p_67_15, p_67_16, p_67_17, p_67_18, p_67_19, p_67_21, p_67_22, p_67_23, p_67_24, p_67_25, p_67_26, p_67_28, p_67_29, p_67_30, p_67_31, p_67_33, p_67_34, p_67_35, p_67_36, p_67_37, p_67_38, p_67_39, p_67_40, p_67_41, p_67_42, p_67_43, p_67_44, p_67_48, p_67_49, p_67_50, p_67_51, p_67_52, p_67_53, p_67_54, p_67_55, p_x, p_y, p_z, p_sx, p_sy, p_sz, y_1, y_2, y_3, y_4, y_5, y_6, y_7, y_8, y_9, y_10, y_11, y_12, y_13, y_14, y_15, y_16, y_17, y_18, y_19, y_20, y_21, y_22, y_23, y_24, y_25, y_26, y_27, y_28, y_29, y_30, y_31, y_32, y_33, y_34, y_35, y_36, y_37, y_38, y_39, y_40, y_41, y_42, y_43, y_44, y_45, y_46, y_47, y_48, y_49, y_50, y_51, y_52, y_53, y_54, y_55, y_56, y_57, y_58, y_59, y_60, y_61, y_62, y_63, y_64, y_65, y_66, y_67, y_68, y_69, y_70, y_71, y_72, y_73, y_74, y_75, y_76, y_77, y_78, y_79, y_80, y_81, y_82, y_83, y_84, y_85, y_86, y_87, y_88, y_89, y_90, y_91, y_92, y_93, y_94, y_95, y_96, y_97, y_98, y_99, y_100, y_101, y_102, y_103, y_104, y_105, y_106, y_107, y_108, y_109, y_1000, y_1001, y_1002, y_1003, g_us, g_un, g_ps, g_pn, if_true, if_false, g_as, g_an, g_au, if_true]
      repeat' (first | intro _ | with_reducible apply And.intro)
      all_goals (first | omega | trivial | rfl | skip)
    · simp only [h2, mj_go_eq, g_cut, g_k0, g_k1, g_w0, g_w1, g_w2, g_w3, g_w4, g_c1, g_c2, g_c3, g_us, g_ldr_0, g_ldr_1, g_putr, g_getr, g_call1, o_73, o_73', g_const, g_putf, g_sti_2, o_94, g_sti_3, g_ldi_3, g_icge, g_getf, g_ifne, g_ifeq, o_88, g_inc_2, g_inc_3, g_goto, g_ldi_2, g_isub, g_ret, a_87_0, a_87_1, a_87_2, a_87_5, a_87_6, a_87_9, a_87_12, a_87_13, a_87_14, a_87_17, a_87_18, a_87_19, a_87_22, a_87_23, a_87_24, a_87_27, a_87_28, a_87_29, a_87_30, a_87_33, a_87_34, a_87_35, a_87_36, a_87_39, a_87_42, a_87_43, a_87_46, a_87_49, a_87_50, a_87_53, a_87_56, a_87_57, a_87_60, a_87_61, a_87_64, a_87_67, a_87_70, a_87_71, a_87_74, a_87_77, a_87_80, a_87_81, a_87_82, a_87_85, a_87_86, a_87_89, a_87_92, a_87_93, a_87_96, a_87_98, a_87_99, a_87_102, a_87_103, ne_eq, not_false_eq_true, true_and, and_true, and_self, Int.cast_ofNat_Int, reduceCtorEq, or_false, false_or, not_true_eq_false, or_true, true_or, Int.reduceToNat, Int.reduceAdd, Int.reduceEq, Int.reduceNe, Int.reduceLT, Int.reduceLE, Int.reduceNeg, Int.reduceSub, Int.reduceMul, Nat.reduceAdd, Nat.reduceLT, Nat.reduceLeDiff, Nat.reduceEqDiff, forall_const, false_implies, true_implies, p_1_0, p_1_1, p_1_2, p_1_3, p_1_4, p_1_5, p_1_6, p_1_7, p_1_8, p_1_9, p_2_0, p_4_0, p_4_1, p_4_2, p_4_3, p_4_4, p_4_5, p_5_0, p_5_1, p_5_2, p_5_3, p_5_4, p_5_5, p_12_0, p_12_1, p_12_2, p_12_3, p_12_4, p_18_0, p_18_1, p_18_2, p_18_3, p_23_0, p_23_1, p_23_2, p_23_3, p_23_4, p_31_0, p_31_1, p_31_2, p_31_3, p_36_0, p_36_1, p_36_2, p_36_3, p_36_4, p_42_0, p_42_1, p_42_2, p_42_3, p_42_4, p_42_5, p_42_6, p_42_7, p_42_8, p_52_0, p_52_1, p_52_2, p_52_3, p_52_4, p_52_5, p_52_6, p_58_0, p_58_1, p_58_2, p_62_0, p_62_1, p_62_2, p_62_3, p_67_1, p_67_2, p_67_3, p_67_4, p_67_13, p_67_15, p_67_16, p_67_17, p_67_18, p_67_19, p_67_21, p_67_22, p_67_23, p_67_24, p_67_25, p_67_26, p_67_28, p_67_29, p_67_30, p_67_31, p_67_33, p_67_34, p_67_35, p_67_36, p_67_37, p_67_38, p_67_39, p_67_40, p_67_41, p_67_42, p_67_43, p_67_44, p_67_48, p_67_49, p_67_50, p_67_51, p_67_52, p_67_53, p_67_54, p_67_55, p_x, p_y, p_z, p_sx, p_sy, p_sz, y_1, y_2, y_3, y_4, y_5, y_6, y_7, y_8, y_9, y_10, y_11, y_12, y_13, y_14, y_15, y_16, y_17, y_18, y_19, y_20, y_21, y_22, y_23, y_24, y_25, y_26, y_27, y_28, y_29, y_30, y_31, y_32, y_33, y_34, y_35, y_36, y_37, y_38, y_39, y_40, y_41, y_42, y_43, y_44, y_45, y_46, y_47, y_48, y_49, y_50, y_51, y_52, y_53, y_54, y_55, y_56, y_57, y_58, y_59, y_60, y_61, y_62, y_63, y_64, y_65, y_66, y_67, y_68, y_69, y_70, y_71, y_72, y_73, y_74, y_75, y_76, y_77, y_78, y_79, y_80, y_81, y_82, y_83, y_84, y_85, y_86, y_87, y_88, y_89, y_90, y_91, y_92, y_93, y_94, y_95, y_96, y_97, y_98, y_99, y_100, y_101, y_102, y_103, y_104, y_105, y_106, y_107, y_108, y_109, y_1000, y_1001, y_1002, y_1003, g_us, g_un, g_ps, g_pn, if_true, if_false, g_as, g_an, g_au, if_false]
      repeat' (first | intro _ | with_reducible apply And.intro)
      all_goals (first | omega | trivial | rfl | skip)
  refine mj_down ?_ ?_
  · intro ρ f n hb hp hv hn hr
    rw [Nat.sub_self] at hr
    exact ex ρ f n 200 (Or.inl (Nat.le_refl _)) hr
  · intro i hi ih
    intro ρ f n hb hp hv hn hr
    rw [show 200 - i = (200 - (i + 1)) + 1 by omega] at hr
    unfold rd at hr
    by_cases hc : f 2 = 0 ∧ f 6 ≠ 0
    · rw [if_pos hc] at hr
      have kl1 := fun Q => c_Ta_readLine (L := L) (d := d) (c := c) (x := x) (y := y) hz hb hp (hv hc.1) Q
      have hq := rln_p hz hb hp
      have e3 : (rln z ρ f).1 3 = ρ 3 := hq.2 3 (by omega)
      have kn := fun Q => c_Ta_next (L := L) (d := d + 3) (c := c) (x := x) (y := y) (z := z) (μ := (rln z ρ f).1) (f := (rln z ρ f).2) hq.1.1 hq.1.2 Q
      rw [e3] at kn
      by_cases h2 : (rln z ρ f).2 2 = 0
      · rw [if_pos h2] at hr
        have ih2 := ih (rln z ρ f).1 (nxf (ρ 3) (rln z ρ f).2) (n + 1) (by rw [e3]; exact hb) (PF_next hb hq.1) (TV_next hb hq.1 h2) (by omega) hr
        clear ih ex hr
        rw [Int.natCast_succ] at ih2
        refine mj_start ?_
        simp only [hc.1, hc.2, kl1, kn, h2, mj_go_eq, g_cut, g_k0, g_k1, g_w0, g_w1, g_w2, g_w3, g_w4, g_c1, g_c2, g_c3, g_us, g_ldr_0, g_ldr_1, g_putr, g_getr, g_call1, o_73, o_73', g_const, g_putf, g_sti_2, o_94, g_sti_3, g_ldi_3, g_icge, g_getf, g_ifne, g_ifeq, o_88, g_inc_2, g_inc_3, g_goto, g_ldi_2, g_isub, g_ret, a_87_0, a_87_1, a_87_2, a_87_5, a_87_6, a_87_9, a_87_12, a_87_13, a_87_14, a_87_17, a_87_18, a_87_19, a_87_22, a_87_23, a_87_24, a_87_27, a_87_28, a_87_29, a_87_30, a_87_33, a_87_34, a_87_35, a_87_36, a_87_39, a_87_42, a_87_43, a_87_46, a_87_49, a_87_50, a_87_53, a_87_56, a_87_57, a_87_60, a_87_61, a_87_64, a_87_67, a_87_70, a_87_71, a_87_74, a_87_77, a_87_80, a_87_81, a_87_82, a_87_85, a_87_86, a_87_89, a_87_92, a_87_93, a_87_96, a_87_98, a_87_99, a_87_102, a_87_103, ne_eq, not_false_eq_true, true_and, and_true, and_self, Int.cast_ofNat_Int, reduceCtorEq, or_false, false_or, not_true_eq_false, or_true, true_or, Int.reduceToNat, Int.reduceAdd, Int.reduceEq, Int.reduceNe, Int.reduceLT, Int.reduceLE, Int.reduceNeg, Int.reduceSub, Int.reduceMul, Nat.reduceAdd, Nat.reduceLT, Nat.reduceLeDiff, Nat.reduceEqDiff, forall_const, false_implies, true_implies, p_1_0, p_1_1, p_1_2, p_1_3, p_1_4, p_1_5, p_1_6, p_1_7, p_1_8, p_1_9, p_2_0, p_4_0, p_4_1, p_4_2, p_4_3, p_4_4, p_4_5, p_5_0, p_5_1, p_5_2, p_5_3, p_5_4, p_5_5, p_12_0, p_12_1, p_12_2, p_12_3, p_12_4, p_18_0, p_18_1, p_18_2, p_18_3, p_23_0, p_23_1, p_23_2, p_23_3, p_23_4, p_31_0, p_31_1, p_31_2, p_31_3, p_36_0, p_36_1, p_36_2, p_36_3, p_36_4, p_42_0, p_42_1, p_42_2, p_42_3, p_42_4, p_42_5, p_42_6, p_42_7, p_42_8, p_52_0, p_52_1, p_52_2, p_52_3, p_52_4, p_52_5, p_52_6, p_58_0, p_58_1, p_58_2, p_62_0, p_62_1, p_62_2, p_62_3, p_67_1, p_67_2, p_67_3, p_67_4, p_67_13, p_67_15, p_67_16, p_67_17, p_67_18, p_67_19, p_67_21, p_67_22, p_67_23, p_67_24, p_67_25, p_67_26, p_67_28, p_67_29, p_67_30, p_67_31, p_67_33, p_67_34, p_67_35, p_67_36, p_67_37, p_67_38, p_67_39, p_67_40, p_67_41, p_67_42, p_67_43, p_67_44, p_67_48, p_67_49, p_67_50, p_67_51, p_67_52, p_67_53, p_67_54, p_67_55, p_x, p_y, p_z, p_sx, p_sy, p_sz, y_1, y_2, y_3, y_4, y_5, y_6, y_7, y_8, y_9, y_10, y_11, y_12, y_13, y_14, y_15, y_16, y_17, y_18, y_19, y_20, y_21, y_22, y_23, y_24, y_25, y_26, y_27, y_28, y_29, y_30, y_31, y_32, y_33, y_34, y_35, y_36, y_37, y_38, y_39, y_40, y_41, y_42, y_43, y_44, y_45, y_46, y_47, y_48, y_49, y_50, y_51, y_52, y_53, y_54, y_55, y_56, y_57, y_58, y_59, y_60, y_61, y_62, y_63, y_64, y_65, y_66, y_67, y_68, y_69, y_70, y_71, y_72, y_73, y_74, y_75, y_76, y_77, y_78, y_79, y_80, y_81, y_82, y_83, y_84, y_85, y_86, y_87, y_88, y_89, y_90, y_91, y_92, y_93, y_94, y_95, y_96, y_97, y_98, y_99, y_100, y_101, y_102, y_103, y_104, y_105, y_106, y_107, y_108, y_109, y_1000, y_1001, y_1002, y_1003, g_us, g_un, g_ps, g_pn, if_true, if_false, g_as, g_an, g_au]
        try (simp (disch := omega) only [mj_w_id])
        repeat' (first | intro _ | with_reducible apply And.intro)
        all_goals (first | omega | exact ih2 | (exfalso; exact hc.2 (by assumption)))
      · rw [if_neg h2] at hr
        have ex2 := ex (rln z ρ f).1 (rln z ρ f).2 n (i + 1) (Or.inr (fun q => h2 q.1)) hr
        clear ih ex hr
        rw [Int.natCast_succ] at ex2
        refine mj_start ?_
        simp only [hc.1, hc.2, kl1, h2, mj_go_eq, g_cut, g_k0, g_k1, g_w0, g_w1, g_w2, g_w3, g_w4, g_c1, g_c2, g_c3, g_us, g_ldr_0, g_ldr_1, g_putr, g_getr, g_call1, o_73, o_73', g_const, g_putf, g_sti_2, o_94, g_sti_3, g_ldi_3, g_icge, g_getf, g_ifne, g_ifeq, o_88, g_inc_2, g_inc_3, g_goto, g_ldi_2, g_isub, g_ret, a_87_0, a_87_1, a_87_2, a_87_5, a_87_6, a_87_9, a_87_12, a_87_13, a_87_14, a_87_17, a_87_18, a_87_19, a_87_22, a_87_23, a_87_24, a_87_27, a_87_28, a_87_29, a_87_30, a_87_33, a_87_34, a_87_35, a_87_36, a_87_39, a_87_42, a_87_43, a_87_46, a_87_49, a_87_50, a_87_53, a_87_56, a_87_57, a_87_60, a_87_61, a_87_64, a_87_67, a_87_70, a_87_71, a_87_74, a_87_77, a_87_80, a_87_81, a_87_82, a_87_85, a_87_86, a_87_89, a_87_92, a_87_93, a_87_96, a_87_98, a_87_99, a_87_102, a_87_103, ne_eq, not_false_eq_true, true_and, and_true, and_self, Int.cast_ofNat_Int, reduceCtorEq, or_false, false_or, not_true_eq_false, or_true, true_or, Int.reduceToNat, Int.reduceAdd, Int.reduceEq, Int.reduceNe, Int.reduceLT, Int.reduceLE, Int.reduceNeg, Int.reduceSub, Int.reduceMul, Nat.reduceAdd, Nat.reduceLT, Nat.reduceLeDiff, Nat.reduceEqDiff, forall_const, false_implies, true_implies, p_1_0, p_1_1, p_1_2, p_1_3, p_1_4, p_1_5, p_1_6, p_1_7, p_1_8, p_1_9, p_2_0, p_4_0, p_4_1, p_4_2, p_4_3, p_4_4, p_4_5, p_5_0, p_5_1, p_5_2, p_5_3, p_5_4, p_5_5, p_12_0, p_12_1, p_12_2, p_12_3, p_12_4, p_18_0, p_18_1, p_18_2, p_18_3, p_23_0, p_23_1, p_23_2, p_23_3, p_23_4, p_31_0, p_31_1, p_31_2, p_31_3, p_36_0, p_36_1, p_36_2, p_36_3, p_36_4, p_42_0, p_42_1, p_42_2, p_42_3, p_42_4, p_42_5, p_42_6, p_42_7, p_42_8, p_52_0, p_52_1, p_52_2, p_52_3, p_52_4, p_52_5, p_52_6, p_58_0, p_58_1, p_58_2, p_62_0, p_62_1, p_62_2, p_62_3, p_67_1, p_67_2, p_67_3, p_67_4, p_67_13, p_67_15, p_67_16, p_67_17, p_67_18, p_67_19, p_67_21, p_67_22, p_67_23, p_67_24, p_67_25, p_67_26, p_67_28, p_67_29, p_67_30, p_67_31, p_67_33, p_67_34, p_67_35, p_67_36, p_67_37, p_67_38, p_67_39, p_67_40, p_67_41, p_67_42, p_67_43, p_67_44, p_67_48, p_67_49, p_67_50, p_67_51, p_67_52, p_67_53, p_67_54, p_67_55, p_x, p_y, p_z, p_sx, p_sy, p_sz, y_1, y_2, y_3, y_4, y_5, y_6, y_7, y_8, y_9, y_10, y_11, y_12, y_13, y_14, y_15, y_16, y_17, y_18, y_19, y_20, y_21, y_22, y_23, y_24, y_25, y_26, y_27, y_28, y_29, y_30, y_31, y_32, y_33, y_34, y_35, y_36, y_37, y_38, y_39, y_40, y_41, y_42, y_43, y_44, y_45, y_46, y_47, y_48, y_49, y_50, y_51, y_52, y_53, y_54, y_55, y_56, y_57, y_58, y_59, y_60, y_61, y_62, y_63, y_64, y_65, y_66, y_67, y_68, y_69, y_70, y_71, y_72, y_73, y_74, y_75, y_76, y_77, y_78, y_79, y_80, y_81, y_82, y_83, y_84, y_85, y_86, y_87, y_88, y_89, y_90, y_91, y_92, y_93, y_94, y_95, y_96, y_97, y_98, y_99, y_100, y_101, y_102, y_103, y_104, y_105, y_106, y_107, y_108, y_109, y_1000, y_1001, y_1002, y_1003, g_us, g_un, g_ps, g_pn, if_true, if_false, g_as, g_an, g_au]
        try (simp (disch := omega) only [mj_w_id])
        repeat' (first | intro _ | with_reducible apply And.intro)
        all_goals (first | omega | exact ex2 | (exfalso; exact hc.2 (by assumption)))
    · rw [if_neg hc] at hr
      exact ex ρ f n i (Or.inr hc) hr
noncomputable def rf0 (μ : mj_M) : Int → Int := mj_pt (mj_pt (mj_pt (μ 2) 2 0) 5 0) 4 0
noncomputable def rdA (μ : mj_M) (y : Nat) : mj_M × (Int → Int) × Int := rd y 200 (fgt μ y) (nxf (μ 3) (rf0 μ)) 0
theorem c_Ta_read {L d c x y z : Nat} {μ : mj_M} {t : Int → Int} (hy : y = 31 ∨ y = 62) (hb : TB (μ 3) t) (h1 : 0 ≤ μ 2 1 ∧ μ 2 1 ≤ 200) (Q : mj_Q) : mj_call L (d + 9) 87 [.inr (.inr 2), .inr (.inr y)] c (pz x y z) μ Q = Q [.inl (if (rdA μ y).2.1 2 = 0 then (rdA μ y).2.2 else mj_w (-10 - (rdA μ y).2.1 7))] c (pz x y y) (mj_ua (rdA μ y).1 2 (mj_pt (rdA μ y).2.1 1 0)) := by
  have e3 : fgt μ y 3 = μ 3 := fgt_o (by omega)
  have e2 : fgt μ y 2 = μ 2 := fgt_o (by omega)
  have pf : PF (rf0 μ) := by
    unfold PF rf0
    simp only [g_us, g_un, g_ps, g_pn, if_true, if_false, ne_eq, not_false_eq_true, Nat.reduceEqDiff, Int.reduceEq, reduceCtorEq, mj_pt_pt, mj_pt_id, Int.add_sub_cancel]
    omega
  have f2 : rf0 μ 2 = 0 := by unfold rf0; simp only [g_us, g_un, g_ps, g_pn, if_true, if_false, ne_eq, not_false_eq_true, Nat.reduceEqDiff, Int.reduceEq, reduceCtorEq, mj_pt_pt, mj_pt_id, Int.add_sub_cancel]
  have kf := fun Q => c_Ru_forget (L := L) (d := d + 7) (c := c) (x := x) (y := y) (z := y) (μ := μ) hy Q
  have kn := fun Q => c_Ta_next (L := L) (d := d + 3) (c := c) (x := x) (y := y) (z := y) (μ := fgt μ y) (f := rf0 μ) pf.1 pf.2 Q
  rw [e3] at kn
  have hr := r_read (L := L) (d := d) (c := c) (x := x) (y := y) (z := y) (t := t) hy (R := rdA μ y) 0 (Nat.zero_le _) (fgt μ y) (nxf (μ 3) (rf0 μ)) 0 (by rw [e3]; exact hb) (PF_next hb pf) (TV_next hb pf f2) (by omega) rfl
  have eu : mj_up (mj_up (mj_up (fgt μ y) 2 2 0) 2 5 0) 2 4 0 = mj_ua (fgt μ y) 2 (rf0 μ) := by
    rw [show mj_up (fgt μ y) 2 2 0 = mj_ua (fgt μ y) 2 (mj_pt (fgt μ y 2) 2 0) from g_uua, g_au, g_au, e2]
    rfl
  generalize rdA μ y = R at *
  refine mj_call_eq ?_ Q
  rcases hy with rfl | rfl
  all_goals (
    simp only [e_87, mj_go_eq, g_cut, g_k0, g_k1, g_w0, g_w1, g_w2, g_w3, g_w4, g_c1, g_c2, g_c3, g_us, g_ldr_0, g_ldr_1, g_putr, g_getr, g_call1, o_73, o_73', g_const, g_putf, g_sti_2, o_94, g_sti_3, g_ldi_3, g_icge, g_getf, g_ifne, g_ifeq, o_88, g_inc_2, g_inc_3, g_goto, g_ldi_2, g_isub, g_ret, a_87_0, a_87_1, a_87_2, a_87_5, a_87_6, a_87_9, a_87_12, a_87_13, a_87_14, a_87_17, a_87_18, a_87_19, a_87_22, a_87_23, a_87_24, a_87_27, a_87_28, a_87_29, a_87_30, a_87_33, a_87_34, a_87_35, a_87_36, a_87_39, a_87_42, a_87_43, a_87_46, a_87_49, a_87_50, a_87_53, a_87_56, a_87_57, a_87_60, a_87_61, a_87_64, a_87_67, a_87_70, a_87_71, a_87_74, a_87_77, a_87_80, a_87_81, a_87_82, a_87_85, a_87_86, a_87_89, a_87_92, a_87_93, a_87_96, a_87_98, a_87_99, a_87_102, a_87_103, ne_eq, not_false_eq_true, true_and, and_true, and_self, Int.cast_ofNat_Int, reduceCtorEq, or_false, false_or, not_true_eq_false, or_true, true_or, Int.reduceToNat, Int.reduceAdd, Int.reduceEq, Int.reduceNe, Int.reduceLT, Int.reduceLE, Int.reduceNeg, Int.reduceSub, Int.reduceMul, Nat.reduceAdd, Nat.reduceLT, Nat.reduceLeDiff, Nat.reduceEqDiff, forall_const, false_implies, true_implies, p_1_0, p_1_1, p_1_2, p_1_3, p_1_4, p_1_5, p_1_6, p_1_7, p_1_8, p_1_9, p_2_0, p_4_0, p_4_1, p_4_2, p_4_3, p_4_4, p_4_5, p_5_0, p_5_1, p_5_2, p_5_3, p_5_4, p_5_5, p_12_0, p_12_1, p_12_2, p_12_3, p_12_4, p_18_0, p_18_1, p_18_2, p_18_3, p_23_0, p_23_1, p_23_2, p_23_3, p_23_4, p_31_0, p_31_1, p_31_2, p_31_3, p_36_0, p_36_1, p_36_2, p_36_3, p_36_4, p_42_0, p_42_1, p_42_2, p_42_3, p_42_4, p_42_5, p_42_6, p_42_7, p_42_8, p_52_0, p_52_1, p_52_2, p_52_3, p_52_4, p_52_5, p_52_6, p_58_0, p_58_1, p_58_2, p_62_0, p_62_1, p_62_2, p_62_3, p_67_1, p_67_2, p_67_3, p_67_4, p_67_13, p_67_15, p_67_16, p_67_17, p_67_18, p_67_19, p_67_21, p_67_22, p_67_23, p_67_24, p_67_25, p_67_26, p_67_28, p_67_29, p_67_30, p_67_31, p_67_33, p_67_34, p_67_35, p_67_36, p_67_37, p_67_38, p_67_39, p_67_40, p_67_41, p_67_42, p_67_43, p_67_44, p_67_48, p_67_49, p_67_50, p_67_51, p_67_52, p_67_53, p_67_54, p_67_55, p_x, p_y, p_z, p_sx, p_sy, p_sz, y_1, y_2, y_3, y_4, y_5, y_6, y_7, y_8, y_9, y_10, y_11, y_12, y_13, y_14, y_15, y_16, y_17, y_18, y_19, y_20, y_21, y_22, y_23, y_24, y_25, y_26, y_27, y_28, y_29, y_30, y_31, y_32, y_33, y_34, y_35, y_36, y_37, y_38, y_39, y_40, y_41, y_42, y_43, y_44, y_45, y_46, y_47, y_48, y_49, y_50, y_51, y_52, y_53, y_54, y_55, y_56, y_57, y_58, y_59, y_60, y_61, y_62, y_63, y_64, y_65, y_66, y_67, y_68, y_69, y_70, y_71, y_72, y_73, y_74, y_75, y_76, y_77, y_78, y_79, y_80, y_81, y_82, y_83, y_84, y_85, y_86, y_87, y_88, y_89, y_90, y_91, y_92, y_93, y_94, y_95, y_96, y_97, y_98, y_99, y_100, y_101, y_102, y_103, y_104, y_105, y_106, y_107, y_108, y_109, y_1000, y_1001, y_1002, y_1003, p_sz, kf, eu, kn]
    repeat' (first | intro _ | with_reducible apply And.intro)
    all_goals (first | omega | exact hr))
