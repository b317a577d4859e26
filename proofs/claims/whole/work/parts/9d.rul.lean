set_option maxRecDepth 20000
theorem g_aa {μ : mj_M} {k q : Nat} {f g : Int → Int} (h : k ≠ q) : mj_ua (mj_ua μ k f) q g = mj_ua (mj_ua μ q g) k f := by
  funext r
  unfold mj_ua
  by_cases e : r = q
  · subst e
    rw [if_pos rfl, if_neg (fun a => h a.symm)]
    exact (if_pos rfl).symm
  · rw [if_neg e]
    by_cases e2 : r = k
    · rw [if_pos e2, if_pos e2]
    · rw [if_neg e2, if_neg e2]
      exact (if_neg e).symm
noncomputable def frs (r : Int → Int) : Int → Int := mj_pt (mj_pt (mj_pt (mj_pt (mj_pt (zcp r 0 35 (fun k => if k < 11 then 0 else -4)) 0 2) 1 14) 2 2) 3 20) 5 1
theorem c_Mo_firstRules {L d c k : Nat} {π : mj_P} {μ : mj_M} (hk : mj_lay L (k + 1) = (1, 35)) (h1 : k + 1 < 1000) (Q : mj_Q) : mj_call L d 150 [.inr (.inr (k + 1))] c π μ Q = Q [] c π (mj_ua μ (k + 1) (frs (μ (k + 1)))) := by
  refine mj_call_eq ?_ Q
  unfold frs
  have key : ∀ j : Nat, j ≤ 35 → mj_run L d 150 2 [.inr (.inr (k + 1)), .inl (j : Int)] [] c π (mj_ua μ (k + 1) (zcp (μ (k + 1)) 0 j (fun k => if k < 11 then 0 else -4))) (fun r c' π' μ' => r = [] ∧ c' = c ∧ π' = π ∧ μ' = mj_ua μ (k + 1) (mj_pt (mj_pt (mj_pt (mj_pt (mj_pt (zcp (μ (k + 1)) 0 35 (fun k => if k < 11 then 0 else -4)) 0 2) 1 14) 2 2) 3 20) 5 1)) := by
    refine mj_down ?_ ?_
    · refine mj_start ?_
      simp only [mj_go_eq, g_cut, g_k0, g_k1, g_w0, g_w1, g_w2, g_w3, g_w4, g_c1, g_c2, g_c3, g_us, g_const, g_sti_1, g_ldi_1, g_icge, g_ldr_0, g_goto, g_iast, g_inc_1, g_vret, a_150_0, a_150_1, a_150_2, a_150_3, a_150_5, a_150_8, a_150_9, a_150_10, a_150_11, a_150_13, a_150_16, a_150_17, a_150_20, a_150_22, a_150_23, a_150_26, a_150_29, a_150_30, a_150_31, a_150_32, a_150_33, a_150_34, a_150_35, a_150_37, a_150_38, a_150_39, a_150_40, a_150_41, a_150_42, a_150_43, a_150_44, a_150_46, a_150_47, a_150_48, a_150_49, a_150_50, a_150_51, ne_eq, not_false_eq_true, true_and, and_true, and_self, Int.cast_ofNat_Int, reduceCtorEq, or_false, false_or, not_true_eq_false, or_true, true_or, Int.reduceToNat, Int.reduceAdd, Int.reduceEq, Int.reduceNe, Int.reduceLT, Int.reduceLE, Int.reduceNeg, Int.reduceSub, Int.reduceMul, Nat.reduceAdd, Nat.reduceLT, Nat.reduceLeDiff, Nat.reduceEqDiff, forall_const, false_implies, true_implies, hk, g_au]
      repeat' (first | intro _ | with_reducible apply And.intro)
      all_goals (first | omega | trivial | rfl)
    · intro j hj ih
      have w0 := zcp_s (f := μ (k + 1)) (a := 0) (j := j) (g := fun k => if k < 11 then 0 else -4) (by omega)
      rw [Int.zero_add] at w0
      rw [Int.natCast_succ, ← w0] at ih
      refine mj_start ?_
      by_cases h11 : (j : Int) < 11
      · rw [if_pos h11] at ih
        simp only [h11, mj_go_eq, g_cut, g_k0, g_k1, g_w0, g_w1, g_w2, g_w3, g_w4, g_c1, g_c2, g_c3, g_us, g_const, g_sti_1, g_ldi_1, g_icge, g_ldr_0, g_goto, g_iast, g_inc_1, g_vret, a_150_0, a_150_1, a_150_2, a_150_3, a_150_5, a_150_8, a_150_9, a_150_10, a_150_11, a_150_13, a_150_16, a_150_17, a_150_20, a_150_22, a_150_23, a_150_26, a_150_29, a_150_30, a_150_31, a_150_32, a_150_33, a_150_34, a_150_35, a_150_37, a_150_38, a_150_39, a_150_40, a_150_41, a_150_42, a_150_43, a_150_44, a_150_46, a_150_47, a_150_48, a_150_49, a_150_50, a_150_51, ne_eq, not_false_eq_true, true_and, and_true, and_self, Int.cast_ofNat_Int, reduceCtorEq, or_false, false_or, not_true_eq_false, or_true, true_or, Int.reduceToNat, Int.reduceAdd, Int.reduceEq, Int.reduceNe, Int.reduceLT, Int.reduceLE, Int.reduceNeg, Int.reduceSub, Int.reduceMul, Nat.reduceAdd, Nat.reduceLT, Nat.reduceLeDiff, Nat.reduceEqDiff, forall_const, false_implies, true_implies, hk, g_au]
        try (simp (disch := omega) only [mj_w_id])
        repeat' (first | intro _ | with_reducible apply And.intro)
        all_goals (first | omega | exact ih)
      · rw [if_neg h11] at ih
        have h11' : (11 : Int) ≤ j := by omega
        simp only [h11, h11', mj_go_eq, g_cut, g_k0, g_k1, g_w0, g_w1, g_w2, g_w3, g_w4, g_c1, g_c2, g_c3, g_us, g_const, g_sti_1, g_ldi_1, g_icge, g_ldr_0, g_goto, g_iast, g_inc_1, g_vret, a_150_0, a_150_1, a_150_2, a_150_3, a_150_5, a_150_8, a_150_9, a_150_10, a_150_11, a_150_13, a_150_16, a_150_17, a_150_20, a_150_22, a_150_23, a_150_26, a_150_29, a_150_30, a_150_31, a_150_32, a_150_33, a_150_34, a_150_35, a_150_37, a_150_38, a_150_39, a_150_40, a_150_41, a_150_42, a_150_43, a_150_44, a_150_46, a_150_47, a_150_48, a_150_49, a_150_50, a_150_51, ne_eq, not_false_eq_true, true_and, and_true, and_self, Int.cast_ofNat_Int, reduceCtorEq, or_false, false_or, not_true_eq_false, or_true, true_or, Int.reduceToNat, Int.reduceAdd, Int.reduceEq, Int.reduceNe, Int.reduceLT, Int.reduceLE, Int.reduceNeg, Int.reduceSub, Int.reduceMul, Nat.reduceAdd, Nat.reduceLT, Nat.reduceLeDiff, Nat.reduceEqDiff, forall_const, false_implies, true_implies, hk, g_au]
        try (simp (disch := omega) only [mj_w_id])
        repeat' (first | intro _ | with_reducible apply And.intro)
        all_goals (first | omega | exact ih)
  have h0 := key 0 (Nat.zero_le _)
  rw [Int.natCast_zero, zcp_0, g_aid] at h0
  simp only [e_150, mj_go_eq, g_cut, g_k0, g_k1, g_w0, g_w1, g_w2, g_w3, g_w4, g_c1, g_c2, g_c3, g_us, g_const, g_sti_1, g_ldi_1, g_icge, g_ldr_0, g_goto, g_iast, g_inc_1, g_vret, a_150_0, a_150_1, a_150_2, a_150_3, a_150_5, a_150_8, a_150_9, a_150_10, a_150_11, a_150_13, a_150_16, a_150_17, a_150_20, a_150_22, a_150_23, a_150_26, a_150_29, a_150_30, a_150_31, a_150_32, a_150_33, a_150_34, a_150_35, a_150_37, a_150_38, a_150_39, a_150_40, a_150_41, a_150_42, a_150_43, a_150_44, a_150_46, a_150_47, a_150_48, a_150_49, a_150_50, a_150_51, ne_eq, not_false_eq_true, true_and, and_true, and_self, Int.cast_ofNat_Int, reduceCtorEq, or_false, false_or, not_true_eq_false, or_true, true_or, Int.reduceToNat, Int.reduceAdd, Int.reduceEq, Int.reduceNe, Int.reduceLT, Int.reduceLE, Int.reduceNeg, Int.reduceSub, Int.reduceMul, Nat.reduceAdd, Nat.reduceLT, Nat.reduceLeDiff, Nat.reduceEqDiff, forall_const, false_implies, true_implies]
  exact h0
theorem l_told {L d c x y z : Nat} {μ : mj_M} {Q : mj_Q} {n : Int} (hX : mj_go L d 166 40 [.inr (.inr 67), .inl n, .inl 6] [] c (pz x y z) (mj_ua μ 70 (zfl (μ 70) 0 6 0)) Q) : mj_run L d 166 21 [.inr (.inr 67), .inl n, .inl 0] [] c (pz x y z) μ Q := by
  simp only [mj_go_eq] at hX
  have key : ∀ j : Nat, j ≤ 6 → mj_run L d 166 21 [.inr (.inr 67), .inl n, .inl (j : Int)] [] c (pz x y z) (mj_ua μ 70 (zfl (μ 70) 0 j 0)) Q := by
    refine mj_down ?_ ?_
    · refine mj_start ?_
      simp only [mj_go_eq, g_cut, g_k0, g_k1, g_w0, g_w1, g_w2, g_w3, g_w4, g_c1, g_c2, g_c3, g_us, g_const, g_sti_1, g_ldr_0, g_putf, g_getr, g_call1, o_150, g_sti_2, g_ldi_2, g_icge, g_bast, g_inc_2, g_goto, o_158, g_getf, g_ifne, g_ifeq, o_165, g_inc_1, g_ifle, g_isub, g_ret, g_iald, g_iast, g_ldi_1, a_166_21, a_166_22, a_166_24, a_166_27, a_166_28, a_166_31, a_166_32, a_166_33, a_166_34, a_166_37, ne_eq, not_false_eq_true, true_and, and_true, and_self, Int.cast_ofNat_Int, reduceCtorEq, or_false, false_or, not_true_eq_false, or_true, true_or, Int.reduceToNat, Int.reduceAdd, Int.reduceEq, Int.reduceNe, Int.reduceLT, Int.reduceLE, Int.reduceNeg, Int.reduceSub, Int.reduceMul, Nat.reduceAdd, Nat.reduceLT, Nat.reduceLeDiff, Nat.reduceEqDiff, forall_const, false_implies, true_implies, p_1_0, p_1_1, p_1_2, p_1_3, p_1_4, p_1_5, p_1_6, p_1_7, p_1_8, p_1_9, p_2_0, p_4_0, p_4_1, p_4_2, p_4_3, p_4_4, p_4_5, p_5_0, p_5_1, p_5_2, p_5_3, p_5_4, p_5_5, p_12_0, p_12_1, p_12_2, p_12_3, p_12_4, p_18_0, p_18_1, p_18_2, p_18_3, p_23_0, p_23_1, p_23_2, p_23_3, p_23_4, p_31_0, p_31_1, p_31_2, p_31_3, p_36_0, p_36_1, p_36_2, p_36_3, p_36_4, p_42_0, p_42_1, p_42_2, p_42_3, p_42_4, p_42_5, p_42_6, p_42_7, p_42_8, p_52_0, p_52_1, p_52_2, p_52_3, p_52_4, p_52_5, p_52_6, p_58_0, p_58_1, p_58_2, p_62_0, p_62_1, p_62_2, p_62_3, p_67_1, p_67_2, p_67_3, p_67_4, p_67_13, p_67_15, p_67_16, p_67_17, p_67_18, p_67_19, p_67_21, p_67_22, p_67_23, p_67_24, p_67_25, p_67_26, p_67_28, p_67_29, p_67_30, p_67_31, p_67_33, p_67_34, p_67_35, p_67_36, p_67_37, p_67_38, p_67_39, p_67_40, p_67_41, p_67_42, p_67_43, p_67_44, p_67_48, p_67_49, p_67_50, p_67_51, p_67_52, p_67_53, p_67_54, p_67_55, p_x, p_y, p_z, p_sx, p_sy, p_sz, y_1, y_2, y_3, y_4, y_5, y_6, y_7, y_8, y_9, y_10, y_11, y_12, y_13, y_14, y_15, y_16, y_17, y_18, y_19, y_20, y_21, y_22, y_23, y_24, y_25, y_26, y_27, y_28, y_29, y_30, y_31, y_32, y_33, y_34, y_35, y_36, y_37, y_38, y_39, y_40, y_41, y_42, y_43, y_44, y_45, y_46, y_47, y_48, y_49, y_50, y_51, y_52, y_53, y_54, y_55, y_56, y_57, y_58, y_59, y_60, y_61, y_62, y_63, y_64, y_65, y_66, y_67, y_68, y_69, y_70, y_71, y_72, y_73, y_74, y_75, y_76, y_77, y_78, y_79, y_80, y_81, y_82, y_83, y_84, y_85, y_86, y_87, y_88, y_89, y_90, y_91, y_92, y_93, y_94, y_95, y_96, y_97, y_98, y_99, y_100, y_101, y_102, y_103, y_104, y_105, y_106, y_107, y_108, y_109, y_1000, y_1001, y_1002, y_1003, g_as, g_an]
      repeat' (first | intro _ | with_reducible apply And.intro)
      all_goals (first | omega | exact hX)
    · intro j hj ih
      have w0 := zfl_s (f := μ 70) (a := 0) (j := j) (v := 0) (by omega)
      rw [Int.zero_add] at w0
      rw [Int.natCast_succ, ← w0] at ih
      clear hX
      refine mj_start ?_
      simp only [mj_go_eq, g_cut, g_k0, g_k1, g_w0, g_w1, g_w2, g_w3, g_w4, g_c1, g_c2, g_c3, g_us, g_const, g_sti_1, g_ldr_0, g_putf, g_getr, g_call1, o_150, g_sti_2, g_ldi_2, g_icge, g_bast, g_inc_2, g_goto, o_158, g_getf, g_ifne, g_ifeq, o_165, g_inc_1, g_ifle, g_isub, g_ret, g_iald, g_iast, g_ldi_1, a_166_21, a_166_22, a_166_24, a_166_27, a_166_28, a_166_31, a_166_32, a_166_33, a_166_34, a_166_37, ne_eq, not_false_eq_true, true_and, and_true, and_self, Int.cast_ofNat_Int, reduceCtorEq, or_false, false_or, not_true_eq_false, or_true, true_or, Int.reduceToNat, Int.reduceAdd, Int.reduceEq, Int.reduceNe, Int.reduceLT, Int.reduceLE, Int.reduceNeg, Int.reduceSub, Int.reduceMul, Nat.reduceAdd, Nat.reduceLT, Nat.reduceLeDiff, Nat.reduceEqDiff, forall_const, false_implies, true_implies, p_1_0, p_1_1, p_1_2, p_1_3, p_1_4, p_1_5, p_1_6, p_1_7, p_1_8, p_1_9, p_2_0, p_4_0, p_4_1, p_4_2, p_4_3, p_4_4, p_4_5, p_5_0, p_5_1, p_5_2, p_5_3, p_5_4, p_5_5, p_12_0, p_12_1, p_12_2, p_12_3, p_12_4, p_18_0, p_18_1, p_18_2, p_18_3, p_23_0, p_23_1, p_23_2, p_23_3, p_23_4, p_31_0, p_31_1, p_31_2, p_31_3, p_36_0, p_36_1, p_36_2, p_36_3, p_36_4, p_42_0, p_42_1, p_42_2, p_42_3, p_42_4, p_42_5, p_42_6, p_42_7, p_42_8, p_52_0, p_52_1, p_52_2, p_52_3, p_52_4, p_52_5, p_52_6, p_58_0, p_58_1, p_58_2, p_62_0, p_62_1, p_62_2, p_62_3, p_67_1, p_67_2, p_67_3, p_67_4, p_67_13, p_67_15, p_67_16, p_67_17, p_67_18, p_67_19, p_67_21, p_67_22, p_67_23, p_67_24, p_67_25, p_67_26, p_67_28, p_67_29, p_67_30, p_67_31, p_67_33, p_67_34, p_67_35, p_67_36, p_67_37, p_67_38, p_67_39, p_67_40, p_67_41, p_67_42, p_67_43, p_67_44, p_67_48, p_67_49, p_67_50, p_67_51, p_67_52, p_67_53, p_67_54, p_67_55, p_x, p_y, p_z, p_sx, p_sy, p_sz, y_1, y_2, y_3, y_4, y_5, y_6, y_7, y_8, y_9, y_10, y_11, y_12, y_13, y_14, y_15, y_16, y_17, y_18, y_19, y_20, y_21, y_22, y_23, y_24, y_25, y_26, y_27, y_28, y_29, y_30, y_31, y_32, y_33, y_34, y_35, y_36, y_37, y_38, y_39, y_40, y_41, y_42, y_43, y_44, y_45, y_46, y_47, y_48, y_49, y_50, y_51, y_52, y_53, y_54, y_55, y_56, y_57, y_58, y_59, y_60, y_61, y_62, y_63, y_64, y_65, y_66, y_67, y_68, y_69, y_70, y_71, y_72, y_73, y_74, y_75, y_76, y_77, y_78, y_79, y_80, y_81, y_82, y_83, y_84, y_85, y_86, y_87, y_88, y_89, y_90, y_91, y_92, y_93, y_94, y_95, y_96, y_97, y_98, y_99, y_100, y_101, y_102, y_103, y_104, y_105, y_106, y_107, y_108, y_109, y_1000, y_1001, y_1002, y_1003, g_as, g_an, g_au, if_false]
      try (simp (disch := omega) only [mj_w_id])
      repeat' (first | intro _ | with_reducible apply And.intro)
      all_goals (first | omega | exact ih)
  have h0 := key 0 (Nat.zero_le _)
  rw [Int.natCast_zero, zfl_0, g_aid] at h0
  exact h0
theorem l_copyR {L d c x y z : Nat} {μ : mj_M} {Q : mj_Q} {n : Int} (hX : Q [.inl n] c (pz x y z) (mj_ua μ 68 (zcp (μ 68) 0 35 (μ 69)))) : mj_run L d 166 90 [.inr (.inr 67), .inl n, .inl 0] [] c (pz x y z) μ Q := by
  have key : ∀ j : Nat, j ≤ 35 → mj_run L d 166 90 [.inr (.inr 67), .inl n, .inl (j : Int)] [] c (pz x y z) (mj_ua μ 68 (zcp (μ 68) 0 j (μ 69))) Q := by
    refine mj_down ?_ ?_
    · refine mj_start ?_
      simp only [mj_go_eq, g_cut, g_k0, g_k1, g_w0, g_w1, g_w2, g_w3, g_w4, g_c1, g_c2, g_c3, g_us, g_const, g_sti_1, g_ldr_0, g_putf, g_getr, g_call1, o_150, g_sti_2, g_ldi_2, g_icge, g_bast, g_inc_2, g_goto, o_158, g_getf, g_ifne, g_ifeq, o_165, g_inc_1, g_ifle, g_isub, g_ret, g_iald, g_iast, g_ldi_1, a_166_0, a_166_1, a_166_2, a_166_3, a_166_4, a_166_7, a_166_8, a_166_9, a_166_12, a_166_13, a_166_16, a_166_19, a_166_20, a_166_21, a_166_22, a_166_24, a_166_27, a_166_28, a_166_31, a_166_32, a_166_33, a_166_34, a_166_37, a_166_40, a_166_41, a_166_44, a_166_45, a_166_48, a_166_51, a_166_52, a_166_55, a_166_58, a_166_59, a_166_62, a_166_65, a_166_68, a_166_69, a_166_70, a_166_73, a_166_74, a_166_77, a_166_80, a_166_82, a_166_83, a_166_86, a_166_87, a_166_88, a_166_89, a_166_90, a_166_91, a_166_93, a_166_96, a_166_97, a_166_100, a_166_101, a_166_102, a_166_105, a_166_106, a_166_107, a_166_108, a_166_111, a_166_114, a_166_115, ne_eq, not_false_eq_true, true_and, and_true, and_self, Int.cast_ofNat_Int, reduceCtorEq, or_false, false_or, not_true_eq_false, or_true, true_or, Int.reduceToNat, Int.reduceAdd, Int.reduceEq, Int.reduceNe, Int.reduceLT, Int.reduceLE, Int.reduceNeg, Int.reduceSub, Int.reduceMul, Nat.reduceAdd, Nat.reduceLT, Nat.reduceLeDiff, Nat.reduceEqDiff, forall_const, false_implies, true_implies, p_1_0, p_1_1, p_1_2, p_1_3, p_1_4, p_1_5, p_1_6, p_1_7, p_1_8, p_1_9, p_2_0, p_4_0, p_4_1, p_4_2, p_4_3, p_4_4, p_4_5, p_5_0, p_5_1, p_5_2, p_5_3, p_5_4, p_5_5, p_12_0, p_12_1, p_12_2, p_12_3, p_12_4, p_18_0, p_18_1, p_18_2, p_18_3, p_23_0, p_23_1, p_23_2, p_23_3, p_23_4, p_31_0, p_31_1, p_31_2, p_31_3, p_36_0, p_36_1, p_36_2, p_36_3, p_36_4, p_42_0, p_42_1, p_42_2, p_42_3, p_42_4, p_42_5, p_42_6, p_42_7, p_42_8, p_52_0, p_52_1, p_52_2, p_52_3, p_52_4, p_52_5, p_52_6, p_58_0, p_58_1, p_58_2, p_62_0, p_62_1, p_62_2, p_62_3, p_67_1, p_67_2, p_67_3, p_67_4, p_67_13, p_67_15, p_67_16, p_67_17, p_67_18, p_67_19, p_67_21, p_67_22, p_67_23, p_67_24, p_67_25, p_67_26, p_67_28, p_67_29, p_67_30, p_67_31, p_67_33, p_67_34, p_67_35, p_67_36, p_67_37, p_67_38, p_67_39, p_67_40, p_67_41, p_67_42, p_67_43, p_67_44, p_67_48, p_67_49, p_67_50, p_67_51, p_67_52, p_67_53, p_67_54, p_67_55, p_x, p_y, p_z, p_sx, p_sy, p_sz, y_1, y_2, y_3, y_4, y_5, y_6, y_7, y_8, y_9, y_10, y_11, y_12, y_13, y_14, y_15, y_16, y_17, y_18, y_19, y_20, y_21, y_22, y_23, y_24, y_25, y_26, y_27, y_28, y_29, y_30, y_31, y_32, y_33, y_34, y_35, y_36, y_37, y_38, y_39, y_40, y_41, y_42, y_43, y_44, y_45, y_46, y_47, y_48, y_49, y_50, y_51, y_52, y_53, y_54, y_55, y_56, y_57, y_58, y_59, y_60, y_61, y_62, y_63, y_64, y_65, y_66, y_67, y_68, y_69, y_70, y_71, y_72, y_73, y_74, y_75, y_76, y_77, y_78, y_79, y_80, y_81, y_82, y_83, y_84, y_85, y_86, y_87, y_88, y_89, y_90, y_91, y_92, y_93, y_94, y_95, y_96, y_97, y_98, y_99, y_100, y_101, y_102, y_103, y_104, y_105, y_106, y_107, y_108, y_109, y_1000, y_1001, y_1002, y_1003, g_as, g_an]
      repeat' (first | intro _ | with_reducible apply And.intro)
      all_goals (first | omega | exact hX)
    · intro j hj ih
      have w0 := zcp_s (f := μ 68) (a := 0) (j := j) (g := μ 69) (by omega)
      rw [Int.zero_add] at w0
      rw [Int.natCast_succ, ← w0] at ih
      clear hX
      refine mj_start ?_
      simp only [mj_go_eq, g_cut, g_k0, g_k1, g_w0, g_w1, g_w2, g_w3, g_w4, g_c1, g_c2, g_c3, g_us, g_const, g_sti_1, g_ldr_0, g_putf, g_getr, g_call1, o_150, g_sti_2, g_ldi_2, g_icge, g_bast, g_inc_2, g_goto, o_158, g_getf, g_ifne, g_ifeq, o_165, g_inc_1, g_ifle, g_isub, g_ret, g_iald, g_iast, g_ldi_1, a_166_0, a_166_1, a_166_2, a_166_3, a_166_4, a_166_7, a_166_8, a_166_9, a_166_12, a_166_13, a_166_16, a_166_19, a_166_20, a_166_21, a_166_22, a_166_24, a_166_27, a_166_28, a_166_31, a_166_32, a_166_33, a_166_34, a_166_37, a_166_40, a_166_41, a_166_44, a_166_45, a_166_48, a_166_51, a_166_52, a_166_55, a_166_58, a_166_59, a_166_62, a_166_65, a_166_68, a_166_69, a_166_70, a_166_73, a_166_74, a_166_77, a_166_80, a_166_82, a_166_83, a_166_86, a_166_87, a_166_88, a_166_89, a_166_90, a_166_91, a_166_93, a_166_96, a_166_97, a_166_100, a_166_101, a_166_102, a_166_105, a_166_106, a_166_107, a_166_108, a_166_111, a_166_114, a_166_115, ne_eq, not_false_eq_true, true_and, and_true, and_self, Int.cast_ofNat_Int, reduceCtorEq, or_false, false_or, not_true_eq_false, or_true, true_or, Int.reduceToNat, Int.reduceAdd, Int.reduceEq, Int.reduceNe, Int.reduceLT, Int.reduceLE, Int.reduceNeg, Int.reduceSub, Int.reduceMul, Nat.reduceAdd, Nat.reduceLT, Nat.reduceLeDiff, Nat.reduceEqDiff, forall_const, false_implies, true_implies, p_1_0, p_1_1, p_1_2, p_1_3, p_1_4, p_1_5, p_1_6, p_1_7, p_1_8, p_1_9, p_2_0, p_4_0, p_4_1, p_4_2, p_4_3, p_4_4, p_4_5, p_5_0, p_5_1, p_5_2, p_5_3, p_5_4, p_5_5, p_12_0, p_12_1, p_12_2, p_12_3, p_12_4, p_18_0, p_18_1, p_18_2, p_18_3, p_23_0, p_23_1, p_23_2, p_23_3, p_23_4, p_31_0, p_31_1, p_31_2, p_31_3, p_36_0, p_36_1, p_36_2, p_36_3, p_36_4, p_42_0, p_42_1, p_42_2, p_42_3, p_42_4, p_42_5, p_42_6, p_42_7, p_42_8, p_52_0, p_52_1, p_52_2, p_52_3, p_52_4, p_52_5, p_52_6, p_58_0, p_58_1, p_58_2, p_62_0, p_62_1, p_62_2, p_62_3, p_67_1, p_67_2, p_67_3, p_67_4, p_67_13, p_67_15, p_67_16, p_67_17, p_67_18, p_67_19, p_67_21, p_67_22, p_67_23, p_67_24, p_67_25, p_67_26, p_67_28, p_67_29, p_67_30, p_67_31, p_67_33, p_67_34, p_67_35, p_67_36, p_67_37, p_67_38, p_67_39, p_67_40, p_67_41, p_67_42, p_67_43, p_67_44, p_67_48, p_67_49, p_67_50, p_67_51, p_67_52, p_67_53, p_67_54, p_67_55, p_x, p_y, p_z, p_sx, p_sy, p_sz, y_1, y_2, y_3, y_4, y_5, y_6, y_7, y_8, y_9, y_10, y_11, y_12, y_13, y_14, y_15, y_16, y_17, y_18, y_19, y_20, y_21, y_22, y_23, y_24, y_25, y_26, y_27, y_28, y_29, y_30, y_31, y_32, y_33, y_34, y_35, y_36, y_37, y_38, y_39, y_40, y_41, y_42, y_43, y_44, y_45, y_46, y_47, y_48, y_49, y_50, y_51, y_52, y_53, y_54, y_55, y_56, y_57, y_58, y_59, y_60, y_61, y_62, y_63, y_64, y_65, y_66, y_67, y_68, y_69, y_70, y_71, y_72, y_73, y_74, y_75, y_76, y_77, y_78, y_79, y_80, y_81, y_82, y_83, y_84, y_85, y_86, y_87, y_88, y_89, y_90, y_91, y_92, y_93, y_94, y_95, y_96, y_97, y_98, y_99, y_100, y_101, y_102, y_103, y_104, y_105, y_106, y_107, y_108, y_109, y_1000, y_1001, y_1002, y_1003, g_as, g_an, g_au]
      try (simp (disch := omega) only [mj_w_id])
      repeat' (first | intro _ | with_reducible apply And.intro)
      all_goals (first | omega | exact ih)
  have h0 := key 0 (Nat.zero_le _)
  rw [Int.natCast_zero, zcp_0, g_aid] at h0
  exact h0
theorem J_fr {x y x' y' : Nat} {μ N : mj_M} (h : J x y μ) (hxy : (x' = 31 ∧ y' = 62) ∨ (x' = 62 ∧ y' = 31))
    (hm : ∀ q : Nat, q ≠ 2 → ¬ (31 ≤ q ∧ q ≤ 35) → ¬ (62 ≤ q ∧ q ≤ 70) → N q = μ q)
    (h21 : N 2 1 = 0) (h5 : N 67 5 = 0) (h10 : N 67 10 = N 2 2) (h67 : N 67 12 = μ 67 12 ∧ N 67 14 = μ 67 14 ∧ N 67 20 = μ 67 20 ∧ N 67 27 = μ 67 27 ∧ N 67 32 = μ 67 32 ∧ N 67 47 = μ 67 47 ∧ N 67 0 = μ 67 0)
    (hru : JRu (N 68) (N (x' + 1)) (N (x' + 2)) (N (x' + 3)) (N (x' + 4)) (N x' 4)) : J x' y' N := by
  have e3 := hm 3 (by omega) (by omega) (by omega)
  have e4 := hm 4 (by omega) (by omega) (by omega)
  have e5 := hm 5 (by omega) (by omega) (by omega)
  have e6 := hm 6 (by omega) (by omega) (by omega)
  have e7 := hm 7 (by omega) (by omega) (by omega)
  have e8 := hm 8 (by omega) (by omega) (by omega)
  have e9 := hm 9 (by omega) (by omega) (by omega)
  have e10 := hm 10 (by omega) (by omega) (by omega)
  have e11 := hm 11 (by omega) (by omega) (by omega)
  have e12 := hm 12 (by omega) (by omega) (by omega)
  have e13 := hm 13 (by omega) (by omega) (by omega)
  have e14 := hm 14 (by omega) (by omega) (by omega)
  have e15 := hm 15 (by omega) (by omega) (by omega)
  have e16 := hm 16 (by omega) (by omega) (by omega)
  have e17 := hm 17 (by omega) (by omega) (by omega)
  have e18 := hm 18 (by omega) (by omega) (by omega)
  have e19 := hm 19 (by omega) (by omega) (by omega)
  have e20 := hm 20 (by omega) (by omega) (by omega)
  have e21 := hm 21 (by omega) (by omega) (by omega)
  have e22 := hm 22 (by omega) (by omega) (by omega)
  have e23 := hm 23 (by omega) (by omega) (by omega)
  have e24 := hm 24 (by omega) (by omega) (by omega)
  have e25 := hm 25 (by omega) (by omega) (by omega)
  have e26 := hm 26 (by omega) (by omega) (by omega)
  have e27 := hm 27 (by omega) (by omega) (by omega)
  have e28 := hm 28 (by omega) (by omega) (by omega)
  have e30 := hm 30 (by omega) (by omega) (by omega)
  have e36 := hm 36 (by omega) (by omega) (by omega)
  have e37 := hm 37 (by omega) (by omega) (by omega)
  have e38 := hm 38 (by omega) (by omega) (by omega)
  have e39 := hm 39 (by omega) (by omega) (by omega)
  have e40 := hm 40 (by omega) (by omega) (by omega)
  have e41 := hm 41 (by omega) (by omega) (by omega)
  have e52 := hm 52 (by omega) (by omega) (by omega)
  have e53 := hm 53 (by omega) (by omega) (by omega)
  have e54 := hm 54 (by omega) (by omega) (by omega)
  have e109 := hm 109 (by omega) (by omega) (by omega)
  have e55 := hm 55 (by omega) (by omega) (by omega)
  have e56 := hm 56 (by omega) (by omega) (by omega)
  have e59 := hm 59 (by omega) (by omega) (by omega)
  have e60 := hm 60 (by omega) (by omega) (by omega)
  have e61 := hm 61 (by omega) (by omega) (by omega)
  have e1000 := hm 1000 (by omega) (by omega) (by omega)
  have e1001 := hm 1001 (by omega) (by omega) (by omega)
  have e1002 := hm 1002 (by omega) (by omega) (by omega)
  have e1003 := hm 1003 (by omega) (by omega) (by omega)
  have e71 := hm 71 (by omega) (by omega) (by omega)
  have e72 := hm 72 (by omega) (by omega) (by omega)
  have e73 := hm 73 (by omega) (by omega) (by omega)
  have e74 := hm 74 (by omega) (by omega) (by omega)
  have e75 := hm 75 (by omega) (by omega) (by omega)
  have e76 := hm 76 (by omega) (by omega) (by omega)
  have e77 := hm 77 (by omega) (by omega) (by omega)
  have e78 := hm 78 (by omega) (by omega) (by omega)
  have e79 := hm 79 (by omega) (by omega) (by omega)
  have e80 := hm 80 (by omega) (by omega) (by omega)
  have e81 := hm 81 (by omega) (by omega) (by omega)
  have e82 := hm 82 (by omega) (by omega) (by omega)
  have e83 := hm 83 (by omega) (by omega) (by omega)
  have e84 := hm 84 (by omega) (by omega) (by omega)
  have e85 := hm 85 (by omega) (by omega) (by omega)
  have e86 := hm 86 (by omega) (by omega) (by omega)
  have e87 := hm 87 (by omega) (by omega) (by omega)
  have e88 := hm 88 (by omega) (by omega) (by omega)
  have e89 := hm 89 (by omega) (by omega) (by omega)
  have e90 := hm 90 (by omega) (by omega) (by omega)
  have e91 := hm 91 (by omega) (by omega) (by omega)
  have e92 := hm 92 (by omega) (by omega) (by omega)
  have e100 := hm 100 (by omega) (by omega) (by omega)
  have e101 := hm 101 (by omega) (by omega) (by omega)
  have e102 := hm 102 (by omega) (by omega) (by omega)
  have e103 := hm 103 (by omega) (by omega) (by omega)
  have e104 := hm 104 (by omega) (by omega) (by omega)
  have e105 := hm 105 (by omega) (by omega) (by omega)
  have e106 := hm 106 (by omega) (by omega) (by omega)
  have e107 := hm 107 (by omega) (by omega) (by omega)
  clear hm
  obtain ⟨⟨a1, a2, a3, a4, a5, a6, a7, a8, a9, a10, a11⟩, b1, b2, b3, b4, b5, b6, b7, b8, b9, b10⟩ := h
  unfold J JA
  simp only [e3, e4, e5, e6, e7, e8, e9, e10, e11, e12, e13, e14, e15, e16, e17, e18, e19, e20, e21, e22, e23, e24, e25, e26, e27, e28, e30, e36, e37, e38, e39, e40, e41, e52, e53, e54, e109, e55, e56, e59, e60, e61, e1000, e1001, e1002, e1003, e71, e72, e73, e74, e75, e76, e77, e78, e79, e80, e81, e82, e83, e84, e85, e86, e87, e88, e89, e90, e91, e92, e100, e101, e102, e103, e104, e105, e106, e107] at *
  refine ⟨⟨hxy, ?_, a3, a4, a5, a6, a7, a8, a9, a10, a11⟩, ?_, b2, b3, b4, b5, b6, b7, b8, hru, b10⟩
  · unfold JN at *
    omega
  · omega
