/-- who may have what -/
noncomputable def vmay (tl tt rf rt td : Int) (bd : Bool) (la ag : Int) : Bool := decide (mj_and (mj_shr tl tt) 1 ≠ 0) && (decide (rf = -4) || (decide (rf ≤ td) && decide (td ≤ rt))) && !bd && (decide (la = -4) || (decide (0 < ag) && decide (ag ≤ td - la)))
theorem mj_and_one (v : Int) : mj_and v 1 = 0 ∨ mj_and v 1 = 1 := by
  unfold mj_and
  have h : (Int32.ofInt v &&& Int32.ofInt 1) = 0 ∨ (Int32.ofInt v &&& Int32.ofInt 1) = 1 := by
    have e : ∀ w : BitVec 32, w &&& 1#32 = 0#32 ∨ w &&& 1#32 = 1#32 := by
      intro w
      by_cases b : w.getLsbD 0 = true
      · right
        apply BitVec.eq_of_getLsbD_eq
        intro i hi
        rw [BitVec.getLsbD_and]
        by_cases z : i = 0
        · subst z; simp [b]
        · simp [BitVec.getLsbD_one, z]
      · left
        apply BitVec.eq_of_getLsbD_eq
        intro i hi
        rw [BitVec.getLsbD_and]
        by_cases z : i = 0
        · subst z; simpa using b
        · simp [BitVec.getLsbD_one, z]
    rcases e (Int32.ofInt v).toBitVec with h | h
    · left; exact Int32.toBitVec_inj.mp h
    · right; exact Int32.toBitVec_inj.mp h
  rcases h with h | h <;> rw [h]
  · left; rfl
  · right; rfl
theorem c_Ho_mayHaveAgain {L d c x y z : Nat} {μ : mj_M} {l t : Int} (hx : x = 31 ∨ x = 62) (hl : 0 ≤ l ∧ l < 10) (ht : 0 ≤ t ∧ t < 12) (hd : 0 ≤ μ 4 7 ∧ μ 4 7 ≤ 99) (hla : μ 22 (l * 12 + t) = -4 ∨ (0 ≤ μ 22 (l * 12 + t) ∧ μ 22 (l * 12 + t) ≤ 99)) (Q : mj_Q) : mj_call L (d + 1) 22 [.inr (.inr 4), .inl l, .inl t] c (pz x y z) μ Q = Q [.inl (if μ 22 (l * 12 + t) = -4 ∨ (0 < μ (x + 1) 4 ∧ μ (x + 1) 4 ≤ μ 4 7 - μ 22 (l * 12 + t)) then 1 else 0)] c (pz x y z) μ := by
  rcases hx with rfl | rfl
  all_goals (
    refine mj_call_eq ?_ Q
    have w1 : mj_w (l * 12) = l * 12 := mj_w_id (by omega) (by omega)
    have w2 : mj_w (l * 12 + t) = l * 12 + t := mj_w_id (by omega) (by omega)
    have w3 : mj_w (μ 4 7 - μ 22 (l * 12 + t)) = μ 4 7 - μ 22 (l * 12 + t) := mj_w_id (by omega) (by omega)
    simp only [e_22, mj_go_eq, g_cut, g_k0, g_k1, g_w0, g_w1, g_w2, g_w3, g_w4, g_c1, g_c2, g_c3, g_us, g_ldr_0, g_getr, g_ldi_1, g_const, g_imul, g_ldi_2, g_iadd, g_iald, g_sti_3, g_sti_4, g_ldi_3, g_iceq, g_ldi_4, g_ifle, g_getf, g_isub, g_iclt, g_goto, g_zret, a_22_0, a_22_1, a_22_4, a_22_7, a_22_8, a_22_10, a_22_11, a_22_12, a_22_13, a_22_14, a_22_15, a_22_16, a_22_19, a_22_22, a_22_23, a_22_24, a_22_26, a_22_27, a_22_29, a_22_32, a_22_34, a_22_37, a_22_38, a_22_41, a_22_42, a_22_43, a_22_45, a_22_48, a_22_49, a_22_52, a_22_53, ne_eq, not_false_eq_true, true_and, and_true, and_self, Int.cast_ofNat_Int, reduceCtorEq, or_false, false_or, not_true_eq_false, or_true, true_or, Int.reduceToNat, Int.reduceAdd, Int.reduceEq, Int.reduceNe, Int.reduceLT, Int.reduceLE, Int.reduceNeg, Int.reduceSub, Int.reduceMul, Nat.reduceAdd, Nat.reduceLT, Nat.reduceLeDiff, Nat.reduceEqDiff, forall_const, false_implies, true_implies, p_1_0, p_1_1, p_1_2, p_1_3, p_1_4, p_1_5, p_1_6, p_1_7, p_1_8, p_1_9, p_2_0, p_4_0, p_4_1, p_4_2, p_4_3, p_4_4, p_4_5, p_5_0, p_5_1, p_5_2, p_5_3, p_5_4, p_5_5, p_12_0, p_12_1, p_12_2, p_12_3, p_12_4, p_18_0, p_18_1, p_18_2, p_18_3, p_23_0, p_23_1, p_23_2, p_23_3, p_23_4, p_31_0, p_31_1, p_31_2, p_31_3, p_36_0, p_36_1, p_36_2, p_36_3, p_36_4, p_42_0, p_42_1, p_42_2, p_42_3, p_42_4, p_42_5, p_42_6, p_42_7, p_42_8, p_52_0, p_52_1, p_52_2, p_52_3, p_52_4, p_52_5, p_52_6, p_58_0, p_58_1, p_58_2, p_62_0, p_62_1, p_62_2, p_62_3, p_67_1, p_67_2, p_67_3, p_67_4, p_67_13, p_67_15, p_67_16, p_67_17, p_67_18, p_67_19, p_67_21, p_67_22, p_67_23, p_67_24, p_67_25, p_67_26, p_67_28, p_67_29, p_67_30, p_67_31, p_67_33, p_67_34, p_67_35, p_67_36, p_67_37, p_67_38, p_67_39, p_67_40, p_67_41, p_67_42, p_67_43, p_67_44, p_67_48, p_67_49, p_67_50, p_67_51, p_67_52, p_67_53, p_67_54, p_67_55, p_x, p_y, p_z, p_sx, p_sy, p_sz, y_1, y_2, y_3, y_4, y_5, y_6, y_7, y_8, y_9, y_10, y_11, y_12, y_13, y_14, y_15, y_16, y_17, y_18, y_19, y_20, y_21, y_22, y_23, y_24, y_25, y_26, y_27, y_28, y_29, y_30, y_31, y_32, y_33, y_34, y_35, y_36, y_37, y_38, y_39, y_40, y_41, y_42, y_43, y_44, y_45, y_46, y_47, y_48, y_49, y_50, y_51, y_52, y_53, y_54, y_55, y_56, y_57, y_58, y_59, y_60, y_61, y_62, y_63, y_64, y_65, y_66, y_67, y_68, y_69, y_70, y_71, y_72, y_73, y_74, y_75, y_76, y_77, y_78, y_79, y_80, y_81, y_82, y_83, y_84, y_85, y_86, y_87, y_88, y_89, y_90, y_91, y_92, y_93, y_94, y_95, y_96, y_97, y_98, y_99, y_100, y_101, y_102, y_103, y_104, y_105, y_106, y_107, y_108, y_109, y_1000, y_1001, y_1002, y_1003, g_lc1, g_lc2, w1, w2, w3]
    repeat' (first | intro _ | with_reducible apply And.intro)
    all_goals (first | omega | grind []))
theorem c_Ho_maySend {L d c x y z : Nat} {μ : mj_M} {l t : Int} (hx : x = 31 ∨ x = 62) (hl : 0 ≤ l ∧ l < 10) (ht : 0 ≤ t ∧ t < 12) (hn : 0 ≤ μ 12 5 ∧ μ 12 5 ≤ 24) (hd : 0 ≤ μ 4 7 ∧ μ 4 7 ≤ 99) (hla : μ 22 (l * 12 + t) = -4 ∨ (0 ≤ μ 22 (l * 12 + t) ∧ μ 22 (l * 12 + t) ≤ 99)) (Q : mj_Q) : mj_call L (d + 2) 21 [.inr (.inr 4), .inl l, .inl t] c (pz x y z) μ Q = Q [.inl (if vmay (μ 19 l) (μ 7 t) (μ (x + 3) t) (μ (x + 4) t) (μ 4 7) (zh (fun i => μ 15 i = l && μ 13 i = t) (μ 12 5).toNat) (μ 22 (l * 12 + t)) (μ (x + 1) 4) then 1 else 0)] c (pz x y z) μ := by
  rcases hx with rfl | rfl
  all_goals (
    refine mj_call_eq ?_ Q
    simp only [c_Co_boundTo hn, c_Ho_mayHaveAgain (Or.inl rfl) hl ht hd hla, c_Ho_mayHaveAgain (Or.inr rfl) hl ht hd hla, e_21, e_76, mj_go_eq, g_cut, g_k0, g_k1, g_w0, g_w1, g_w2, g_w3, g_w4, g_c1, g_c2, g_c3, g_us, g_ldr_0, g_getr, g_ldi_1, g_iald, g_ldi_2, g_ishr, g_const, g_iand, g_ifeq, g_getf, g_call3, o_76, o_76', o_12, g_ifne, o_22, g_goto, g_zret, g_iceq, g_iclt, g_icgt, a_21_0, a_21_1, a_21_4, a_21_7, a_21_8, a_21_9, a_21_10, a_21_13, a_21_16, a_21_17, a_21_18, a_21_19, a_21_20, a_21_21, a_21_24, a_21_25, a_21_28, a_21_29, a_21_30, a_21_33, a_21_36, a_21_39, a_21_40, a_21_43, a_21_44, a_21_45, a_21_48, a_21_51, a_21_52, a_21_53, a_21_54, a_21_57, a_21_60, a_21_61, a_21_64, a_21_65, a_76_0, a_76_1, a_76_4, a_76_5, a_76_6, a_76_8, a_76_11, a_76_12, a_76_13, a_76_16, a_76_17, a_76_18, a_76_21, a_76_22, a_76_23, a_76_26, a_76_27, a_76_28, a_76_31, a_76_32, a_76_35, a_76_36, ne_eq, not_false_eq_true, true_and, and_true, and_self, Int.cast_ofNat_Int, reduceCtorEq, or_false, false_or, not_true_eq_false, or_true, true_or, Int.reduceToNat, Int.reduceAdd, Int.reduceEq, Int.reduceNe, Int.reduceLT, Int.reduceLE, Int.reduceNeg, Int.reduceSub, Int.reduceMul, Nat.reduceAdd, Nat.reduceLT, Nat.reduceLeDiff, Nat.reduceEqDiff, forall_const, false_implies, true_implies, p_1_0, p_1_1, p_1_2, p_1_3, p_1_4, p_1_5, p_1_6, p_1_7, p_1_8, p_1_9, p_2_0, p_4_0, p_4_1, p_4_2, p_4_3, p_4_4, p_4_5, p_5_0, p_5_1, p_5_2, p_5_3, p_5_4, p_5_5, p_12_0, p_12_1, p_12_2, p_12_3, p_12_4, p_18_0, p_18_1, p_18_2, p_18_3, p_23_0, p_23_1, p_23_2, p_23_3, p_23_4, p_31_0, p_31_1, p_31_2, p_31_3, p_36_0, p_36_1, p_36_2, p_36_3, p_36_4, p_42_0, p_42_1, p_42_2, p_42_3, p_42_4, p_42_5, p_42_6, p_42_7, p_42_8, p_52_0, p_52_1, p_52_2, p_52_3, p_52_4, p_52_5, p_52_6, p_58_0, p_58_1, p_58_2, p_62_0, p_62_1, p_62_2, p_62_3, p_67_1, p_67_2, p_67_3, p_67_4, p_67_13, p_67_15, p_67_16, p_67_17, p_67_18, p_67_19, p_67_21, p_67_22, p_67_23, p_67_24, p_67_25, p_67_26, p_67_28, p_67_29, p_67_30, p_67_31, p_67_33, p_67_34, p_67_35, p_67_36, p_67_37, p_67_38, p_67_39, p_67_40, p_67_41, p_67_42, p_67_43, p_67_44, p_67_48, p_67_49, p_67_50, p_67_51, p_67_52, p_67_53, p_67_54, p_67_55, p_x, p_y, p_z, p_sx, p_sy, p_sz, y_1, y_2, y_3, y_4, y_5, y_6, y_7, y_8, y_9, y_10, y_11, y_12, y_13, y_14, y_15, y_16, y_17, y_18, y_19, y_20, y_21, y_22, y_23, y_24, y_25, y_26, y_27, y_28, y_29, y_30, y_31, y_32, y_33, y_34, y_35, y_36, y_37, y_38, y_39, y_40, y_41, y_42, y_43, y_44, y_45, y_46, y_47, y_48, y_49, y_50, y_51, y_52, y_53, y_54, y_55, y_56, y_57, y_58, y_59, y_60, y_61, y_62, y_63, y_64, y_65, y_66, y_67, y_68, y_69, y_70, y_71, y_72, y_73, y_74, y_75, y_76, y_77, y_78, y_79, y_80, y_81, y_82, y_83, y_84, y_85, y_86, y_87, y_88, y_89, y_90, y_91, y_92, y_93, y_94, y_95, y_96, y_97, y_98, y_99, y_100, y_101, y_102, y_103, y_104, y_105, y_106, y_107, y_108, y_109, y_1000, y_1001, y_1002, y_1003, g_lc1, g_lc2]
    repeat' (first | intro _ | with_reducible apply And.intro)
    all_goals (first | omega | grind [vmay]))
