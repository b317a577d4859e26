set_option maxRecDepth 20000
/-- the memory while the class searches for a program: the chosen, the row, who, the best -/
noncomputable def PY (μ : mj_M) (ch ro wh : Int → Int) (be : Int) : mj_M := fun q => if q = 109 then ch else if q = 108 then ro else if q = 53 then wh else if q = 52 then mj_pt (μ 52) 10 be else μ q
section
variable {μ : mj_M} {ch ro wh : Int → Int} {be i v : Int}
theorem PY_109 : PY μ ch ro wh be 109 = ch := rfl
theorem PY_108 : PY μ ch ro wh be 108 = ro := rfl
theorem PY_53 : PY μ ch ro wh be 53 = wh := rfl
theorem PY_54 : PY μ ch ro wh be 54 = μ 54 := rfl
theorem PY_55 : PY μ ch ro wh be 55 = μ 55 := rfl
theorem PY_56 : PY μ ch ro wh be 56 = μ 56 := rfl
theorem PY_57 : PY μ ch ro wh be 57 = μ 57 := rfl
theorem PY_10 : PY μ ch ro wh be 52 10 = be := by
  show mj_pt (μ 52) 10 be 10 = be
  rw [g_ps]
theorem PY_7 : PY μ ch ro wh be 52 7 = μ 52 7 := by
  show mj_pt (μ 52) 10 be 7 = _
  rw [g_pn (by decide)]
theorem PY_8 : PY μ ch ro wh be 52 8 = μ 52 8 := by
  show mj_pt (μ 52) 10 be 8 = _
  rw [g_pn (by decide)]
theorem PY_9 : PY μ ch ro wh be 52 9 = μ 52 9 := by
  show mj_pt (μ 52) 10 be 9 = _
  rw [g_pn (by decide)]
theorem PY_o {q : Nat} (h1 : q ≠ 109) (h2 : q ≠ 108) (h3 : q ≠ 53) (h4 : q ≠ 52) : PY μ ch ro wh be q = μ q := by
  unfold PY
  rw [if_neg h1, if_neg h2, if_neg h3, if_neg h4]
theorem PY_u109 : mj_up (PY μ ch ro wh be) 109 i v = PY μ (mj_pt ch i v) ro wh be := by
  funext q; unfold mj_up PY
  by_cases e : q = 109
  · subst e; simp only [if_true]
  · simp only [e, if_false]
theorem PY_u108 : mj_up (PY μ ch ro wh be) 108 i v = PY μ ch (mj_pt ro i v) wh be := by
  funext q; unfold mj_up PY
  by_cases e : q = 108
  · subst e; simp only [if_true]; rfl
  · simp only [e, if_false]
theorem PY_u53 : mj_up (PY μ ch ro wh be) 53 i v = PY μ ch ro (mj_pt wh i v) be := by
  funext q; unfold mj_up PY
  by_cases e : q = 53
  · subst e; simp only [if_true]; rfl
  · simp only [e, if_false]
theorem PY_u10 : mj_up (PY μ ch ro wh be) 52 10 v = PY μ ch ro wh v := by
  funext q; unfold mj_up PY
  by_cases e : q = 52
  · subst e; simp only [if_true, Nat.reduceEqDiff, if_false]
    exact mj_pt_pt
  · simp only [e, if_false]
theorem PY_self : PY μ (μ 109) (μ 108) (μ 53) be = mj_up μ 52 10 be := by
  funext q; unfold PY mj_up
  by_cases e1 : q = 109
  · subst e1; rfl
  by_cases e2 : q = 108
  · subst e2; rfl
  by_cases e3 : q = 53
  · subst e3; rfl
  simp only [e1, e2, e3, if_false]
end
theorem vand1 {v : Int} (h : 0 ≤ v ∧ v ≤ 3) : (mj_and v 1 = 0) = ¬ (v = 1 ∨ v = 3) := by
  have : v = 0 ∨ v = 1 ∨ v = 2 ∨ v = 3 := by omega
  rcases this with rfl | rfl | rfl | rfl
  · exact propext ⟨fun _ => by decide, fun _ => rfl⟩
  · exact propext ⟨fun q => absurd (show mj_and 1 1 = 1 from rfl) (by rw [q]; decide), fun q => absurd (Or.inl rfl) q⟩
  · exact propext ⟨fun _ => by decide, fun _ => rfl⟩
  · exact propext ⟨fun q => absurd (show mj_and 3 1 = 1 from rfl) (by rw [q]; decide), fun q => absurd (Or.inr rfl) q⟩
theorem vand2 {v : Int} (h : 0 ≤ v ∧ v ≤ 3) : (mj_and v 2 = 0) = ¬ (v = 2 ∨ v = 3) := by
  have : v = 0 ∨ v = 1 ∨ v = 2 ∨ v = 3 := by omega
  rcases this with rfl | rfl | rfl | rfl
  · exact propext ⟨fun _ => by decide, fun _ => rfl⟩
  · exact propext ⟨fun _ => by decide, fun _ => rfl⟩
  · exact propext ⟨fun q => absurd (show mj_and 2 2 = 2 from rfl) (by rw [q]; decide), fun q => absurd (Or.inl rfl) q⟩
  · exact propext ⟨fun q => absurd (show mj_and 3 2 = 2 from rfl) (by rw [q]; decide), fun q => absurd (Or.inr rfl) q⟩
theorem c_can1 {L d c x y z : Nat} {μ : mj_M} {t room : Int} (hV : 0 ≤ μ 56 t ∧ μ 56 t ≤ 3) (ht : 0 ≤ t ∧ t < 12) (Q : mj_Q) : mj_call L d 62 [.inr (.inr 52), .inl 1, .inl t, .inl room] c (pz x y z) μ Q = Q [.inl (if (μ 56 t = 1 ∨ μ 56 t = 3) ∧ μ 55 t ≤ room then 1 else 0)] c (pz x y z) μ := by
  refine mj_call_eq ?_ Q
  have hv := vand1 hV
  by_cases q1 : μ 56 t = 1 ∨ μ 56 t = 3
  · have hn : ¬ mj_and (μ 56 t) 1 = 0 := by rw [hv]; exact fun q => q q1
    by_cases q2 : μ 55 t ≤ room
    · rw [if_pos ⟨q1, q2⟩]
      simp only [hn, q2, e_62, mj_go_eq, g_cut, g_k0, g_k1, g_w0, g_w1, g_w2, g_w3, g_w4, g_c1, g_c2, g_c3, g_us, g_ldr_0, g_getr, g_ldi_2, g_iald, g_ldi_1, g_iand, g_ifeq, g_ldi_3, g_icgt, g_const, g_goto, g_zret, a_62_0, a_62_1, a_62_4, a_62_5, a_62_6, a_62_7, a_62_8, a_62_11, a_62_12, a_62_15, a_62_16, a_62_17, a_62_18, a_62_21, a_62_22, a_62_25, a_62_26, ne_eq, not_false_eq_true, true_and, and_true, and_self, Int.cast_ofNat_Int, reduceCtorEq, or_false, false_or, not_true_eq_false, or_true, true_or, Int.reduceToNat, Int.reduceAdd, Int.reduceEq, Int.reduceNe, Int.reduceLT, Int.reduceLE, Int.reduceNeg, Int.reduceSub, Int.reduceMul, Nat.reduceAdd, Nat.reduceLT, Nat.reduceLeDiff, Nat.reduceEqDiff, forall_const, false_implies, true_implies, p_1_0, p_1_1, p_1_2, p_1_3, p_1_4, p_1_5, p_1_6, p_1_7, p_1_8, p_1_9, p_2_0, p_4_0, p_4_1, p_4_2, p_4_3, p_4_4, p_4_5, p_5_0, p_5_1, p_5_2, p_5_3, p_5_4, p_5_5, p_12_0, p_12_1, p_12_2, p_12_3, p_12_4, p_18_0, p_18_1, p_18_2, p_18_3, p_23_0, p_23_1, p_23_2, p_23_3, p_23_4, p_31_0, p_31_1, p_31_2, p_31_3, p_36_0, p_36_1, p_36_2, p_36_3, p_36_4, p_42_0, p_42_1, p_42_2, p_42_3, p_42_4, p_42_5, p_42_6, p_42_7, p_42_8, p_52_0, p_52_1, p_52_2, p_52_3, p_52_4, p_52_5, p_52_6, p_58_0, p_58_1, p_58_2, p_62_0, p_62_1, p_62_2, p_62_3, p_67_1, p_67_2, p_67_3, p_67_4, p_67_13, p_67_15, p_67_16, p_67_17, p_67_18, p_67_19, p_67_21, p_67_22, p_67_23, p_67_24, p_67_25, p_67_26, p_67_28, p_67_29, p_67_30, p_67_31, p_67_33, p_67_34, p_67_35, p_67_36, p_67_37, p_67_38, p_67_39, p_67_40, p_67_41, p_67_42, p_67_43, p_67_44, p_67_48, p_67_49, p_67_50, p_67_51, p_67_52, p_67_53, p_67_54, p_67_55, p_x, p_y, p_z, p_sx, p_sy, p_sz, y_1, y_2, y_3, y_4, y_5, y_6, y_7, y_8, y_9, y_10, y_11, y_12, y_13, y_14, y_15, y_16, y_17, y_18, y_19, y_20, y_21, y_22, y_23, y_24, y_25, y_26, y_27, y_28, y_29, y_30, y_31, y_32, y_33, y_34, y_35, y_36, y_37, y_38, y_39, y_40, y_41, y_42, y_43, y_44, y_45, y_46, y_47, y_48, y_49, y_50, y_51, y_52, y_53, y_54, y_55, y_56, y_57, y_58, y_59, y_60, y_61, y_62, y_63, y_64, y_65, y_66, y_67, y_68, y_69, y_70, y_71, y_72, y_73, y_74, y_75, y_76, y_77, y_78, y_79, y_80, y_81, y_82, y_83, y_84, y_85, y_86, y_87, y_88, y_89, y_90, y_91, y_92, y_93, y_94, y_95, y_96, y_97, y_98, y_99, y_100, y_101, y_102, y_103, y_104, y_105, y_106, y_107, y_108, y_109, y_1000, y_1001, y_1002, y_1003]
      repeat' (first | intro _ | with_reducible apply And.intro)
      all_goals (first | omega | trivial | rfl | skip)
    · rw [if_neg (fun q => q2 q.2)]
      simp only [hn, e_62, mj_go_eq, g_cut, g_k0, g_k1, g_w0, g_w1, g_w2, g_w3, g_w4, g_c1, g_c2, g_c3, g_us, g_ldr_0, g_getr, g_ldi_2, g_iald, g_ldi_1, g_iand, g_ifeq, g_ldi_3, g_icgt, g_const, g_goto, g_zret, a_62_0, a_62_1, a_62_4, a_62_5, a_62_6, a_62_7, a_62_8, a_62_11, a_62_12, a_62_15, a_62_16, a_62_17, a_62_18, a_62_21, a_62_22, a_62_25, a_62_26, ne_eq, not_false_eq_true, true_and, and_true, and_self, Int.cast_ofNat_Int, reduceCtorEq, or_false, false_or, not_true_eq_false, or_true, true_or, Int.reduceToNat, Int.reduceAdd, Int.reduceEq, Int.reduceNe, Int.reduceLT, Int.reduceLE, Int.reduceNeg, Int.reduceSub, Int.reduceMul, Nat.reduceAdd, Nat.reduceLT, Nat.reduceLeDiff, Nat.reduceEqDiff, forall_const, false_implies, true_implies, p_1_0, p_1_1, p_1_2, p_1_3, p_1_4, p_1_5, p_1_6, p_1_7, p_1_8, p_1_9, p_2_0, p_4_0, p_4_1, p_4_2, p_4_3, p_4_4, p_4_5, p_5_0, p_5_1, p_5_2, p_5_3, p_5_4, p_5_5, p_12_0, p_12_1, p_12_2, p_12_3, p_12_4, p_18_0, p_18_1, p_18_2, p_18_3, p_23_0, p_23_1, p_23_2, p_23_3, p_23_4, p_31_0, p_31_1, p_31_2, p_31_3, p_36_0, p_36_1, p_36_2, p_36_3, p_36_4, p_42_0, p_42_1, p_42_2, p_42_3, p_42_4, p_42_5, p_42_6, p_42_7, p_42_8, p_52_0, p_52_1, p_52_2, p_52_3, p_52_4, p_52_5, p_52_6, p_58_0, p_58_1, p_58_2, p_62_0, p_62_1, p_62_2, p_62_3, p_67_1, p_67_2, p_67_3, p_67_4, p_67_13, p_67_15, p_67_16, p_67_17, p_67_18, p_67_19, p_67_21, p_67_22, p_67_23, p_67_24, p_67_25, p_67_26, p_67_28, p_67_29, p_67_30, p_67_31, p_67_33, p_67_34, p_67_35, p_67_36, p_67_37, p_67_38, p_67_39, p_67_40, p_67_41, p_67_42, p_67_43, p_67_44, p_67_48, p_67_49, p_67_50, p_67_51, p_67_52, p_67_53, p_67_54, p_67_55, p_x, p_y, p_z, p_sx, p_sy, p_sz, y_1, y_2, y_3, y_4, y_5, y_6, y_7, y_8, y_9, y_10, y_11, y_12, y_13, y_14, y_15, y_16, y_17, y_18, y_19, y_20, y_21, y_22, y_23, y_24, y_25, y_26, y_27, y_28, y_29, y_30, y_31, y_32, y_33, y_34, y_35, y_36, y_37, y_38, y_39, y_40, y_41, y_42, y_43, y_44, y_45, y_46, y_47, y_48, y_49, y_50, y_51, y_52, y_53, y_54, y_55, y_56, y_57, y_58, y_59, y_60, y_61, y_62, y_63, y_64, y_65, y_66, y_67, y_68, y_69, y_70, y_71, y_72, y_73, y_74, y_75, y_76, y_77, y_78, y_79, y_80, y_81, y_82, y_83, y_84, y_85, y_86, y_87, y_88, y_89, y_90, y_91, y_92, y_93, y_94, y_95, y_96, y_97, y_98, y_99, y_100, y_101, y_102, y_103, y_104, y_105, y_106, y_107, y_108, y_109, y_1000, y_1001, y_1002, y_1003]
      repeat' (first | intro _ | with_reducible apply And.intro)
      all_goals (first | omega | trivial | rfl | skip)
  · have hn : mj_and (μ 56 t) 1 = 0 := by rw [hv]; exact q1
    rw [if_neg (fun q => q1 q.1)]
    simp only [hn, e_62, mj_go_eq, g_cut, g_k0, g_k1, g_w0, g_w1, g_w2, g_w3, g_w4, g_c1, g_c2, g_c3, g_us, g_ldr_0, g_getr, g_ldi_2, g_iald, g_ldi_1, g_iand, g_ifeq, g_ldi_3, g_icgt, g_const, g_goto, g_zret, a_62_0, a_62_1, a_62_4, a_62_5, a_62_6, a_62_7, a_62_8, a_62_11, a_62_12, a_62_15, a_62_16, a_62_17, a_62_18, a_62_21, a_62_22, a_62_25, a_62_26, ne_eq, not_false_eq_true, true_and, and_true, and_self, Int.cast_ofNat_Int, reduceCtorEq, or_false, false_or, not_true_eq_false, or_true, true_or, Int.reduceToNat, Int.reduceAdd, Int.reduceEq, Int.reduceNe, Int.reduceLT, Int.reduceLE, Int.reduceNeg, Int.reduceSub, Int.reduceMul, Nat.reduceAdd, Nat.reduceLT, Nat.reduceLeDiff, Nat.reduceEqDiff, forall_const, false_implies, true_implies, p_1_0, p_1_1, p_1_2, p_1_3, p_1_4, p_1_5, p_1_6, p_1_7, p_1_8, p_1_9, p_2_0, p_4_0, p_4_1, p_4_2, p_4_3, p_4_4, p_4_5, p_5_0, p_5_1, p_5_2, p_5_3, p_5_4, p_5_5, p_12_0, p_12_1, p_12_2, p_12_3, p_12_4, p_18_0, p_18_1, p_18_2, p_18_3, p_23_0, p_23_1, p_23_2, p_23_3, p_23_4, p_31_0, p_31_1, p_31_2, p_31_3, p_36_0, p_36_1, p_36_2, p_36_3, p_36_4, p_42_0, p_42_1, p_42_2, p_42_3, p_42_4, p_42_5, p_42_6, p_42_7, p_42_8, p_52_0, p_52_1, p_52_2, p_52_3, p_52_4, p_52_5, p_52_6, p_58_0, p_58_1, p_58_2, p_62_0, p_62_1, p_62_2, p_62_3, p_67_1, p_67_2, p_67_3, p_67_4, p_67_13, p_67_15, p_67_16, p_67_17, p_67_18, p_67_19, p_67_21, p_67_22, p_67_23, p_67_24, p_67_25, p_67_26, p_67_28, p_67_29, p_67_30, p_67_31, p_67_33, p_67_34, p_67_35, p_67_36, p_67_37, p_67_38, p_67_39, p_67_40, p_67_41, p_67_42, p_67_43, p_67_44, p_67_48, p_67_49, p_67_50, p_67_51, p_67_52, p_67_53, p_67_54, p_67_55, p_x, p_y, p_z, p_sx, p_sy, p_sz, y_1, y_2, y_3, y_4, y_5, y_6, y_7, y_8, y_9, y_10, y_11, y_12, y_13, y_14, y_15, y_16, y_17, y_18, y_19, y_20, y_21, y_22, y_23, y_24, y_25, y_26, y_27, y_28, y_29, y_30, y_31, y_32, y_33, y_34, y_35, y_36, y_37, y_38, y_39, y_40, y_41, y_42, y_43, y_44, y_45, y_46, y_47, y_48, y_49, y_50, y_51, y_52, y_53, y_54, y_55, y_56, y_57, y_58, y_59, y_60, y_61, y_62, y_63, y_64, y_65, y_66, y_67, y_68, y_69, y_70, y_71, y_72, y_73, y_74, y_75, y_76, y_77, y_78, y_79, y_80, y_81, y_82, y_83, y_84, y_85, y_86, y_87, y_88, y_89, y_90, y_91, y_92, y_93, y_94, y_95, y_96, y_97, y_98, y_99, y_100, y_101, y_102, y_103, y_104, y_105, y_106, y_107, y_108, y_109, y_1000, y_1001, y_1002, y_1003]
    repeat' (first | intro _ | with_reducible apply And.intro)
    all_goals (first | omega | trivial | rfl | skip)
theorem c_can2 {L d c x y z : Nat} {μ : mj_M} {t room : Int} (hV : 0 ≤ μ 56 t ∧ μ 56 t ≤ 3) (ht : 0 ≤ t ∧ t < 12) (Q : mj_Q) : mj_call L d 62 [.inr (.inr 52), .inl 2, .inl t, .inl room] c (pz x y z) μ Q = Q [.inl (if (μ 56 t = 2 ∨ μ 56 t = 3) ∧ μ 55 t ≤ room then 1 else 0)] c (pz x y z) μ := by
  refine mj_call_eq ?_ Q
  have hv := vand2 hV
  by_cases q1 : μ 56 t = 2 ∨ μ 56 t = 3
  · have hn : ¬ mj_and (μ 56 t) 2 = 0 := by rw [hv]; exact fun q => q q1
    by_cases q2 : μ 55 t ≤ room
    · rw [if_pos ⟨q1, q2⟩]
      simp only [hn, q2, e_62, mj_go_eq, g_cut, g_k0, g_k1, g_w0, g_w1, g_w2, g_w3, g_w4, g_c1, g_c2, g_c3, g_us, g_ldr_0, g_getr, g_ldi_2, g_iald, g_ldi_1, g_iand, g_ifeq, g_ldi_3, g_icgt, g_const, g_goto, g_zret, a_62_0, a_62_1, a_62_4, a_62_5, a_62_6, a_62_7, a_62_8, a_62_11, a_62_12, a_62_15, a_62_16, a_62_17, a_62_18, a_62_21, a_62_22, a_62_25, a_62_26, ne_eq, not_false_eq_true, true_and, and_true, and_self, Int.cast_ofNat_Int, reduceCtorEq, or_false, false_or, not_true_eq_false, or_true, true_or, Int.reduceToNat, Int.reduceAdd, Int.reduceEq, Int.reduceNe, Int.reduceLT, Int.reduceLE, Int.reduceNeg, Int.reduceSub, Int.reduceMul, Nat.reduceAdd, Nat.reduceLT, Nat.reduceLeDiff, Nat.reduceEqDiff, forall_const, false_implies, true_implies, p_1_0, p_1_1, p_1_2, p_1_3, p_1_4, p_1_5, p_1_6, p_1_7, p_1_8, p_1_9, p_2_0, p_4_0, p_4_1, p_4_2, p_4_3, p_4_4, p_4_5, p_5_0, p_5_1, p_5_2, p_5_3, p_5_4, p_5_5, p_12_0, p_12_1, p_12_2, p_12_3, p_12_4, p_18_0, p_18_1, p_18_2, p_18_3, p_23_0, p_23_1, p_23_2, p_23_3, p_23_4, p_31_0, p_31_1, p_31_2, p_31_3, p_36_0, p_36_1, p_36_2, p_36_3, p_36_4, p_42_0, p_42_1, p_42_2, p_42_3, p_42_4, p_42_5, p_42_6, p_42_7, p_42_8, p_52_0, p_52_1, p_52_2, p_52_3, p_52_4, p_52_5, p_52_6, p_58_0, p_58_1, p_58_2, p_62_0, p_62_1, p_62_2, p_62_3, p_67_1, p_67_2, p_67_3, p_67_4, p_67_13, p_67_15, p_67_16, p_67_17, p_67_18, p_67_19, p_67_21, p_67_22, p_67_23, p_67_24, p_67_25, p_67_26, p_67_28, p_67_29, p_67_30, p_67_31, p_67_33, p_67_34, p_67_35, p_67_36, p_67_37, p_67_38, p_67_39, p_67_40, p_67_41, p_67_42, p_67_43, p_67_44, p_67_48, p_67_49, p_67_50, p_67_51, p_67_52, p_67_53, p_67_54, p_67_55, p_x, p_y, p_z, p_sx, p_sy, p_sz, y_1, y_2, y_3, y_4, y_5, y_6, y_7, y_8, y_9, y_10, y_11, y_12, y_13, y_14, y_15, y_16, y_17, y_18, y_19, y_20, y_21, y_22, y_23, y_24, y_25, y_26, y_27, y_28, y_29, y_30, y_31, y_32, y_33, y_34, y_35, y_36, y_37, y_38, y_39, y_40, y_41, y_42, y_43, y_44, y_45, y_46, y_47, y_48, y_49, y_50, y_51, y_52, y_53, y_54, y_55, y_56, y_57, y_58, y_59, y_60, y_61, y_62, y_63, y_64, y_65, y_66, y_67, y_68, y_69, y_70, y_71, y_72, y_73, y_74, y_75, y_76, y_77, y_78, y_79, y_80, y_81, y_82, y_83, y_84, y_85, y_86, y_87, y_88, y_89, y_90, y_91, y_92, y_93, y_94, y_95, y_96, y_97, y_98, y_99, y_100, y_101, y_102, y_103, y_104, y_105, y_106, y_107, y_108, y_109, y_1000, y_1001, y_1002, y_1003]
      repeat' (first | intro _ | with_reducible apply And.intro)
      all_goals (first | omega | trivial | rfl | skip)
    · rw [if_neg (fun q => q2 q.2)]
      simp only [hn, e_62, mj_go_eq, g_cut, g_k0, g_k1, g_w0, g_w1, g_w2, g_w3, g_w4, g_c1, g_c2, g_c3, g_us, g_ldr_0, g_getr, g_ldi_2, g_iald, g_ldi_1, g_iand, g_ifeq, g_ldi_3, g_icgt, g_const, g_goto, g_zret, a_62_0, a_62_1, a_62_4, a_62_5, a_62_6, a_62_7, a_62_8, a_62_11, a_62_12, a_62_15, a_62_16, a_62_17, a_62_18, a_62_21, a_62_22, a_62_25, a_62_26, ne_eq, not_false_eq_true, true_and, and_true, and_self, Int.cast_ofNat_Int, reduceCtorEq, or_false, false_or, not_true_eq_false, or_true, true_or, Int.reduceToNat, Int.reduceAdd, Int.reduceEq, Int.reduceNe, Int.reduceLT, Int.reduceLE, Int.reduceNeg, Int.reduceSub, Int.reduceMul, Nat.reduceAdd, Nat.reduceLT, Nat.reduceLeDiff, Nat.reduceEqDiff, forall_const, false_implies, true_implies, p_1_0, p_1_1, p_1_2, p_1_3, p_1_4, p_1_5, p_1_6, p_1_7, p_1_8, p_1_9, p_2_0, p_4_0, p_4_1, p_4_2, p_4_3, p_4_4, p_4_5, p_5_0, p_5_1, p_5_2, p_5_3, p_5_4, p_5_5, p_12_0, p_12_1, p_12_2, p_12_3, p_12_4, p_18_0, p_18_1, p_18_2, p_18_3, p_23_0, p_23_1, p_23_2, p_23_3, p_23_4, p_31_0, p_31_1, p_31_2, p_31_3, p_36_0, p_36_1, p_36_2, p_36_3, p_36_4, p_42_0, p_42_1, p_42_2, p_42_3, p_42_4, p_42_5, p_42_6, p_42_7, p_42_8, p_52_0, p_52_1, p_52_2, p_52_3, p_52_4, p_52_5, p_52_6, p_58_0, p_58_1, p_58_2, p_62_0, p_62_1, p_62_2, p_62_3, p_67_1, p_67_2, p_67_3, p_67_4, p_67_13, p_67_15, p_67_16, p_67_17, p_67_18, p_67_19, p_67_21, p_67_22, p_67_23, p_67_24, p_67_25, p_67_26, p_67_28, p_67_29, p_67_30, p_67_31, p_67_33, p_67_34, p_67_35, p_67_36, p_67_37, p_67_38, p_67_39, p_67_40, p_67_41, p_67_42, p_67_43, p_67_44, p_67_48, p_67_49, p_67_50, p_67_51, p_67_52, p_67_53, p_67_54, p_67_55, p_x, p_y, p_z, p_sx, p_sy, p_sz, y_1, y_2, y_3, y_4, y_5, y_6, y_7, y_8, y_9, y_10, y_11, y_12, y_13, y_14, y_15, y_16, y_17, y_18, y_19, y_20, y_21, y_22, y_23, y_24, y_25, y_26, y_27, y_28, y_29, y_30, y_31, y_32, y_33, y_34, y_35, y_36, y_37, y_38, y_39, y_40, y_41, y_42, y_43, y_44, y_45, y_46, y_47, y_48, y_49, y_50, y_51, y_52, y_53, y_54, y_55, y_56, y_57, y_58, y_59, y_60, y_61, y_62, y_63, y_64, y_65, y_66, y_67, y_68, y_69, y_70, y_71, y_72, y_73, y_74, y_75, y_76, y_77, y_78, y_79, y_80, y_81, y_82, y_83, y_84, y_85, y_86, y_87, y_88, y_89, y_90, y_91, y_92, y_93, y_94, y_95, y_96, y_97, y_98, y_99, y_100, y_101, y_102, y_103, y_104, y_105, y_106, y_107, y_108, y_109, y_1000, y_1001, y_1002, y_1003]
      repeat' (first | intro _ | with_reducible apply And.intro)
      all_goals (first | omega | trivial | rfl | skip)
  · have hn : mj_and (μ 56 t) 2 = 0 := by rw [hv]; exact q1
    rw [if_neg (fun q => q1 q.1)]
    simp only [hn, e_62, mj_go_eq, g_cut, g_k0, g_k1, g_w0, g_w1, g_w2, g_w3, g_w4, g_c1, g_c2, g_c3, g_us, g_ldr_0, g_getr, g_ldi_2, g_iald, g_ldi_1, g_iand, g_ifeq, g_ldi_3, g_icgt, g_const, g_goto, g_zret, a_62_0, a_62_1, a_62_4, a_62_5, a_62_6, a_62_7, a_62_8, a_62_11, a_62_12, a_62_15, a_62_16, a_62_17, a_62_18, a_62_21, a_62_22, a_62_25, a_62_26, ne_eq, not_false_eq_true, true_and, and_true, and_self, Int.cast_ofNat_Int, reduceCtorEq, or_false, false_or, not_true_eq_false, or_true, true_or, Int.reduceToNat, Int.reduceAdd, Int.reduceEq, Int.reduceNe, Int.reduceLT, Int.reduceLE, Int.reduceNeg, Int.reduceSub, Int.reduceMul, Nat.reduceAdd, Nat.reduceLT, Nat.reduceLeDiff, Nat.reduceEqDiff, forall_const, false_implies, true_implies, p_1_0, p_1_1, p_1_2, p_1_3, p_1_4, p_1_5, p_1_6, p_1_7, p_1_8, p_1_9, p_2_0, p_4_0, p_4_1, p_4_2, p_4_3, p_4_4, p_4_5, p_5_0, p_5_1, p_5_2, p_5_3, p_5_4, p_5_5, p_12_0, p_12_1, p_12_2, p_12_3, p_12_4, p_18_0, p_18_1, p_18_2, p_18_3, p_23_0, p_23_1, p_23_2, p_23_3, p_23_4, p_31_0, p_31_1, p_31_2, p_31_3, p_36_0, p_36_1, p_36_2, p_36_3, p_36_4, p_42_0, p_42_1, p_42_2, p_42_3, p_42_4, p_42_5, p_42_6, p_42_7, p_42_8, p_52_0, p_52_1, p_52_2, p_52_3, p_52_4, p_52_5, p_52_6, p_58_0, p_58_1, p_58_2, p_62_0, p_62_1, p_62_2, p_62_3, p_67_1, p_67_2, p_67_3, p_67_4, p_67_13, p_67_15, p_67_16, p_67_17, p_67_18, p_67_19, p_67_21, p_67_22, p_67_23, p_67_24, p_67_25, p_67_26, p_67_28, p_67_29, p_67_30, p_67_31, p_67_33, p_67_34, p_67_35, p_67_36, p_67_37, p_67_38, p_67_39, p_67_40, p_67_41, p_67_42, p_67_43, p_67_44, p_67_48, p_67_49, p_67_50, p_67_51, p_67_52, p_67_53, p_67_54, p_67_55, p_x, p_y, p_z, p_sx, p_sy, p_sz, y_1, y_2, y_3, y_4, y_5, y_6, y_7, y_8, y_9, y_10, y_11, y_12, y_13, y_14, y_15, y_16, y_17, y_18, y_19, y_20, y_21, y_22, y_23, y_24, y_25, y_26, y_27, y_28, y_29, y_30, y_31, y_32, y_33, y_34, y_35, y_36, y_37, y_38, y_39, y_40, y_41, y_42, y_43, y_44, y_45, y_46, y_47, y_48, y_49, y_50, y_51, y_52, y_53, y_54, y_55, y_56, y_57, y_58, y_59, y_60, y_61, y_62, y_63, y_64, y_65, y_66, y_67, y_68, y_69, y_70, y_71, y_72, y_73, y_74, y_75, y_76, y_77, y_78, y_79, y_80, y_81, y_82, y_83, y_84, y_85, y_86, y_87, y_88, y_89, y_90, y_91, y_92, y_93, y_94, y_95, y_96, y_97, y_98, y_99, y_100, y_101, y_102, y_103, y_104, y_105, y_106, y_107, y_108, y_109, y_1000, y_1001, y_1002, y_1003]
    repeat' (first | intro _ | with_reducible apply And.intro)
    all_goals (first | omega | trivial | rfl | skip)
theorem g_uid {μ : mj_M} {k : Nat} {i v : Int} (h : μ k i = v) : mj_up μ k i v = μ := by
  funext q
  by_cases e : q = k
  · subst e; rw [g_us]; exact mj_pt_self h
  · rw [g_un e]
/-- the least row that reads just the chosen ones -/
def LR (m v ch : Int → Int) (k : Nat) (a b : Int) (f : Int → Int) : Prop := pf m v f k a b ∧ SU ch f k ∧ ∀ g, pf m v g k a b → SU ch g k → ¬ plt g f k
theorem SU_s {ch g : Int → Int} {k : Nat} (h : SU ch g (k + 1)) : SU ch g k := fun i a b => h i (by omega) b
theorem SU_at {ch g : Int → Int} {k : Nat} (hk : k + 1 ≤ 12) (h : SU ch g (k + 1)) : 0 < g (11 - k) ↔ ch (11 - k) = 1 := h (11 - k) (by omega) (by omega)
theorem SU_mk {ch g : Int → Int} {k : Nat} (h : SU ch g k) (h0 : 0 < g (11 - k) ↔ ch (11 - k) = 1) : SU ch g (k + 1) := fun i a b => by
  by_cases e : i = 11 - k
  · rw [e]; exact h0
  · exact h i (by omega) b
theorem LR_0 {m v ch f : Int → Int} {a b : Int} : LR m v ch 0 a b f := ⟨trivial, fun i a b => by omega, fun _ _ _ h => h⟩
theorem LR_s0 {m v ch f : Int → Int} {k : Nat} {a b : Int} (hk : k + 1 ≤ 12) (hc : ch (11 - k) = 0) (h : LR m v ch k a b f) (h0 : f (11 - k) = 0) : LR m v ch (k + 1) a b f := by
  refine ⟨Or.inl ⟨h0, h.1⟩, SU_mk h.2.1 (by omega), fun g hg hs hl => ?_⟩
  have g0 := SU_at hk hs
  rcases hg with ⟨g1, hg⟩ | ⟨g1, _⟩ | ⟨g1, _⟩
  · rcases hl with hl | ⟨_, hl⟩
    · omega
    · exact h.2.2 g hg (SU_s hs) hl
  · omega
  · omega
theorem NO_s0 {m v ch : Int → Int} {k : Nat} {a b : Int} (hk : k + 1 ≤ 12) (hc : ch (11 - k) = 0) (h : ∀ g, pf m v g k a b → ¬ SU ch g k) (g : Int → Int) (hg : pf m v g (k + 1) a b) : ¬ SU ch g (k + 1) := fun hs => by
  have g0 := SU_at hk hs
  rcases hg with ⟨g1, hg⟩ | ⟨g1, _⟩ | ⟨g1, _⟩
  · exact h g hg (SU_s hs)
  · omega
  · omega
theorem LR_s1 {m v ch f : Int → Int} {k : Nat} {a b : Int} (hk : k + 1 ≤ 12) (hc : ch (11 - k) = 1) (h : LR m v ch k (a - m (11 - k)) b f) (h0 : f (11 - k) = 1) (hv : v (11 - k) = 1 ∨ v (11 - k) = 3) (hm : m (11 - k) ≤ a) : LR m v ch (k + 1) a b f := by
  refine ⟨Or.inr (Or.inl ⟨h0, hv, hm, h.1⟩), SU_mk h.2.1 (by omega), fun g hg hs hl => ?_⟩
  have g0 := SU_at hk hs
  rcases hg with ⟨g1, _⟩ | ⟨g1, _, _, hg⟩ | ⟨g1, _⟩
  · omega
  · rcases hl with hl | ⟨_, hl⟩
    · omega
    · exact h.2.2 g hg (SU_s hs) hl
  · rcases hl with hl | ⟨hl, _⟩ <;> omega
theorem LR_s2 {m v ch f : Int → Int} {k : Nat} {a b : Int} (hk : k + 1 ≤ 12) (hc : ch (11 - k) = 1) (h : LR m v ch k a (b - m (11 - k)) f) (h0 : f (11 - k) = 2) (hv : v (11 - k) = 2 ∨ v (11 - k) = 3) (hm : m (11 - k) ≤ b) (hn : (v (11 - k) = 1 ∨ v (11 - k) = 3) → m (11 - k) ≤ a → ∀ g, pf m v g k (a - m (11 - k)) b → ¬ SU ch g k) : LR m v ch (k + 1) a b f := by
  refine ⟨Or.inr (Or.inr ⟨h0, hv, hm, h.1⟩), SU_mk h.2.1 (by omega), fun g hg hs hl => ?_⟩
  have g0 := SU_at hk hs
  rcases hg with ⟨g1, _⟩ | ⟨g1, gv, gm, hg⟩ | ⟨g1, _, _, hg⟩
  · omega
  · exact hn gv gm g hg (SU_s hs)
  · rcases hl with hl | ⟨_, hl⟩
    · omega
    · exact h.2.2 g hg (SU_s hs) hl
theorem NO_s12 {m v ch : Int → Int} {k : Nat} {a b : Int} (hk : k + 1 ≤ 12) (hc : ch (11 - k) = 1) (h1 : (v (11 - k) = 1 ∨ v (11 - k) = 3) → m (11 - k) ≤ a → ∀ g, pf m v g k (a - m (11 - k)) b → ¬ SU ch g k) (h2 : (v (11 - k) = 2 ∨ v (11 - k) = 3) → m (11 - k) ≤ b → ∀ g, pf m v g k a (b - m (11 - k)) → ¬ SU ch g k) (g : Int → Int) (hg : pf m v g (k + 1) a b) : ¬ SU ch g (k + 1) := fun hs => by
  have g0 := SU_at hk hs
  rcases hg with ⟨g1, _⟩ | ⟨g1, gv, gm, hg⟩ | ⟨g1, gv, gm, hg⟩
  · omega
  · exact h1 gv gm g hg (SU_s hs)
  · exact h2 gv gm g hg (SU_s hs)
