set_option maxRecDepth 20000
/-! lowest terms -/
theorem g_tm (a b : Nat) : Int.tmod (a : Int) (b : Int) = ((a % b : Nat) : Int) := rfl
theorem g_td (a b : Nat) : Int.tdiv (a : Int) (b : Int) = ((a / b : Nat) : Int) := rfl
theorem g_gs (p q : Nat) : Nat.gcd q (p % q) = Nat.gcd p q := by rw [Nat.gcd_comm p q, Nat.gcd_rec q p, Nat.gcd_comm]
theorem g_half {p q k : Nat} (hq : 0 < q) (hle : q ≤ p) (h : p * q < 2 ^ (k + 1)) : q * (p % q) < 2 ^ k := by
  have h1 : 2 * (p % q) ≤ p := by
    have h2 := Nat.mod_lt p hq
    have h3 := Nat.div_add_mod p q
    have h4 : 1 ≤ p / q := Nat.div_pos hle hq
    have h5 : q * 1 ≤ q * (p / q) := Nat.mul_le_mul_left _ h4
    omega
  have h6 : q * (2 * (p % q)) ≤ q * p := Nat.mul_le_mul_left _ h1
  rw [Nat.mul_left_comm, Nat.mul_comm q p] at h6
  rw [Nat.pow_succ] at h
  omega
theorem c_Sb_commonDivisor {L d c : Nat} {π : mj_P} {μ : mj_M} {a b : Nat} (hb : 0 < b) (ha : a < 65536) (hb2 : b < 65536) (Q : mj_Q) : mj_call L d 146 [.inl (a : Int), .inl (b : Int)] c π μ Q = Q [.inl ((Nat.gcd a b : Nat) : Int)] c π μ := by
  generalize hg : Nat.gcd a b = g
  refine mj_call_eq ?_ Q
  have key : ∀ j : Nat, j ≤ 63 → ∀ (p q : Nat) (v5 : mj_V), q ≤ p → p < 65536 → p * q < 2 ^ (63 - j) → Nat.gcd p q = g → mj_run L d 146 7 [.inl (a : Int), .inl (b : Int), .inl (p : Int), .inl (q : Int), .inl (j : Int), v5] [] c π μ (fun r' c' π' μ' => r' = [.inl (g : Int)] ∧ c' = c ∧ π' = π ∧ μ' = μ) := by
    refine mj_down ?_ ?_
    · intro p q v5 h1 h2 h3 h4
      have hq : q = 0 := by
        by_cases e : q = 0
        · exact e
        · have : 1 * 1 ≤ p * q := Nat.mul_le_mul (by omega) (by omega)
          rw [show 63 - 63 = 0 from rfl, Nat.pow_zero] at h3
          omega
      subst hq
      rw [Nat.gcd_zero_right] at h4
      subst h4
      refine mj_start ?_
      simp only [mj_go_eq, g_cut, g_k0, g_k1, g_w0, g_w1, g_w2, g_w3, g_w4, g_c1, g_c2, g_c3, g_us, g_ldi_0, g_sti_2, g_ldi_1, g_sti_3, g_const, g_sti_4, g_ldi_4, g_icge, g_ldi_3, g_ifeq, g_ldi_2, g_irem, g_sti_5, g_ldi_5, g_inc_4, g_goto, g_ret, a_146_0, a_146_1, a_146_2, a_146_3, a_146_4, a_146_5, a_146_7, a_146_9, a_146_11, a_146_14, a_146_15, a_146_18, a_146_19, a_146_20, a_146_21, a_146_23, a_146_24, a_146_25, a_146_27, a_146_28, a_146_31, a_146_34, a_146_35, ne_eq, not_false_eq_true, true_and, and_true, and_self, Int.cast_ofNat_Int, reduceCtorEq, or_false, false_or, not_true_eq_false, or_true, true_or, Int.reduceToNat, Int.reduceAdd, Int.reduceEq, Int.reduceNe, Int.reduceLT, Int.reduceLE, Int.reduceNeg, Int.reduceSub, Int.reduceMul, Nat.reduceAdd, Nat.reduceLT, Nat.reduceLeDiff, Nat.reduceEqDiff, forall_const, false_implies, true_implies]
      repeat' (first | intro _ | with_reducible apply And.intro)
      all_goals (first | omega | trivial)
    · intro j hj ih
      intro p q v5 h1 h2 h3 h4
      by_cases hq : q = 0
      · subst hq
        rw [Nat.gcd_zero_right] at h4
        subst h4
        refine mj_start ?_
        simp only [mj_go_eq, g_cut, g_k0, g_k1, g_w0, g_w1, g_w2, g_w3, g_w4, g_c1, g_c2, g_c3, g_us, g_ldi_0, g_sti_2, g_ldi_1, g_sti_3, g_const, g_sti_4, g_ldi_4, g_icge, g_ldi_3, g_ifeq, g_ldi_2, g_irem, g_sti_5, g_ldi_5, g_inc_4, g_goto, g_ret, a_146_0, a_146_1, a_146_2, a_146_3, a_146_4, a_146_5, a_146_7, a_146_9, a_146_11, a_146_14, a_146_15, a_146_18, a_146_19, a_146_20, a_146_21, a_146_23, a_146_24, a_146_25, a_146_27, a_146_28, a_146_31, a_146_34, a_146_35, ne_eq, not_false_eq_true, true_and, and_true, and_self, Int.cast_ofNat_Int, reduceCtorEq, or_false, false_or, not_true_eq_false, or_true, true_or, Int.reduceToNat, Int.reduceAdd, Int.reduceEq, Int.reduceNe, Int.reduceLT, Int.reduceLE, Int.reduceNeg, Int.reduceSub, Int.reduceMul, Nat.reduceAdd, Nat.reduceLT, Nat.reduceLeDiff, Nat.reduceEqDiff, forall_const, false_implies, true_implies]
        repeat' (first | intro _ | with_reducible apply And.intro)
        all_goals (first | omega | trivial)
      · have h5 := Nat.mod_lt p (show 0 < q by omega)
        have ih2 := ih q (p % q) (.inl ((p % q : Nat) : Int)) (by omega) (by omega) (by rw [show 63 - j = (63 - (j + 1)) + 1 by omega] at h3; exact g_half (by omega) h1 h3) (by rw [g_gs]; exact h4)
        refine mj_start ?_
        simp only [mj_go_eq, g_cut, g_k0, g_k1, g_w0, g_w1, g_w2, g_w3, g_w4, g_c1, g_c2, g_c3, g_us, g_ldi_0, g_sti_2, g_ldi_1, g_sti_3, g_const, g_sti_4, g_ldi_4, g_icge, g_ldi_3, g_ifeq, g_ldi_2, g_irem, g_sti_5, g_ldi_5, g_inc_4, g_goto, g_ret, a_146_0, a_146_1, a_146_2, a_146_3, a_146_4, a_146_5, a_146_7, a_146_9, a_146_11, a_146_14, a_146_15, a_146_18, a_146_19, a_146_20, a_146_21, a_146_23, a_146_24, a_146_25, a_146_27, a_146_28, a_146_31, a_146_34, a_146_35, ne_eq, not_false_eq_true, true_and, and_true, and_self, Int.cast_ofNat_Int, reduceCtorEq, or_false, false_or, not_true_eq_false, or_true, true_or, Int.reduceToNat, Int.reduceAdd, Int.reduceEq, Int.reduceNe, Int.reduceLT, Int.reduceLE, Int.reduceNeg, Int.reduceSub, Int.reduceMul, Nat.reduceAdd, Nat.reduceLT, Nat.reduceLeDiff, Nat.reduceEqDiff, forall_const, false_implies, true_implies, g_tm]
        try (simp (disch := omega) only [mj_w_id])
        repeat' (first | intro _ | with_reducible apply And.intro)
        all_goals (first | omega | exact ih2)
  have h5 := Nat.mod_lt a hb
  have h6 : b * (a % b) < 2 ^ 62 := by
    have : b * (a % b) ≤ 65536 * 65536 := Nat.mul_le_mul (by omega) (by omega)
    omega
  have h0 := key 1 (by decide) b (a % b) (.inl ((a % b : Nat) : Int)) (by omega) hb2 h6 (by rw [g_gs]; exact hg)
  have hs : mj_run L d 146 7 [.inl (a : Int), .inl (b : Int), .inl (a : Int), .inl (b : Int), .inl 0, .inr (.inr 0)] [] c π μ (fun r' c' π' μ' => r' = [.inl (g : Int)] ∧ c' = c ∧ π' = π ∧ μ' = μ) := by
    refine mj_start ?_
    simp only [mj_go_eq, g_cut, g_k0, g_k1, g_w0, g_w1, g_w2, g_w3, g_w4, g_c1, g_c2, g_c3, g_us, g_ldi_0, g_sti_2, g_ldi_1, g_sti_3, g_const, g_sti_4, g_ldi_4, g_icge, g_ldi_3, g_ifeq, g_ldi_2, g_irem, g_sti_5, g_ldi_5, g_inc_4, g_goto, g_ret, a_146_0, a_146_1, a_146_2, a_146_3, a_146_4, a_146_5, a_146_7, a_146_9, a_146_11, a_146_14, a_146_15, a_146_18, a_146_19, a_146_20, a_146_21, a_146_23, a_146_24, a_146_25, a_146_27, a_146_28, a_146_31, a_146_34, a_146_35, ne_eq, not_false_eq_true, true_and, and_true, and_self, Int.cast_ofNat_Int, reduceCtorEq, or_false, false_or, not_true_eq_false, or_true, true_or, Int.reduceToNat, Int.reduceAdd, Int.reduceEq, Int.reduceNe, Int.reduceLT, Int.reduceLE, Int.reduceNeg, Int.reduceSub, Int.reduceMul, Nat.reduceAdd, Nat.reduceLT, Nat.reduceLeDiff, Nat.reduceEqDiff, forall_const, false_implies, true_implies, g_tm]
    try (simp (disch := omega) only [mj_w_id])
    repeat' (first | intro _ | with_reducible apply And.intro)
    all_goals (first | omega | exact h0)
  simp only [e_146, mj_go_eq, g_cut, g_k0, g_k1, g_w0, g_w1, g_w2, g_w3, g_w4, g_c1, g_c2, g_c3, g_us, g_ldi_0, g_sti_2, g_ldi_1, g_sti_3, g_const, g_sti_4, g_ldi_4, g_icge, g_ldi_3, g_ifeq, g_ldi_2, g_irem, g_sti_5, g_ldi_5, g_inc_4, g_goto, g_ret, a_146_0, a_146_1, a_146_2, a_146_3, a_146_4, a_146_5, a_146_7, a_146_9, a_146_11, a_146_14, a_146_15, a_146_18, a_146_19, a_146_20, a_146_21, a_146_23, a_146_24, a_146_25, a_146_27, a_146_28, a_146_31, a_146_34, a_146_35, ne_eq, not_false_eq_true, true_and, and_true, and_self, Int.cast_ofNat_Int, reduceCtorEq, or_false, false_or, not_true_eq_false, or_true, true_or, Int.reduceToNat, Int.reduceAdd, Int.reduceEq, Int.reduceNe, Int.reduceLT, Int.reduceLE, Int.reduceNeg, Int.reduceSub, Int.reduceMul, Nat.reduceAdd, Nat.reduceLT, Nat.reduceLeDiff, Nat.reduceEqDiff, forall_const, false_implies, true_implies]
  exact hs
noncomputable def vlow (a b : Nat) (w : Int) : Int := if w = 0 then ((a / Nat.gcd a b : Nat) : Int) else ((b / Nat.gcd a b : Nat) : Int)
theorem c_Sb_lowest {L d c : Nat} {π : mj_P} {μ : mj_M} {a b : Nat} {w : Int} (hb : 0 < b) (ha : a < 65536) (hb2 : b < 65536) (Q : mj_Q) : mj_call L (d + 1) 145 [.inl (a : Int), .inl (b : Int), .inl w] c π μ Q = Q [.inl (vlow a b w)] c π μ := by
  have h1 : 0 < Nat.gcd a b := Nat.gcd_pos_of_pos_right _ hb
  have h2 : a / Nat.gcd a b ≤ a := Nat.div_le_self _ _
  have h3 : b / Nat.gcd a b ≤ b := Nat.div_le_self _ _
  unfold vlow
  refine mj_call_eq ?_ Q
  simp only [c_Sb_commonDivisor hb ha hb2, e_145, mj_go_eq, g_cut, g_k0, g_k1, g_w0, g_w1, g_w2, g_w3, g_w4, g_c1, g_c2, g_c3, g_us, g_ldi_1, g_ifgt, g_ldi_2, g_ifne, g_const, g_goto, g_ret, g_ldi_0, g_call2, o_146, g_sti_3, g_ldi_3, g_idiv, a_145_0, a_145_1, a_145_4, a_145_5, a_145_8, a_145_9, a_145_12, a_145_13, a_145_14, a_145_15, a_145_16, a_145_19, a_145_20, a_145_21, a_145_24, a_145_25, a_145_28, a_145_29, a_145_32, a_145_33, a_145_34, a_145_35, a_145_38, a_145_39, a_145_42, a_145_43, a_145_44, a_145_45, ne_eq, not_false_eq_true, true_and, and_true, and_self, Int.cast_ofNat_Int, reduceCtorEq, or_false, false_or, not_true_eq_false, or_true, true_or, Int.reduceToNat, Int.reduceAdd, Int.reduceEq, Int.reduceNe, Int.reduceLT, Int.reduceLE, Int.reduceNeg, Int.reduceSub, Int.reduceMul, Nat.reduceAdd, Nat.reduceLT, Nat.reduceLeDiff, Nat.reduceEqDiff, forall_const, false_implies, true_implies, p_1_0, p_1_1, p_1_2, p_1_3, p_1_4, p_1_5, p_1_6, p_1_7, p_1_8, p_1_9, p_2_0, p_4_0, p_4_1, p_4_2, p_4_3, p_4_4, p_4_5, p_5_0, p_5_1, p_5_2, p_5_3, p_5_4, p_5_5, p_12_0, p_12_1, p_12_2, p_12_3, p_12_4, p_18_0, p_18_1, p_18_2, p_18_3, p_23_0, p_23_1, p_23_2, p_23_3, p_23_4, p_31_0, p_31_1, p_31_2, p_31_3, p_36_0, p_36_1, p_36_2, p_36_3, p_36_4, p_42_0, p_42_1, p_42_2, p_42_3, p_42_4, p_42_5, p_42_6, p_42_7, p_42_8, p_52_0, p_52_1, p_52_2, p_52_3, p_52_4, p_52_5, p_52_6, p_58_0, p_58_1, p_58_2, p_62_0, p_62_1, p_62_2, p_62_3, p_67_1, p_67_2, p_67_3, p_67_4, p_67_13, p_67_15, p_67_16, p_67_17, p_67_18, p_67_19, p_67_21, p_67_22, p_67_23, p_67_24, p_67_25, p_67_26, p_67_28, p_67_29, p_67_30, p_67_31, p_67_33, p_67_34, p_67_35, p_67_36, p_67_37, p_67_38, p_67_39, p_67_40, p_67_41, p_67_42, p_67_43, p_67_44, p_67_48, p_67_49, p_67_50, p_67_51, p_67_52, p_67_53, p_67_54, p_67_55, p_x, p_y, p_z, p_sx, p_sy, p_sz, y_1, y_2, y_3, y_4, y_5, y_6, y_7, y_8, y_9, y_10, y_11, y_12, y_13, y_14, y_15, y_16, y_17, y_18, y_19, y_20, y_21, y_22, y_23, y_24, y_25, y_26, y_27, y_28, y_29, y_30, y_31, y_32, y_33, y_34, y_35, y_36, y_37, y_38, y_39, y_40, y_41, y_42, y_43, y_44, y_45, y_46, y_47, y_48, y_49, y_50, y_51, y_52, y_53, y_54, y_55, y_56, y_57, y_58, y_59, y_60, y_61, y_62, y_63, y_64, y_65, y_66, y_67, y_68, y_69, y_70, y_71, y_72, y_73, y_74, y_75, y_76, y_77, y_78, y_79, y_80, y_81, y_82, y_83, y_84, y_85, y_86, y_87, y_88, y_89, y_90, y_91, y_92, y_93, y_94, y_95, y_96, y_97, y_98, y_99, y_100, y_101, y_102, y_103, y_104, y_105, y_106, y_107, y_108, y_109, y_1000, y_1001, y_1002, y_1003, g_td]
  generalize a / Nat.gcd a b = A at *
  generalize b / Nat.gcd a b = B at *
  try (simp (disch := omega) only [mj_w_id])
  repeat' (first | intro _ | with_reducible apply And.intro)
  all_goals (first | omega | grind)
theorem c_Mo_lowest {L d c : Nat} {π : mj_P} {μ : mj_M} {a b : Nat} {w : Int} (hb : 0 < b) (ha : a < 65536) (hb2 : b < 65536) (Q : mj_Q) : mj_call L d 217 [.inl (a : Int), .inl (b : Int), .inl w] c π μ Q = Q [.inl (vlow a b w)] c π μ := by
  have h1 : 0 < Nat.gcd a b := Nat.gcd_pos_of_pos_right _ hb
  have h2 : a / Nat.gcd a b ≤ a := Nat.div_le_self _ _
  have h3 : b / Nat.gcd a b ≤ b := Nat.div_le_self _ _
  unfold vlow
  generalize hg : Nat.gcd a b = g at *
  refine mj_call_eq ?_ Q
  have key : ∀ (k p q : Nat) (v5 : mj_V), q < k → Nat.gcd p q = g → mj_run L d 217 5 [.inl (a : Int), .inl (b : Int), .inl w, .inl (p : Int), .inl (q : Int), v5] [] c π μ (fun r' c' π' μ' => r' = [.inl (if w = 0 then ((a / g : Nat) : Int) else ((b / g : Nat) : Int))] ∧ c' = c ∧ π' = π ∧ μ' = μ) := by
    intro k
    induction k with
    | zero => intro p q v5 h; omega
    | succ k ih =>
      intro p q v5 h4 h5
      by_cases hq : q = 0
      · subst hq
        rw [Nat.gcd_zero_right] at h5
        subst h5
        refine mj_start ?_
        simp only [mj_go_eq, g_cut, g_k0, g_k1, g_w0, g_w1, g_w2, g_w3, g_w4, g_c1, g_c2, g_c3, g_us, g_ldi_0, g_sti_3, g_ldi_1, g_sti_4, g_ldi_4, g_ifeq, g_ldi_3, g_irem, g_sti_5, g_ldi_5, g_goto, g_ldi_2, g_ifne, g_idiv, g_ret, a_217_0, a_217_1, a_217_2, a_217_3, a_217_5, a_217_7, a_217_10, a_217_11, a_217_13, a_217_14, a_217_16, a_217_18, a_217_19, a_217_21, a_217_23, a_217_26, a_217_27, a_217_30, a_217_31, a_217_32, a_217_33, a_217_36, a_217_37, a_217_38, a_217_39, ne_eq, not_false_eq_true, true_and, and_true, and_self, Int.cast_ofNat_Int, reduceCtorEq, or_false, false_or, not_true_eq_false, or_true, true_or, Int.reduceToNat, Int.reduceAdd, Int.reduceEq, Int.reduceNe, Int.reduceLT, Int.reduceLE, Int.reduceNeg, Int.reduceSub, Int.reduceMul, Nat.reduceAdd, Nat.reduceLT, Nat.reduceLeDiff, Nat.reduceEqDiff, forall_const, false_implies, true_implies, g_td]
        generalize a / p = A at *
        generalize b / p = B at *
        try (simp (disch := omega) only [mj_w_id])
        repeat' (first | intro _ | with_reducible apply And.intro)
        all_goals (first | omega | grind)
      · have h6 := Nat.mod_lt p (show 0 < q by omega)
        have ih2 := ih q (p % q) (.inl ((p % q : Nat) : Int)) (by omega) (by rw [g_gs]; exact h5)
        refine mj_start ?_
        simp only [mj_go_eq, g_cut, g_k0, g_k1, g_w0, g_w1, g_w2, g_w3, g_w4, g_c1, g_c2, g_c3, g_us, g_ldi_0, g_sti_3, g_ldi_1, g_sti_4, g_ldi_4, g_ifeq, g_ldi_3, g_irem, g_sti_5, g_ldi_5, g_goto, g_ldi_2, g_ifne, g_idiv, g_ret, a_217_0, a_217_1, a_217_2, a_217_3, a_217_5, a_217_7, a_217_10, a_217_11, a_217_13, a_217_14, a_217_16, a_217_18, a_217_19, a_217_21, a_217_23, a_217_26, a_217_27, a_217_30, a_217_31, a_217_32, a_217_33, a_217_36, a_217_37, a_217_38, a_217_39, ne_eq, not_false_eq_true, true_and, and_true, and_self, Int.cast_ofNat_Int, reduceCtorEq, or_false, false_or, not_true_eq_false, or_true, true_or, Int.reduceToNat, Int.reduceAdd, Int.reduceEq, Int.reduceNe, Int.reduceLT, Int.reduceLE, Int.reduceNeg, Int.reduceSub, Int.reduceMul, Nat.reduceAdd, Nat.reduceLT, Nat.reduceLeDiff, Nat.reduceEqDiff, forall_const, false_implies, true_implies, g_tm]
        try (simp (disch := omega) only [mj_w_id])
        repeat' (first | intro _ | with_reducible apply And.intro)
        all_goals (first | omega | exact ih2)
  have h0 := key (b + 1) a b (.inr (.inr 0)) (by omega) hg
  simp only [e_217, mj_go_eq, g_cut, g_k0, g_k1, g_w0, g_w1, g_w2, g_w3, g_w4, g_c1, g_c2, g_c3, g_us, g_ldi_0, g_sti_3, g_ldi_1, g_sti_4, g_ldi_4, g_ifeq, g_ldi_3, g_irem, g_sti_5, g_ldi_5, g_goto, g_ldi_2, g_ifne, g_idiv, g_ret, a_217_0, a_217_1, a_217_2, a_217_3, a_217_5, a_217_7, a_217_10, a_217_11, a_217_13, a_217_14, a_217_16, a_217_18, a_217_19, a_217_21, a_217_23, a_217_26, a_217_27, a_217_30, a_217_31, a_217_32, a_217_33, a_217_36, a_217_37, a_217_38, a_217_39, ne_eq, not_false_eq_true, true_and, and_true, and_self, Int.cast_ofNat_Int, reduceCtorEq, or_false, false_or, not_true_eq_false, or_true, true_or, Int.reduceToNat, Int.reduceAdd, Int.reduceEq, Int.reduceNe, Int.reduceLT, Int.reduceLE, Int.reduceNeg, Int.reduceSub, Int.reduceMul, Nat.reduceAdd, Nat.reduceLT, Nat.reduceLeDiff, Nat.reduceEqDiff, forall_const, false_implies, true_implies]
  exact h0
