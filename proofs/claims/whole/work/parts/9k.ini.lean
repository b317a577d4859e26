set_option maxRecDepth 40000
theorem c_fgP_31 {L d c : Nat} {π : mj_P} {μ : mj_M} (h0 : π 31 0 = 32) (h1 : π 31 1 = 33) (h2 : π 31 2 = 34) (h3 : π 31 3 = 35) (Q : mj_Q) : mj_call L (d + 1) 73 [.inr (.inr 31)] c π μ Q = Q [] c π (fgt μ 31) := by
  refine mj_call_eq ?_ Q
  unfold fgt
  simp only [Nat.reduceAdd]
  have key : ∀ j : Nat, j ≤ 5 → mj_run L (d + 1) 73 2 [.inr (.inr 31), .inl (j : Int)] [] c π (mj_ua μ 32 (zcp (μ 32) 0 j (μ 1003))) (fun r c' π' μ' => r = [] ∧ c' = c ∧ π' = π ∧ μ' = mj_ua (mj_ua (mj_up (mj_up (mj_ua μ 32 (zcp (μ 32) 0 5 (μ 1003))) 33 0 0) 31 4 1) 34 (zfl (μ 34) 0 12 (-4))) 35 (zfl (μ 35) 0 12 (-4))) := by
    refine mj_down ?_ ?_
    · have f1 := fun μ Q => c_Jx_fill (L := L) (d := d) (c := c) (k := 33) (n := 12) (π := π) (μ := μ) (v := -4) (y_34 L) (by decide) (by decide) Q
      have f2 := fun μ Q => c_Jx_fill (L := L) (d := d) (c := c) (k := 34) (n := 12) (π := π) (μ := μ) (v := -4) (y_35 L) (by decide) (by decide) Q
      simp only [Nat.reduceAdd] at f1 f2
      refine mj_start ?_
      simp only [f1, f2, h0, h1, h2, h3, mj_go_eq, g_cut, g_k0, g_k1, g_w0, g_w1, g_w2, g_w3, g_w4, g_c1, g_c2, g_c3, g_us, g_const, g_sti_1, g_ldi_1, g_icge, g_ldr_0, g_getr, g_gets, g_iald, g_iast, g_inc_1, g_goto, g_putf, g_call2, o_236, g_vret, a_73_0, a_73_1, a_73_2, a_73_3, a_73_4, a_73_7, a_73_8, a_73_11, a_73_12, a_73_15, a_73_16, a_73_17, a_73_18, a_73_21, a_73_24, a_73_25, a_73_28, a_73_29, a_73_30, a_73_31, a_73_32, a_73_33, a_73_36, a_73_37, a_73_40, a_73_42, a_73_45, a_73_46, a_73_49, a_73_51, a_73_54, ne_eq, not_false_eq_true, true_and, and_true, and_self, Int.cast_ofNat_Int, reduceCtorEq, or_false, false_or, not_true_eq_false, or_true, true_or, Int.reduceToNat, Int.reduceAdd, Int.reduceEq, Int.reduceNe, Int.reduceLT, Int.reduceLE, Int.reduceNeg, Int.reduceSub, Int.reduceMul, Nat.reduceAdd, Nat.reduceLT, Nat.reduceLeDiff, Nat.reduceEqDiff, forall_const, false_implies, true_implies, y_1, y_2, y_3, y_4, y_5, y_6, y_7, y_8, y_9, y_10, y_11, y_12, y_13, y_14, y_15, y_16, y_17, y_18, y_19, y_20, y_21, y_22, y_23, y_24, y_25, y_26, y_27, y_28, y_29, y_30, y_31, y_32, y_33, y_34, y_35, y_36, y_37, y_38, y_39, y_40, y_41, y_42, y_43, y_44, y_45, y_46, y_47, y_48, y_49, y_50, y_51, y_52, y_53, y_54, y_55, y_56, y_57, y_58, y_59, y_60, y_61, y_62, y_63, y_64, y_65, y_66, y_67, y_68, y_69, y_70, y_71, y_72, y_73, y_74, y_75, y_76, y_77, y_78, y_79, y_80, y_81, y_82, y_83, y_84, y_85, y_86, y_87, y_88, y_89, y_90, y_91, y_92, y_93, y_94, y_95, y_96, y_97, y_98, y_99, y_100, y_101, y_102, y_103, y_104, y_105, y_106, y_107, y_108, y_109, y_1000, y_1001, y_1002, y_1003, g_us, g_un, g_ps, g_pn, if_true, if_false, g_as, g_an]
    · intro j hj ih
      have w0 := zcp_s (f := μ 32) (a := 0) (j := j) (g := μ 1003) (by omega)
      rw [Int.zero_add] at w0
      rw [Int.natCast_succ, ← w0] at ih
      refine mj_start ?_
      simp only [h0, h1, h2, h3, mj_go_eq, g_cut, g_k0, g_k1, g_w0, g_w1, g_w2, g_w3, g_w4, g_c1, g_c2, g_c3, g_us, g_const, g_sti_1, g_ldi_1, g_icge, g_ldr_0, g_getr, g_gets, g_iald, g_iast, g_inc_1, g_goto, g_putf, g_call2, o_236, g_vret, a_73_0, a_73_1, a_73_2, a_73_3, a_73_4, a_73_7, a_73_8, a_73_11, a_73_12, a_73_15, a_73_16, a_73_17, a_73_18, a_73_21, a_73_24, a_73_25, a_73_28, a_73_29, a_73_30, a_73_31, a_73_32, a_73_33, a_73_36, a_73_37, a_73_40, a_73_42, a_73_45, a_73_46, a_73_49, a_73_51, a_73_54, ne_eq, not_false_eq_true, true_and, and_true, and_self, Int.cast_ofNat_Int, reduceCtorEq, or_false, false_or, not_true_eq_false, or_true, true_or, Int.reduceToNat, Int.reduceAdd, Int.reduceEq, Int.reduceNe, Int.reduceLT, Int.reduceLE, Int.reduceNeg, Int.reduceSub, Int.reduceMul, Nat.reduceAdd, Nat.reduceLT, Nat.reduceLeDiff, Nat.reduceEqDiff, forall_const, false_implies, true_implies, y_1, y_2, y_3, y_4, y_5, y_6, y_7, y_8, y_9, y_10, y_11, y_12, y_13, y_14, y_15, y_16, y_17, y_18, y_19, y_20, y_21, y_22, y_23, y_24, y_25, y_26, y_27, y_28, y_29, y_30, y_31, y_32, y_33, y_34, y_35, y_36, y_37, y_38, y_39, y_40, y_41, y_42, y_43, y_44, y_45, y_46, y_47, y_48, y_49, y_50, y_51, y_52, y_53, y_54, y_55, y_56, y_57, y_58, y_59, y_60, y_61, y_62, y_63, y_64, y_65, y_66, y_67, y_68, y_69, y_70, y_71, y_72, y_73, y_74, y_75, y_76, y_77, y_78, y_79, y_80, y_81, y_82, y_83, y_84, y_85, y_86, y_87, y_88, y_89, y_90, y_91, y_92, y_93, y_94, y_95, y_96, y_97, y_98, y_99, y_100, y_101, y_102, y_103, y_104, y_105, y_106, y_107, y_108, y_109, y_1000, y_1001, y_1002, y_1003, g_as, g_an, g_au]
      try (simp (disch := omega) only [mj_w_id])
      repeat' (first | intro _ | with_reducible apply And.intro)
      all_goals (first | omega | exact ih)
  have k0 := key 0 (Nat.zero_le _)
  rw [Int.natCast_zero, zcp_0, g_aid] at k0
  simp only [e_73, mj_go_eq, g_cut, g_k0, g_k1, g_w0, g_w1, g_w2, g_w3, g_w4, g_c1, g_c2, g_c3, g_us, g_const, g_sti_1, g_ldi_1, g_icge, g_ldr_0, g_getr, g_gets, g_iald, g_iast, g_inc_1, g_goto, g_putf, g_call2, o_236, g_vret, a_73_0, a_73_1, a_73_2, a_73_3, a_73_4, a_73_7, a_73_8, a_73_11, a_73_12, a_73_15, a_73_16, a_73_17, a_73_18, a_73_21, a_73_24, a_73_25, a_73_28, a_73_29, a_73_30, a_73_31, a_73_32, a_73_33, a_73_36, a_73_37, a_73_40, a_73_42, a_73_45, a_73_46, a_73_49, a_73_51, a_73_54, ne_eq, not_false_eq_true, true_and, and_true, and_self, Int.cast_ofNat_Int, reduceCtorEq, or_false, false_or, not_true_eq_false, or_true, true_or, Int.reduceToNat, Int.reduceAdd, Int.reduceEq, Int.reduceNe, Int.reduceLT, Int.reduceLE, Int.reduceNeg, Int.reduceSub, Int.reduceMul, Nat.reduceAdd, Nat.reduceLT, Nat.reduceLeDiff, Nat.reduceEqDiff, forall_const, false_implies, true_implies]
  exact k0
theorem c_fgP_62 {L d c : Nat} {π : mj_P} {μ : mj_M} (h0 : π 62 0 = 63) (h1 : π 62 1 = 64) (h2 : π 62 2 = 65) (h3 : π 62 3 = 66) (Q : mj_Q) : mj_call L (d + 1) 73 [.inr (.inr 62)] c π μ Q = Q [] c π (fgt μ 62) := by
  refine mj_call_eq ?_ Q
  unfold fgt
  simp only [Nat.reduceAdd]
  have key : ∀ j : Nat, j ≤ 5 → mj_run L (d + 1) 73 2 [.inr (.inr 62), .inl (j : Int)] [] c π (mj_ua μ 63 (zcp (μ 63) 0 j (μ 1003))) (fun r c' π' μ' => r = [] ∧ c' = c ∧ π' = π ∧ μ' = mj_ua (mj_ua (mj_up (mj_up (mj_ua μ 63 (zcp (μ 63) 0 5 (μ 1003))) 64 0 0) 62 4 1) 65 (zfl (μ 65) 0 12 (-4))) 66 (zfl (μ 66) 0 12 (-4))) := by
    refine mj_down ?_ ?_
    · have f1 := fun μ Q => c_Jx_fill (L := L) (d := d) (c := c) (k := 64) (n := 12) (π := π) (μ := μ) (v := -4) (y_65 L) (by decide) (by decide) Q
      have f2 := fun μ Q => c_Jx_fill (L := L) (d := d) (c := c) (k := 65) (n := 12) (π := π) (μ := μ) (v := -4) (y_66 L) (by decide) (by decide) Q
      simp only [Nat.reduceAdd] at f1 f2
      refine mj_start ?_
      simp only [f1, f2, h0, h1, h2, h3, mj_go_eq, g_cut, g_k0, g_k1, g_w0, g_w1, g_w2, g_w3, g_w4, g_c1, g_c2, g_c3, g_us, g_const, g_sti_1, g_ldi_1, g_icge, g_ldr_0, g_getr, g_gets, g_iald, g_iast, g_inc_1, g_goto, g_putf, g_call2, o_236, g_vret, a_73_0, a_73_1, a_73_2, a_73_3, a_73_4, a_73_7, a_73_8, a_73_11, a_73_12, a_73_15, a_73_16, a_73_17, a_73_18, a_73_21, a_73_24, a_73_25, a_73_28, a_73_29, a_73_30, a_73_31, a_73_32, a_73_33, a_73_36, a_73_37, a_73_40, a_73_42, a_73_45, a_73_46, a_73_49, a_73_51, a_73_54, ne_eq, not_false_eq_true, true_and, and_true, and_self, Int.cast_ofNat_Int, reduceCtorEq, or_false, false_or, not_true_eq_false, or_true, true_or, Int.reduceToNat, Int.reduceAdd, Int.reduceEq, Int.reduceNe, Int.reduceLT, Int.reduceLE, Int.reduceNeg, Int.reduceSub, Int.reduceMul, Nat.reduceAdd, Nat.reduceLT, Nat.reduceLeDiff, Nat.reduceEqDiff, forall_const, false_implies, true_implies, y_1, y_2, y_3, y_4, y_5, y_6, y_7, y_8, y_9, y_10, y_11, y_12, y_13, y_14, y_15, y_16, y_17, y_18, y_19, y_20, y_21, y_22, y_23, y_24, y_25, y_26, y_27, y_28, y_29, y_30, y_31, y_32, y_33, y_34, y_35, y_36, y_37, y_38, y_39, y_40, y_41, y_42, y_43, y_44, y_45, y_46, y_47, y_48, y_49, y_50, y_51, y_52, y_53, y_54, y_55, y_56, y_57, y_58, y_59, y_60, y_61, y_62, y_63, y_64, y_65, y_66, y_67, y_68, y_69, y_70, y_71, y_72, y_73, y_74, y_75, y_76, y_77, y_78, y_79, y_80, y_81, y_82, y_83, y_84, y_85, y_86, y_87, y_88, y_89, y_90, y_91, y_92, y_93, y_94, y_95, y_96, y_97, y_98, y_99, y_100, y_101, y_102, y_103, y_104, y_105, y_106, y_107, y_108, y_109, y_1000, y_1001, y_1002, y_1003, g_us, g_un, g_ps, g_pn, if_true, if_false, g_as, g_an]
    · intro j hj ih
      have w0 := zcp_s (f := μ 63) (a := 0) (j := j) (g := μ 1003) (by omega)
      rw [Int.zero_add] at w0
      rw [Int.natCast_succ, ← w0] at ih
      refine mj_start ?_
      simp only [h0, h1, h2, h3, mj_go_eq, g_cut, g_k0, g_k1, g_w0, g_w1, g_w2, g_w3, g_w4, g_c1, g_c2, g_c3, g_us, g_const, g_sti_1, g_ldi_1, g_icge, g_ldr_0, g_getr, g_gets, g_iald, g_iast, g_inc_1, g_goto, g_putf, g_call2, o_236, g_vret, a_73_0, a_73_1, a_73_2, a_73_3, a_73_4, a_73_7, a_73_8, a_73_11, a_73_12, a_73_15, a_73_16, a_73_17, a_73_18, a_73_21, a_73_24, a_73_25, a_73_28, a_73_29, a_73_30, a_73_31, a_73_32, a_73_33, a_73_36, a_73_37, a_73_40, a_73_42, a_73_45, a_73_46, a_73_49, a_73_51, a_73_54, ne_eq, not_false_eq_true, true_and, and_true, and_self, Int.cast_ofNat_Int, reduceCtorEq, or_false, false_or, not_true_eq_false, or_true, true_or, Int.reduceToNat, Int.reduceAdd, Int.reduceEq, Int.reduceNe, Int.reduceLT, Int.reduceLE, Int.reduceNeg, Int.reduceSub, Int.reduceMul, Nat.reduceAdd, Nat.reduceLT, Nat.reduceLeDiff, Nat.reduceEqDiff, forall_const, false_implies, true_implies, y_1, y_2, y_3, y_4, y_5, y_6, y_7, y_8, y_9, y_10, y_11, y_12, y_13, y_14, y_15, y_16, y_17, y_18, y_19, y_20, y_21, y_22, y_23, y_24, y_25, y_26, y_27, y_28, y_29, y_30, y_31, y_32, y_33, y_34, y_35, y_36, y_37, y_38, y_39, y_40, y_41, y_42, y_43, y_44, y_45, y_46, y_47, y_48, y_49, y_50, y_51, y_52, y_53, y_54, y_55, y_56, y_57, y_58, y_59, y_60, y_61, y_62, y_63, y_64, y_65, y_66, y_67, y_68, y_69, y_70, y_71, y_72, y_73, y_74, y_75, y_76, y_77, y_78, y_79, y_80, y_81, y_82, y_83, y_84, y_85, y_86, y_87, y_88, y_89, y_90, y_91, y_92, y_93, y_94, y_95, y_96, y_97, y_98, y_99, y_100, y_101, y_102, y_103, y_104, y_105, y_106, y_107, y_108, y_109, y_1000, y_1001, y_1002, y_1003, g_as, g_an, g_au]
      try (simp (disch := omega) only [mj_w_id])
      repeat' (first | intro _ | with_reducible apply And.intro)
      all_goals (first | omega | exact ih)
  have k0 := key 0 (Nat.zero_le _)
  rw [Int.natCast_zero, zcp_0, g_aid] at k0
  simp only [e_73, mj_go_eq, g_cut, g_k0, g_k1, g_w0, g_w1, g_w2, g_w3, g_w4, g_c1, g_c2, g_c3, g_us, g_const, g_sti_1, g_ldi_1, g_icge, g_ldr_0, g_getr, g_gets, g_iald, g_iast, g_inc_1, g_goto, g_putf, g_call2, o_236, g_vret, a_73_0, a_73_1, a_73_2, a_73_3, a_73_4, a_73_7, a_73_8, a_73_11, a_73_12, a_73_15, a_73_16, a_73_17, a_73_18, a_73_21, a_73_24, a_73_25, a_73_28, a_73_29, a_73_30, a_73_31, a_73_32, a_73_33, a_73_36, a_73_37, a_73_40, a_73_42, a_73_45, a_73_46, a_73_49, a_73_51, a_73_54, ne_eq, not_false_eq_true, true_and, and_true, and_self, Int.cast_ofNat_Int, reduceCtorEq, or_false, false_or, not_true_eq_false, or_true, true_or, Int.reduceToNat, Int.reduceAdd, Int.reduceEq, Int.reduceNe, Int.reduceLT, Int.reduceLE, Int.reduceNeg, Int.reduceSub, Int.reduceMul, Nat.reduceAdd, Nat.reduceLT, Nat.reduceLeDiff, Nat.reduceEqDiff, forall_const, false_implies, true_implies]
  exact k0
def FR (c : Nat) (π : mj_P) (μ : mj_M) : Prop := ∀ k : Nat, c ≤ mj_ix k → k < 1000 → (∀ j, π k j = 0) ∧ (∀ j, μ k j = 0)
theorem FR_m {c c' : Nat} {π : mj_P} {μ : mj_M} (h : FR c π μ) (hc : c ≤ c') : FR c' π μ := fun k a b => h k (by omega) b
theorem FR_pp {c k n r : Nat} {π : mj_P} {μ : mj_M} (h : FR c π μ) (hk : mj_ix k < c) : FR c (mj_pp π k n r) μ := fun q a b => ⟨fun j => by
  have hq : q ≠ k := by rintro rfl; omega
  rw [g_ppn (fun e => hq e.1)]; exact (h q a b).1 j, (h q a b).2⟩
theorem FR_ua {c k : Nat} {f : Int → Int} {π : mj_P} {μ : mj_M} (h : FR c π μ) (hk : mj_ix k < c) : FR c π (mj_ua μ k f) := fun q a b => ⟨(h q a b).1, fun j => by
  have hq : q ≠ k := by rintro rfl; omega
  rw [g_an hq]; exact (h q a b).2 j⟩
theorem FR_fg {c w : Nat} {π : mj_P} {μ : mj_M} (h : FR c π μ) (hk : mj_ix (w + 4) < c) (hw : w < 100) : FR c π (fgt μ w) := fun q a b => ⟨(h q a b).1, fun j => by
  have h1 := mj_ix_cs q
  have h2 := mj_ix_cs (w + 4)
  rw [fgt_o (by omega)]; exact (h q a b).2 j⟩
theorem FR_new {L c k n : Nat} {π : mj_P} {μ : mj_M} (h : FR c π μ) (hl : mj_lay L (mj_nm c) = (k, n)) (hc : c < 1000) : mj_new L c π μ k n := by
  have h1 : c ≤ mj_ix (mj_nm c) := by rw [mj_ix_nm]; exact Nat.le_refl _
  have h2 : mj_nm c < 1000 := by have := mj_nm_cs c; omega
  exact ⟨hl, hc, (h _ h1 h2).1, (h _ h1 h2).2⟩
noncomputable def ppL : List ((Nat × Nat) × Nat) → mj_P → mj_P
  | [], π => π
  | x :: l, π => mj_pp (ppL l π) x.1.1 x.1.2 x.2
theorem ppL_at (l : List ((Nat × Nat) × Nat)) (π : mj_P) (k i : Nat) : ppL l π k i = (l.lookup (k, i)).getD (π k i) := by
  induction l with
  | nil => rfl
  | cons x l ih =>
    obtain ⟨⟨a, b⟩, v⟩ := x
    show mj_pp (ppL l π) a b v k i = _
    rw [List.lookup_cons]
    by_cases h : k = a ∧ i = b
    · obtain ⟨rfl, rfl⟩ := h
      rw [g_pps]
      simp
    · rw [g_ppn h, ih]
      have : ((k, i) == (a, b)) = false := by
        rw [beq_eq_false_iff_ne]
        intro e
        exact h (by simpa using e)
      rw [this]
