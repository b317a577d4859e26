set_option maxRecDepth 20000
/-! a day -/
noncomputable def day0 (μ : mj_M) : mj_M := mj_up (mj_up μ 30 (μ 4 7) (zb (fun i => μ 14 i = 2) (μ 12 5).toNat)) 4 7 (μ 4 7 + 1)
noncomputable def dayM0 (ν : mj_M) : mj_M := mj_up (mj_up ν 83 (ν 67 0) (zb (fun i => ν 79 i = 2) (ν 67 20).toNat)) 67 0 (ν 67 0 + 1)
theorem JLt_mono {n d d' : Int} {f g : Int → Int} (h : JLt n d f g) (hd : d ≤ d') : JLt n d' f g := ⟨h.1, h.2.1, fun i => by have := h.2.2 i; omega⟩
theorem JW_day {n d v : Int} {wb : Int → Int} (h : JW n d wb) (hv : zbt v n) : JW n (d + 1) (mj_pt wb d v) := by
  intro i a b
  simp only [g_pe]
  split
  · exact hv
  · exact h i a (by omega)
theorem JJ_day0 {x y : Nat} {μ ν : mj_M} (h : JJ x y μ ν) (hd : μ 4 7 < 99) : JJ x y (day0 μ) (dayM0 ν) := by
  have hn := h.a.n
  unfold JN at hn
  have he := h.en
  have hec := h.ec
  have hw := zb_zbt (fun i => μ 14 i = 2) (n := (μ 12 5).toNat) (by omega)
  rw [show (((μ 12 5).toNat : Nat) : Int) = μ 12 5 by omega] at hw
  have hwb := JW_day h.a.wb hw
  rcases h.a.xy with ⟨rfl, rfl⟩ | ⟨rfl, rfl⟩
  all_goals (
    refine ⟨⟨by decide, ?_, ?_, ?_, ?_, ?_, ?_, ?_, ?_, ?_, ?_⟩, ?_, ?_, ?_, ?_, ?_, ?_, ?_, ?_, ?_, ?_⟩
    all_goals (try unfold day0)
    all_goals (try unfold dayM0)
    all_goals (simp only [g_us, g_un, g_ps, g_pn, if_true, if_false, ne_eq, not_false_eq_true, Nat.reduceEqDiff, Int.reduceEq, reduceCtorEq, mj_pt_pt, mj_pt_id, Int.add_sub_cancel])
    · unfold JN; omega
    · exact h.a.ti
    · exact JC_mono h.a.co (Int.le_refl _) (Int.le_refl _) (by omega)
    · exact hwb
    · exact h.a.li
    · exact JQ_mono h.a.rq (Int.le_refl _) (Int.le_refl _) (by omega)
    · exact JEr_mono h.a.er (Int.le_refl _) (by omega)
    · exact h.a.pc
    · exact h.a.st
    · exact h.a.sc
    · omega
    · exact h.et
    · simp only [hec, he, and_self]
    · exact h.el
    · exact h.eq
    · exact h.ee
    · exact JLt_mono h.lt (by omega)
    · exact h.tp
    · exact h.ru
    · exact h.sh)
noncomputable def dst (μ : mj_M) (x : Nat) (c : Int) : mj_M := if μ (x + 1) 2 ≤ mj_w (μ 4 7 - μ 17 c) then (if μ 14 c = 1 then arr μ c else if μ 14 c = 3 then hom μ x c else μ) else μ
noncomputable def dstM (μ : mj_M) (c : Int) : mj_M := if μ 68 2 ≤ mj_w (μ 67 0 - μ 82 c) then (if μ 79 c = 1 then arrM μ c else if μ 79 c = 3 then homM μ c else μ) else μ
theorem JJ_dst {x y : Nat} {μ ν : mj_M} {c : Int} (h : JJ x y μ ν) (hc : 0 ≤ c ∧ c < μ 12 5) : JJ x y (dst μ x c) (dstM ν c) := by
  have r2 := h.ru.1 2 (by decide) (by decide)
  unfold dst dstM
  rw [r2, h.ec.2.1, h.ec.2.2.2.2.1, h.en.2.2.2.2.2.2.1]
  split
  · split
    · exact JJ_arr h hc (by omega)
    · split
      · exact JJ_hom h hc
      · exact h
  · exact h
theorem FrC_dst (μ : mj_M) (x : Nat) (c : Int) : FrC μ (dst μ x c) := fun q _ _ _ => by
  unfold dst
  split
  · split
    · unfold arr; simp (disch := omega) only [g_un]
    · split
      · unfold hom; simp (disch := omega) only [g_un]
      · rfl
  · rfl
theorem FrM_dst (μ : mj_M) (c : Int) : FrM μ (dstM μ c) := fun q _ _ _ => by
  unfold dstM
  split
  · split
    · unfold arrM; simp (disch := omega) only [g_un]
    · split
      · unfold homM; simp (disch := omega) only [g_un]
      · rfl
  · rfl
noncomputable def dy (μ : mj_M) (x : Nat) : Nat → mj_M
  | 0 => μ
  | n + 1 => dst (dy μ x n) x n
noncomputable def dyM (μ : mj_M) : Nat → mj_M
  | 0 => μ
  | n + 1 => dstM (dyM μ n) n
theorem FrC_dy (μ : mj_M) (x : Nat) : ∀ n, FrC μ (dy μ x n)
  | 0 => FrC_r _
  | n + 1 => FrC_t (FrC_dy μ x n) (FrC_dst _ _ _)
theorem FrM_dy (μ : mj_M) : ∀ n, FrM μ (dyM μ n)
  | 0 => FrM_r _
  | n + 1 => FrM_t (FrM_dy μ n) (FrM_dst _ _)
theorem JJ_dy {x y : Nat} {μ ν : mj_M} (h : JJ x y μ ν) : ∀ n : Nat, n ≤ (μ 12 5).toNat → JJ x y (dy μ x n) (dyM ν n)
  | 0, _ => h
  | n + 1, hn => JJ_dst (JJ_dy h n (by omega)) ⟨by omega, by rw [FrC_dy μ x n 12 (by omega) (by omega) (by omega)]; omega⟩
theorem c_Ho_passDay {L d c x y z : Nat} {μ ν : mj_M} (h0 : JJ x y μ ν) (hd : μ 4 7 < 99) (Q : mj_Q) : mj_call L (d + 2) 29 [.inr (.inr 4)] c (pz x y z) μ Q = Q [] c (pz x y z) (dy (day0 μ) x (μ 12 5).toNat) := by
  have hn := h0.a.n
  unfold JN at hn
  have h := JJ_day0 h0 hd
  have hx := JJ_x h
  have e12 : day0 μ 12 5 = μ 12 5 := rfl
  obtain ⟨n, hm⟩ : ∃ n : Nat, μ 12 5 = n := ⟨(μ 12 5).toNat, by omega⟩
  have hbw := fun Q => c_Co_bitsWithListeners (L := L) (d := d + 1) (c := c) (x := x) (y := y) (z := z) (μ := μ) (by omega) Q
  have hT : (μ 12 5).toNat = n := by omega
  have eD : mj_up (mj_up μ 30 (μ 4 7) (zb (fun i => μ 14 i = 2) n)) 4 7 (μ 4 7 + 1) = day0 μ := by unfold day0; rw [hT]
  rw [hT] at hbw ⊢
  refine mj_call_eq ?_ Q
  have key : ∀ j, j ≤ n → ∀ v2 : mj_V, mj_run L (d + 2) 29 28 [.inr (.inr 4), .inl (j : Int), v2] [] c (pz x y z) (dy (day0 μ) x j) (fun r c' π' μ' => r = [] ∧ c' = c ∧ π' = pz x y z ∧ μ' = dy (day0 μ) x n) := by
    refine mj_down ?_ ?_
    · intro v2
      have e1 : dy (day0 μ) x n 12 = day0 μ 12 := FrC_dy _ x n 12 (by omega) (by omega) (by omega)
      refine mj_start ?_
      simp only [mj_go_eq, g_cut, g_k0, g_k1, g_w0, g_w1, g_w2, g_w3, g_w4, g_c1, g_c2, g_c3, g_us, g_ldr_0, g_getr, g_getf, g_call1, o_8, g_iast, g_dupi, g_dupr, g_const, g_iadd, g_putf, g_sti_1, g_ldi_1, g_icge, g_iald, g_isub, g_iclt, g_goto, g_sti_2, g_ldi_2, g_ifeq, g_icne, g_call2, o_33, o_35, g_inc_1, g_vret, a_29_0, a_29_1, a_29_4, a_29_5, a_29_8, a_29_9, a_29_12, a_29_15, a_29_16, a_29_17, a_29_18, a_29_21, a_29_22, a_29_23, a_29_26, a_29_27, a_29_28, a_29_29, a_29_30, a_29_33, a_29_36, a_29_39, a_29_40, a_29_43, a_29_44, a_29_47, a_29_50, a_29_51, a_29_52, a_29_53, a_29_54, a_29_57, a_29_60, a_29_61, a_29_62, a_29_65, a_29_66, a_29_69, a_29_70, a_29_71, a_29_72, a_29_75, a_29_76, a_29_79, a_29_82, a_29_83, a_29_84, a_29_85, a_29_88, a_29_89, a_29_90, a_29_93, a_29_96, a_29_97, a_29_100, a_29_101, a_29_104, a_29_107, a_29_108, a_29_109, a_29_110, a_29_113, a_29_114, a_29_115, a_29_118, a_29_121, a_29_124, ne_eq, not_false_eq_true, true_and, and_true, and_self, Int.cast_ofNat_Int, reduceCtorEq, or_false, false_or, not_true_eq_false, or_true, true_or, Int.reduceToNat, Int.reduceAdd, Int.reduceEq, Int.reduceNe, Int.reduceLT, Int.reduceLE, Int.reduceNeg, Int.reduceSub, Int.reduceMul, Nat.reduceAdd, Nat.reduceLT, Nat.reduceLeDiff, Nat.reduceEqDiff, forall_const, false_implies, true_implies, p_1_0, p_1_1, p_1_2, p_1_3, p_1_4, p_1_5, p_1_6, p_1_7, p_1_8, p_1_9, p_2_0, p_4_0, p_4_1, p_4_2, p_4_3, p_4_4, p_4_5, p_5_0, p_5_1, p_5_2, p_5_3, p_5_4, p_5_5, p_12_0, p_12_1, p_12_2, p_12_3, p_12_4, p_18_0, p_18_1, p_18_2, p_18_3, p_23_0, p_23_1, p_23_2, p_23_3, p_23_4, p_31_0, p_31_1, p_31_2, p_31_3, p_36_0, p_36_1, p_36_2, p_36_3, p_36_4, p_42_0, p_42_1, p_42_2, p_42_3, p_42_4, p_42_5, p_42_6, p_42_7, p_42_8, p_52_0, p_52_1, p_52_2, p_52_3, p_52_4, p_52_5, p_52_6, p_58_0, p_58_1, p_58_2, p_62_0, p_62_1, p_62_2, p_62_3, p_67_1, p_67_2, p_67_3, p_67_4, p_67_13, p_67_15, p_67_16, p_67_17, p_67_18, p_67_19, p_67_21, p_67_22, p_67_23, p_67_24, p_67_25, p_67_26, p_67_28, p_67_29, p_67_30, p_67_31, p_67_33, p_67_34, p_67_35, p_67_36, p_67_37, p_67_38, p_67_39, p_67_40, p_67_41, p_67_42, p_67_43, p_67_44, p_67_48, p_67_49, p_67_50, p_67_51, p_67_52, p_67_53, p_67_54, p_67_55, p_x, p_y, p_z, p_sx, p_sy, p_sz, y_1, y_2, y_3, y_4, y_5, y_6, y_7, y_8, y_9, y_10, y_11, y_12, y_13, y_14, y_15, y_16, y_17, y_18, y_19, y_20, y_21, y_22, y_23, y_24, y_25, y_26, y_27, y_28, y_29, y_30, y_31, y_32, y_33, y_34, y_35, y_36, y_37, y_38, y_39, y_40, y_41, y_42, y_43, y_44, y_45, y_46, y_47, y_48, y_49, y_50, y_51, y_52, y_53, y_54, y_55, y_56, y_57, y_58, y_59, y_60, y_61, y_62, y_63, y_64, y_65, y_66, y_67, y_68, y_69, y_70, y_71, y_72, y_73, y_74, y_75, y_76, y_77, y_78, y_79, y_80, y_81, y_82, y_83, y_84, y_85, y_86, y_87, y_88, y_89, y_90, y_91, y_92, y_93, y_94, y_95, y_96, y_97, y_98, y_99, y_100, y_101, y_102, y_103, y_104, y_105, y_106, y_107, y_108, y_109, y_1000, y_1001, y_1002, y_1003, e1, e12]
      repeat' (first | intro _ | with_reducible apply And.intro)
      all_goals (first | omega | trivial)
    · intro j hj ih
      intro v2
      have hj1 := JJ_dy h j (by rw [e12]; omega)
      have e1 : dy (day0 μ) x j 12 = day0 μ 12 := FrC_dy _ x j 12 (by omega) (by omega) (by omega)
      have hco := hj1.a.co.1 j (by omega) (by rw [e1, e12]; omega)
      have hn2 := hj1.a.n
      unfold JN at hn2
      have ih2 : ∀ v2, mj_run L (d + 2) 29 28 [.inr (.inr 4), .inl ((j : Int) + 1), v2] [] c (pz x y z) (dst (dy (day0 μ) x j) x j) (fun r c' π' μ' => r = [] ∧ c' = c ∧ π' = pz x y z ∧ μ' = dy (day0 μ) x n) := fun v2 => ih v2
      clear ih
      have e1b := e1
      generalize dy (day0 μ) x j = ρ at *
      generalize dy (day0 μ) x n = σ at *
      unfold dst at ih2
      have w0 : mj_w (ρ 4 7 - ρ 17 j) = ρ 4 7 - ρ 17 j := mj_w_id (by omega) (by omega)
      rw [w0] at ih2
      refine mj_start ?_
      by_cases hdue : ρ (x + 1) 2 ≤ ρ 4 7 - ρ 17 j
      · by_cases h1 : ρ 14 j = 1
        · have ha := fun Q => c_Ho_arrive (L := L) (d := d) (c0 := c) (x := x) (y := y) (z := z) (μ := ρ) (c := j) (by omega) (by omega) (by omega) (by omega) Q
          simp only [hdue, h1, if_true, if_false] at ih2
          simp only [yx0 hx, yx1 hx, yx2 hx, yx3 hx, yx4 hx, px0 hx, px1 hx, px2 hx, px3 hx, w0, hdue, h1, ha, e1, e12, hm, mj_go_eq, g_cut, g_k0, g_k1, g_w0, g_w1, g_w2, g_w3, g_w4, g_c1, g_c2, g_c3, g_us, g_ldr_0, g_getr, g_getf, g_call1, o_8, g_iast, g_dupi, g_dupr, g_const, g_iadd, g_putf, g_sti_1, g_ldi_1, g_icge, g_iald, g_isub, g_iclt, g_goto, g_sti_2, g_ldi_2, g_ifeq, g_icne, g_call2, o_33, o_35, g_inc_1, g_vret, a_29_0, a_29_1, a_29_4, a_29_5, a_29_8, a_29_9, a_29_12, a_29_15, a_29_16, a_29_17, a_29_18, a_29_21, a_29_22, a_29_23, a_29_26, a_29_27, a_29_28, a_29_29, a_29_30, a_29_33, a_29_36, a_29_39, a_29_40, a_29_43, a_29_44, a_29_47, a_29_50, a_29_51, a_29_52, a_29_53, a_29_54, a_29_57, a_29_60, a_29_61, a_29_62, a_29_65, a_29_66, a_29_69, a_29_70, a_29_71, a_29_72, a_29_75, a_29_76, a_29_79, a_29_82, a_29_83, a_29_84, a_29_85, a_29_88, a_29_89, a_29_90, a_29_93, a_29_96, a_29_97, a_29_100, a_29_101, a_29_104, a_29_107, a_29_108, a_29_109, a_29_110, a_29_113, a_29_114, a_29_115, a_29_118, a_29_121, a_29_124, ne_eq, not_false_eq_true, true_and, and_true, and_self, Int.cast_ofNat_Int, reduceCtorEq, or_false, false_or, not_true_eq_false, or_true, true_or, Int.reduceToNat, Int.reduceAdd, Int.reduceEq, Int.reduceNe, Int.reduceLT, Int.reduceLE, Int.reduceNeg, Int.reduceSub, Int.reduceMul, Nat.reduceAdd, Nat.reduceLT, Nat.reduceLeDiff, Nat.reduceEqDiff, forall_const, false_implies, true_implies, p_1_0, p_1_1, p_1_2, p_1_3, p_1_4, p_1_5, p_1_6, p_1_7, p_1_8, p_1_9, p_2_0, p_4_0, p_4_1, p_4_2, p_4_3, p_4_4, p_4_5, p_5_0, p_5_1, p_5_2, p_5_3, p_5_4, p_5_5, p_12_0, p_12_1, p_12_2, p_12_3, p_12_4, p_18_0, p_18_1, p_18_2, p_18_3, p_23_0, p_23_1, p_23_2, p_23_3, p_23_4, p_31_0, p_31_1, p_31_2, p_31_3, p_36_0, p_36_1, p_36_2, p_36_3, p_36_4, p_42_0, p_42_1, p_42_2, p_42_3, p_42_4, p_42_5, p_42_6, p_42_7, p_42_8, p_52_0, p_52_1, p_52_2, p_52_3, p_52_4, p_52_5, p_52_6, p_58_0, p_58_1, p_58_2, p_62_0, p_62_1, p_62_2, p_62_3, p_67_1, p_67_2, p_67_3, p_67_4, p_67_13, p_67_15, p_67_16, p_67_17, p_67_18, p_67_19, p_67_21, p_67_22, p_67_23, p_67_24, p_67_25, p_67_26, p_67_28, p_67_29, p_67_30, p_67_31, p_67_33, p_67_34, p_67_35, p_67_36, p_67_37, p_67_38, p_67_39, p_67_40, p_67_41, p_67_42, p_67_43, p_67_44, p_67_48, p_67_49, p_67_50, p_67_51, p_67_52, p_67_53, p_67_54, p_67_55, p_x, p_y, p_z, p_sx, p_sy, p_sz, y_1, y_2, y_3, y_4, y_5, y_6, y_7, y_8, y_9, y_10, y_11, y_12, y_13, y_14, y_15, y_16, y_17, y_18, y_19, y_20, y_21, y_22, y_23, y_24, y_25, y_26, y_27, y_28, y_29, y_30, y_31, y_32, y_33, y_34, y_35, y_36, y_37, y_38, y_39, y_40, y_41, y_42, y_43, y_44, y_45, y_46, y_47, y_48, y_49, y_50, y_51, y_52, y_53, y_54, y_55, y_56, y_57, y_58, y_59, y_60, y_61, y_62, y_63, y_64, y_65, y_66, y_67, y_68, y_69, y_70, y_71, y_72, y_73, y_74, y_75, y_76, y_77, y_78, y_79, y_80, y_81, y_82, y_83, y_84, y_85, y_86, y_87, y_88, y_89, y_90, y_91, y_92, y_93, y_94, y_95, y_96, y_97, y_98, y_99, y_100, y_101, y_102, y_103, y_104, y_105, y_106, y_107, y_108, y_109, y_1000, y_1001, y_1002, y_1003]
          try (simp (disch := omega) only [mj_w_id])
          repeat' (first | intro _ | with_reducible apply And.intro)
          all_goals (first | omega | exact ih2 _)
        · by_cases h3 : ρ 14 j = 3
          · have ha := fun Q => c_Ho_comeHome (L := L) (d := d) (c0 := c) (x := x) (y := y) (z := z) (μ := ρ) (c := j) hx (by omega) Q
            simp only [hdue, h3, if_true, if_false, Int.reduceEq] at ih2
            simp only [yx0 hx, yx1 hx, yx2 hx, yx3 hx, yx4 hx, px0 hx, px1 hx, px2 hx, px3 hx, w0, hdue, h3, ha, e1, e12, hm, mj_go_eq, g_cut, g_k0, g_k1, g_w0, g_w1, g_w2, g_w3, g_w4, g_c1, g_c2, g_c3, g_us, g_ldr_0, g_getr, g_getf, g_call1, o_8, g_iast, g_dupi, g_dupr, g_const, g_iadd, g_putf, g_sti_1, g_ldi_1, g_icge, g_iald, g_isub, g_iclt, g_goto, g_sti_2, g_ldi_2, g_ifeq, g_icne, g_call2, o_33, o_35, g_inc_1, g_vret, a_29_0, a_29_1, a_29_4, a_29_5, a_29_8, a_29_9, a_29_12, a_29_15, a_29_16, a_29_17, a_29_18, a_29_21, a_29_22, a_29_23, a_29_26, a_29_27, a_29_28, a_29_29, a_29_30, a_29_33, a_29_36, a_29_39, a_29_40, a_29_43, a_29_44, a_29_47, a_29_50, a_29_51, a_29_52, a_29_53, a_29_54, a_29_57, a_29_60, a_29_61, a_29_62, a_29_65, a_29_66, a_29_69, a_29_70, a_29_71, a_29_72, a_29_75, a_29_76, a_29_79, a_29_82, a_29_83, a_29_84, a_29_85, a_29_88, a_29_89, a_29_90, a_29_93, a_29_96, a_29_97, a_29_100, a_29_101, a_29_104, a_29_107, a_29_108, a_29_109, a_29_110, a_29_113, a_29_114, a_29_115, a_29_118, a_29_121, a_29_124, ne_eq, not_false_eq_true, true_and, and_true, and_self, Int.cast_ofNat_Int, reduceCtorEq, or_false, false_or, not_true_eq_false, or_true, true_or, Int.reduceToNat, Int.reduceAdd, Int.reduceEq, Int.reduceNe, Int.reduceLT, Int.reduceLE, Int.reduceNeg, Int.reduceSub, Int.reduceMul, Nat.reduceAdd, Nat.reduceLT, Nat.reduceLeDiff, Nat.reduceEqDiff, forall_const, false_implies, true_implies, p_1_0, p_1_1, p_1_2, p_1_3, p_1_4, p_1_5, p_1_6, p_1_7, p_1_8, p_1_9, p_2_0, p_4_0, p_4_1, p_4_2, p_4_3, p_4_4, p_4_5, p_5_0, p_5_1, p_5_2, p_5_3, p_5_4, p_5_5, p_12_0, p_12_1, p_12_2, p_12_3, p_12_4, p_18_0, p_18_1, p_18_2, p_18_3, p_23_0, p_23_1, p_23_2, p_23_3, p_23_4, p_31_0, p_31_1, p_31_2, p_31_3, p_36_0, p_36_1, p_36_2, p_36_3, p_36_4, p_42_0, p_42_1, p_42_2, p_42_3, p_42_4, p_42_5, p_42_6, p_42_7, p_42_8, p_52_0, p_52_1, p_52_2, p_52_3, p_52_4, p_52_5, p_52_6, p_58_0, p_58_1, p_58_2, p_62_0, p_62_1, p_62_2, p_62_3, p_67_1, p_67_2, p_67_3, p_67_4, p_67_13, p_67_15, p_67_16, p_67_17, p_67_18, p_67_19, p_67_21, p_67_22, p_67_23, p_67_24, p_67_25, p_67_26, p_67_28, p_67_29, p_67_30, p_67_31, p_67_33, p_67_34, p_67_35, p_67_36, p_67_37, p_67_38, p_67_39, p_67_40, p_67_41, p_67_42, p_67_43, p_67_44, p_67_48, p_67_49, p_67_50, p_67_51, p_67_52, p_67_53, p_67_54, p_67_55, p_x, p_y, p_z, p_sx, p_sy, p_sz, y_1, y_2, y_3, y_4, y_5, y_6, y_7, y_8, y_9, y_10, y_11, y_12, y_13, y_14, y_15, y_16, y_17, y_18, y_19, y_20, y_21, y_22, y_23, y_24, y_25, y_26, y_27, y_28, y_29, y_30, y_31, y_32, y_33, y_34, y_35, y_36, y_37, y_38, y_39, y_40, y_41, y_42, y_43, y_44, y_45, y_46, y_47, y_48, y_49, y_50, y_51, y_52, y_53, y_54, y_55, y_56, y_57, y_58, y_59, y_60, y_61, y_62, y_63, y_64, y_65, y_66, y_67, y_68, y_69, y_70, y_71, y_72, y_73, y_74, y_75, y_76, y_77, y_78, y_79, y_80, y_81, y_82, y_83, y_84, y_85, y_86, y_87, y_88, y_89, y_90, y_91, y_92, y_93, y_94, y_95, y_96, y_97, y_98, y_99, y_100, y_101, y_102, y_103, y_104, y_105, y_106, y_107, y_108, y_109, y_1000, y_1001, y_1002, y_1003]
            try (simp (disch := omega) only [mj_w_id])
            repeat' (first | intro _ | with_reducible apply And.intro)
            all_goals (first | omega | exact ih2 _)
          · simp only [hdue, h1, h3, if_true, if_false] at ih2
            simp only [yx0 hx, yx1 hx, yx2 hx, yx3 hx, yx4 hx, px0 hx, px1 hx, px2 hx, px3 hx, w0, hdue, h1, h3, e1, e12, hm, mj_go_eq, g_cut, g_k0, g_k1, g_w0, g_w1, g_w2, g_w3, g_w4, g_c1, g_c2, g_c3, g_us, g_ldr_0, g_getr, g_getf, g_call1, o_8, g_iast, g_dupi, g_dupr, g_const, g_iadd, g_putf, g_sti_1, g_ldi_1, g_icge, g_iald, g_isub, g_iclt, g_goto, g_sti_2, g_ldi_2, g_ifeq, g_icne, g_call2, o_33, o_35, g_inc_1, g_vret, a_29_0, a_29_1, a_29_4, a_29_5, a_29_8, a_29_9, a_29_12, a_29_15, a_29_16, a_29_17, a_29_18, a_29_21, a_29_22, a_29_23, a_29_26, a_29_27, a_29_28, a_29_29, a_29_30, a_29_33, a_29_36, a_29_39, a_29_40, a_29_43, a_29_44, a_29_47, a_29_50, a_29_51, a_29_52, a_29_53, a_29_54, a_29_57, a_29_60, a_29_61, a_29_62, a_29_65, a_29_66, a_29_69, a_29_70, a_29_71, a_29_72, a_29_75, a_29_76, a_29_79, a_29_82, a_29_83, a_29_84, a_29_85, a_29_88, a_29_89, a_29_90, a_29_93, a_29_96, a_29_97, a_29_100, a_29_101, a_29_104, a_29_107, a_29_108, a_29_109, a_29_110, a_29_113, a_29_114, a_29_115, a_29_118, a_29_121, a_29_124, ne_eq, not_false_eq_true, true_and, and_true, and_self, Int.cast_ofNat_Int, reduceCtorEq, or_false, false_or, not_true_eq_false, or_true, true_or, Int.reduceToNat, Int.reduceAdd, Int.reduceEq, Int.reduceNe, Int.reduceLT, Int.reduceLE, Int.reduceNeg, Int.reduceSub, Int.reduceMul, Nat.reduceAdd, Nat.reduceLT, Nat.reduceLeDiff, Nat.reduceEqDiff, forall_const, false_implies, true_implies, p_1_0, p_1_1, p_1_2, p_1_3, p_1_4, p_1_5, p_1_6, p_1_7, p_1_8, p_1_9, p_2_0, p_4_0, p_4_1, p_4_2, p_4_3, p_4_4, p_4_5, p_5_0, p_5_1, p_5_2, p_5_3, p_5_4, p_5_5, p_12_0, p_12_1, p_12_2, p_12_3, p_12_4, p_18_0, p_18_1, p_18_2, p_18_3, p_23_0, p_23_1, p_23_2, p_23_3, p_23_4, p_31_0, p_31_1, p_31_2, p_31_3, p_36_0, p_36_1, p_36_2, p_36_3, p_36_4, p_42_0, p_42_1, p_42_2, p_42_3, p_42_4, p_42_5, p_42_6, p_42_7, p_42_8, p_52_0, p_52_1, p_52_2, p_52_3, p_52_4, p_52_5, p_52_6, p_58_0, p_58_1, p_58_2, p_62_0, p_62_1, p_62_2, p_62_3, p_67_1, p_67_2, p_67_3, p_67_4, p_67_13, p_67_15, p_67_16, p_67_17, p_67_18, p_67_19, p_67_21, p_67_22, p_67_23, p_67_24, p_67_25, p_67_26, p_67_28, p_67_29, p_67_30, p_67_31, p_67_33, p_67_34, p_67_35, p_67_36, p_67_37, p_67_38, p_67_39, p_67_40, p_67_41, p_67_42, p_67_43, p_67_44, p_67_48, p_67_49, p_67_50, p_67_51, p_67_52, p_67_53, p_67_54, p_67_55, p_x, p_y, p_z, p_sx, p_sy, p_sz, y_1, y_2, y_3, y_4, y_5, y_6, y_7, y_8, y_9, y_10, y_11, y_12, y_13, y_14, y_15, y_16, y_17, y_18, y_19, y_20, y_21, y_22, y_23, y_24, y_25, y_26, y_27, y_28, y_29, y_30, y_31, y_32, y_33, y_34, y_35, y_36, y_37, y_38, y_39, y_40, y_41, y_42, y_43, y_44, y_45, y_46, y_47, y_48, y_49, y_50, y_51, y_52, y_53, y_54, y_55, y_56, y_57, y_58, y_59, y_60, y_61, y_62, y_63, y_64, y_65, y_66, y_67, y_68, y_69, y_70, y_71, y_72, y_73, y_74, y_75, y_76, y_77, y_78, y_79, y_80, y_81, y_82, y_83, y_84, y_85, y_86, y_87, y_88, y_89, y_90, y_91, y_92, y_93, y_94, y_95, y_96, y_97, y_98, y_99, y_100, y_101, y_102, y_103, y_104, y_105, y_106, y_107, y_108, y_109, y_1000, y_1001, y_1002, y_1003]
            try (simp (disch := omega) only [mj_w_id])
            repeat' (first | intro _ | with_reducible apply And.intro)
            all_goals (first | omega | exact ih2 _)
      · simp only [hdue, if_false] at ih2
        have hdue2 : ρ 4 7 - ρ 17 j < ρ (x + 1) 2 := by omega
        simp only [yx0 hx, yx1 hx, yx2 hx, yx3 hx, yx4 hx, px0 hx, px1 hx, px2 hx, px3 hx, w0, hdue, hdue2, e1, e12, hm, mj_go_eq, g_cut, g_k0, g_k1, g_w0, g_w1, g_w2, g_w3, g_w4, g_c1, g_c2, g_c3, g_us, g_ldr_0, g_getr, g_getf, g_call1, o_8, g_iast, g_dupi, g_dupr, g_const, g_iadd, g_putf, g_sti_1, g_ldi_1, g_icge, g_iald, g_isub, g_iclt, g_goto, g_sti_2, g_ldi_2, g_ifeq, g_icne, g_call2, o_33, o_35, g_inc_1, g_vret, a_29_0, a_29_1, a_29_4, a_29_5, a_29_8, a_29_9, a_29_12, a_29_15, a_29_16, a_29_17, a_29_18, a_29_21, a_29_22, a_29_23, a_29_26, a_29_27, a_29_28, a_29_29, a_29_30, a_29_33, a_29_36, a_29_39, a_29_40, a_29_43, a_29_44, a_29_47, a_29_50, a_29_51, a_29_52, a_29_53, a_29_54, a_29_57, a_29_60, a_29_61, a_29_62, a_29_65, a_29_66, a_29_69, a_29_70, a_29_71, a_29_72, a_29_75, a_29_76, a_29_79, a_29_82, a_29_83, a_29_84, a_29_85, a_29_88, a_29_89, a_29_90, a_29_93, a_29_96, a_29_97, a_29_100, a_29_101, a_29_104, a_29_107, a_29_108, a_29_109, a_29_110, a_29_113, a_29_114, a_29_115, a_29_118, a_29_121, a_29_124, ne_eq, not_false_eq_true, true_and, and_true, and_self, Int.cast_ofNat_Int, reduceCtorEq, or_false, false_or, not_true_eq_false, or_true, true_or, Int.reduceToNat, Int.reduceAdd, Int.reduceEq, Int.reduceNe, Int.reduceLT, Int.reduceLE, Int.reduceNeg, Int.reduceSub, Int.reduceMul, Nat.reduceAdd, Nat.reduceLT, Nat.reduceLeDiff, Nat.reduceEqDiff, forall_const, false_implies, true_implies, p_1_0, p_1_1, p_1_2, p_1_3, p_1_4, p_1_5, p_1_6, p_1_7, p_1_8, p_1_9, p_2_0, p_4_0, p_4_1, p_4_2, p_4_3, p_4_4, p_4_5, p_5_0, p_5_1, p_5_2, p_5_3, p_5_4, p_5_5, p_12_0, p_12_1, p_12_2, p_12_3, p_12_4, p_18_0, p_18_1, p_18_2, p_18_3, p_23_0, p_23_1, p_23_2, p_23_3, p_23_4, p_31_0, p_31_1, p_31_2, p_31_3, p_36_0, p_36_1, p_36_2, p_36_3, p_36_4, p_42_0, p_42_1, p_42_2, p_42_3, p_42_4, p_42_5, p_42_6, p_42_7, p_42_8, p_52_0, p_52_1, p_52_2, p_52_3, p_52_4, p_52_5, p_52_6, p_58_0, p_58_1, p_58_2, p_62_0, p_62_1, p_62_2, p_62_3, p_67_1, p_67_2, p_67_3, p_67_4, p_67_13, p_67_15, p_67_16, p_67_17, p_67_18, p_67_19, p_67_21, p_67_22, p_67_23, p_67_24, p_67_25, p_67_26, p_67_28, p_67_29, p_67_30, p_67_31, p_67_33, p_67_34, p_67_35, p_67_36, p_67_37, p_67_38, p_67_39, p_67_40, p_67_41, p_67_42, p_67_43, p_67_44, p_67_48, p_67_49, p_67_50, p_67_51, p_67_52, p_67_53, p_67_54, p_67_55, p_x, p_y, p_z, p_sx, p_sy, p_sz, y_1, y_2, y_3, y_4, y_5, y_6, y_7, y_8, y_9, y_10, y_11, y_12, y_13, y_14, y_15, y_16, y_17, y_18, y_19, y_20, y_21, y_22, y_23, y_24, y_25, y_26, y_27, y_28, y_29, y_30, y_31, y_32, y_33, y_34, y_35, y_36, y_37, y_38, y_39, y_40, y_41, y_42, y_43, y_44, y_45, y_46, y_47, y_48, y_49, y_50, y_51, y_52, y_53, y_54, y_55, y_56, y_57, y_58, y_59, y_60, y_61, y_62, y_63, y_64, y_65, y_66, y_67, y_68, y_69, y_70, y_71, y_72, y_73, y_74, y_75, y_76, y_77, y_78, y_79, y_80, y_81, y_82, y_83, y_84, y_85, y_86, y_87, y_88, y_89, y_90, y_91, y_92, y_93, y_94, y_95, y_96, y_97, y_98, y_99, y_100, y_101, y_102, y_103, y_104, y_105, y_106, y_107, y_108, y_109, y_1000, y_1001, y_1002, y_1003]
        try (simp (disch := omega) only [mj_w_id])
        repeat' (first | intro _ | with_reducible apply And.intro)
        all_goals (first | omega | exact ih2 _)
  have k0 := key 0 (Nat.zero_le _) (.inr (.inr 0))
  generalize dy (day0 μ) x n = σ at *
  simp only [hbw, e_29, mj_go_eq, g_cut, g_k0, g_k1, g_w0, g_w1, g_w2, g_w3, g_w4, g_c1, g_c2, g_c3, g_us, g_ldr_0, g_getr, g_getf, g_call1, o_8, g_iast, g_dupi, g_dupr, g_const, g_iadd, g_putf, g_sti_1, g_ldi_1, g_icge, g_iald, g_isub, g_iclt, g_goto, g_sti_2, g_ldi_2, g_ifeq, g_icne, g_call2, o_33, o_35, g_inc_1, g_vret, a_29_0, a_29_1, a_29_4, a_29_5, a_29_8, a_29_9, a_29_12, a_29_15, a_29_16, a_29_17, a_29_18, a_29_21, a_29_22, a_29_23, a_29_26, a_29_27, a_29_28, a_29_29, a_29_30, a_29_33, a_29_36, a_29_39, a_29_40, a_29_43, a_29_44, a_29_47, a_29_50, a_29_51, a_29_52, a_29_53, a_29_54, a_29_57, a_29_60, a_29_61, a_29_62, a_29_65, a_29_66, a_29_69, a_29_70, a_29_71, a_29_72, a_29_75, a_29_76, a_29_79, a_29_82, a_29_83, a_29_84, a_29_85, a_29_88, a_29_89, a_29_90, a_29_93, a_29_96, a_29_97, a_29_100, a_29_101, a_29_104, a_29_107, a_29_108, a_29_109, a_29_110, a_29_113, a_29_114, a_29_115, a_29_118, a_29_121, a_29_124, ne_eq, not_false_eq_true, true_and, and_true, and_self, Int.cast_ofNat_Int, reduceCtorEq, or_false, false_or, not_true_eq_false, or_true, true_or, Int.reduceToNat, Int.reduceAdd, Int.reduceEq, Int.reduceNe, Int.reduceLT, Int.reduceLE, Int.reduceNeg, Int.reduceSub, Int.reduceMul, Nat.reduceAdd, Nat.reduceLT, Nat.reduceLeDiff, Nat.reduceEqDiff, forall_const, false_implies, true_implies, p_1_0, p_1_1, p_1_2, p_1_3, p_1_4, p_1_5, p_1_6, p_1_7, p_1_8, p_1_9, p_2_0, p_4_0, p_4_1, p_4_2, p_4_3, p_4_4, p_4_5, p_5_0, p_5_1, p_5_2, p_5_3, p_5_4, p_5_5, p_12_0, p_12_1, p_12_2, p_12_3, p_12_4, p_18_0, p_18_1, p_18_2, p_18_3, p_23_0, p_23_1, p_23_2, p_23_3, p_23_4, p_31_0, p_31_1, p_31_2, p_31_3, p_36_0, p_36_1, p_36_2, p_36_3, p_36_4, p_42_0, p_42_1, p_42_2, p_42_3, p_42_4, p_42_5, p_42_6, p_42_7, p_42_8, p_52_0, p_52_1, p_52_2, p_52_3, p_52_4, p_52_5, p_52_6, p_58_0, p_58_1, p_58_2, p_62_0, p_62_1, p_62_2, p_62_3, p_67_1, p_67_2, p_67_3, p_67_4, p_67_13, p_67_15, p_67_16, p_67_17, p_67_18, p_67_19, p_67_21, p_67_22, p_67_23, p_67_24, p_67_25, p_67_26, p_67_28, p_67_29, p_67_30, p_67_31, p_67_33, p_67_34, p_67_35, p_67_36, p_67_37, p_67_38, p_67_39, p_67_40, p_67_41, p_67_42, p_67_43, p_67_44, p_67_48, p_67_49, p_67_50, p_67_51, p_67_52, p_67_53, p_67_54, p_67_55, p_x, p_y, p_z, p_sx, p_sy, p_sz, y_1, y_2, y_3, y_4, y_5, y_6, y_7, y_8, y_9, y_10, y_11, y_12, y_13, y_14, y_15, y_16, y_17, y_18, y_19, y_20, y_21, y_22, y_23, y_24, y_25, y_26, y_27, y_28, y_29, y_30, y_31, y_32, y_33, y_34, y_35, y_36, y_37, y_38, y_39, y_40, y_41, y_42, y_43, y_44, y_45, y_46, y_47, y_48, y_49, y_50, y_51, y_52, y_53, y_54, y_55, y_56, y_57, y_58, y_59, y_60, y_61, y_62, y_63, y_64, y_65, y_66, y_67, y_68, y_69, y_70, y_71, y_72, y_73, y_74, y_75, y_76, y_77, y_78, y_79, y_80, y_81, y_82, y_83, y_84, y_85, y_86, y_87, y_88, y_89, y_90, y_91, y_92, y_93, y_94, y_95, y_96, y_97, y_98, y_99, y_100, y_101, y_102, y_103, y_104, y_105, y_106, y_107, y_108, y_109, y_1000, y_1001, y_1002, y_1003, g_us, g_un, g_ps, g_pn, if_true, if_false]
  try (simp (disch := omega) only [mj_w_id])
  simp only [eD]
  repeat' (first | intro _ | with_reducible apply And.intro)
  all_goals (first | omega | exact k0)
