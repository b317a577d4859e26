set_option maxRecDepth 20000
/-! solve -/
def pr_fr (μ ν : mj_M) : Prop := ∀ q : Nat, (q < 42 ∨ q = 49 ∨ 50 < q) → ν q = μ q
theorem so_loop {L d c x y z : Nat} {μ : mj_M} {ra cb : Int → Int} {Q : mj_Q} (hcb : ∀ t : Int, 0 ≤ t → t < 12 → cb t ≤ 100) (hra : ∀ l : Int, 0 ≤ l → l < 10 → ra l ≤ 100) (hc24 : zs cb 12 ≤ 24)
    (hq : ∀ ν : mj_M, pr_fr μ ν → pq_O (fun l t => μ 49 (l * 12 + t)) (fun l t => μ 51 (l * 12 + t)) ra cb (ν 42 9) (ν 42 10) → Q [] c (pz x y z) ν) :
    ∀ (k i : Nat), i + k = 24 → ∀ (ν : mj_M) (f : Int → Int) (la : Int) (v2 : mj_V), pr_fr μ ν → cs_I (ν 49) (ν 51) ra cb f la (ν 46) (ν 43) (ν 50) (ν 42 9) (ν 42 10) → ν 42 9 = i → mj_run L (d + 3) 46 12 [.inr (.inr 42), .inl (i : Int), v2] [] c (pz x y z) ν Q := by
  intro k
  induction k with
  | zero =>
    intro i hk ν f la v2 hfr hI h9
    have e : i = 24 := by omega
    subst e
    have e49 : ν 49 = μ 49 := hfr 49 (by omega)
    have e51 : ν 51 = μ 51 := hfr 51 (by omega)
    have ho := cs_opt hI (by rw [h9]; exact cs_max2 hc24)
    rw [e49, e51] at ho
    refine mj_start ?_
    simp only [mj_go_eq, g_cut, g_k0, g_k1, g_w0, g_w1, g_w2, g_w3, g_w4, g_c1, g_c2, g_c3, g_us, g_ldr_0, g_const, g_putf, g_sti_1, g_ldi_1, g_icge, g_call1, o_47, g_sti_2, g_ldi_2, g_ifge, g_vret, g_dupi, g_dupr, g_getf, g_iadd, g_getr, g_iald, g_call2, o_51, g_inc_1, g_goto, a_46_0, a_46_1, a_46_2, a_46_5, a_46_6, a_46_7, a_46_10, a_46_11, a_46_12, a_46_13, a_46_15, a_46_18, a_46_19, a_46_22, a_46_23, a_46_24, a_46_27, a_46_28, a_46_29, a_46_30, a_46_33, a_46_34, a_46_35, a_46_38, a_46_39, a_46_40, a_46_43, a_46_44, a_46_47, a_46_48, a_46_49, a_46_50, a_46_53, a_46_54, a_46_55, a_46_58, a_46_61, a_46_64, ne_eq, not_false_eq_true, true_and, and_true, and_self, Int.cast_ofNat_Int, reduceCtorEq, or_false, false_or, not_true_eq_false, or_true, true_or, Int.reduceToNat, Int.reduceAdd, Int.reduceEq, Int.reduceNe, Int.reduceLT, Int.reduceLE, Int.reduceNeg, Int.reduceSub, Int.reduceMul, Nat.reduceAdd, Nat.reduceLT, Nat.reduceLeDiff, Nat.reduceEqDiff, forall_const, false_implies, true_implies, p_1_0, p_1_1, p_1_2, p_1_3, p_1_4, p_1_5, p_1_6, p_1_7, p_1_8, p_1_9, p_2_0, p_4_0, p_4_1, p_4_2, p_4_3, p_4_4, p_4_5, p_5_0, p_5_1, p_5_2, p_5_3, p_5_4, p_5_5, p_12_0, p_12_1, p_12_2, p_12_3, p_12_4, p_18_0, p_18_1, p_18_2, p_18_3, p_23_0, p_23_1, p_23_2, p_23_3, p_23_4, p_31_0, p_31_1, p_31_2, p_31_3, p_36_0, p_36_1, p_36_2, p_36_3, p_36_4, p_42_0, p_42_1, p_42_2, p_42_3, p_42_4, p_42_5, p_42_6, p_42_7, p_42_8, p_52_0, p_52_1, p_52_2, p_52_3, p_52_4, p_52_5, p_52_6, p_58_0, p_58_1, p_58_2, p_62_0, p_62_1, p_62_2, p_62_3, p_67_1, p_67_2, p_67_3, p_67_4, p_67_13, p_67_15, p_67_16, p_67_17, p_67_18, p_67_19, p_67_21, p_67_22, p_67_23, p_67_24, p_67_25, p_67_26, p_67_28, p_67_29, p_67_30, p_67_31, p_67_33, p_67_34, p_67_35, p_67_36, p_67_37, p_67_38, p_67_39, p_67_40, p_67_41, p_67_42, p_67_43, p_67_44, p_67_48, p_67_49, p_67_50, p_67_51, p_67_52, p_67_53, p_67_54, p_67_55, p_x, p_y, p_z, p_sx, p_sy, p_sz, y_1, y_2, y_3, y_4, y_5, y_6, y_7, y_8, y_9, y_10, y_11, y_12, y_13, y_14, y_15, y_16, y_17, y_18, y_19, y_20, y_21, y_22, y_23, y_24, y_25, y_26, y_27, y_28, y_29, y_30, y_31, y_32, y_33, y_34, y_35, y_36, y_37, y_38, y_39, y_40, y_41, y_42, y_43, y_44, y_45, y_46, y_47, y_48, y_49, y_50, y_51, y_52, y_53, y_54, y_55, y_56, y_57, y_58, y_59, y_60, y_61, y_62, y_63, y_64, y_65, y_66, y_67, y_68, y_69, y_70, y_71, y_72, y_73, y_74, y_75, y_76, y_77, y_78, y_79, y_80, y_81, y_82, y_83, y_84, y_85, y_86, y_87, y_88, y_89, y_90, y_91, y_92, y_93, y_94, y_95, y_96, y_97, y_98, y_99, y_100, y_101, y_102, y_103, y_104, y_105, y_106, y_107, y_108, y_109, y_1000, y_1001, y_1002, y_1003]
    exact hq ν hfr ho
  | succ k ih =>
    intro i hk ν f la v2 hfr hI h9
    have e49 : ν 49 = μ 49 := hfr 49 (by omega)
    have e51 : ν 51 = μ 51 := hfr 51 (by omega)
    have hN : cn_N ν f := cs_I_N hI
    have hb : cn_b ν := fun k a1 a2 => ⟨(hI.1 k a1 a2).1, (hI.2.1 k a1 a2).1, (hI.2.1 k a1 a2).2, (hI.1 k a1 a2).2⟩
    obtain ⟨best, g, p, h, q, r, hB, hX, hL, kk⟩ := c_Pa_lastOfBestChain (L := L) (d := d) (c := c) (x := x) (y := y) (z := z) hN hb
    have z1 : ((i : Int) < 24) = True := eq_true (by omega)
    have w1 : mj_w ((i : Int) + 1) = ((i + 1 : Nat) : Int) := by rw [mj_w_id (by omega) (by omega)]; omega
    refine mj_start ?_
    by_cases hb0 : best < 0
    · have y1 := eq_true hb0
      have hL0 : ∀ l : Int, 0 ≤ l → l < 10 → ¬ (0 < ν 46 l ∧ -1000 < h l) := by
        rcases hL with q | q
        · exact q.2
        · omega
      have ho := cs_opt hI (cs_max1 hI hB hX hL0)
      rw [e49, e51] at ho
      simp only [z1, y1, kk, mj_go_eq, g_cut, g_k0, g_k1, g_w0, g_w1, g_w2, g_w3, g_w4, g_c1, g_c2, g_c3, g_us, g_ldr_0, g_const, g_putf, g_sti_1, g_ldi_1, g_icge, g_call1, o_47, g_sti_2, g_ldi_2, g_ifge, g_vret, g_dupi, g_dupr, g_getf, g_iadd, g_getr, g_iald, g_call2, o_51, g_inc_1, g_goto, a_46_0, a_46_1, a_46_2, a_46_5, a_46_6, a_46_7, a_46_10, a_46_11, a_46_12, a_46_13, a_46_15, a_46_18, a_46_19, a_46_22, a_46_23, a_46_24, a_46_27, a_46_28, a_46_29, a_46_30, a_46_33, a_46_34, a_46_35, a_46_38, a_46_39, a_46_40, a_46_43, a_46_44, a_46_47, a_46_48, a_46_49, a_46_50, a_46_53, a_46_54, a_46_55, a_46_58, a_46_61, a_46_64, ne_eq, not_false_eq_true, true_and, and_true, and_self, Int.cast_ofNat_Int, reduceCtorEq, or_false, false_or, not_true_eq_false, or_true, true_or, Int.reduceToNat, Int.reduceAdd, Int.reduceEq, Int.reduceNe, Int.reduceLT, Int.reduceLE, Int.reduceNeg, Int.reduceSub, Int.reduceMul, Nat.reduceAdd, Nat.reduceLT, Nat.reduceLeDiff, Nat.reduceEqDiff, forall_const, false_implies, true_implies, p_1_0, p_1_1, p_1_2, p_1_3, p_1_4, p_1_5, p_1_6, p_1_7, p_1_8, p_1_9, p_2_0, p_4_0, p_4_1, p_4_2, p_4_3, p_4_4, p_4_5, p_5_0, p_5_1, p_5_2, p_5_3, p_5_4, p_5_5, p_12_0, p_12_1, p_12_2, p_12_3, p_12_4, p_18_0, p_18_1, p_18_2, p_18_3, p_23_0, p_23_1, p_23_2, p_23_3, p_23_4, p_31_0, p_31_1, p_31_2, p_31_3, p_36_0, p_36_1, p_36_2, p_36_3, p_36_4, p_42_0, p_42_1, p_42_2, p_42_3, p_42_4, p_42_5, p_42_6, p_42_7, p_42_8, p_52_0, p_52_1, p_52_2, p_52_3, p_52_4, p_52_5, p_52_6, p_58_0, p_58_1, p_58_2, p_62_0, p_62_1, p_62_2, p_62_3, p_67_1, p_67_2, p_67_3, p_67_4, p_67_13, p_67_15, p_67_16, p_67_17, p_67_18, p_67_19, p_67_21, p_67_22, p_67_23, p_67_24, p_67_25, p_67_26, p_67_28, p_67_29, p_67_30, p_67_31, p_67_33, p_67_34, p_67_35, p_67_36, p_67_37, p_67_38, p_67_39, p_67_40, p_67_41, p_67_42, p_67_43, p_67_44, p_67_48, p_67_49, p_67_50, p_67_51, p_67_52, p_67_53, p_67_54, p_67_55, p_x, p_y, p_z, p_sx, p_sy, p_sz, y_1, y_2, y_3, y_4, y_5, y_6, y_7, y_8, y_9, y_10, y_11, y_12, y_13, y_14, y_15, y_16, y_17, y_18, y_19, y_20, y_21, y_22, y_23, y_24, y_25, y_26, y_27, y_28, y_29, y_30, y_31, y_32, y_33, y_34, y_35, y_36, y_37, y_38, y_39, y_40, y_41, y_42, y_43, y_44, y_45, y_46, y_47, y_48, y_49, y_50, y_51, y_52, y_53, y_54, y_55, y_56, y_57, y_58, y_59, y_60, y_61, y_62, y_63, y_64, y_65, y_66, y_67, y_68, y_69, y_70, y_71, y_72, y_73, y_74, y_75, y_76, y_77, y_78, y_79, y_80, y_81, y_82, y_83, y_84, y_85, y_86, y_87, y_88, y_89, y_90, y_91, y_92, y_93, y_94, y_95, y_96, y_97, y_98, y_99, y_100, y_101, y_102, y_103, y_104, y_105, y_106, y_107, y_108, y_109, y_1000, y_1001, y_1002, y_1003]
      refine hq _ (fun q hq' => ?_) ho
      rw [PM_o (by omega) (by omega) (by omega) (by omega)]
      exact hfr q hq'
    · have y1 := eq_false hb0
      have hL0 : (0 ≤ best ∧ best < 10) ∧ -1000 < h best := by
        rcases hL with q | q
        · omega
        · exact ⟨q.1, q.2.2.1⟩
      have hh1 := (pb_le1 (by decide) hN hB (12 + best) (by omega) (by omega)).2
      rw [cn_G_l hL0.1.1] at hh1
      have hK := cs_K hI
      have w2 : mj_w (ν 42 9 + 1) = ν 42 9 + 1 := mj_w_id (by omega) (by omega)
      have w3 : mj_w (ν 42 10 + h best) = ν 42 10 + h best := mj_w_id (by omega) (by omega)
      have y2 : (0 ≤ best) = True := eq_true hL0.1.1
      have y3 : (best < 10) = True := eq_true hL0.1.2
      obtain ⟨ν1, hν1⟩ : ∃ ν1, ν1 = mj_up (mj_up (PM ν g p h q) 42 9 (ν 42 9 + 1)) 42 10 (ν 42 10 + h best) := ⟨_, rfl⟩
      have o1 : ∀ q' : Nat, q' ≠ 42 → ν1 q' = PM ν g p h q q' := fun q' n => by rw [hν1, g_un n, g_un n]
      have f43 : ν1 43 = ν 43 := o1 43 (by decide)
      have f45 : ν1 45 = p := o1 45 (by decide)
      have f46 : ν1 46 = ν 46 := o1 46 (by decide)
      have f48 : ν1 48 = q := o1 48 (by decide)
      have f49 : ν1 49 = ν 49 := o1 49 (by decide)
      have f50 : ν1 50 = ν 50 := o1 50 (by decide)
      have f51 : ν1 51 = ν 51 := o1 51 (by decide)
      have t1 := c_Pa_turn (L := L) (d := d + 2) (c := c) (x := x) (y := y) (z := z) (ν := ν1) (ra := ra) (cb := cb) (f := f) (g := g) (h := h) (r := r) (la := la) (P := ν 42 9) (K := ν 42 10) (last := best)
      unfold cn_B at t1
      rw [f43, f45, f46, f48, f49, f50, f51] at t1
      obtain ⟨a, x', b, f', hI', kt⟩ := t1 hI hB hX hL hL0.1.1 hcb hra
      have m9 : TM ν1 a x' b 42 9 = ν 42 9 + 1 := by rw [TM_42, hν1, g_us, g_pn (by decide), g_us, g_ps]
      have m10 : TM ν1 a x' b 42 10 = ν 42 10 + h best := by rw [TM_42, hν1, g_us, g_ps]
      have i' := ih (i + 1) (by omega) (TM ν1 a x' b) f' (h best) (.inl best) (fun q' hq' => by
        rw [TM_o (by omega) (by omega) (by omega), o1 q' (by omega), PM_o (by omega) (by omega) (by omega) (by omega)]
        exact hfr q' hq') (by
        rw [m9, m10, TM_o (by decide) (by decide) (by decide), TM_o (by decide) (by decide) (by decide), f49, f51]
        exact hI') (by rw [m9]; omega)
      have hup : mj_up (mj_up (PM ν g p h q) 42 9 (ν 42 9 + 1)) 42 10 (ν 42 10 + h best) = ν1 := hν1.symm
      have hr10 : mj_pt (ν 42) 9 (ν 42 9 + 1) 10 = ν 42 10 := g_pn (by decide)
      simp only [w1, w2, z1, y1, y2, y3, kk, PM_42, PM_43, PM_44, PM_45, PM_46, PM_47, PM_48, PM_49, PM_50, PM_51, PM_u44, PM_u45, PM_u47, PM_u48, mj_go_eq, g_cut, g_k0, g_k1, g_w0, g_w1, g_w2, g_w3, g_w4, g_c1, g_c2, g_c3, g_us, g_ldr_0, g_const, g_putf, g_sti_1, g_ldi_1, g_icge, g_call1, o_47, g_sti_2, g_ldi_2, g_ifge, g_vret, g_dupi, g_dupr, g_getf, g_iadd, g_getr, g_iald, g_call2, o_51, g_inc_1, g_goto, a_46_0, a_46_1, a_46_2, a_46_5, a_46_6, a_46_7, a_46_10, a_46_11, a_46_12, a_46_13, a_46_15, a_46_18, a_46_19, a_46_22, a_46_23, a_46_24, a_46_27, a_46_28, a_46_29, a_46_30, a_46_33, a_46_34, a_46_35, a_46_38, a_46_39, a_46_40, a_46_43, a_46_44, a_46_47, a_46_48, a_46_49, a_46_50, a_46_53, a_46_54, a_46_55, a_46_58, a_46_61, a_46_64, ne_eq, not_false_eq_true, true_and, and_true, and_self, Int.cast_ofNat_Int, reduceCtorEq, or_false, false_or, not_true_eq_false, or_true, true_or, Int.reduceToNat, Int.reduceAdd, Int.reduceEq, Int.reduceNe, Int.reduceLT, Int.reduceLE, Int.reduceNeg, Int.reduceSub, Int.reduceMul, Nat.reduceAdd, Nat.reduceLT, Nat.reduceLeDiff, Nat.reduceEqDiff, forall_const, false_implies, true_implies, p_1_0, p_1_1, p_1_2, p_1_3, p_1_4, p_1_5, p_1_6, p_1_7, p_1_8, p_1_9, p_2_0, p_4_0, p_4_1, p_4_2, p_4_3, p_4_4, p_4_5, p_5_0, p_5_1, p_5_2, p_5_3, p_5_4, p_5_5, p_12_0, p_12_1, p_12_2, p_12_3, p_12_4, p_18_0, p_18_1, p_18_2, p_18_3, p_23_0, p_23_1, p_23_2, p_23_3, p_23_4, p_31_0, p_31_1, p_31_2, p_31_3, p_36_0, p_36_1, p_36_2, p_36_3, p_36_4, p_42_0, p_42_1, p_42_2, p_42_3, p_42_4, p_42_5, p_42_6, p_42_7, p_42_8, p_52_0, p_52_1, p_52_2, p_52_3, p_52_4, p_52_5, p_52_6, p_58_0, p_58_1, p_58_2, p_62_0, p_62_1, p_62_2, p_62_3, p_67_1, p_67_2, p_67_3, p_67_4, p_67_13, p_67_15, p_67_16, p_67_17, p_67_18, p_67_19, p_67_21, p_67_22, p_67_23, p_67_24, p_67_25, p_67_26, p_67_28, p_67_29, p_67_30, p_67_31, p_67_33, p_67_34, p_67_35, p_67_36, p_67_37, p_67_38, p_67_39, p_67_40, p_67_41, p_67_42, p_67_43, p_67_44, p_67_48, p_67_49, p_67_50, p_67_51, p_67_52, p_67_53, p_67_54, p_67_55, p_x, p_y, p_z, p_sx, p_sy, p_sz, y_1, y_2, y_3, y_4, y_5, y_6, y_7, y_8, y_9, y_10, y_11, y_12, y_13, y_14, y_15, y_16, y_17, y_18, y_19, y_20, y_21, y_22, y_23, y_24, y_25, y_26, y_27, y_28, y_29, y_30, y_31, y_32, y_33, y_34, y_35, y_36, y_37, y_38, y_39, y_40, y_41, y_42, y_43, y_44, y_45, y_46, y_47, y_48, y_49, y_50, y_51, y_52, y_53, y_54, y_55, y_56, y_57, y_58, y_59, y_60, y_61, y_62, y_63, y_64, y_65, y_66, y_67, y_68, y_69, y_70, y_71, y_72, y_73, y_74, y_75, y_76, y_77, y_78, y_79, y_80, y_81, y_82, y_83, y_84, y_85, y_86, y_87, y_88, y_89, y_90, y_91, y_92, y_93, y_94, y_95, y_96, y_97, y_98, y_99, y_100, y_101, y_102, y_103, y_104, y_105, y_106, y_107, y_108, y_109, y_1000, y_1001, y_1002, y_1003, g_us]
      simp only [w3, hr10, g_un, PM_47, y2, y3, hup, kt, w1, PM_42, PM_43, PM_44, PM_45, PM_46, PM_47, PM_48, PM_49, PM_50, PM_51, PM_u44, PM_u45, PM_u47, PM_u48, mj_go_eq, g_cut, g_k0, g_k1, g_w0, g_w1, g_w2, g_w3, g_w4, g_c1, g_c2, g_c3, g_us, g_ldr_0, g_const, g_putf, g_sti_1, g_ldi_1, g_icge, g_call1, o_47, g_sti_2, g_ldi_2, g_ifge, g_vret, g_dupi, g_dupr, g_getf, g_iadd, g_getr, g_iald, g_call2, o_51, g_inc_1, g_goto, a_46_0, a_46_1, a_46_2, a_46_5, a_46_6, a_46_7, a_46_10, a_46_11, a_46_12, a_46_13, a_46_15, a_46_18, a_46_19, a_46_22, a_46_23, a_46_24, a_46_27, a_46_28, a_46_29, a_46_30, a_46_33, a_46_34, a_46_35, a_46_38, a_46_39, a_46_40, a_46_43, a_46_44, a_46_47, a_46_48, a_46_49, a_46_50, a_46_53, a_46_54, a_46_55, a_46_58, a_46_61, a_46_64, ne_eq, not_false_eq_true, true_and, and_true, and_self, Int.cast_ofNat_Int, reduceCtorEq, or_false, false_or, not_true_eq_false, or_true, true_or, Int.reduceToNat, Int.reduceAdd, Int.reduceEq, Int.reduceNe, Int.reduceLT, Int.reduceLE, Int.reduceNeg, Int.reduceSub, Int.reduceMul, Nat.reduceAdd, Nat.reduceLT, Nat.reduceLeDiff, Nat.reduceEqDiff, forall_const, false_implies, true_implies, p_1_0, p_1_1, p_1_2, p_1_3, p_1_4, p_1_5, p_1_6, p_1_7, p_1_8, p_1_9, p_2_0, p_4_0, p_4_1, p_4_2, p_4_3, p_4_4, p_4_5, p_5_0, p_5_1, p_5_2, p_5_3, p_5_4, p_5_5, p_12_0, p_12_1, p_12_2, p_12_3, p_12_4, p_18_0, p_18_1, p_18_2, p_18_3, p_23_0, p_23_1, p_23_2, p_23_3, p_23_4, p_31_0, p_31_1, p_31_2, p_31_3, p_36_0, p_36_1, p_36_2, p_36_3, p_36_4, p_42_0, p_42_1, p_42_2, p_42_3, p_42_4, p_42_5, p_42_6, p_42_7, p_42_8, p_52_0, p_52_1, p_52_2, p_52_3, p_52_4, p_52_5, p_52_6, p_58_0, p_58_1, p_58_2, p_62_0, p_62_1, p_62_2, p_62_3, p_67_1, p_67_2, p_67_3, p_67_4, p_67_13, p_67_15, p_67_16, p_67_17, p_67_18, p_67_19, p_67_21, p_67_22, p_67_23, p_67_24, p_67_25, p_67_26, p_67_28, p_67_29, p_67_30, p_67_31, p_67_33, p_67_34, p_67_35, p_67_36, p_67_37, p_67_38, p_67_39, p_67_40, p_67_41, p_67_42, p_67_43, p_67_44, p_67_48, p_67_49, p_67_50, p_67_51, p_67_52, p_67_53, p_67_54, p_67_55, p_x, p_y, p_z, p_sx, p_sy, p_sz, y_1, y_2, y_3, y_4, y_5, y_6, y_7, y_8, y_9, y_10, y_11, y_12, y_13, y_14, y_15, y_16, y_17, y_18, y_19, y_20, y_21, y_22, y_23, y_24, y_25, y_26, y_27, y_28, y_29, y_30, y_31, y_32, y_33, y_34, y_35, y_36, y_37, y_38, y_39, y_40, y_41, y_42, y_43, y_44, y_45, y_46, y_47, y_48, y_49, y_50, y_51, y_52, y_53, y_54, y_55, y_56, y_57, y_58, y_59, y_60, y_61, y_62, y_63, y_64, y_65, y_66, y_67, y_68, y_69, y_70, y_71, y_72, y_73, y_74, y_75, y_76, y_77, y_78, y_79, y_80, y_81, y_82, y_83, y_84, y_85, y_86, y_87, y_88, y_89, y_90, y_91, y_92, y_93, y_94, y_95, y_96, y_97, y_98, y_99, y_100, y_101, y_102, y_103, y_104, y_105, y_106, y_107, y_108, y_109, y_1000, y_1001, y_1002, y_1003]
      exact i'
