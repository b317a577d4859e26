set_option maxRecDepth 20000
theorem RD_first {μ M : mj_M} {y : Nat} (hy : y = 31 ∨ y = 62) (hst : JST (μ 1001) (μ 1002) (μ 1003)) (r : Int → Int) (h69 : M 69 = frs r) : RD y (fgt μ y) M := by
  obtain ⟨_, _, u0, u1, u2, u3, u4⟩ := hst
  have e1 : fgt μ y (y + 1) = zcp (μ (y + 1)) 0 5 (μ 1003) := by unfold fgt; rw [g_an (by omega), g_an (by omega), g_un (by omega), g_un (by omega), g_as]
  have e2 : fgt μ y (y + 2) = mj_pt (μ (y + 2)) 0 0 := by unfold fgt; rw [g_an (by omega), g_an (by omega), g_un (by omega), g_us, g_an (by omega)]
  have e3 : fgt μ y (y + 3) = zfl (μ (y + 3)) 0 12 (-4) := by unfold fgt; rw [g_an (by omega), g_as]
  have e4 : fgt μ y (y + 4) = zfl (μ (y + 4)) 0 12 (-4) := by unfold fgt; rw [g_as]
  have e0 : fgt μ y y 4 = 1 := by unfold fgt; rw [g_an (by omega), g_an (by omega), g_us, g_ps]
  have zc5 : ∀ i : Int, 0 ≤ i → i < 5 → zcp (μ (y + 1)) 0 5 (μ 1003) i = μ 1003 i := fun i a b => by unfold zcp; rw [if_pos (by omega), Int.sub_zero]
  have f12 : ∀ (h : Int → Int) (i : Int), 0 ≤ i → i < 12 → zfl h 0 12 (-4) i = -4 := fun h i a b => by unfold zfl; rw [if_pos (by omega)]
  have zz : ∀ i : Int, 0 ≤ i → i < 35 → zcp r 0 35 (fun k => if k < 11 then 0 else -4) i = if i < 11 then 0 else -4 := fun i a b => by unfold zcp; rw [if_pos (by omega), Int.sub_zero]
  unfold RD JRu
  rw [e0, e1, e2, e3, e4, h69]
  unfold frs
  refine ⟨fun i a b => ?_, ?_, fun i a b => ?_, fun i a b => ?_, ?_, by decide, fun i a b => ?_, fun i a b => ?_⟩
  · rw [zc5 i a b]
    have : i = 0 ∨ i = 1 ∨ i = 2 ∨ i = 3 ∨ i = 4 := by omega
    rcases this with rfl | rfl | rfl | rfl | rfl
    · simp only [g_ps, g_pn, ne_eq, Int.reduceEq, not_false_eq_true]; exact u0.symm
    · simp only [g_ps, g_pn, ne_eq, Int.reduceEq, not_false_eq_true]; exact u1.symm
    · simp only [g_ps, g_pn, ne_eq, Int.reduceEq, not_false_eq_true]; exact u2.symm
    · simp only [g_ps, g_pn, ne_eq, Int.reduceEq, not_false_eq_true]; exact u3.symm
    · simp only [g_ps, g_pn, ne_eq, Int.reduceEq, not_false_eq_true]; rw [zz 4 (by decide) (by decide), u4]; rfl
  · rw [g_ps]
  · have : i = 0 := by omega
    subst this
    simp only [g_ps, g_pn, ne_eq, Int.reduceEq, not_false_eq_true, Int.add_zero]
    rw [zz 6 (by decide) (by decide)]; rfl
  · rw [f12 _ i a b, f12 _ i a b, g_pn (by omega), g_pn (by omega), g_pn (by omega), g_pn (by omega), g_pn (by omega), g_pn (by omega), g_pn (by omega), g_pn (by omega), g_pn (by omega), g_pn (by omega), zz _ (by omega) (by omega), zz _ (by omega) (by omega), if_neg (by omega), if_neg (by omega)]
    exact ⟨rfl, rfl⟩
  · rw [zc5 0 (by decide) (by decide), zc5 1 (by decide) (by decide), zc5 2 (by decide) (by decide), zc5 3 (by decide) (by decide), zc5 4 (by decide) (by decide)]
    omega
  · have : i = 0 := by omega
    subst this
    rw [g_ps]
    exact Or.inl (by decide)
  · rw [f12 _ i a b]
    exact Or.inl rfl
theorem k_rules {L x y z : Nat} {μ : mj_M} (hJ : J x y μ) : KK L 110 166 [] x y z μ := by
  have hn := hJ.a.n; have he := hJ.en; have hti := hJ.a.ti; have hco := hJ.a.co; have hli := hJ.a.li; have hrq := hJ.a.rq; have her := hJ.a.er
  have het := hJ.et; have hec := hJ.ec; have hel := hJ.el; have heq := hJ.eq; have hee := hJ.ee
  have hx : x = 31 ∨ x = 62 := by have := hJ.a.xy; omega
  unfold JN at hn; unfold JT at hti; unfold JC at hco; unfold JL at hli; unfold JQ at hrq; unfold JEr at her
  have hy : y = 31 ∨ y = 62 := by have := hJ.a.xy; omega
  have hb : TB (μ 3) (μ 71) := hJ.tp
  have hst := hJ.a.st
  have hcr := fun Q => c_Ta_read (L := L) (d := 89) (c := 110) (x := x) (y := y) (z := z) (μ := μ) (t := μ 71) hy hb (by omega) Q
  have pf : PF (rf0 μ) := by
    unfold PF rf0
    simp only [g_us, g_un, g_ps, g_pn, if_true, if_false, ne_eq, not_false_eq_true, Nat.reduceEqDiff, Int.reduceEq, reduceCtorEq, mj_pt_pt, mj_pt_id, Int.add_sub_cancel]
    omega
  have f2 : rf0 μ 2 = 0 := by unfold rf0; simp only [g_us, g_un, g_ps, g_pn, if_true, if_false, ne_eq, not_false_eq_true, Nat.reduceEqDiff, Int.reduceEq, reduceCtorEq, mj_pt_pt, mj_pt_id, Int.add_sub_cancel]
  have f5 : rf0 μ 5 = 0 := by unfold rf0; simp only [g_us, g_un, g_ps, g_pn, if_true, if_false, ne_eq, not_false_eq_true, Nat.reduceEqDiff, Int.reduceEq, reduceCtorEq, mj_pt_pt, mj_pt_id, Int.add_sub_cancel]
  have f1 : rf0 μ 1 = μ 2 1 := by unfold rf0; simp only [g_us, g_un, g_ps, g_pn, if_true, if_false, ne_eq, not_false_eq_true, Nat.reduceEqDiff, Int.reduceEq, reduceCtorEq, mj_pt_pt, mj_pt_id, Int.add_sub_cancel]
  have f4 : rf0 μ 4 = 0 := by unfold rf0; simp only [g_us, g_un, g_ps, g_pn, if_true, if_false, ne_eq, not_false_eq_true, Nat.reduceEqDiff, Int.reduceEq, reduceCtorEq, mj_pt_pt, mj_pt_id, Int.add_sub_cancel]
  obtain ⟨G0, hG0⟩ : ∃ G0, G0 = mj_pt (mj_pt (μ 67) 10 0) 6 0 := ⟨_, rfl⟩
  have G5 : G0 5 = μ 2 1 := by rw [hG0, g_pn (by decide), g_pn (by decide)]; omega
  have G10 : G0 10 = 0 := by rw [hG0, g_pn (by decide), g_ps]
  have G6 : G0 6 = 0 := by rw [hG0, g_ps]
  have hrt := RT_next0 (f := rf0 μ) (g := G0) hb ⟨f2, G10, by omega, by omega, by omega, by omega, by omega⟩
  have n1 : nxf (μ 3) (rf0 μ) 1 = μ 2 1 := by rw [nxf_o _ _ (by decide), f1]
  have n4 : nxf (μ 3) (rf0 μ) 4 = 0 := by rw [nxf_4, f4]
  have hpx0 : PX 0 (μ 2 1) (mj_pt (rf0 μ) 7 0) := ⟨by rw [g_pn (by decide)]; exact f1, by omega, fun _ => by rw [g_pn (by decide), f5]; omega, by rw [g_ps]; decide, by rw [g_pn (by decide), f5]; decide⟩
  have n7 : 0 ≤ nxf (μ 3) (rf0 μ) 7 ∧ nxf (μ 3) (rf0 μ) 7 ≤ 200 := by
    rw [nxf_7 f2, f1, f5]
    have := zadv_bd (tsp (μ 3)) (μ 2 1) 200 0
    omega
  have hpf1 := PF_next hb pf
  have hpx : PX (nxf (μ 3) (rf0 μ) 5) (nxf (μ 3) (rf0 μ) 1) (nxf (μ 3) (rf0 μ)) := ⟨rfl, by rw [n1]; omega, fun q => hpf1.2 q, n7, Int.le_refl _⟩
  have e3 : fgt μ y 3 = μ 3 := fgt_o (by omega)
  have hrp := rd_p (t := μ 71) hy 200 (fgt μ y) (nxf (μ 3) (rf0 μ)) 0 (nxf (μ 3) (rf0 μ) 5) (nxf (μ 3) (rf0 μ) 1) (by rw [e3]; exact hb) hpx (Int.le_refl _)
  have hR : rd y 200 (fgt μ y) (nxf (μ 3) (rf0 μ)) 0 = rdA μ y := rfl
  rw [hR] at hrp
  generalize hRR : rdA μ y = R at *
  obtain ⟨p1, p2, p3⟩ := hrp
  obtain ⟨M1, hM1⟩ : ∃ M1, M1 = mj_ua R.1 2 (mj_pt R.2.1 1 0) := ⟨_, rfl⟩
  rw [← hM1] at hcr
  have m1 : ∀ q : Nat, q ≠ 2 → ¬ (y ≤ q ∧ q ≤ y + 4) → M1 q = μ q := fun q a b => by rw [hM1, g_an a, p3 q b]; exact fgt_o b
  have m12 : M1 2 = mj_pt R.2.1 1 0 := by rw [hM1, g_as]
  have m1y : ∀ q : Nat, q ≠ 2 → M1 q = R.1 q := fun q a => by rw [hM1, g_an a]
  have e67 : M1 67 = μ 67 := m1 67 (by decide) (by omega)
  have e71 : M1 71 = μ 71 := m1 71 (by decide) (by omega)
  obtain ⟨N1, hN1⟩ : ∃ N1, N1 = mj_ua (mj_ua M1 69 (frs (M1 69))) 70 (zfl (M1 70) 0 6 0) := ⟨_, rfl⟩
  have n1q : ∀ q, q ≠ 69 → q ≠ 70 → N1 q = M1 q := fun q a b => by rw [hN1, g_an b, g_an a]
  have n171 : N1 71 = μ 71 := by rw [n1q 71 (by decide) (by decide), e71]
  have hkn := fun Q => m_next (L := L) (d := 94) (c := 110) (x := x) (y := y) (z := y) (ν := N1) (g := G0) ⟨by omega, by omega, fun _ => by omega⟩ (by rw [n171]; exact fun i => (hb i).2.1) Q
  have hkn' := fun Q => m_next (L := L) (d := 94) (c := 110) (x := y) (y := x) (z := y) (ν := N1) (g := G0) ⟨by omega, by omega, fun _ => by omega⟩ (by rw [n171]; exact fun i => (hb i).2.1) Q
  rw [n171] at hkn hkn'
  have eA : mj_up (mj_up M1 67 10 0) 67 6 0 = mj_ua M1 67 G0 := by
    rw [show mj_up M1 67 10 0 = mj_ua M1 67 (mj_pt (M1 67) 10 0) from g_uua, g_au, e67, hG0]
  have hfr := fun π Q => c_Mo_firstRules (L := L) (d := 98) (c := 110) (k := 68) (π := π) (μ := mj_ua M1 67 G0) (y_69 L) (by decide) Q
  simp only [Nat.reduceAdd] at hfr
  have eB : mj_ua (mj_ua (mj_ua M1 67 G0) 69 (frs (mj_ua M1 67 G0 69))) 70 (zfl (mj_ua (mj_ua M1 67 G0) 69 (frs (mj_ua M1 67 G0 69)) 70) 0 6 0) = mj_ua N1 67 G0 := by
    rw [hN1, g_an (show (69 : Nat) ≠ 67 by decide), g_an (show (70 : Nat) ≠ 69 by decide), g_an (show (70 : Nat) ≠ 67 by decide), g_aa (show (67 : Nat) ≠ 69 by decide), g_aa (show (67 : Nat) ≠ 70 by decide)]
  have hRD : RD y (fgt μ y) N1 := RD_first hy hst (M1 69) (by rw [hN1, g_an (by decide), g_as])
  have hTo : RTo (nxf (μ 3) (rf0 μ) 4) N1 := by
    rw [n4]
    refine ⟨0, rfl, by decide, fun k hk => ?_⟩
    rw [hN1, g_as]
    unfold zfl
    rw [if_pos (by omega), Nat.zero_div]
    rfl
  have o1 : ∀ q : Nat, 1000 ≤ q → fgt μ y q = μ q := fun q a => fgt_o (by omega)
  have gso : ∀ i, ¬ (6 ≤ i ∧ i ≤ 11) → nxg (μ 71) G0 i = μ 67 i := fun i hi => by rw [nxg_o _ _ hi, hG0, g_pn (by omega), g_pn (by omega)]
  have run : ∀ (x' y' : Nat) (P : mj_Q), (∀ (ν' : mj_M) (g' : Int → Int) (n' : Int), RT R.2.1 g' → (∀ q, q ≠ 69 → q ≠ 70 → ν' q = N1 q) → (∀ i, ¬ (6 ≤ i ∧ i ≤ 11) → g' i = nxg (μ 71) G0 i) → (R.2.1 2 = 0 → n' = R.2.2 ∧ RD y R.1 ν') → mj_go L 99 166 68 [.inr (.inr 67), .inl n', .inl 6] [] 110 (pz x' y' y) (mj_ua ν' 67 g') P) → mj_call L 99 166 [.inr (.inr 67)] 110 (pz x' y' y) M1 P := fun x' y' P hX => by
    have hs := s_rd (L := L) (d := 92) (c := 110) (x := x') (y := y') (w := y) hy (Q := P) (v2 := .inl 6) (R := R) (ν0 := N1) (g0 := nxg (μ 71) G0) hX 200 (fgt μ y) N1 (nxf (μ 3) (rf0 μ)) (nxg (μ 71) G0) 0 (by rw [e3, n171]; exact hb) (by rw [o1 1001 (by decide), o1 1002 (by decide), o1 1003 (by decide)]; exact hst) hrt.1 hpx (fun _ => ⟨hRD, hTo⟩) (fun q1 q2 => by
      have := hrt.2.2 q1 q2
      rw [n1]
      omega) (by decide) (fun _ _ _ => rfl) (fun _ _ => rfl) hR
    have hkn2 := fun Q => m_next (L := L) (d := 94) (c := 110) (x := x') (y := y') (z := y) (ν := N1) (g := G0) ⟨by omega, by omega, fun _ => by omega⟩ (by rw [n171]; exact fun i => (hb i).2.1) Q
    rw [n171] at hkn2
    have lt := l_told (L := L) (d := 99) (c := 110) (x := x') (y := y') (z := y) (μ := mj_ua (mj_ua M1 67 G0) 69 (frs (mj_ua M1 67 G0 69))) (Q := P) (n := 0) (by
      rw [eB]
      simp only [hkn2, mj_go_eq, g_cut, g_k0, g_k1, g_w0, g_w1, g_w2, g_w3, g_w4, g_c1, g_c2, g_c3, g_us, g_const, g_sti_1, g_ldr_0, g_putf, g_getr, g_call1, o_150, g_sti_2, g_ldi_2, g_icge, g_bast, g_inc_2, g_goto, o_158, g_getf, g_ifne, g_ifeq, o_165, g_inc_1, g_ifle, g_isub, g_ret, g_iald, g_iast, g_ldi_1, a_166_0, a_166_1, a_166_2, a_166_3, a_166_4, a_166_7, a_166_8, a_166_9, a_166_12, a_166_13, a_166_16, a_166_19, a_166_20, a_166_21, a_166_22, a_166_24, a_166_27, a_166_28, a_166_31, a_166_32, a_166_33, a_166_34, a_166_37, a_166_40, a_166_41, a_166_44, a_166_45, a_166_48, a_166_51, a_166_52, a_166_55, a_166_58, a_166_59, a_166_62, a_166_65, a_166_68, a_166_69, a_166_70, a_166_73, a_166_74, a_166_77, a_166_80, a_166_82, a_166_83, a_166_86, a_166_87, a_166_88, a_166_89, a_166_90, a_166_91, a_166_93, a_166_96, a_166_97, a_166_100, a_166_101, a_166_102, a_166_105, a_166_106, a_166_107, a_166_108, a_166_111, a_166_114, a_166_115, ne_eq, not_false_eq_true, true_and, and_true, and_self, Int.cast_ofNat_Int, reduceCtorEq, or_false, false_or, not_true_eq_false, or_true, true_or, Int.reduceToNat, Int.reduceAdd, Int.reduceEq, Int.reduceNe, Int.reduceLT, Int.reduceLE, Int.reduceNeg, Int.reduceSub, Int.reduceMul, Nat.reduceAdd, Nat.reduceLT, Nat.reduceLeDiff, Nat.reduceEqDiff, forall_const, false_implies, true_implies, p_1_0, p_1_1, p_1_2, p_1_3, p_1_4, p_1_5, p_1_6, p_1_7, p_1_8, p_1_9, p_2_0, p_4_0, p_4_1, p_4_2, p_4_3, p_4_4, p_4_5, p_5_0, p_5_1, p_5_2, p_5_3, p_5_4, p_5_5, p_12_0, p_12_1, p_12_2, p_12_3, p_12_4, p_18_0, p_18_1, p_18_2, p_18_3, p_23_0, p_23_1, p_23_2, p_23_3, p_23_4, p_31_0, p_31_1, p_31_2, p_31_3, p_36_0, p_36_1, p_36_2, p_36_3, p_36_4, p_42_0, p_42_1, p_42_2, p_42_3, p_42_4, p_42_5, p_42_6, p_42_7, p_42_8, p_52_0, p_52_1, p_52_2, p_52_3, p_52_4, p_52_5, p_52_6, p_58_0, p_58_1, p_58_2, p_62_0, p_62_1, p_62_2, p_62_3, p_67_1, p_67_2, p_67_3, p_67_4, p_67_13, p_67_15, p_67_16, p_67_17, p_67_18, p_67_19, p_67_21, p_67_22, p_67_23, p_67_24, p_67_25, p_67_26, p_67_28, p_67_29, p_67_30, p_67_31, p_67_33, p_67_34, p_67_35, p_67_36, p_67_37, p_67_38, p_67_39, p_67_40, p_67_41, p_67_42, p_67_43, p_67_44, p_67_48, p_67_49, p_67_50, p_67_51, p_67_52, p_67_53, p_67_54, p_67_55, p_x, p_y, p_z, p_sx, p_sy, p_sz, y_1, y_2, y_3, y_4, y_5, y_6, y_7, y_8, y_9, y_10, y_11, y_12, y_13, y_14, y_15, y_16, y_17, y_18, y_19, y_20, y_21, y_22, y_23, y_24, y_25, y_26, y_27, y_28, y_29, y_30, y_31, y_32, y_33, y_34, y_35, y_36, y_37, y_38, y_39, y_40, y_41, y_42, y_43, y_44, y_45, y_46, y_47, y_48, y_49, y_50, y_51, y_52, y_53, y_54, y_55, y_56, y_57, y_58, y_59, y_60, y_61, y_62, y_63, y_64, y_65, y_66, y_67, y_68, y_69, y_70, y_71, y_72, y_73, y_74, y_75, y_76, y_77, y_78, y_79, y_80, y_81, y_82, y_83, y_84, y_85, y_86, y_87, y_88, y_89, y_90, y_91, y_92, y_93, y_94, y_95, y_96, y_97, y_98, y_99, y_100, y_101, y_102, y_103, y_104, y_105, y_106, y_107, y_108, y_109, y_1000, y_1001, y_1002, y_1003]
      exact hs)
    simp only [eA, hfr, e_166, mj_go_eq, g_cut, g_k0, g_k1, g_w0, g_w1, g_w2, g_w3, g_w4, g_c1, g_c2, g_c3, g_us, g_const, g_sti_1, g_ldr_0, g_putf, g_getr, g_call1, o_150, g_sti_2, g_ldi_2, g_icge, g_bast, g_inc_2, g_goto, o_158, g_getf, g_ifne, g_ifeq, o_165, g_inc_1, g_ifle, g_isub, g_ret, g_iald, g_iast, g_ldi_1, a_166_0, a_166_1, a_166_2, a_166_3, a_166_4, a_166_7, a_166_8, a_166_9, a_166_12, a_166_13, a_166_16, a_166_19, a_166_20, a_166_21, a_166_22, a_166_24, a_166_27, a_166_28, a_166_31, a_166_32, a_166_33, a_166_34, a_166_37, a_166_40, a_166_41, a_166_44, a_166_45, a_166_48, a_166_51, a_166_52, a_166_55, a_166_58, a_166_59, a_166_62, a_166_65, a_166_68, a_166_69, a_166_70, a_166_73, a_166_74, a_166_77, a_166_80, a_166_82, a_166_83, a_166_86, a_166_87, a_166_88, a_166_89, a_166_90, a_166_91, a_166_93, a_166_96, a_166_97, a_166_100, a_166_101, a_166_102, a_166_105, a_166_106, a_166_107, a_166_108, a_166_111, a_166_114, a_166_115, ne_eq, not_false_eq_true, true_and, and_true, and_self, Int.cast_ofNat_Int, reduceCtorEq, or_false, false_or, not_true_eq_false, or_true, true_or, Int.reduceToNat, Int.reduceAdd, Int.reduceEq, Int.reduceNe, Int.reduceLT, Int.reduceLE, Int.reduceNeg, Int.reduceSub, Int.reduceMul, Nat.reduceAdd, Nat.reduceLT, Nat.reduceLeDiff, Nat.reduceEqDiff, forall_const, false_implies, true_implies, p_1_0, p_1_1, p_1_2, p_1_3, p_1_4, p_1_5, p_1_6, p_1_7, p_1_8, p_1_9, p_2_0, p_4_0, p_4_1, p_4_2, p_4_3, p_4_4, p_4_5, p_5_0, p_5_1, p_5_2, p_5_3, p_5_4, p_5_5, p_12_0, p_12_1, p_12_2, p_12_3, p_12_4, p_18_0, p_18_1, p_18_2, p_18_3, p_23_0, p_23_1, p_23_2, p_23_3, p_23_4, p_31_0, p_31_1, p_31_2, p_31_3, p_36_0, p_36_1, p_36_2, p_36_3, p_36_4, p_42_0, p_42_1, p_42_2, p_42_3, p_42_4, p_42_5, p_42_6, p_42_7, p_42_8, p_52_0, p_52_1, p_52_2, p_52_3, p_52_4, p_52_5, p_52_6, p_58_0, p_58_1, p_58_2, p_62_0, p_62_1, p_62_2, p_62_3, p_67_1, p_67_2, p_67_3, p_67_4, p_67_13, p_67_15, p_67_16, p_67_17, p_67_18, p_67_19, p_67_21, p_67_22, p_67_23, p_67_24, p_67_25, p_67_26, p_67_28, p_67_29, p_67_30, p_67_31, p_67_33, p_67_34, p_67_35, p_67_36, p_67_37, p_67_38, p_67_39, p_67_40, p_67_41, p_67_42, p_67_43, p_67_44, p_67_48, p_67_49, p_67_50, p_67_51, p_67_52, p_67_53, p_67_54, p_67_55, p_x, p_y, p_z, p_sx, p_sy, p_sz, y_1, y_2, y_3, y_4, y_5, y_6, y_7, y_8, y_9, y_10, y_11, y_12, y_13, y_14, y_15, y_16, y_17, y_18, y_19, y_20, y_21, y_22, y_23, y_24, y_25, y_26, y_27, y_28, y_29, y_30, y_31, y_32, y_33, y_34, y_35, y_36, y_37, y_38, y_39, y_40, y_41, y_42, y_43, y_44, y_45, y_46, y_47, y_48, y_49, y_50, y_51, y_52, y_53, y_54, y_55, y_56, y_57, y_58, y_59, y_60, y_61, y_62, y_63, y_64, y_65, y_66, y_67, y_68, y_69, y_70, y_71, y_72, y_73, y_74, y_75, y_76, y_77, y_78, y_79, y_80, y_81, y_82, y_83, y_84, y_85, y_86, y_87, y_88, y_89, y_90, y_91, y_92, y_93, y_94, y_95, y_96, y_97, y_98, y_99, y_100, y_101, y_102, y_103, y_104, y_105, y_106, y_107, y_108, y_109, y_1000, y_1001, y_1002, y_1003]
    exact lt
  clear hkn hkn' hfr
  unfold KK
  by_cases q : R.2.1 2 = 0
  · rw [if_pos q] at hcr
    have hw : ¬ R.2.2 < 0 := by omega
    have hx0 : x ≠ 0 := by omega
    have hy0 : y ≠ 0 := by omega
    simp only [hcr, hw, e_110, mj_go_eq, g_cut, g_k0, g_k1, g_w0, g_w1, g_w2, g_w3, g_w4, g_c1, g_c2, g_c3, g_us, g_ldr_0, g_getr, g_call2, o_87, g_sti_1, g_ldi_1, g_iflt, g_str_2, g_putr, g_ldr_2, g_ret, a_110_0, a_110_1, a_110_4, a_110_5, a_110_8, a_110_11, a_110_12, a_110_13, a_110_16, a_110_17, a_110_20, a_110_23, a_110_24, a_110_25, a_110_28, a_110_29, a_110_32, a_110_35, a_110_36, a_110_37, a_110_40, a_110_41, ne_eq, not_false_eq_true, true_and, and_true, and_self, Int.cast_ofNat_Int, reduceCtorEq, or_false, false_or, not_true_eq_false, or_true, true_or, Int.reduceToNat, Int.reduceAdd, Int.reduceEq, Int.reduceNe, Int.reduceLT, Int.reduceLE, Int.reduceNeg, Int.reduceSub, Int.reduceMul, Nat.reduceAdd, Nat.reduceLT, Nat.reduceLeDiff, Nat.reduceEqDiff, forall_const, false_implies, true_implies, p_1_0, p_1_1, p_1_2, p_1_3, p_1_4, p_1_5, p_1_6, p_1_7, p_1_8, p_1_9, p_2_0, p_4_0, p_4_1, p_4_2, p_4_3, p_4_4, p_4_5, p_5_0, p_5_1, p_5_2, p_5_3, p_5_4, p_5_5, p_12_0, p_12_1, p_12_2, p_12_3, p_12_4, p_18_0, p_18_1, p_18_2, p_18_3, p_23_0, p_23_1, p_23_2, p_23_3, p_23_4, p_31_0, p_31_1, p_31_2, p_31_3, p_36_0, p_36_1, p_36_2, p_36_3, p_36_4, p_42_0, p_42_1, p_42_2, p_42_3, p_42_4, p_42_5, p_42_6, p_42_7, p_42_8, p_52_0, p_52_1, p_52_2, p_52_3, p_52_4, p_52_5, p_52_6, p_58_0, p_58_1, p_58_2, p_62_0, p_62_1, p_62_2, p_62_3, p_67_1, p_67_2, p_67_3, p_67_4, p_67_13, p_67_15, p_67_16, p_67_17, p_67_18, p_67_19, p_67_21, p_67_22, p_67_23, p_67_24, p_67_25, p_67_26, p_67_28, p_67_29, p_67_30, p_67_31, p_67_33, p_67_34, p_67_35, p_67_36, p_67_37, p_67_38, p_67_39, p_67_40, p_67_41, p_67_42, p_67_43, p_67_44, p_67_48, p_67_49, p_67_50, p_67_51, p_67_52, p_67_53, p_67_54, p_67_55, p_x, p_y, p_z, p_sx, p_sy, p_sz, y_1, y_2, y_3, y_4, y_5, y_6, y_7, y_8, y_9, y_10, y_11, y_12, y_13, y_14, y_15, y_16, y_17, y_18, y_19, y_20, y_21, y_22, y_23, y_24, y_25, y_26, y_27, y_28, y_29, y_30, y_31, y_32, y_33, y_34, y_35, y_36, y_37, y_38, y_39, y_40, y_41, y_42, y_43, y_44, y_45, y_46, y_47, y_48, y_49, y_50, y_51, y_52, y_53, y_54, y_55, y_56, y_57, y_58, y_59, y_60, y_61, y_62, y_63, y_64, y_65, y_66, y_67, y_68, y_69, y_70, y_71, y_72, y_73, y_74, y_75, y_76, y_77, y_78, y_79, y_80, y_81, y_82, y_83, y_84, y_85, y_86, y_87, y_88, y_89, y_90, y_91, y_92, y_93, y_94, y_95, y_96, y_97, y_98, y_99, y_100, y_101, y_102, y_103, y_104, y_105, y_106, y_107, y_108, y_109, y_1000, y_1001, y_1002, y_1003, p_sx, p_sy, k_2]
    repeat' (first | intro _ | with_reducible apply And.intro)
    all_goals (first | omega | skip)
    refine run y x _ ?_
    intro ν' g' n' a1 a2 a3 a4
    obtain ⟨b1, b2⟩ := a4 q
    subst b1
    have g10 : g' 10 = 0 := by rw [a1.2.2.1]; exact q
    have eC : mj_up (mj_ua ν' 67 g') 67 5 0 = mj_ua ν' 67 (mj_pt g' 5 0) := g_au
    have g10' : mj_pt g' 5 0 10 = 0 := by rw [g_pn (by decide)]; exact g10
    simp only [eC, g10', mj_go_eq, g_cut, g_k0, g_k1, g_w0, g_w1, g_w2, g_w3, g_w4, g_c1, g_c2, g_c3, g_us, g_const, g_sti_1, g_ldr_0, g_putf, g_getr, g_call1, o_150, g_sti_2, g_ldi_2, g_icge, g_bast, g_inc_2, g_goto, o_158, g_getf, g_ifne, g_ifeq, o_165, g_inc_1, g_ifle, g_isub, g_ret, g_iald, g_iast, g_ldi_1, a_166_0, a_166_1, a_166_2, a_166_3, a_166_4, a_166_7, a_166_8, a_166_9, a_166_12, a_166_13, a_166_16, a_166_19, a_166_20, a_166_21, a_166_22, a_166_24, a_166_27, a_166_28, a_166_31, a_166_32, a_166_33, a_166_34, a_166_37, a_166_40, a_166_41, a_166_44, a_166_45, a_166_48, a_166_51, a_166_52, a_166_55, a_166_58, a_166_59, a_166_62, a_166_65, a_166_68, a_166_69, a_166_70, a_166_73, a_166_74, a_166_77, a_166_80, a_166_82, a_166_83, a_166_86, a_166_87, a_166_88, a_166_89, a_166_90, a_166_91, a_166_93, a_166_96, a_166_97, a_166_100, a_166_101, a_166_102, a_166_105, a_166_106, a_166_107, a_166_108, a_166_111, a_166_114, a_166_115, ne_eq, not_false_eq_true, true_and, and_true, and_self, Int.cast_ofNat_Int, reduceCtorEq, or_false, false_or, not_true_eq_false, or_true, true_or, Int.reduceToNat, Int.reduceAdd, Int.reduceEq, Int.reduceNe, Int.reduceLT, Int.reduceLE, Int.reduceNeg, Int.reduceSub, Int.reduceMul, Nat.reduceAdd, Nat.reduceLT, Nat.reduceLeDiff, Nat.reduceEqDiff, forall_const, false_implies, true_implies, p_1_0, p_1_1, p_1_2, p_1_3, p_1_4, p_1_5, p_1_6, p_1_7, p_1_8, p_1_9, p_2_0, p_4_0, p_4_1, p_4_2, p_4_3, p_4_4, p_4_5, p_5_0, p_5_1, p_5_2, p_5_3, p_5_4, p_5_5, p_12_0, p_12_1, p_12_2, p_12_3, p_12_4, p_18_0, p_18_1, p_18_2, p_18_3, p_23_0, p_23_1, p_23_2, p_23_3, p_23_4, p_31_0, p_31_1, p_31_2, p_31_3, p_36_0, p_36_1, p_36_2, p_36_3, p_36_4, p_42_0, p_42_1, p_42_2, p_42_3, p_42_4, p_42_5, p_42_6, p_42_7, p_42_8, p_52_0, p_52_1, p_52_2, p_52_3, p_52_4, p_52_5, p_52_6, p_58_0, p_58_1, p_58_2, p_62_0, p_62_1, p_62_2, p_62_3, p_67_1, p_67_2, p_67_3, p_67_4, p_67_13, p_67_15, p_67_16, p_67_17, p_67_18, p_67_19, p_67_21, p_67_22, p_67_23, p_67_24, p_67_25, p_67_26, p_67_28, p_67_29, p_67_30, p_67_31, p_67_33, p_67_34, p_67_35, p_67_36, p_67_37, p_67_38, p_67_39, p_67_40, p_67_41, p_67_42, p_67_43, p_67_44, p_67_48, p_67_49, p_67_50, p_67_51, p_67_52, p_67_53, p_67_54, p_67_55, p_x, p_y, p_z, p_sx, p_sy, p_sz, y_1, y_2, y_3, y_4, y_5, y_6, y_7, y_8, y_9, y_10, y_11, y_12, y_13, y_14, y_15, y_16, y_17, y_18, y_19, y_20, y_21, y_22, y_23, y_24, y_25, y_26, y_27, y_28, y_29, y_30, y_31, y_32, y_33, y_34, y_35, y_36, y_37, y_38, y_39, y_40, y_41, y_42, y_43, y_44, y_45, y_46, y_47, y_48, y_49, y_50, y_51, y_52, y_53, y_54, y_55, y_56, y_57, y_58, y_59, y_60, y_61, y_62, y_63, y_64, y_65, y_66, y_67, y_68, y_69, y_70, y_71, y_72, y_73, y_74, y_75, y_76, y_77, y_78, y_79, y_80, y_81, y_82, y_83, y_84, y_85, y_86, y_87, y_88, y_89, y_90, y_91, y_92, y_93, y_94, y_95, y_96, y_97, y_98, y_99, y_100, y_101, y_102, y_103, y_104, y_105, y_106, y_107, y_108, y_109, y_1000, y_1001, y_1002, y_1003, g_as]
    repeat' (first | intro _ | with_reducible apply And.intro)
    all_goals (first | omega | skip)
    refine l_copyR ?_
    refine k_e rfl ?_
    have hyx : (y = 31 ∧ x = 62) ∨ (y = 62 ∧ x = 31) := by have := hJ.a.xy; omega
    refine J_fr hJ hyx (fun q' c1 c2 c3 => ?_) ?_ ?_ ?_ ?_ ?_
    · rw [g_an (by omega), g_an (by omega), a2 q' (by omega) (by omega), n1q q' (by omega) (by omega)]
      exact m1 q' c1 (by omega)
    · rw [g_an (by decide), g_an (by decide), a2 2 (by decide) (by decide), n1q 2 (by decide) (by decide), m12, g_ps]
    · rw [g_an (by decide), g_as, g_ps]
    · rw [g_an (by decide), g_as, g_pn (by decide), g_an (by decide), g_an (by decide), a2 2 (by decide) (by decide), n1q 2 (by decide) (by decide), m12, g_pn (by decide), a1.2.2.1]
    · rw [g_an (by decide), g_as]
      have s : ∀ i : Int, i ≠ 5 → ¬ (6 ≤ i ∧ i ≤ 11) → mj_pt g' 5 0 i = μ 67 i := fun i c1 c2 => by rw [g_pn c1, a3 i c2]; exact gso i c2
      exact ⟨s 12 (by decide) (by decide), s 14 (by decide) (by decide), s 20 (by decide) (by decide), s 27 (by decide) (by decide), s 32 (by decide) (by decide), s 47 (by decide) (by decide), s 0 (by decide) (by decide)⟩
    · have cy : ∀ q' : Nat, y ≤ q' → q' ≤ y + 4 → mj_ua (mj_ua ν' 67 (mj_pt g' 5 0)) 68 (zcp (mj_ua ν' 67 (mj_pt g' 5 0) 68) 0 35 (mj_ua ν' 67 (mj_pt g' 5 0) 69)) q' = R.1 q' := fun q' c1 c2 => by
        rw [g_an (by omega), g_an (by omega), a2 q' (by omega) (by omega), n1q q' (by omega) (by omega)]
        exact m1y q' (by omega)
      rw [cy (y + 1) (by omega) (by omega), cy (y + 2) (by omega) (by omega), cy (y + 3) (by omega) (by omega), cy (y + 4) (by omega) (by omega), cy y (by omega) (by omega), g_as]
      rw [g_an (show (69 : Nat) ≠ 67 by decide)]
      generalize mj_ua ν' 67 (mj_pt g' 5 0) 68 = r68
      have hz : ∀ i : Int, 0 ≤ i → i < 35 → zcp r68 0 35 (ν' 69) i = ν' 69 i := fun i c1 c2 => by unfold zcp; rw [if_pos (by omega), Int.sub_zero]
      unfold RD JRu at b2
      obtain ⟨d1, d2, d3, d4, d5, d6, d7, d8⟩ := b2
      refine ⟨fun i c1 c2 => ?_, ?_, fun i c1 c2 => ?_, fun i c1 c2 => ?_, d5, d6, d7, d8⟩
      · rw [hz i c1 (by omega)]; exact d1 i c1 c2
      · rw [hz 5 (by decide) (by decide)]; exact d2
      · rw [hz (6 + i) (by omega) (by omega)]; exact d3 i c1 c2
      · rw [hz (11 + i) (by omega) (by omega), hz (23 + i) (by omega) (by omega)]; exact d4 i c1 c2
  · rw [if_neg q] at hcr
    have w1 : mj_w (-10 - R.2.1 7) = -10 - R.2.1 7 := mj_w_id (by omega) (by omega)
    rw [w1] at hcr
    have hw : -10 - R.2.1 7 < 0 := by omega
    have hy0 : y ≠ 0 := by omega
    simp only [hcr, hw, e_110, mj_go_eq, g_cut, g_k0, g_k1, g_w0, g_w1, g_w2, g_w3, g_w4, g_c1, g_c2, g_c3, g_us, g_ldr_0, g_getr, g_call2, o_87, g_sti_1, g_ldi_1, g_iflt, g_str_2, g_putr, g_ldr_2, g_ret, a_110_0, a_110_1, a_110_4, a_110_5, a_110_8, a_110_11, a_110_12, a_110_13, a_110_16, a_110_17, a_110_20, a_110_23, a_110_24, a_110_25, a_110_28, a_110_29, a_110_32, a_110_35, a_110_36, a_110_37, a_110_40, a_110_41, ne_eq, not_false_eq_true, true_and, and_true, and_self, Int.cast_ofNat_Int, reduceCtorEq, or_false, false_or, not_true_eq_false, or_true, true_or, Int.reduceToNat, Int.reduceAdd, Int.reduceEq, Int.reduceNe, Int.reduceLT, Int.reduceLE, Int.reduceNeg, Int.reduceSub, Int.reduceMul, Nat.reduceAdd, Nat.reduceLT, Nat.reduceLeDiff, Nat.reduceEqDiff, forall_const, false_implies, true_implies, p_1_0, p_1_1, p_1_2, p_1_3, p_1_4, p_1_5, p_1_6, p_1_7, p_1_8, p_1_9, p_2_0, p_4_0, p_4_1, p_4_2, p_4_3, p_4_4, p_4_5, p_5_0, p_5_1, p_5_2, p_5_3, p_5_4, p_5_5, p_12_0, p_12_1, p_12_2, p_12_3, p_12_4, p_18_0, p_18_1, p_18_2, p_18_3, p_23_0, p_23_1, p_23_2, p_23_3, p_23_4, p_31_0, p_31_1, p_31_2, p_31_3, p_36_0, p_36_1, p_36_2, p_36_3, p_36_4, p_42_0, p_42_1, p_42_2, p_42_3, p_42_4, p_42_5, p_42_6, p_42_7, p_42_8, p_52_0, p_52_1, p_52_2, p_52_3, p_52_4, p_52_5, p_52_6, p_58_0, p_58_1, p_58_2, p_62_0, p_62_1, p_62_2, p_62_3, p_67_1, p_67_2, p_67_3, p_67_4, p_67_13, p_67_15, p_67_16, p_67_17, p_67_18, p_67_19, p_67_21, p_67_22, p_67_23, p_67_24, p_67_25, p_67_26, p_67_28, p_67_29, p_67_30, p_67_31, p_67_33, p_67_34, p_67_35, p_67_36, p_67_37, p_67_38, p_67_39, p_67_40, p_67_41, p_67_42, p_67_43, p_67_44, p_67_48, p_67_49, p_67_50, p_67_51, p_67_52, p_67_53, p_67_54, p_67_55, p_x, p_y, p_z, p_sx, p_sy, p_sz, y_1, y_2, y_3, y_4, y_5, y_6, y_7, y_8, y_9, y_10, y_11, y_12, y_13, y_14, y_15, y_16, y_17, y_18, y_19, y_20, y_21, y_22, y_23, y_24, y_25, y_26, y_27, y_28, y_29, y_30, y_31, y_32, y_33, y_34, y_35, y_36, y_37, y_38, y_39, y_40, y_41, y_42, y_43, y_44, y_45, y_46, y_47, y_48, y_49, y_50, y_51, y_52, y_53, y_54, y_55, y_56, y_57, y_58, y_59, y_60, y_61, y_62, y_63, y_64, y_65, y_66, y_67, y_68, y_69, y_70, y_71, y_72, y_73, y_74, y_75, y_76, y_77, y_78, y_79, y_80, y_81, y_82, y_83, y_84, y_85, y_86, y_87, y_88, y_89, y_90, y_91, y_92, y_93, y_94, y_95, y_96, y_97, y_98, y_99, y_100, y_101, y_102, y_103, y_104, y_105, y_106, y_107, y_108, y_109, y_1000, y_1001, y_1002, y_1003, k_2]
    repeat' (first | intro _ | with_reducible apply And.intro)
    all_goals (first | omega | skip)
    refine run x y _ ?_
    intro ν' g' n' a1 a2 a3 a4
    have g10 : ¬ g' 10 = 0 := by rw [a1.2.2.1]; exact q
    have g10p : 0 < g' 10 := by have := a1.2.2.1; have := a1.2.2.2.1; omega
    have g11 : g' 11 = R.2.1 7 := by
      obtain ⟨_, _, _, _, hd⟩ := a1
      rcases hd with ⟨c1, _⟩ | ⟨_, c2⟩
      · exact absurd c1 q
      · exact c2.symm
    have eC : mj_up (mj_ua ν' 67 g') 67 5 0 = mj_ua ν' 67 (mj_pt g' 5 0) := g_au
    have g10' : ¬ mj_pt g' 5 0 10 ≤ 0 := by rw [g_pn (by decide)]; omega
    have g11' : mj_pt g' 5 0 11 = R.2.1 7 := by rw [g_pn (by decide)]; exact g11
    simp only [eC, g10', g11', w1, mj_go_eq, g_cut, g_k0, g_k1, g_w0, g_w1, g_w2, g_w3, g_w4, g_c1, g_c2, g_c3, g_us, g_const, g_sti_1, g_ldr_0, g_putf, g_getr, g_call1, o_150, g_sti_2, g_ldi_2, g_icge, g_bast, g_inc_2, g_goto, o_158, g_getf, g_ifne, g_ifeq, o_165, g_inc_1, g_ifle, g_isub, g_ret, g_iald, g_iast, g_ldi_1, a_166_0, a_166_1, a_166_2, a_166_3, a_166_4, a_166_7, a_166_8, a_166_9, a_166_12, a_166_13, a_166_16, a_166_19, a_166_20, a_166_21, a_166_22, a_166_24, a_166_27, a_166_28, a_166_31, a_166_32, a_166_33, a_166_34, a_166_37, a_166_40, a_166_41, a_166_44, a_166_45, a_166_48, a_166_51, a_166_52, a_166_55, a_166_58, a_166_59, a_166_62, a_166_65, a_166_68, a_166_69, a_166_70, a_166_73, a_166_74, a_166_77, a_166_80, a_166_82, a_166_83, a_166_86, a_166_87, a_166_88, a_166_89, a_166_90, a_166_91, a_166_93, a_166_96, a_166_97, a_166_100, a_166_101, a_166_102, a_166_105, a_166_106, a_166_107, a_166_108, a_166_111, a_166_114, a_166_115, ne_eq, not_false_eq_true, true_and, and_true, and_self, Int.cast_ofNat_Int, reduceCtorEq, or_false, false_or, not_true_eq_false, or_true, true_or, Int.reduceToNat, Int.reduceAdd, Int.reduceEq, Int.reduceNe, Int.reduceLT, Int.reduceLE, Int.reduceNeg, Int.reduceSub, Int.reduceMul, Nat.reduceAdd, Nat.reduceLT, Nat.reduceLeDiff, Nat.reduceEqDiff, forall_const, false_implies, true_implies, p_1_0, p_1_1, p_1_2, p_1_3, p_1_4, p_1_5, p_1_6, p_1_7, p_1_8, p_1_9, p_2_0, p_4_0, p_4_1, p_4_2, p_4_3, p_4_4, p_4_5, p_5_0, p_5_1, p_5_2, p_5_3, p_5_4, p_5_5, p_12_0, p_12_1, p_12_2, p_12_3, p_12_4, p_18_0, p_18_1, p_18_2, p_18_3, p_23_0, p_23_1, p_23_2, p_23_3, p_23_4, p_31_0, p_31_1, p_31_2, p_31_3, p_36_0, p_36_1, p_36_2, p_36_3, p_36_4, p_42_0, p_42_1, p_42_2, p_42_3, p_42_4, p_42_5, p_42_6, p_42_7, p_42_8, p_52_0, p_52_1, p_52_2, p_52_3, p_52_4, p_52_5, p_52_6, p_58_0, p_58_1, p_58_2, p_62_0, p_62_1, p_62_2, p_62_3, p_67_1, p_67_2, p_67_3, p_67_4, p_67_13, p_67_15, p_67_16, p_67_17, p_67_18, p_67_19, p_67_21, p_67_22, p_67_23, p_67_24, p_67_25, p_67_26, p_67_28, p_67_29, p_67_30, p_67_31, p_67_33, p_67_34, p_67_35, p_67_36, p_67_37, p_67_38, p_67_39, p_67_40, p_67_41, p_67_42, p_67_43, p_67_44, p_67_48, p_67_49, p_67_50, p_67_51, p_67_52, p_67_53, p_67_54, p_67_55, p_x, p_y, p_z, p_sx, p_sy, p_sz, y_1, y_2, y_3, y_4, y_5, y_6, y_7, y_8, y_9, y_10, y_11, y_12, y_13, y_14, y_15, y_16, y_17, y_18, y_19, y_20, y_21, y_22, y_23, y_24, y_25, y_26, y_27, y_28, y_29, y_30, y_31, y_32, y_33, y_34, y_35, y_36, y_37, y_38, y_39, y_40, y_41, y_42, y_43, y_44, y_45, y_46, y_47, y_48, y_49, y_50, y_51, y_52, y_53, y_54, y_55, y_56, y_57, y_58, y_59, y_60, y_61, y_62, y_63, y_64, y_65, y_66, y_67, y_68, y_69, y_70, y_71, y_72, y_73, y_74, y_75, y_76, y_77, y_78, y_79, y_80, y_81, y_82, y_83, y_84, y_85, y_86, y_87, y_88, y_89, y_90, y_91, y_92, y_93, y_94, y_95, y_96, y_97, y_98, y_99, y_100, y_101, y_102, y_103, y_104, y_105, y_106, y_107, y_108, y_109, y_1000, y_1001, y_1002, y_1003, g_as]
    repeat' (first | intro _ | with_reducible apply And.intro)
    all_goals (first | omega | skip)
    refine k_e rfl ?_
    refine J_fr hJ hJ.a.xy (fun q' c1 c2 c3 => ?_) ?_ ?_ ?_ ?_ ?_
    · rw [g_an (by omega), a2 q' (by omega) (by omega), n1q q' (by omega) (by omega)]
      exact m1 q' c1 (by omega)
    · rw [g_an (by decide), a2 2 (by decide) (by decide), n1q 2 (by decide) (by decide), m12, g_ps]
    · rw [g_as, g_ps]
    · rw [g_as, g_pn (by decide), g_an (by decide), a2 2 (by decide) (by decide), n1q 2 (by decide) (by decide), m12, g_pn (by decide), a1.2.2.1]
    · rw [g_as]
      have s : ∀ i : Int, i ≠ 5 → ¬ (6 ≤ i ∧ i ≤ 11) → mj_pt g' 5 0 i = μ 67 i := fun i c1 c2 => by rw [g_pn c1, a3 i c2]; exact gso i c2
      exact ⟨s 12 (by decide) (by decide), s 14 (by decide) (by decide), s 20 (by decide) (by decide), s 27 (by decide) (by decide), s 32 (by decide) (by decide), s 47 (by decide) (by decide), s 0 (by decide) (by decide)⟩
    · have cx : ∀ q' : Nat, q' ≠ 2 → q' ≠ 67 → q' ≠ 69 → q' ≠ 70 → ¬ (y ≤ q' ∧ q' ≤ y + 4) → mj_ua ν' 67 (mj_pt g' 5 0) q' = μ q' := fun q' c1 c2 c3 c4 c5 => by
        rw [g_an c2, a2 q' c3 c4, n1q q' c3 c4]
        exact m1 q' c1 c5
      have hxy := hJ.a.xy
      rw [cx 68 (by decide) (by decide) (by decide) (by decide) (by omega), cx (x + 1) (by omega) (by omega) (by omega) (by omega) (by omega), cx (x + 2) (by omega) (by omega) (by omega) (by omega) (by omega), cx (x + 3) (by omega) (by omega) (by omega) (by omega) (by omega), cx (x + 4) (by omega) (by omega) (by omega) (by omega) (by omega), cx x (by omega) (by omega) (by omega) (by omega) (by omega)]
      exact hJ.ru
