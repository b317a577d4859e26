set_option maxRecDepth 20000
/-! serving: the reference -/
theorem JJ_r {x y : Nat} {μ ν ν' : mj_M} (h : JJ x y μ ν) (hn : ∀ q : Nat, 67 ≤ q → q < 1000 → ν' q = ν q) : JJ x y μ ν' := by
  have e67 := hn 67 (by omega) (by omega)
  have e68 := hn 68 (by omega) (by omega)
  have e71 := hn 71 (by omega) (by omega)
  have e72 := hn 72 (by omega) (by omega)
  have e73 := hn 73 (by omega) (by omega)
  have e74 := hn 74 (by omega) (by omega)
  have e75 := hn 75 (by omega) (by omega)
  have e76 := hn 76 (by omega) (by omega)
  have e77 := hn 77 (by omega) (by omega)
  have e78 := hn 78 (by omega) (by omega)
  have e83 := hn 83 (by omega) (by omega)
  have e84 := hn 84 (by omega) (by omega)
  have e85 := hn 85 (by omega) (by omega)
  have e88 := hn 88 (by omega) (by omega)
  have e89 := hn 89 (by omega) (by omega)
  have e90 := hn 90 (by omega) (by omega)
  have e100 := hn 100 (by omega) (by omega)
  have e101 := hn 101 (by omega) (by omega)
  have e102 := hn 102 (by omega) (by omega)
  have e103 := hn 103 (by omega) (by omega)
  have e104 := hn 104 (by omega) (by omega)
  have e105 := hn 105 (by omega) (by omega)
  have e106 := hn 106 (by omega) (by omega)
  have e107 := hn 107 (by omega) (by omega)
  have e79 := hn 79 (by omega) (by omega)
  have e80 := hn 80 (by omega) (by omega)
  have e81 := hn 81 (by omega) (by omega)
  have e82 := hn 82 (by omega) (by omega)
  have e86 := hn 86 (by omega) (by omega)
  have e87 := hn 87 (by omega) (by omega)
  have e91 := hn 91 (by omega) (by omega)
  have e92 := hn 92 (by omega) (by omega)
  clear hn
  unfold JJ at *
  simp only [e67, e68, e71, e72, e73, e74, e75, e76, e77, e78, e83, e84, e85, e88, e89, e90, e100, e101, e102, e103, e104, e105, e106, e107, e79, e80, e81, e82, e86, e87, e91, e92] at *
  exact h
theorem JJ_l {x y : Nat} {μ μ' ν : mj_M} (h : JJ x y μ ν) (hm : ∀ q : Nat, (q < 67 ∨ 108 ≤ q) → μ' q = μ q) : JJ x y μ' ν := by
  have e1 := hm 1 (by omega)
  have e2 := hm 2 (by omega)
  have e3 := hm 3 (by omega)
  have e4 := hm 4 (by omega)
  have e5 := hm 5 (by omega)
  have e6 := hm 6 (by omega)
  have e7 := hm 7 (by omega)
  have e8 := hm 8 (by omega)
  have e9 := hm 9 (by omega)
  have e10 := hm 10 (by omega)
  have e11 := hm 11 (by omega)
  have e12 := hm 12 (by omega)
  have e13 := hm 13 (by omega)
  have e18 := hm 18 (by omega)
  have e19 := hm 19 (by omega)
  have e20 := hm 20 (by omega)
  have e23 := hm 23 (by omega)
  have e24 := hm 24 (by omega)
  have e25 := hm 25 (by omega)
  have e26 := hm 26 (by omega)
  have e30 := hm 30 (by omega)
  have e31 := hm 31 (by omega)
  have e32 := hm 32 (by omega)
  have e33 := hm 33 (by omega)
  have e34 := hm 34 (by omega)
  have e35 := hm 35 (by omega)
  have e36 := hm 36 (by omega)
  have e37 := hm 37 (by omega)
  have e38 := hm 38 (by omega)
  have e39 := hm 39 (by omega)
  have e40 := hm 40 (by omega)
  have e41 := hm 41 (by omega)
  have e52 := hm 52 (by omega)
  have e53 := hm 53 (by omega)
  have e54 := hm 54 (by omega)
  have e109 := hm 109 (by omega)
  have e55 := hm 55 (by omega)
  have e56 := hm 56 (by omega)
  have e59 := hm 59 (by omega)
  have e60 := hm 60 (by omega)
  have e61 := hm 61 (by omega)
  have e62 := hm 62 (by omega)
  have e63 := hm 63 (by omega)
  have e64 := hm 64 (by omega)
  have e65 := hm 65 (by omega)
  have e66 := hm 66 (by omega)
  have e1000 := hm 1000 (by omega)
  have e1001 := hm 1001 (by omega)
  have e1002 := hm 1002 (by omega)
  have e1003 := hm 1003 (by omega)
  have e14 := hm 14 (by omega)
  have e15 := hm 15 (by omega)
  have e16 := hm 16 (by omega)
  have e17 := hm 17 (by omega)
  have e21 := hm 21 (by omega)
  have e22 := hm 22 (by omega)
  have e27 := hm 27 (by omega)
  have e28 := hm 28 (by omega)
  clear hm
  rcases h.a.xy with ⟨rfl, rfl⟩ | ⟨rfl, rfl⟩
  all_goals (
    unfold JJ JA at *
    simp only [Nat.reduceAdd, e1, e2, e3, e4, e5, e6, e7, e8, e9, e10, e11, e12, e13, e18, e19, e20, e23, e24, e25, e26, e30, e31, e32, e33, e34, e35, e36, e37, e38, e39, e40, e41, e52, e53, e54, e109, e55, e56, e59, e60, e61, e62, e63, e64, e65, e66, e1000, e1001, e1002, e1003, e14, e15, e16, e17, e21, e22, e27, e28] at *
    exact h)
theorem frM_eq {x y : Nat} {μ ν : mj_M} (h : JJ x y μ ν) (t : Int) : zm (fun i => ν 78 i = t && ν 79 i = 0) (ν 81) (ν 67 20).toNat = fr μ t := by
  unfold fr
  rw [h.ec.1, h.ec.2.1, h.ec.2.2.2.1, h.en.2.2.1]
theorem m_fresh {L d c x y z : Nat} {μ ν : mj_M} (h : JJ x y μ ν) (t : Int) (Q : mj_Q) : mj_call L d 204 [.inr (.inr 67), .inl t] c (pz x y z) ν Q = Q [.inl (fr μ t)] c (pz x y z) ν := by
  have hm := JJ_HM h
  rw [← frM_eq h t]
  exact c_Mo_freshest hm.2.1 Q
theorem m_queued {L d c x y z : Nat} {μ ν : mj_M} (h : JJ x y μ ν) {t : Int} (ht : 0 ≤ t ∧ t < 12) (Q : mj_Q) : mj_call L (d + 3) 202 [.inr (.inr 67), .inl t, .inl 0] c (pz x y z) ν Q = Q [.inl (qf μ x t)] c (pz x y z) ν := by
  unfold qf
  rw [← zq_eq h ht]
  exact c_Mo_queued (JJ_HM h) ht Q
noncomputable def rq (μ : mj_M) (x : Nat) (t : Int) : Int := if fr μ t = -4 then -4 else qf μ x t
theorem sndM0_o {ν : mj_M} {c r : Int} {q : Nat} (h : ¬ (79 ≤ q ∧ q ≤ 82) ∧ ¬ (91 ≤ q ∧ q ≤ 92)) : sndM0 ν c r q = ν q := by
  unfold sndM0
  simp (disch := omega) only [g_un]
theorem m_title {L d c x y z : Nat} {t : Int} (ht : 0 ≤ t ∧ t < 12) {Q : mj_Q} : ∀ (k : Nat) (μ μ' ν : mj_M) (s : Int), Ch x t k μ μ' → JJ x y μ ν → 0 ≤ s ∧ s + k ≤ 1000 → (∀ (ν' : mj_M) (v3 v4 : mj_V), JJ x y μ' ν' → FrM ν ν' → mj_run L (d + 4) 205 4 [.inr (.inr 67), .inl (s + k), .inl (t + 1), v3, v4] [] c (pz x y z) ν' Q) → mj_run L (d + 4) 205 37 [.inr (.inr 67), .inl s, .inl t, .inl (fr μ t), .inl (rq μ x t)] [] c (pz x y z) ν Q := by
  intro k
  induction k with
  | zero =>
    intro μ μ' ν s hch h hs hX
    obtain ⟨hst, f, rfl⟩ := hch
    have hX2 := fun v3 v4 => hX ν v3 v4 (JJ_ua h) (FrM_r _)
    rw [Int.natCast_zero, Int.add_zero] at hX2
    have hst2 : fr μ t = -4 ∨ rq μ x t = -4 := by
      unfold rq
      by_cases e : fr μ t = -4
      · exact Or.inl e
      · rw [if_neg e]; exact hst
    refine mj_start ?_
    simp only [mj_go_eq, g_cut, g_k0, g_k1, g_w0, g_w1, g_w2, g_w3, g_w4, g_c1, g_c2, g_c3, g_us, g_const, g_sti_1, g_sti_2, g_ldi_2, g_ldr_0, g_getf, g_icge, g_call2, o_204, g_sti_3, g_ldi_3, g_icne, g_goto, g_call3, o_202, g_sti_4, g_iceq, g_ldi_4, o_182, g_getr, g_iald, g_iast, g_inc_1, g_ifne, o_183, g_inc_2, g_ldi_1, g_ret, a_205_0, a_205_1, a_205_2, a_205_3, a_205_4, a_205_5, a_205_6, a_205_9, a_205_12, a_205_13, a_205_14, a_205_17, a_205_18, a_205_19, a_205_21, a_205_24, a_205_26, a_205_29, a_205_30, a_205_31, a_205_32, a_205_35, a_205_37, a_205_38, a_205_40, a_205_43, a_205_45, a_205_47, a_205_50, a_205_51, a_205_52, a_205_53, a_205_56, a_205_57, a_205_60, a_205_61, a_205_62, a_205_65, a_205_67, a_205_68, a_205_69, a_205_70, a_205_73, a_205_75, a_205_76, a_205_77, a_205_78, a_205_81, a_205_83, a_205_84, a_205_85, a_205_88, a_205_89, a_205_92, a_205_93, a_205_94, a_205_97, a_205_98, a_205_99, a_205_102, a_205_103, a_205_104, a_205_107, a_205_108, a_205_109, a_205_111, a_205_114, a_205_116, a_205_119, a_205_120, a_205_121, a_205_122, a_205_125, a_205_127, a_205_130, a_205_133, a_205_136, a_205_137, ne_eq, not_false_eq_true, true_and, and_true, and_self, Int.cast_ofNat_Int, reduceCtorEq, or_false, false_or, not_true_eq_false, or_true, true_or, Int.reduceToNat, Int.reduceAdd, Int.reduceEq, Int.reduceNe, Int.reduceLT, Int.reduceLE, Int.reduceNeg, Int.reduceSub, Int.reduceMul, Nat.reduceAdd, Nat.reduceLT, Nat.reduceLeDiff, Nat.reduceEqDiff, forall_const, false_implies, true_implies, p_1_0, p_1_1, p_1_2, p_1_3, p_1_4, p_1_5, p_1_6, p_1_7, p_1_8, p_1_9, p_2_0, p_4_0, p_4_1, p_4_2, p_4_3, p_4_4, p_4_5, p_5_0, p_5_1, p_5_2, p_5_3, p_5_4, p_5_5, p_12_0, p_12_1, p_12_2, p_12_3, p_12_4, p_18_0, p_18_1, p_18_2, p_18_3, p_23_0, p_23_1, p_23_2, p_23_3, p_23_4, p_31_0, p_31_1, p_31_2, p_31_3, p_36_0, p_36_1, p_36_2, p_36_3, p_36_4, p_42_0, p_42_1, p_42_2, p_42_3, p_42_4, p_42_5, p_42_6, p_42_7, p_42_8, p_52_0, p_52_1, p_52_2, p_52_3, p_52_4, p_52_5, p_52_6, p_58_0, p_58_1, p_58_2, p_62_0, p_62_1, p_62_2, p_62_3, p_67_1, p_67_2, p_67_3, p_67_4, p_67_13, p_67_15, p_67_16, p_67_17, p_67_18, p_67_19, p_67_21, p_67_22, p_67_23, p_67_24, p_67_25, p_67_26, p_67_28, p_67_29, p_67_30, p_67_31, p_67_33, p_67_34, p_67_35, p_67_36, p_67_37, p_67_38, p_67_39, p_67_40, p_67_41, p_67_42, p_67_43, p_67_44, p_67_48, p_67_49, p_67_50, p_67_51, p_67_52, p_67_53, p_67_54, p_67_55, p_x, p_y, p_z, p_sx, p_sy, p_sz, y_1, y_2, y_3, y_4, y_5, y_6, y_7, y_8, y_9, y_10, y_11, y_12, y_13, y_14, y_15, y_16, y_17, y_18, y_19, y_20, y_21, y_22, y_23, y_24, y_25, y_26, y_27, y_28, y_29, y_30, y_31, y_32, y_33, y_34, y_35, y_36, y_37, y_38, y_39, y_40, y_41, y_42, y_43, y_44, y_45, y_46, y_47, y_48, y_49, y_50, y_51, y_52, y_53, y_54, y_55, y_56, y_57, y_58, y_59, y_60, y_61, y_62, y_63, y_64, y_65, y_66, y_67, y_68, y_69, y_70, y_71, y_72, y_73, y_74, y_75, y_76, y_77, y_78, y_79, y_80, y_81, y_82, y_83, y_84, y_85, y_86, y_87, y_88, y_89, y_90, y_91, y_92, y_93, y_94, y_95, y_96, y_97, y_98, y_99, y_100, y_101, y_102, y_103, y_104, y_105, y_106, y_107, y_108, y_109, y_1000, y_1001, y_1002, y_1003]
    try (simp (disch := omega) only [mj_w_id])
    repeat' (first | intro _ | with_reducible apply And.intro)
    all_goals (first | omega | exact hX2 _ _)
  | succ k ih =>
    intro μ μ' ν s hch h hs hX
    obtain ⟨hf, hq, f, hch⟩ := hch
    have hn := h.a.n
    unfold JN at hn
    have he := h.en
    have hfb := fr_bd h hf
    have hqb := qf_bd h hq
    have hrq := h.a.rq _ hqb.1 hqb.2
    have hrq2 : rq μ x t = qf μ x t := by unfold rq; rw [if_neg hf]
    rw [hrq2]
    have hJs := JJ_snd (JJ_ua (f := f) h) (c := fr μ t) (r := qf μ x t) hfb.1 hqb
    have hfresh := fun Q => m_fresh (L := L) (d := d + 3) (c := c) (z := z) hJs t Q
    have hqueued := fun Q => m_queued (L := L) (d := d) (c := c) (z := z) hJs ht Q
    have ih2 := ih _ μ' (sndM ν (fr μ t) (qf μ x t)) (s + 1) hch hJs (by omega) (fun ν' v3 v4 a b => by
      have := hX ν' v3 v4 a (FrM_t (FrM_snd ν _ _) b)
      rw [show s + ((k + 1 : Nat) : Int) = s + 1 + k by omega] at this
      exact this)
    clear ih hX hch
    have hli : sndM0 ν (fr μ t) (qf μ x t) 80 (fr μ t) = μ 24 (qf μ x t) := by unfold sndM0; simp only [g_us, g_un, g_ps, g_pn, if_true, if_false, ne_eq, not_false_eq_true, Nat.reduceEqDiff, Int.reduceEq, reduceCtorEq, mj_pt_pt, mj_pt_id, Int.add_sub_cancel]; rw [h.eq.1]
    have hti : sndM0 ν (fr μ t) (qf μ x t) 78 = μ 13 := by rw [sndM0_o (by omega), h.ec.1]
    have hco := fun Q => c_Mo_comes (L := L) (d := d + 1) (c0 := c) (x := x) (y := y) (z := z) (μ := sndM0 ν (fr μ t) (qf μ x t)) (c := fr μ t) (by omega) (by rw [hli]; omega) (by rw [hti]; omega) Q
    generalize fr μ t = C at *
    generalize qf μ x t = R at *
    have e0 : mj_up (mj_up (mj_up (mj_up (mj_up (mj_up ν 79 C 1) 82 C (ν 67 0)) 80 C (ν 80 C)) 80 C (ν 88 R)) 91 R 1) 92 R C = sndM0 ν C R := rfl
    have e1 : sndM0 ν C R 68 = ν 68 := sndM0_o (by omega)
    have hid : (if fr (snd (mj_ua μ 29 f) x C R) t = -4 then -4 else qf (snd (mj_ua μ 29 f) x C R) x t) = rq (snd (mj_ua μ 29 f) x C R) x t := rfl
    generalize fr (snd (mj_ua μ 29 f) x C R) t = C2 at *
    generalize qf (snd (mj_ua μ 29 f) x C R) x t = R2 at *
    generalize rq (snd (mj_ua μ 29 f) x C R) x t = R3 at *
    by_cases hw : ν 68 2 = 0
    all_goals (
      have e2 : sndM ν C R = (if ν 68 2 = 0 then arrM (sndM0 ν C R) C else sndM0 ν C R) := rfl
      simp only [hw, if_true, if_false] at e2
      rw [e2] at hfresh hqueued ih2
      refine mj_start ?_
      simp only [mj_go_eq, g_cut, g_k0, g_k1, g_w0, g_w1, g_w2, g_w3, g_w4, g_c1, g_c2, g_c3, g_us, g_const, g_sti_1, g_sti_2, g_ldi_2, g_ldr_0, g_getf, g_icge, g_call2, o_204, g_sti_3, g_ldi_3, g_icne, g_goto, g_call3, o_202, g_sti_4, g_iceq, g_ldi_4, o_182, g_getr, g_iald, g_iast, g_inc_1, g_ifne, o_183, g_inc_2, g_ldi_1, g_ret, g_i2l, g_lconst, o_148, g_ifeq, g_vret, g_ldl_0, g_ldl_2, g_lcmp, g_iflt, g_ldl_4, g_ifgt, g_zret, g_c4, a_205_0, a_205_1, a_205_2, a_205_3, a_205_4, a_205_5, a_205_6, a_205_9, a_205_12, a_205_13, a_205_14, a_205_17, a_205_18, a_205_19, a_205_21, a_205_24, a_205_26, a_205_29, a_205_30, a_205_31, a_205_32, a_205_35, a_205_37, a_205_38, a_205_40, a_205_43, a_205_45, a_205_47, a_205_50, a_205_51, a_205_52, a_205_53, a_205_56, a_205_57, a_205_60, a_205_61, a_205_62, a_205_65, a_205_67, a_205_68, a_205_69, a_205_70, a_205_73, a_205_75, a_205_76, a_205_77, a_205_78, a_205_81, a_205_83, a_205_84, a_205_85, a_205_88, a_205_89, a_205_92, a_205_93, a_205_94, a_205_97, a_205_98, a_205_99, a_205_102, a_205_103, a_205_104, a_205_107, a_205_108, a_205_109, a_205_111, a_205_114, a_205_116, a_205_119, a_205_120, a_205_121, a_205_122, a_205_125, a_205_127, a_205_130, a_205_133, a_205_136, a_205_137, a_182_0, a_182_1, a_182_4, a_182_5, a_182_6, a_182_7, a_182_8, a_182_11, a_182_12, a_182_13, a_182_16, a_182_17, a_182_18, a_182_21, a_182_22, a_182_23, a_182_24, a_182_25, a_182_28, a_182_31, a_182_34, a_182_35, a_182_38, a_182_39, a_182_40, a_182_43, a_182_45, a_182_46, a_148_0, a_148_1, a_148_2, a_148_3, a_148_6, a_148_7, a_148_9, a_148_10, a_148_13, a_148_14, a_148_17, a_148_18, e_182, e_148, ne_eq, not_false_eq_true, true_and, and_true, and_self, Int.cast_ofNat_Int, reduceCtorEq, or_false, false_or, not_true_eq_false, or_true, true_or, Int.reduceToNat, Int.reduceAdd, Int.reduceEq, Int.reduceNe, Int.reduceLT, Int.reduceLE, Int.reduceNeg, Int.reduceSub, Int.reduceMul, Nat.reduceAdd, Nat.reduceLT, Nat.reduceLeDiff, Nat.reduceEqDiff, forall_const, false_implies, true_implies, p_1_0, p_1_1, p_1_2, p_1_3, p_1_4, p_1_5, p_1_6, p_1_7, p_1_8, p_1_9, p_2_0, p_4_0, p_4_1, p_4_2, p_4_3, p_4_4, p_4_5, p_5_0, p_5_1, p_5_2, p_5_3, p_5_4, p_5_5, p_12_0, p_12_1, p_12_2, p_12_3, p_12_4, p_18_0, p_18_1, p_18_2, p_18_3, p_23_0, p_23_1, p_23_2, p_23_3, p_23_4, p_31_0, p_31_1, p_31_2, p_31_3, p_36_0, p_36_1, p_36_2, p_36_3, p_36_4, p_42_0, p_42_1, p_42_2, p_42_3, p_42_4, p_42_5, p_42_6, p_42_7, p_42_8, p_52_0, p_52_1, p_52_2, p_52_3, p_52_4, p_52_5, p_52_6, p_58_0, p_58_1, p_58_2, p_62_0, p_62_1, p_62_2, p_62_3, p_67_1, p_67_2, p_67_3, p_67_4, p_67_13, p_67_15, p_67_16, p_67_17, p_67_18, p_67_19, p_67_21, p_67_22, p_67_23, p_67_24, p_67_25, p_67_26, p_67_28, p_67_29, p_67_30, p_67_31, p_67_33, p_67_34, p_67_35, p_67_36, p_67_37, p_67_38, p_67_39, p_67_40, p_67_41, p_67_42, p_67_43, p_67_44, p_67_48, p_67_49, p_67_50, p_67_51, p_67_52, p_67_53, p_67_54, p_67_55, p_x, p_y, p_z, p_sx, p_sy, p_sz, y_1, y_2, y_3, y_4, y_5, y_6, y_7, y_8, y_9, y_10, y_11, y_12, y_13, y_14, y_15, y_16, y_17, y_18, y_19, y_20, y_21, y_22, y_23, y_24, y_25, y_26, y_27, y_28, y_29, y_30, y_31, y_32, y_33, y_34, y_35, y_36, y_37, y_38, y_39, y_40, y_41, y_42, y_43, y_44, y_45, y_46, y_47, y_48, y_49, y_50, y_51, y_52, y_53, y_54, y_55, y_56, y_57, y_58, y_59, y_60, y_61, y_62, y_63, y_64, y_65, y_66, y_67, y_68, y_69, y_70, y_71, y_72, y_73, y_74, y_75, y_76, y_77, y_78, y_79, y_80, y_81, y_82, y_83, y_84, y_85, y_86, y_87, y_88, y_89, y_90, y_91, y_92, y_93, y_94, y_95, y_96, y_97, y_98, y_99, y_100, y_101, y_102, y_103, y_104, y_105, y_106, y_107, y_108, y_109, y_1000, y_1001, y_1002, y_1003, g_us, g_un, g_ps, g_pn, if_true, if_false, g_lc1, g_lc2, e0]
      simp only [e1, hw, hco, hfresh, hqueued, mj_go_eq, g_cut, g_k0, g_k1, g_w0, g_w1, g_w2, g_w3, g_w4, g_c1, g_c2, g_c3, g_us, g_const, g_sti_1, g_sti_2, g_ldi_2, g_ldr_0, g_getf, g_icge, g_call2, o_204, g_sti_3, g_ldi_3, g_icne, g_goto, g_call3, o_202, g_sti_4, g_iceq, g_ldi_4, o_182, g_getr, g_iald, g_iast, g_inc_1, g_ifne, o_183, g_inc_2, g_ldi_1, g_ret, a_205_0, a_205_1, a_205_2, a_205_3, a_205_4, a_205_5, a_205_6, a_205_9, a_205_12, a_205_13, a_205_14, a_205_17, a_205_18, a_205_19, a_205_21, a_205_24, a_205_26, a_205_29, a_205_30, a_205_31, a_205_32, a_205_35, a_205_37, a_205_38, a_205_40, a_205_43, a_205_45, a_205_47, a_205_50, a_205_51, a_205_52, a_205_53, a_205_56, a_205_57, a_205_60, a_205_61, a_205_62, a_205_65, a_205_67, a_205_68, a_205_69, a_205_70, a_205_73, a_205_75, a_205_76, a_205_77, a_205_78, a_205_81, a_205_83, a_205_84, a_205_85, a_205_88, a_205_89, a_205_92, a_205_93, a_205_94, a_205_97, a_205_98, a_205_99, a_205_102, a_205_103, a_205_104, a_205_107, a_205_108, a_205_109, a_205_111, a_205_114, a_205_116, a_205_119, a_205_120, a_205_121, a_205_122, a_205_125, a_205_127, a_205_130, a_205_133, a_205_136, a_205_137, ne_eq, not_false_eq_true, true_and, and_true, and_self, Int.cast_ofNat_Int, reduceCtorEq, or_false, false_or, not_true_eq_false, or_true, true_or, Int.reduceToNat, Int.reduceAdd, Int.reduceEq, Int.reduceNe, Int.reduceLT, Int.reduceLE, Int.reduceNeg, Int.reduceSub, Int.reduceMul, Nat.reduceAdd, Nat.reduceLT, Nat.reduceLeDiff, Nat.reduceEqDiff, forall_const, false_implies, true_implies, p_1_0, p_1_1, p_1_2, p_1_3, p_1_4, p_1_5, p_1_6, p_1_7, p_1_8, p_1_9, p_2_0, p_4_0, p_4_1, p_4_2, p_4_3, p_4_4, p_4_5, p_5_0, p_5_1, p_5_2, p_5_3, p_5_4, p_5_5, p_12_0, p_12_1, p_12_2, p_12_3, p_12_4, p_18_0, p_18_1, p_18_2, p_18_3, p_23_0, p_23_1, p_23_2, p_23_3, p_23_4, p_31_0, p_31_1, p_31_2, p_31_3, p_36_0, p_36_1, p_36_2, p_36_3, p_36_4, p_42_0, p_42_1, p_42_2, p_42_3, p_42_4, p_42_5, p_42_6, p_42_7, p_42_8, p_52_0, p_52_1, p_52_2, p_52_3, p_52_4, p_52_5, p_52_6, p_58_0, p_58_1, p_58_2, p_62_0, p_62_1, p_62_2, p_62_3, p_67_1, p_67_2, p_67_3, p_67_4, p_67_13, p_67_15, p_67_16, p_67_17, p_67_18, p_67_19, p_67_21, p_67_22, p_67_23, p_67_24, p_67_25, p_67_26, p_67_28, p_67_29, p_67_30, p_67_31, p_67_33, p_67_34, p_67_35, p_67_36, p_67_37, p_67_38, p_67_39, p_67_40, p_67_41, p_67_42, p_67_43, p_67_44, p_67_48, p_67_49, p_67_50, p_67_51, p_67_52, p_67_53, p_67_54, p_67_55, p_x, p_y, p_z, p_sx, p_sy, p_sz, y_1, y_2, y_3, y_4, y_5, y_6, y_7, y_8, y_9, y_10, y_11, y_12, y_13, y_14, y_15, y_16, y_17, y_18, y_19, y_20, y_21, y_22, y_23, y_24, y_25, y_26, y_27, y_28, y_29, y_30, y_31, y_32, y_33, y_34, y_35, y_36, y_37, y_38, y_39, y_40, y_41, y_42, y_43, y_44, y_45, y_46, y_47, y_48, y_49, y_50, y_51, y_52, y_53, y_54, y_55, y_56, y_57, y_58, y_59, y_60, y_61, y_62, y_63, y_64, y_65, y_66, y_67, y_68, y_69, y_70, y_71, y_72, y_73, y_74, y_75, y_76, y_77, y_78, y_79, y_80, y_81, y_82, y_83, y_84, y_85, y_86, y_87, y_88, y_89, y_90, y_91, y_92, y_93, y_94, y_95, y_96, y_97, y_98, y_99, y_100, y_101, y_102, y_103, y_104, y_105, y_106, y_107, y_108, y_109, y_1000, y_1001, y_1002, y_1003]
      try (simp (disch := omega) only [mj_w_id])
      by_cases hC2 : C2 = -4
      · simp only [hC2, if_true] at hid ih2
        subst hid
        simp only [hC2, mj_go_eq, g_cut, g_k0, g_k1, g_w0, g_w1, g_w2, g_w3, g_w4, g_c1, g_c2, g_c3, g_us, g_const, g_sti_1, g_sti_2, g_ldi_2, g_ldr_0, g_getf, g_icge, g_call2, o_204, g_sti_3, g_ldi_3, g_icne, g_goto, g_call3, o_202, g_sti_4, g_iceq, g_ldi_4, o_182, g_getr, g_iald, g_iast, g_inc_1, g_ifne, o_183, g_inc_2, g_ldi_1, g_ret, a_205_0, a_205_1, a_205_2, a_205_3, a_205_4, a_205_5, a_205_6, a_205_9, a_205_12, a_205_13, a_205_14, a_205_17, a_205_18, a_205_19, a_205_21, a_205_24, a_205_26, a_205_29, a_205_30, a_205_31, a_205_32, a_205_35, a_205_37, a_205_38, a_205_40, a_205_43, a_205_45, a_205_47, a_205_50, a_205_51, a_205_52, a_205_53, a_205_56, a_205_57, a_205_60, a_205_61, a_205_62, a_205_65, a_205_67, a_205_68, a_205_69, a_205_70, a_205_73, a_205_75, a_205_76, a_205_77, a_205_78, a_205_81, a_205_83, a_205_84, a_205_85, a_205_88, a_205_89, a_205_92, a_205_93, a_205_94, a_205_97, a_205_98, a_205_99, a_205_102, a_205_103, a_205_104, a_205_107, a_205_108, a_205_109, a_205_111, a_205_114, a_205_116, a_205_119, a_205_120, a_205_121, a_205_122, a_205_125, a_205_127, a_205_130, a_205_133, a_205_136, a_205_137, ne_eq, not_false_eq_true, true_and, and_true, and_self, Int.cast_ofNat_Int, reduceCtorEq, or_false, false_or, not_true_eq_false, or_true, true_or, Int.reduceToNat, Int.reduceAdd, Int.reduceEq, Int.reduceNe, Int.reduceLT, Int.reduceLE, Int.reduceNeg, Int.reduceSub, Int.reduceMul, Nat.reduceAdd, Nat.reduceLT, Nat.reduceLeDiff, Nat.reduceEqDiff, forall_const, false_implies, true_implies, p_1_0, p_1_1, p_1_2, p_1_3, p_1_4, p_1_5, p_1_6, p_1_7, p_1_8, p_1_9, p_2_0, p_4_0, p_4_1, p_4_2, p_4_3, p_4_4, p_4_5, p_5_0, p_5_1, p_5_2, p_5_3, p_5_4, p_5_5, p_12_0, p_12_1, p_12_2, p_12_3, p_12_4, p_18_0, p_18_1, p_18_2, p_18_3, p_23_0, p_23_1, p_23_2, p_23_3, p_23_4, p_31_0, p_31_1, p_31_2, p_31_3, p_36_0, p_36_1, p_36_2, p_36_3, p_36_4, p_42_0, p_42_1, p_42_2, p_42_3, p_42_4, p_42_5, p_42_6, p_42_7, p_42_8, p_52_0, p_52_1, p_52_2, p_52_3, p_52_4, p_52_5, p_52_6, p_58_0, p_58_1, p_58_2, p_62_0, p_62_1, p_62_2, p_62_3, p_67_1, p_67_2, p_67_3, p_67_4, p_67_13, p_67_15, p_67_16, p_67_17, p_67_18, p_67_19, p_67_21, p_67_22, p_67_23, p_67_24, p_67_25, p_67_26, p_67_28, p_67_29, p_67_30, p_67_31, p_67_33, p_67_34, p_67_35, p_67_36, p_67_37, p_67_38, p_67_39, p_67_40, p_67_41, p_67_42, p_67_43, p_67_44, p_67_48, p_67_49, p_67_50, p_67_51, p_67_52, p_67_53, p_67_54, p_67_55, p_x, p_y, p_z, p_sx, p_sy, p_sz, y_1, y_2, y_3, y_4, y_5, y_6, y_7, y_8, y_9, y_10, y_11, y_12, y_13, y_14, y_15, y_16, y_17, y_18, y_19, y_20, y_21, y_22, y_23, y_24, y_25, y_26, y_27, y_28, y_29, y_30, y_31, y_32, y_33, y_34, y_35, y_36, y_37, y_38, y_39, y_40, y_41, y_42, y_43, y_44, y_45, y_46, y_47, y_48, y_49, y_50, y_51, y_52, y_53, y_54, y_55, y_56, y_57, y_58, y_59, y_60, y_61, y_62, y_63, y_64, y_65, y_66, y_67, y_68, y_69, y_70, y_71, y_72, y_73, y_74, y_75, y_76, y_77, y_78, y_79, y_80, y_81, y_82, y_83, y_84, y_85, y_86, y_87, y_88, y_89, y_90, y_91, y_92, y_93, y_94, y_95, y_96, y_97, y_98, y_99, y_100, y_101, y_102, y_103, y_104, y_105, y_106, y_107, y_108, y_109, y_1000, y_1001, y_1002, y_1003]
        repeat' (first | intro _ | with_reducible apply And.intro)
        all_goals (first | omega | exact ih2)
      · simp only [hC2, if_false] at hid
        subst hid
        simp only [hC2, mj_go_eq, g_cut, g_k0, g_k1, g_w0, g_w1, g_w2, g_w3, g_w4, g_c1, g_c2, g_c3, g_us, g_const, g_sti_1, g_sti_2, g_ldi_2, g_ldr_0, g_getf, g_icge, g_call2, o_204, g_sti_3, g_ldi_3, g_icne, g_goto, g_call3, o_202, g_sti_4, g_iceq, g_ldi_4, o_182, g_getr, g_iald, g_iast, g_inc_1, g_ifne, o_183, g_inc_2, g_ldi_1, g_ret, a_205_0, a_205_1, a_205_2, a_205_3, a_205_4, a_205_5, a_205_6, a_205_9, a_205_12, a_205_13, a_205_14, a_205_17, a_205_18, a_205_19, a_205_21, a_205_24, a_205_26, a_205_29, a_205_30, a_205_31, a_205_32, a_205_35, a_205_37, a_205_38, a_205_40, a_205_43, a_205_45, a_205_47, a_205_50, a_205_51, a_205_52, a_205_53, a_205_56, a_205_57, a_205_60, a_205_61, a_205_62, a_205_65, a_205_67, a_205_68, a_205_69, a_205_70, a_205_73, a_205_75, a_205_76, a_205_77, a_205_78, a_205_81, a_205_83, a_205_84, a_205_85, a_205_88, a_205_89, a_205_92, a_205_93, a_205_94, a_205_97, a_205_98, a_205_99, a_205_102, a_205_103, a_205_104, a_205_107, a_205_108, a_205_109, a_205_111, a_205_114, a_205_116, a_205_119, a_205_120, a_205_121, a_205_122, a_205_125, a_205_127, a_205_130, a_205_133, a_205_136, a_205_137, ne_eq, not_false_eq_true, true_and, and_true, and_self, Int.cast_ofNat_Int, reduceCtorEq, or_false, false_or, not_true_eq_false, or_true, true_or, Int.reduceToNat, Int.reduceAdd, Int.reduceEq, Int.reduceNe, Int.reduceLT, Int.reduceLE, Int.reduceNeg, Int.reduceSub, Int.reduceMul, Nat.reduceAdd, Nat.reduceLT, Nat.reduceLeDiff, Nat.reduceEqDiff, forall_const, false_implies, true_implies, p_1_0, p_1_1, p_1_2, p_1_3, p_1_4, p_1_5, p_1_6, p_1_7, p_1_8, p_1_9, p_2_0, p_4_0, p_4_1, p_4_2, p_4_3, p_4_4, p_4_5, p_5_0, p_5_1, p_5_2, p_5_3, p_5_4, p_5_5, p_12_0, p_12_1, p_12_2, p_12_3, p_12_4, p_18_0, p_18_1, p_18_2, p_18_3, p_23_0, p_23_1, p_23_2, p_23_3, p_23_4, p_31_0, p_31_1, p_31_2, p_31_3, p_36_0, p_36_1, p_36_2, p_36_3, p_36_4, p_42_0, p_42_1, p_42_2, p_42_3, p_42_4, p_42_5, p_42_6, p_42_7, p_42_8, p_52_0, p_52_1, p_52_2, p_52_3, p_52_4, p_52_5, p_52_6, p_58_0, p_58_1, p_58_2, p_62_0, p_62_1, p_62_2, p_62_3, p_67_1, p_67_2, p_67_3, p_67_4, p_67_13, p_67_15, p_67_16, p_67_17, p_67_18, p_67_19, p_67_21, p_67_22, p_67_23, p_67_24, p_67_25, p_67_26, p_67_28, p_67_29, p_67_30, p_67_31, p_67_33, p_67_34, p_67_35, p_67_36, p_67_37, p_67_38, p_67_39, p_67_40, p_67_41, p_67_42, p_67_43, p_67_44, p_67_48, p_67_49, p_67_50, p_67_51, p_67_52, p_67_53, p_67_54, p_67_55, p_x, p_y, p_z, p_sx, p_sy, p_sz, y_1, y_2, y_3, y_4, y_5, y_6, y_7, y_8, y_9, y_10, y_11, y_12, y_13, y_14, y_15, y_16, y_17, y_18, y_19, y_20, y_21, y_22, y_23, y_24, y_25, y_26, y_27, y_28, y_29, y_30, y_31, y_32, y_33, y_34, y_35, y_36, y_37, y_38, y_39, y_40, y_41, y_42, y_43, y_44, y_45, y_46, y_47, y_48, y_49, y_50, y_51, y_52, y_53, y_54, y_55, y_56, y_57, y_58, y_59, y_60, y_61, y_62, y_63, y_64, y_65, y_66, y_67, y_68, y_69, y_70, y_71, y_72, y_73, y_74, y_75, y_76, y_77, y_78, y_79, y_80, y_81, y_82, y_83, y_84, y_85, y_86, y_87, y_88, y_89, y_90, y_91, y_92, y_93, y_94, y_95, y_96, y_97, y_98, y_99, y_100, y_101, y_102, y_103, y_104, y_105, y_106, y_107, y_108, y_109, y_1000, y_1001, y_1002, y_1003]
        repeat' (first | intro _ | with_reducible apply And.intro)
        all_goals (first | omega | exact ih2))
theorem m_serves {L d c x y z : Nat} : ∀ (m : Nat) (t : Int) (k : Nat) (μ μ' ν : mj_M) (s : Int) (v3 v4 : mj_V), SA x m t k μ μ' → JJ x y μ ν → 0 ≤ t → t + m = μ 5 7 → 0 ≤ s ∧ s + 24 * m ≤ 1000 → mj_run L (d + 4) 205 4 [.inr (.inr 67), .inl s, .inl t, v3, v4] [] c (pz x y z) ν (fun r c' π' ν' => JJ x y μ' ν' ∧ FrM ν ν' ∧ r = [.inl (s + k)] ∧ c' = c ∧ π' = pz x y z) := by
  intro m
  induction m with
  | zero =>
    intro t k μ μ' ν s v3 v4 hsa h ht hm hs
    obtain ⟨rfl, rfl⟩ := hsa
    have he := h.en
    generalize hP : (fun r c' π' ν' => JJ x y μ' ν' ∧ FrM ν ν' ∧ r = [.inl (s + ((0 : Nat) : Int))] ∧ c' = c ∧ π' = pz x y z : mj_Q) = P
    refine mj_start ?_
    simp only [mj_go_eq, g_cut, g_k0, g_k1, g_w0, g_w1, g_w2, g_w3, g_w4, g_c1, g_c2, g_c3, g_us, g_const, g_sti_1, g_sti_2, g_ldi_2, g_ldr_0, g_getf, g_icge, g_call2, o_204, g_sti_3, g_ldi_3, g_icne, g_goto, g_call3, o_202, g_sti_4, g_iceq, g_ldi_4, o_182, g_getr, g_iald, g_iast, g_inc_1, g_ifne, o_183, g_inc_2, g_ldi_1, g_ret, a_205_0, a_205_1, a_205_2, a_205_3, a_205_4, a_205_5, a_205_6, a_205_9, a_205_12, a_205_13, a_205_14, a_205_17, a_205_18, a_205_19, a_205_21, a_205_24, a_205_26, a_205_29, a_205_30, a_205_31, a_205_32, a_205_35, a_205_37, a_205_38, a_205_40, a_205_43, a_205_45, a_205_47, a_205_50, a_205_51, a_205_52, a_205_53, a_205_56, a_205_57, a_205_60, a_205_61, a_205_62, a_205_65, a_205_67, a_205_68, a_205_69, a_205_70, a_205_73, a_205_75, a_205_76, a_205_77, a_205_78, a_205_81, a_205_83, a_205_84, a_205_85, a_205_88, a_205_89, a_205_92, a_205_93, a_205_94, a_205_97, a_205_98, a_205_99, a_205_102, a_205_103, a_205_104, a_205_107, a_205_108, a_205_109, a_205_111, a_205_114, a_205_116, a_205_119, a_205_120, a_205_121, a_205_122, a_205_125, a_205_127, a_205_130, a_205_133, a_205_136, a_205_137, ne_eq, not_false_eq_true, true_and, and_true, and_self, Int.cast_ofNat_Int, reduceCtorEq, or_false, false_or, not_true_eq_false, or_true, true_or, Int.reduceToNat, Int.reduceAdd, Int.reduceEq, Int.reduceNe, Int.reduceLT, Int.reduceLE, Int.reduceNeg, Int.reduceSub, Int.reduceMul, Nat.reduceAdd, Nat.reduceLT, Nat.reduceLeDiff, Nat.reduceEqDiff, forall_const, false_implies, true_implies, p_1_0, p_1_1, p_1_2, p_1_3, p_1_4, p_1_5, p_1_6, p_1_7, p_1_8, p_1_9, p_2_0, p_4_0, p_4_1, p_4_2, p_4_3, p_4_4, p_4_5, p_5_0, p_5_1, p_5_2, p_5_3, p_5_4, p_5_5, p_12_0, p_12_1, p_12_2, p_12_3, p_12_4, p_18_0, p_18_1, p_18_2, p_18_3, p_23_0, p_23_1, p_23_2, p_23_3, p_23_4, p_31_0, p_31_1, p_31_2, p_31_3, p_36_0, p_36_1, p_36_2, p_36_3, p_36_4, p_42_0, p_42_1, p_42_2, p_42_3, p_42_4, p_42_5, p_42_6, p_42_7, p_42_8, p_52_0, p_52_1, p_52_2, p_52_3, p_52_4, p_52_5, p_52_6, p_58_0, p_58_1, p_58_2, p_62_0, p_62_1, p_62_2, p_62_3, p_67_1, p_67_2, p_67_3, p_67_4, p_67_13, p_67_15, p_67_16, p_67_17, p_67_18, p_67_19, p_67_21, p_67_22, p_67_23, p_67_24, p_67_25, p_67_26, p_67_28, p_67_29, p_67_30, p_67_31, p_67_33, p_67_34, p_67_35, p_67_36, p_67_37, p_67_38, p_67_39, p_67_40, p_67_41, p_67_42, p_67_43, p_67_44, p_67_48, p_67_49, p_67_50, p_67_51, p_67_52, p_67_53, p_67_54, p_67_55, p_x, p_y, p_z, p_sx, p_sy, p_sz, y_1, y_2, y_3, y_4, y_5, y_6, y_7, y_8, y_9, y_10, y_11, y_12, y_13, y_14, y_15, y_16, y_17, y_18, y_19, y_20, y_21, y_22, y_23, y_24, y_25, y_26, y_27, y_28, y_29, y_30, y_31, y_32, y_33, y_34, y_35, y_36, y_37, y_38, y_39, y_40, y_41, y_42, y_43, y_44, y_45, y_46, y_47, y_48, y_49, y_50, y_51, y_52, y_53, y_54, y_55, y_56, y_57, y_58, y_59, y_60, y_61, y_62, y_63, y_64, y_65, y_66, y_67, y_68, y_69, y_70, y_71, y_72, y_73, y_74, y_75, y_76, y_77, y_78, y_79, y_80, y_81, y_82, y_83, y_84, y_85, y_86, y_87, y_88, y_89, y_90, y_91, y_92, y_93, y_94, y_95, y_96, y_97, y_98, y_99, y_100, y_101, y_102, y_103, y_104, y_105, y_106, y_107, y_108, y_109, y_1000, y_1001, y_1002, y_1003]
    rw [← hP]
    repeat' (first | intro _ | with_reducible apply And.intro)
    all_goals (first | omega | exact h | exact FrM_r _ | rfl | (rw [Int.natCast_zero, Int.add_zero]))
  | succ m ih =>
    intro t k μ μ' ν s v3 v4 hsa h ht hm hs
    obtain ⟨k1, k2, μ1, hk, rfl, hch, hsa⟩ := hsa
    have hn := h.a.n
    unfold JN at hn
    have he := h.en
    have hfresh := fun Q => m_fresh (L := L) (d := d + 3) (c := c) (z := z) h t Q
    have hqueued := fun Q => m_queued (L := L) (d := d) (c := c) (z := z) h (t := t) (by omega) Q
    have h57 : μ1 5 7 = μ 5 7 := by
      have : ∀ (k : Nat) (μ : mj_M), Ch x t k μ μ1 → μ1 5 7 = μ 5 7 := by
        intro k
        induction k with
        | zero => intro μ hc; obtain ⟨_, f, rfl⟩ := hc; rfl
        | succ k ih2 =>
          intro μ hc
          obtain ⟨_, _, f, hc⟩ := hc
          rw [ih2 _ hc, FrC_snd _ _ _ _ 5 (by omega) (by omega) (by omega)]
          rfl
      exact this k1 μ hch
    have mt := m_title (L := L) (d := d) (c := c) (x := x) (y := y) (z := z) (t := t) (by omega) (Q := (fun r c' π' ν' => JJ x y μ' ν' ∧ FrM ν ν' ∧ r = [.inl (s + ((k1 + k2 : Nat) : Int))] ∧ c' = c ∧ π' = pz x y z)) k1 μ μ1 ν s hch h (by omega) (fun ν' v3 v4 a b => by
      have := ih (t + 1) k2 μ1 μ' ν' (s + k1) v3 v4 hsa a (by omega) (by omega) (by omega)
      refine mj_run_mono this (fun r c' π' ν'' ⟨q1, q2, q3, q4, q5⟩ => ⟨q1, FrM_t b q2, by rw [q3]; refine congrArg (fun q : Int => [Sum.inl q]) ?_; omega, q4, q5⟩))
    generalize (fun r c' π' ν' => JJ x y μ' ν' ∧ FrM ν ν' ∧ r = [.inl (s + ((k1 + k2 : Nat) : Int))] ∧ c' = c ∧ π' = pz x y z : mj_Q) = P at mt ⊢
    unfold rq at mt
    generalize fr μ t = C at *
    generalize qf μ x t = R at *
    refine mj_start ?_
    by_cases hC : C = -4
    · simp only [hC, if_true] at mt
      simp only [hC, hfresh, hqueued, mj_go_eq, g_cut, g_k0, g_k1, g_w0, g_w1, g_w2, g_w3, g_w4, g_c1, g_c2, g_c3, g_us, g_const, g_sti_1, g_sti_2, g_ldi_2, g_ldr_0, g_getf, g_icge, g_call2, o_204, g_sti_3, g_ldi_3, g_icne, g_goto, g_call3, o_202, g_sti_4, g_iceq, g_ldi_4, o_182, g_getr, g_iald, g_iast, g_inc_1, g_ifne, o_183, g_inc_2, g_ldi_1, g_ret, a_205_0, a_205_1, a_205_2, a_205_3, a_205_4, a_205_5, a_205_6, a_205_9, a_205_12, a_205_13, a_205_14, a_205_17, a_205_18, a_205_19, a_205_21, a_205_24, a_205_26, a_205_29, a_205_30, a_205_31, a_205_32, a_205_35, a_205_37, a_205_38, a_205_40, a_205_43, a_205_45, a_205_47, a_205_50, a_205_51, a_205_52, a_205_53, a_205_56, a_205_57, a_205_60, a_205_61, a_205_62, a_205_65, a_205_67, a_205_68, a_205_69, a_205_70, a_205_73, a_205_75, a_205_76, a_205_77, a_205_78, a_205_81, a_205_83, a_205_84, a_205_85, a_205_88, a_205_89, a_205_92, a_205_93, a_205_94, a_205_97, a_205_98, a_205_99, a_205_102, a_205_103, a_205_104, a_205_107, a_205_108, a_205_109, a_205_111, a_205_114, a_205_116, a_205_119, a_205_120, a_205_121, a_205_122, a_205_125, a_205_127, a_205_130, a_205_133, a_205_136, a_205_137, ne_eq, not_false_eq_true, true_and, and_true, and_self, Int.cast_ofNat_Int, reduceCtorEq, or_false, false_or, not_true_eq_false, or_true, true_or, Int.reduceToNat, Int.reduceAdd, Int.reduceEq, Int.reduceNe, Int.reduceLT, Int.reduceLE, Int.reduceNeg, Int.reduceSub, Int.reduceMul, Nat.reduceAdd, Nat.reduceLT, Nat.reduceLeDiff, Nat.reduceEqDiff, forall_const, false_implies, true_implies, p_1_0, p_1_1, p_1_2, p_1_3, p_1_4, p_1_5, p_1_6, p_1_7, p_1_8, p_1_9, p_2_0, p_4_0, p_4_1, p_4_2, p_4_3, p_4_4, p_4_5, p_5_0, p_5_1, p_5_2, p_5_3, p_5_4, p_5_5, p_12_0, p_12_1, p_12_2, p_12_3, p_12_4, p_18_0, p_18_1, p_18_2, p_18_3, p_23_0, p_23_1, p_23_2, p_23_3, p_23_4, p_31_0, p_31_1, p_31_2, p_31_3, p_36_0, p_36_1, p_36_2, p_36_3, p_36_4, p_42_0, p_42_1, p_42_2, p_42_3, p_42_4, p_42_5, p_42_6, p_42_7, p_42_8, p_52_0, p_52_1, p_52_2, p_52_3, p_52_4, p_52_5, p_52_6, p_58_0, p_58_1, p_58_2, p_62_0, p_62_1, p_62_2, p_62_3, p_67_1, p_67_2, p_67_3, p_67_4, p_67_13, p_67_15, p_67_16, p_67_17, p_67_18, p_67_19, p_67_21, p_67_22, p_67_23, p_67_24, p_67_25, p_67_26, p_67_28, p_67_29, p_67_30, p_67_31, p_67_33, p_67_34, p_67_35, p_67_36, p_67_37, p_67_38, p_67_39, p_67_40, p_67_41, p_67_42, p_67_43, p_67_44, p_67_48, p_67_49, p_67_50, p_67_51, p_67_52, p_67_53, p_67_54, p_67_55, p_x, p_y, p_z, p_sx, p_sy, p_sz, y_1, y_2, y_3, y_4, y_5, y_6, y_7, y_8, y_9, y_10, y_11, y_12, y_13, y_14, y_15, y_16, y_17, y_18, y_19, y_20, y_21, y_22, y_23, y_24, y_25, y_26, y_27, y_28, y_29, y_30, y_31, y_32, y_33, y_34, y_35, y_36, y_37, y_38, y_39, y_40, y_41, y_42, y_43, y_44, y_45, y_46, y_47, y_48, y_49, y_50, y_51, y_52, y_53, y_54, y_55, y_56, y_57, y_58, y_59, y_60, y_61, y_62, y_63, y_64, y_65, y_66, y_67, y_68, y_69, y_70, y_71, y_72, y_73, y_74, y_75, y_76, y_77, y_78, y_79, y_80, y_81, y_82, y_83, y_84, y_85, y_86, y_87, y_88, y_89, y_90, y_91, y_92, y_93, y_94, y_95, y_96, y_97, y_98, y_99, y_100, y_101, y_102, y_103, y_104, y_105, y_106, y_107, y_108, y_109, y_1000, y_1001, y_1002, y_1003]
      repeat' (first | intro _ | with_reducible apply And.intro)
      all_goals (first | omega | exact mt)
    · simp only [hC, if_false] at mt
      simp only [hC, hfresh, hqueued, mj_go_eq, g_cut, g_k0, g_k1, g_w0, g_w1, g_w2, g_w3, g_w4, g_c1, g_c2, g_c3, g_us, g_const, g_sti_1, g_sti_2, g_ldi_2, g_ldr_0, g_getf, g_icge, g_call2, o_204, g_sti_3, g_ldi_3, g_icne, g_goto, g_call3, o_202, g_sti_4, g_iceq, g_ldi_4, o_182, g_getr, g_iald, g_iast, g_inc_1, g_ifne, o_183, g_inc_2, g_ldi_1, g_ret, a_205_0, a_205_1, a_205_2, a_205_3, a_205_4, a_205_5, a_205_6, a_205_9, a_205_12, a_205_13, a_205_14, a_205_17, a_205_18, a_205_19, a_205_21, a_205_24, a_205_26, a_205_29, a_205_30, a_205_31, a_205_32, a_205_35, a_205_37, a_205_38, a_205_40, a_205_43, a_205_45, a_205_47, a_205_50, a_205_51, a_205_52, a_205_53, a_205_56, a_205_57, a_205_60, a_205_61, a_205_62, a_205_65, a_205_67, a_205_68, a_205_69, a_205_70, a_205_73, a_205_75, a_205_76, a_205_77, a_205_78, a_205_81, a_205_83, a_205_84, a_205_85, a_205_88, a_205_89, a_205_92, a_205_93, a_205_94, a_205_97, a_205_98, a_205_99, a_205_102, a_205_103, a_205_104, a_205_107, a_205_108, a_205_109, a_205_111, a_205_114, a_205_116, a_205_119, a_205_120, a_205_121, a_205_122, a_205_125, a_205_127, a_205_130, a_205_133, a_205_136, a_205_137, ne_eq, not_false_eq_true, true_and, and_true, and_self, Int.cast_ofNat_Int, reduceCtorEq, or_false, false_or, not_true_eq_false, or_true, true_or, Int.reduceToNat, Int.reduceAdd, Int.reduceEq, Int.reduceNe, Int.reduceLT, Int.reduceLE, Int.reduceNeg, Int.reduceSub, Int.reduceMul, Nat.reduceAdd, Nat.reduceLT, Nat.reduceLeDiff, Nat.reduceEqDiff, forall_const, false_implies, true_implies, p_1_0, p_1_1, p_1_2, p_1_3, p_1_4, p_1_5, p_1_6, p_1_7, p_1_8, p_1_9, p_2_0, p_4_0, p_4_1, p_4_2, p_4_3, p_4_4, p_4_5, p_5_0, p_5_1, p_5_2, p_5_3, p_5_4, p_5_5, p_12_0, p_12_1, p_12_2, p_12_3, p_12_4, p_18_0, p_18_1, p_18_2, p_18_3, p_23_0, p_23_1, p_23_2, p_23_3, p_23_4, p_31_0, p_31_1, p_31_2, p_31_3, p_36_0, p_36_1, p_36_2, p_36_3, p_36_4, p_42_0, p_42_1, p_42_2, p_42_3, p_42_4, p_42_5, p_42_6, p_42_7, p_42_8, p_52_0, p_52_1, p_52_2, p_52_3, p_52_4, p_52_5, p_52_6, p_58_0, p_58_1, p_58_2, p_62_0, p_62_1, p_62_2, p_62_3, p_67_1, p_67_2, p_67_3, p_67_4, p_67_13, p_67_15, p_67_16, p_67_17, p_67_18, p_67_19, p_67_21, p_67_22, p_67_23, p_67_24, p_67_25, p_67_26, p_67_28, p_67_29, p_67_30, p_67_31, p_67_33, p_67_34, p_67_35, p_67_36, p_67_37, p_67_38, p_67_39, p_67_40, p_67_41, p_67_42, p_67_43, p_67_44, p_67_48, p_67_49, p_67_50, p_67_51, p_67_52, p_67_53, p_67_54, p_67_55, p_x, p_y, p_z, p_sx, p_sy, p_sz, y_1, y_2, y_3, y_4, y_5, y_6, y_7, y_8, y_9, y_10, y_11, y_12, y_13, y_14, y_15, y_16, y_17, y_18, y_19, y_20, y_21, y_22, y_23, y_24, y_25, y_26, y_27, y_28, y_29, y_30, y_31, y_32, y_33, y_34, y_35, y_36, y_37, y_38, y_39, y_40, y_41, y_42, y_43, y_44, y_45, y_46, y_47, y_48, y_49, y_50, y_51, y_52, y_53, y_54, y_55, y_56, y_57, y_58, y_59, y_60, y_61, y_62, y_63, y_64, y_65, y_66, y_67, y_68, y_69, y_70, y_71, y_72, y_73, y_74, y_75, y_76, y_77, y_78, y_79, y_80, y_81, y_82, y_83, y_84, y_85, y_86, y_87, y_88, y_89, y_90, y_91, y_92, y_93, y_94, y_95, y_96, y_97, y_98, y_99, y_100, y_101, y_102, y_103, y_104, y_105, y_106, y_107, y_108, y_109, y_1000, y_1001, y_1002, y_1003]
      repeat' (first | intro _ | with_reducible apply And.intro)
      all_goals (first | omega | exact mt)
theorem c_Mo_serves {L d c x y z k : Nat} {μ μ' ν : mj_M} (h : JJ x y μ ν) (hsa : SA x (μ 5 7).toNat 0 k μ μ') : ∃ ν', JJ x y μ' ν' ∧ FrM ν ν' ∧ ∀ Q : mj_Q, mj_call L (d + 4) 205 [.inr (.inr 67)] c (pz x y z) ν Q = Q [.inl (k : Int)] c (pz x y z) ν' := by
  have hn := h.a.n
  unfold JN at hn
  have h0 := m_serves (L := L) (d := d) (c := c) (x := x) (y := y) (z := z) (μ 5 7).toNat 0 k μ μ' ν 0 (.inr (.inr 0)) (.inr (.inr 0)) hsa h (by omega) (by omega) (by omega)
  have hc : ∀ P : mj_Q, mj_run L (d + 4) 205 4 [.inr (.inr 67), .inl 0, .inl 0, .inr (.inr 0), .inr (.inr 0)] [] c (pz x y z) ν P → mj_call L (d + 4) 205 [.inr (.inr 67)] c (pz x y z) ν P := fun P hp => by
    simp only [e_205, mj_go_eq, g_cut, g_k0, g_k1, g_w0, g_w1, g_w2, g_w3, g_w4, g_c1, g_c2, g_c3, g_us, g_const, g_sti_1, g_sti_2, g_ldi_2, g_ldr_0, g_getf, g_icge, g_call2, o_204, g_sti_3, g_ldi_3, g_icne, g_goto, g_call3, o_202, g_sti_4, g_iceq, g_ldi_4, o_182, g_getr, g_iald, g_iast, g_inc_1, g_ifne, o_183, g_inc_2, g_ldi_1, g_ret, a_205_0, a_205_1, a_205_2, a_205_3, a_205_4, a_205_5, a_205_6, a_205_9, a_205_12, a_205_13, a_205_14, a_205_17, a_205_18, a_205_19, a_205_21, a_205_24, a_205_26, a_205_29, a_205_30, a_205_31, a_205_32, a_205_35, a_205_37, a_205_38, a_205_40, a_205_43, a_205_45, a_205_47, a_205_50, a_205_51, a_205_52, a_205_53, a_205_56, a_205_57, a_205_60, a_205_61, a_205_62, a_205_65, a_205_67, a_205_68, a_205_69, a_205_70, a_205_73, a_205_75, a_205_76, a_205_77, a_205_78, a_205_81, a_205_83, a_205_84, a_205_85, a_205_88, a_205_89, a_205_92, a_205_93, a_205_94, a_205_97, a_205_98, a_205_99, a_205_102, a_205_103, a_205_104, a_205_107, a_205_108, a_205_109, a_205_111, a_205_114, a_205_116, a_205_119, a_205_120, a_205_121, a_205_122, a_205_125, a_205_127, a_205_130, a_205_133, a_205_136, a_205_137, ne_eq, not_false_eq_true, true_and, and_true, and_self, Int.cast_ofNat_Int, reduceCtorEq, or_false, false_or, not_true_eq_false, or_true, true_or, Int.reduceToNat, Int.reduceAdd, Int.reduceEq, Int.reduceNe, Int.reduceLT, Int.reduceLE, Int.reduceNeg, Int.reduceSub, Int.reduceMul, Nat.reduceAdd, Nat.reduceLT, Nat.reduceLeDiff, Nat.reduceEqDiff, forall_const, false_implies, true_implies]
    exact hp
  obtain ⟨r, c', π', ν', ⟨q1, q2, rfl, rfl, rfl⟩, hQ⟩ := mj_call_ex (hc _ h0)
  rw [Int.zero_add] at hQ
  exact ⟨ν', q1, q2, hQ⟩
theorem k_serve {L x y z : Nat} {μ : mj_M} (hJ : J x y μ) : KK L 129 208 [] x y z μ := by
  have hJJ : JJ x y μ μ := hJ
  obtain ⟨k, μ', hsa, _, hfc, hc⟩ := c_Ho_serveAll (L := L) (d := 92) (c := 110) (z := z) hJJ
  obtain ⟨ν', hj, hfm, hc2⟩ := c_Mo_serves (L := L) (d := 94) (c := 110) (z := z) (JJ_r hJJ (fun q a b => hfc q (by omega) (by omega) (by omega))) hsa
  unfold KK
  simp only [hc, hc2, e_129, e_208, mj_go_eq, g_cut, g_k0, g_k1, g_w0, g_w1, g_w2, g_w3, g_w4, g_c1, g_c2, g_c3, g_us, g_ldr_0, g_getr, g_call1, o_30, g_ret, o_205, a_129_0, a_129_1, a_129_4, a_129_7, a_208_0, a_208_1, a_208_4, ne_eq, not_false_eq_true, true_and, and_true, and_self, Int.cast_ofNat_Int, reduceCtorEq, or_false, false_or, not_true_eq_false, or_true, true_or, Int.reduceToNat, Int.reduceAdd, Int.reduceEq, Int.reduceNe, Int.reduceLT, Int.reduceLE, Int.reduceNeg, Int.reduceSub, Int.reduceMul, Nat.reduceAdd, Nat.reduceLT, Nat.reduceLeDiff, Nat.reduceEqDiff, forall_const, false_implies, true_implies, p_1_0, p_1_1, p_1_2, p_1_3, p_1_4, p_1_5, p_1_6, p_1_7, p_1_8, p_1_9, p_2_0, p_4_0, p_4_1, p_4_2, p_4_3, p_4_4, p_4_5, p_5_0, p_5_1, p_5_2, p_5_3, p_5_4, p_5_5, p_12_0, p_12_1, p_12_2, p_12_3, p_12_4, p_18_0, p_18_1, p_18_2, p_18_3, p_23_0, p_23_1, p_23_2, p_23_3, p_23_4, p_31_0, p_31_1, p_31_2, p_31_3, p_36_0, p_36_1, p_36_2, p_36_3, p_36_4, p_42_0, p_42_1, p_42_2, p_42_3, p_42_4, p_42_5, p_42_6, p_42_7, p_42_8, p_52_0, p_52_1, p_52_2, p_52_3, p_52_4, p_52_5, p_52_6, p_58_0, p_58_1, p_58_2, p_62_0, p_62_1, p_62_2, p_62_3, p_67_1, p_67_2, p_67_3, p_67_4, p_67_13, p_67_15, p_67_16, p_67_17, p_67_18, p_67_19, p_67_21, p_67_22, p_67_23, p_67_24, p_67_25, p_67_26, p_67_28, p_67_29, p_67_30, p_67_31, p_67_33, p_67_34, p_67_35, p_67_36, p_67_37, p_67_38, p_67_39, p_67_40, p_67_41, p_67_42, p_67_43, p_67_44, p_67_48, p_67_49, p_67_50, p_67_51, p_67_52, p_67_53, p_67_54, p_67_55, p_x, p_y, p_z, p_sx, p_sy, p_sz, y_1, y_2, y_3, y_4, y_5, y_6, y_7, y_8, y_9, y_10, y_11, y_12, y_13, y_14, y_15, y_16, y_17, y_18, y_19, y_20, y_21, y_22, y_23, y_24, y_25, y_26, y_27, y_28, y_29, y_30, y_31, y_32, y_33, y_34, y_35, y_36, y_37, y_38, y_39, y_40, y_41, y_42, y_43, y_44, y_45, y_46, y_47, y_48, y_49, y_50, y_51, y_52, y_53, y_54, y_55, y_56, y_57, y_58, y_59, y_60, y_61, y_62, y_63, y_64, y_65, y_66, y_67, y_68, y_69, y_70, y_71, y_72, y_73, y_74, y_75, y_76, y_77, y_78, y_79, y_80, y_81, y_82, y_83, y_84, y_85, y_86, y_87, y_88, y_89, y_90, y_91, y_92, y_93, y_94, y_95, y_96, y_97, y_98, y_99, y_100, y_101, y_102, y_103, y_104, y_105, y_106, y_107, y_108, y_109, y_1000, y_1001, y_1002, y_1003, k_2]
  repeat' (first | intro _ | with_reducible apply And.intro)
  all_goals (first | omega | trivial | exact k_e rfl (JJ_l hj (fun q a => hfm q (by omega) (by omega) (by omega))) | skip)
