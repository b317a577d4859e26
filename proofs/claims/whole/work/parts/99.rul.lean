set_option maxRecDepth 20000
theorem rnf_nf {b f : Int → Int} {lo hi : Int} (h : ¬ nxf b f 2 = 0) : rnf b f lo hi = nxf b f := by
  unfold rnf
  rw [flf_flt (f := nxf b f) h, flf_flt h]
theorem kl_nf {z k : Nat} {ρ : mj_M} {f : Int → Int} (hf2 : ¬ nxf (ρ 3) f 2 = 0) : kl z (k + 1) ρ f = (ρ, nxf (ρ 3) f) := by
  have e1 : rsf (ρ 3) f 43 45 = nxf (ρ 3) f := by unfold rsf; exact flf_flt hf2
  have e2 : rkf ρ z (nxf (ρ 3) f) = nxf (ρ 3) f := by unfold rkf; rw [nxf_flt (f := nxf (ρ 3) f) hf2, flf_flt (f := nxf (ρ 3) f) hf2, flf_flt hf2]
  have e3 : rsf (ρ 3) (nxf (ρ 3) f) 44 59 = nxf (ρ 3) f := rsf_flt hf2
  have e4 : ∀ lf, rkr ρ z (nxf (ρ 3) f) lf = ρ := fun lf => by unfold rkr; rw [e2, if_neg hf2]
  unfold kl
  rw [e1, e2, e3, if_neg (by unfold v0; rw [if_neg hf2]; decide), e4]
theorem RD_right {z : Nat} {ρ ν : mj_M} (h : RD z ρ ν) {t a b : Int} (ht : 0 ≤ t ∧ t ≤ 11) (hab : 0 ≤ a ∧ a ≤ b ∧ b ≤ 999) : RD z (mj_up (mj_up ρ (z + 3) t a) (z + 4) t b) (mj_up (mj_up ν 69 (11 + t) a) 69 (23 + t) b) := by
  unfold RD JRu at *
  obtain ⟨h1, h2, h3, h4, h5, h6, h7, h8⟩ := h
  have e1 : mj_up (mj_up ρ (z + 3) t a) (z + 4) t b (z + 1) = ρ (z + 1) := by rw [g_un (by omega), g_un (by omega)]
  have e2 : mj_up (mj_up ρ (z + 3) t a) (z + 4) t b (z + 2) = ρ (z + 2) := by rw [g_un (by omega), g_un (by omega)]
  have e3 : mj_up (mj_up ρ (z + 3) t a) (z + 4) t b (z + 3) = mj_pt (ρ (z + 3)) t a := by rw [g_un (by omega), g_us]
  have e4 : mj_up (mj_up ρ (z + 3) t a) (z + 4) t b (z + 4) = mj_pt (ρ (z + 4)) t b := by rw [g_us, g_un (by omega)]
  have e0 : mj_up (mj_up ρ (z + 3) t a) (z + 4) t b z = ρ z := by rw [g_un (by omega), g_un (by omega)]
  have e9 : mj_up (mj_up ν 69 (11 + t) a) 69 (23 + t) b 69 = mj_pt (mj_pt (ν 69) (11 + t) a) (23 + t) b := by rw [g_us, g_us]
  rw [e0, e1, e2, e3, e4, e9]
  refine ⟨fun i p q => ?_, ?_, fun i p q => ?_, fun i p q => ?_, h5, h6, h7, fun i p q => ?_⟩
  · rw [g_pn (show i ≠ 23 + t by omega), g_pn (show i ≠ 11 + t by omega)]; exact h1 i p q
  · rw [g_pn (show (5 : Int) ≠ 23 + t by omega), g_pn (show (5 : Int) ≠ 11 + t by omega)]; exact h2
  · rw [g_pn (show 6 + i ≠ 23 + t by omega), g_pn (show 6 + i ≠ 11 + t by omega)]; exact h3 i p q
  · have := h4 i p q
    by_cases e : i = t
    · subst e
      rw [g_pn (show 11 + i ≠ 23 + i by omega), g_ps, g_ps, g_ps, g_ps]
      exact ⟨rfl, rfl⟩
    · rw [g_pn (show 11 + i ≠ 23 + t by omega), g_pn (show 11 + i ≠ 11 + t by omega), g_pn (show 23 + i ≠ 23 + t by omega), g_pn (show 23 + i ≠ 11 + t by omega), g_pn e, g_pn e]
      exact this
  · by_cases e : i = t
    · subst e
      rw [g_ps, g_ps]
      omega
    · rw [g_pn e, g_pn e]; exact h8 i p q
theorem s_lineR {L d c x y w z : Nat} {ρ ν : mj_M} {f g : Int → Int} (hz : z = 31 ∨ z = 62) (hb : TB (ρ 3) (ν 71)) (h : RT f g) (h2 : f 2 = 0) (hrd : RD z ρ ν) (hto : RTo (f 4) ν) (hw : f 6 = 1 ∧ f 8 = 6) : mj_call L (d + 6) 165 [.inr (.inr 67)] c (pz x y w) (mj_ua ν 67 g) (fun r c' π' μ' => ∃ (ν' : mj_M) (g' : Int → Int), μ' = mj_ua ν' 67 g' ∧ r = [] ∧ c' = c ∧ π' = pz x y w ∧ RT (nxf (ρ 3) (rln z ρ f).2) g' ∧ (∀ q, q ≠ 69 → q ≠ 70 → ν' q = ν q) ∧ (∀ i, ¬ (6 ≤ i ∧ i ≤ 11) → g' i = g i) ∧ ((rln z ρ f).2 2 = 0 → RD z (rln z ρ f).1 ν' ∧ RTo ((rln z ρ f).2 4) ν') : mj_Q) := by
  have e : rln z ρ f = rrt z ρ f := by unfold rln; rw [if_pos (by omega), if_pos hw.2]
  have h0 := h
  obtain ⟨_, _, h10, _, hd⟩ := h0
  have hk : TKR (f 6) (f 8) (g 8) (g 9) := by
    rcases hd with ⟨_, _, _, _, hk⟩ | ⟨a1, _⟩
    · exact hk
    · exact absurd h2 a1
  unfold TKR at hk
  have h1010 : g 10 = 0 := by omega
  have ht : ∀ i, 0 ≤ ν 71 i := fun i => (hb i).2.1
  have e70 : ∀ G : Int → Int, mj_ua ν 67 G 70 = ν 70 := fun G => rfl
  have q8 : g 8 = 1 := by omega
  have hg9 : g 9 = 6 := by omega
  have h3 : RT (nxf (ρ 3) f) (nxg (ν 71) g) := RT_next hb h
  have hkn := fun Q => m_next (L := L) (d := d + 1) (c := c) (x := x) (y := y) (z := w) (ν := ν) (RT_PG h) ht Q
  have hgo : ∀ i, ¬ (6 ≤ i ∧ i ≤ 11) → nxg (ν 71) g i = g i := fun i hi => nxg_o _ _ hi
  generalize nxg (ν 71) g = g3 at *
  rw [e]
  obtain ⟨r1, r2⟩ := rrt_2 z ρ f
  obtain ⟨s1, s2, s3, s4, s5, s6⟩ := s_right (z := z) hb h3 (fun i p q => (hrd.2.2.2.1 i p q).1)
  by_cases q3 : g3 10 = 0
  · have hrr := fun Q => c_Mo_readRight (L := L) (d := d) (c := c) (x := x) (y := y) (z := w) ht s1 s2 s3 s4 (fun q => (s6 q).2.1) Q
    have e71 : rgn ν g3 71 = ν 71 := by unfold rgn; split; exact (g_un (by decide)).trans (g_un (by decide)); rfl
    have s7 : RT (rsf (ρ 3) (rF3 z ρ f) 59 59) (sgn (nxg (ν 71) (rg7 ν g3)) 59) := RT_sgn s5 59 (by decide)
    generalize hP : (fun r c' π' μ' => ∃ (ν' : mj_M) (g' : Int → Int), μ' = mj_ua ν' 67 g' ∧ r = [] ∧ c' = c ∧ π' = pz x y w ∧ RT (nxf (ρ 3) (rrt z ρ f).2) g' ∧ (∀ q, q ≠ 69 → q ≠ 70 → ν' q = ν q) ∧ (∀ i, ¬ (6 ≤ i ∧ i ≤ 11) → g' i = g i) ∧ ((rrt z ρ f).2 2 = 0 → RD z (rrt z ρ f).1 ν' ∧ RTo ((rrt z ρ f).2 4) ν') : mj_Q) = P
    have ta := t_tail (L := L) (d := d) (c := c) (x := x) (y := y) (w := w) (ν := rgn ν g3) (g := nxg (ν 71) (rg7 ν g3)) (v1 := .inl 6) (Q := P) (RT_PG s7) (by rw [e71]; exact ht) (by
      rw [← hP, e71]
      refine ⟨_, _, rfl, rfl, rfl, rfl, ?_, fun q p1 p2 => ?_, fun i hi => ?_, fun q => ?_⟩
      · rw [r1]; exact RT_next hb s7
      · unfold rgn; split
        · exact (g_un p1).trans (g_un p1)
        · rfl
      · rw [nxg_o _ _ hi, sgn_o _ _ hi, nxg_o _ _ hi]
        have e7 : rg7 ν g3 i = nxg (ν 71) (rg5 ν g3) i := by unfold rg7; split; exact nmg_o _ _ _ hi; rfl
        have e5 : rg5 ν g3 i = nxg (ν 71) (rg2 ν g3) i := by unfold rg5; split; exact nmg_o _ _ _ hi; rfl
        have e2 : rg2 ν g3 i = g3 i := by
          unfold rg2
          split
          · rw [wtg_o _ _ _ (by omega)]; exact nmg_o _ _ _ hi
          · exact nmg_o _ _ _ hi
        rw [e7, nxg_o _ _ hi, e5, nxg_o _ _ hi, e2]
        exact hgo i hi
      · obtain ⟨a1, a2, a3, a4, a5⟩ := r2 q
        have q8 : nxg (ν 71) (rg7 ν g3) 10 = 0 := by
          rw [r1] at q
          by_cases b : nxg (ν 71) (rg7 ν g3) 10 = 0
          · exact b
          · rw [← s7.2.2.1, sgn_flt b] at q; exact absurd q b
        obtain ⟨b1, b2, b3, b4, b5⟩ := s6 q8
        have er : rgn ν g3 = mj_up (mj_up ν 69 (11 + g3 9) (rga ν g3)) 69 (23 + g3 9) (rgb ν g3) := if_pos q8
        refine ⟨?_, ?_⟩
        · rw [a5, er, b3, b4, b1]
          exact RD_right hrd (by omega) (by omega)
        · rw [r1, rsf_4]
          unfold rF3 rF2 rF1
          rw [rnf_4, rnf_4, flf_4, rnf_4]
          obtain ⟨q, hq1, hq2, hq3⟩ := hto
          refine ⟨q, hq1, hq2, fun k hk => ?_⟩
          rw [er, g_un (by decide), g_un (by decide)]
          exact hq3 k hk)
    simp only [mj_go_eq] at ta
    simp only [q8, hg9, h1010, e70, wtg_1, hkn, hrr, c_Mo_wants, q3, if_false, e_165, mj_go_eq, g_cut, g_k0, g_k1, g_w0, g_w1, g_w2, g_w3, g_w4, g_c1, g_c2, g_c3, g_us, g_ldr_0, g_getf, g_const, g_icne, g_icgt, g_goto, g_call3, o_153, g_ifle, g_vret, g_sti_1, g_ldi_1, g_iceq, g_getr, g_bald, g_ifne, g_call1, o_158, g_bast, g_icge, o_163, o_164, o_160, g_iast, o_161, o_162, g_call2, o_159, a_165_0, a_165_1, a_165_2, a_165_5, a_165_6, a_165_9, a_165_10, a_165_13, a_165_15, a_165_18, a_165_19, a_165_22, a_165_23, a_165_24, a_165_27, a_165_28, a_165_31, a_165_34, a_165_35, a_165_36, a_165_39, a_165_40, a_165_41, a_165_42, a_165_44, a_165_47, a_165_48, a_165_51, a_165_52, a_165_53, a_165_56, a_165_57, a_165_60, a_165_61, a_165_62, a_165_65, a_165_66, a_165_69, a_165_70, a_165_72, a_165_75, a_165_76, a_165_79, a_165_80, a_165_81, a_165_82, a_165_83, a_165_86, a_165_89, a_165_90, a_165_91, a_165_94, a_165_95, a_165_98, a_165_99, a_165_100, a_165_101, a_165_104, a_165_105, a_165_108, a_165_111, a_165_112, a_165_113, a_165_116, a_165_119, a_165_120, a_165_123, a_165_126, a_165_127, a_165_128, a_165_131, a_165_132, a_165_135, a_165_138, a_165_139, a_165_142, a_165_145, a_165_146, a_165_149, a_165_150, a_165_153, a_165_156, a_165_157, a_165_158, a_165_160, a_165_163, a_165_164, a_165_167, a_165_168, a_165_171, ne_eq, not_false_eq_true, true_and, and_true, and_self, Int.cast_ofNat_Int, reduceCtorEq, or_false, false_or, not_true_eq_false, or_true, true_or, Int.reduceToNat, Int.reduceAdd, Int.reduceEq, Int.reduceNe, Int.reduceLT, Int.reduceLE, Int.reduceNeg, Int.reduceSub, Int.reduceMul, Nat.reduceAdd, Nat.reduceLT, Nat.reduceLeDiff, Nat.reduceEqDiff, forall_const, false_implies, true_implies, p_1_0, p_1_1, p_1_2, p_1_3, p_1_4, p_1_5, p_1_6, p_1_7, p_1_8, p_1_9, p_2_0, p_4_0, p_4_1, p_4_2, p_4_3, p_4_4, p_4_5, p_5_0, p_5_1, p_5_2, p_5_3, p_5_4, p_5_5, p_12_0, p_12_1, p_12_2, p_12_3, p_12_4, p_18_0, p_18_1, p_18_2, p_18_3, p_23_0, p_23_1, p_23_2, p_23_3, p_23_4, p_31_0, p_31_1, p_31_2, p_31_3, p_36_0, p_36_1, p_36_2, p_36_3, p_36_4, p_42_0, p_42_1, p_42_2, p_42_3, p_42_4, p_42_5, p_42_6, p_42_7, p_42_8, p_52_0, p_52_1, p_52_2, p_52_3, p_52_4, p_52_5, p_52_6, p_58_0, p_58_1, p_58_2, p_62_0, p_62_1, p_62_2, p_62_3, p_67_1, p_67_2, p_67_3, p_67_4, p_67_13, p_67_15, p_67_16, p_67_17, p_67_18, p_67_19, p_67_21, p_67_22, p_67_23, p_67_24, p_67_25, p_67_26, p_67_28, p_67_29, p_67_30, p_67_31, p_67_33, p_67_34, p_67_35, p_67_36, p_67_37, p_67_38, p_67_39, p_67_40, p_67_41, p_67_42, p_67_43, p_67_44, p_67_48, p_67_49, p_67_50, p_67_51, p_67_52, p_67_53, p_67_54, p_67_55, p_x, p_y, p_z, p_sx, p_sy, p_sz, y_1, y_2, y_3, y_4, y_5, y_6, y_7, y_8, y_9, y_10, y_11, y_12, y_13, y_14, y_15, y_16, y_17, y_18, y_19, y_20, y_21, y_22, y_23, y_24, y_25, y_26, y_27, y_28, y_29, y_30, y_31, y_32, y_33, y_34, y_35, y_36, y_37, y_38, y_39, y_40, y_41, y_42, y_43, y_44, y_45, y_46, y_47, y_48, y_49, y_50, y_51, y_52, y_53, y_54, y_55, y_56, y_57, y_58, y_59, y_60, y_61, y_62, y_63, y_64, y_65, y_66, y_67, y_68, y_69, y_70, y_71, y_72, y_73, y_74, y_75, y_76, y_77, y_78, y_79, y_80, y_81, y_82, y_83, y_84, y_85, y_86, y_87, y_88, y_89, y_90, y_91, y_92, y_93, y_94, y_95, y_96, y_97, y_98, y_99, y_100, y_101, y_102, y_103, y_104, y_105, y_106, y_107, y_108, y_109, y_1000, y_1001, y_1002, y_1003, g_as]
    simp only [mj_go_eq, mj_go_eq, g_cut, g_k0, g_k1, g_w0, g_w1, g_w2, g_w3, g_w4, g_c1, g_c2, g_c3, g_us, g_ldr_0, g_getf, g_const, g_icne, g_icgt, g_goto, g_call3, o_153, g_ifle, g_vret, g_sti_1, g_ldi_1, g_iceq, g_getr, g_bald, g_ifne, g_call1, o_158, g_bast, g_icge, o_163, o_164, o_160, g_iast, o_161, o_162, g_call2, o_159, a_165_0, a_165_1, a_165_2, a_165_5, a_165_6, a_165_9, a_165_10, a_165_13, a_165_15, a_165_18, a_165_19, a_165_22, a_165_23, a_165_24, a_165_27, a_165_28, a_165_31, a_165_34, a_165_35, a_165_36, a_165_39, a_165_40, a_165_41, a_165_42, a_165_44, a_165_47, a_165_48, a_165_51, a_165_52, a_165_53, a_165_56, a_165_57, a_165_60, a_165_61, a_165_62, a_165_65, a_165_66, a_165_69, a_165_70, a_165_72, a_165_75, a_165_76, a_165_79, a_165_80, a_165_81, a_165_82, a_165_83, a_165_86, a_165_89, a_165_90, a_165_91, a_165_94, a_165_95, a_165_98, a_165_99, a_165_100, a_165_101, a_165_104, a_165_105, a_165_108, a_165_111, a_165_112, a_165_113, a_165_116, a_165_119, a_165_120, a_165_123, a_165_126, a_165_127, a_165_128, a_165_131, a_165_132, a_165_135, a_165_138, a_165_139, a_165_142, a_165_145, a_165_146, a_165_149, a_165_150, a_165_153, a_165_156, a_165_157, a_165_158, a_165_160, a_165_163, a_165_164, a_165_167, a_165_168, a_165_171, ne_eq, not_false_eq_true, true_and, and_true, and_self, Int.cast_ofNat_Int, reduceCtorEq, or_false, false_or, not_true_eq_false, or_true, true_or, Int.reduceToNat, Int.reduceAdd, Int.reduceEq, Int.reduceNe, Int.reduceLT, Int.reduceLE, Int.reduceNeg, Int.reduceSub, Int.reduceMul, Nat.reduceAdd, Nat.reduceLT, Nat.reduceLeDiff, Nat.reduceEqDiff, forall_const, false_implies, true_implies, p_1_0, p_1_1, p_1_2, p_1_3, p_1_4, p_1_5, p_1_6, p_1_7, p_1_8, p_1_9, p_2_0, p_4_0, p_4_1, p_4_2, p_4_3, p_4_4, p_4_5, p_5_0, p_5_1, p_5_2, p_5_3, p_5_4, p_5_5, p_12_0, p_12_1, p_12_2, p_12_3, p_12_4, p_18_0, p_18_1, p_18_2, p_18_3, p_23_0, p_23_1, p_23_2, p_23_3, p_23_4, p_31_0, p_31_1, p_31_2, p_31_3, p_36_0, p_36_1, p_36_2, p_36_3, p_36_4, p_42_0, p_42_1, p_42_2, p_42_3, p_42_4, p_42_5, p_42_6, p_42_7, p_42_8, p_52_0, p_52_1, p_52_2, p_52_3, p_52_4, p_52_5, p_52_6, p_58_0, p_58_1, p_58_2, p_62_0, p_62_1, p_62_2, p_62_3, p_67_1, p_67_2, p_67_3, p_67_4, p_67_13, p_67_15, p_67_16, p_67_17, p_67_18, p_67_19, p_67_21, p_67_22, p_67_23, p_67_24, p_67_25, p_67_26, p_67_28, p_67_29, p_67_30, p_67_31, p_67_33, p_67_34, p_67_35, p_67_36, p_67_37, p_67_38, p_67_39, p_67_40, p_67_41, p_67_42, p_67_43, p_67_44, p_67_48, p_67_49, p_67_50, p_67_51, p_67_52, p_67_53, p_67_54, p_67_55, p_x, p_y, p_z, p_sx, p_sy, p_sz, y_1, y_2, y_3, y_4, y_5, y_6, y_7, y_8, y_9, y_10, y_11, y_12, y_13, y_14, y_15, y_16, y_17, y_18, y_19, y_20, y_21, y_22, y_23, y_24, y_25, y_26, y_27, y_28, y_29, y_30, y_31, y_32, y_33, y_34, y_35, y_36, y_37, y_38, y_39, y_40, y_41, y_42, y_43, y_44, y_45, y_46, y_47, y_48, y_49, y_50, y_51, y_52, y_53, y_54, y_55, y_56, y_57, y_58, y_59, y_60, y_61, y_62, y_63, y_64, y_65, y_66, y_67, y_68, y_69, y_70, y_71, y_72, y_73, y_74, y_75, y_76, y_77, y_78, y_79, y_80, y_81, y_82, y_83, y_84, y_85, y_86, y_87, y_88, y_89, y_90, y_91, y_92, y_93, y_94, y_95, y_96, y_97, y_98, y_99, y_100, y_101, y_102, y_103, y_104, y_105, y_106, y_107, y_108, y_109, y_1000, y_1001, y_1002, y_1003, g_as] at ta
    repeat' (first | intro _ | with_reducible apply And.intro)
    all_goals (first | omega | exact ta | grind)
  · have q3' : ¬ nxf (ρ 3) f 2 = 0 := by rw [← h3.2.2.1]; exact q3
    have er2 : (rrt z ρ f).2 = nxf (ρ 3) f := by
      rw [r1]
      unfold rF3 rF2 rF1
      rw [rnf_nf q3', flf_flt q3', rnf_flt q3', rnf_flt q3', rsf_flt q3']
    have hsg : sgn g3 59 = g3 := sgn_flt q3
    generalize hP : (fun r c' π' μ' => ∃ (ν' : mj_M) (g' : Int → Int), μ' = mj_ua ν' 67 g' ∧ r = [] ∧ c' = c ∧ π' = pz x y w ∧ RT (nxf (ρ 3) (rrt z ρ f).2) g' ∧ (∀ q, q ≠ 69 → q ≠ 70 → ν' q = ν q) ∧ (∀ i, ¬ (6 ≤ i ∧ i ≤ 11) → g' i = g i) ∧ ((rrt z ρ f).2 2 = 0 → RD z (rrt z ρ f).1 ν' ∧ RTo ((rrt z ρ f).2 4) ν') : mj_Q) = P
    have ta := t_tail (L := L) (d := d) (c := c) (x := x) (y := y) (w := w) (ν := ν) (g := g3) (v1 := .inl 6) (Q := P) (by rw [hsg]; exact RT_PG h3) ht (by
      rw [← hP, hsg, nxg_flt q3]
      refine ⟨_, _, rfl, rfl, rfl, rfl, ?_, fun _ _ _ => rfl, hgo, fun q => ?_⟩
      · rw [er2, nxf_flt q3']; exact h3
      · rw [er2] at q; exact absurd q q3')
    simp only [q8, hg9, h1010, e70, wtg_1, hkn, c_Mo_wants, q3, if_false, e_165, mj_go_eq, g_cut, g_k0, g_k1, g_w0, g_w1, g_w2, g_w3, g_w4, g_c1, g_c2, g_c3, g_us, g_ldr_0, g_getf, g_const, g_icne, g_icgt, g_goto, g_call3, o_153, g_ifle, g_vret, g_sti_1, g_ldi_1, g_iceq, g_getr, g_bald, g_ifne, g_call1, o_158, g_bast, g_icge, o_163, o_164, o_160, g_iast, o_161, o_162, g_call2, o_159, a_165_0, a_165_1, a_165_2, a_165_5, a_165_6, a_165_9, a_165_10, a_165_13, a_165_15, a_165_18, a_165_19, a_165_22, a_165_23, a_165_24, a_165_27, a_165_28, a_165_31, a_165_34, a_165_35, a_165_36, a_165_39, a_165_40, a_165_41, a_165_42, a_165_44, a_165_47, a_165_48, a_165_51, a_165_52, a_165_53, a_165_56, a_165_57, a_165_60, a_165_61, a_165_62, a_165_65, a_165_66, a_165_69, a_165_70, a_165_72, a_165_75, a_165_76, a_165_79, a_165_80, a_165_81, a_165_82, a_165_83, a_165_86, a_165_89, a_165_90, a_165_91, a_165_94, a_165_95, a_165_98, a_165_99, a_165_100, a_165_101, a_165_104, a_165_105, a_165_108, a_165_111, a_165_112, a_165_113, a_165_116, a_165_119, a_165_120, a_165_123, a_165_126, a_165_127, a_165_128, a_165_131, a_165_132, a_165_135, a_165_138, a_165_139, a_165_142, a_165_145, a_165_146, a_165_149, a_165_150, a_165_153, a_165_156, a_165_157, a_165_158, a_165_160, a_165_163, a_165_164, a_165_167, a_165_168, a_165_171, ne_eq, not_false_eq_true, true_and, and_true, and_self, Int.cast_ofNat_Int, reduceCtorEq, or_false, false_or, not_true_eq_false, or_true, true_or, Int.reduceToNat, Int.reduceAdd, Int.reduceEq, Int.reduceNe, Int.reduceLT, Int.reduceLE, Int.reduceNeg, Int.reduceSub, Int.reduceMul, Nat.reduceAdd, Nat.reduceLT, Nat.reduceLeDiff, Nat.reduceEqDiff, forall_const, false_implies, true_implies, p_1_0, p_1_1, p_1_2, p_1_3, p_1_4, p_1_5, p_1_6, p_1_7, p_1_8, p_1_9, p_2_0, p_4_0, p_4_1, p_4_2, p_4_3, p_4_4, p_4_5, p_5_0, p_5_1, p_5_2, p_5_3, p_5_4, p_5_5, p_12_0, p_12_1, p_12_2, p_12_3, p_12_4, p_18_0, p_18_1, p_18_2, p_18_3, p_23_0, p_23_1, p_23_2, p_23_3, p_23_4, p_31_0, p_31_1, p_31_2, p_31_3, p_36_0, p_36_1, p_36_2, p_36_3, p_36_4, p_42_0, p_42_1, p_42_2, p_42_3, p_42_4, p_42_5, p_42_6, p_42_7, p_42_8, p_52_0, p_52_1, p_52_2, p_52_3, p_52_4, p_52_5, p_52_6, p_58_0, p_58_1, p_58_2, p_62_0, p_62_1, p_62_2, p_62_3, p_67_1, p_67_2, p_67_3, p_67_4, p_67_13, p_67_15, p_67_16, p_67_17, p_67_18, p_67_19, p_67_21, p_67_22, p_67_23, p_67_24, p_67_25, p_67_26, p_67_28, p_67_29, p_67_30, p_67_31, p_67_33, p_67_34, p_67_35, p_67_36, p_67_37, p_67_38, p_67_39, p_67_40, p_67_41, p_67_42, p_67_43, p_67_44, p_67_48, p_67_49, p_67_50, p_67_51, p_67_52, p_67_53, p_67_54, p_67_55, p_x, p_y, p_z, p_sx, p_sy, p_sz, y_1, y_2, y_3, y_4, y_5, y_6, y_7, y_8, y_9, y_10, y_11, y_12, y_13, y_14, y_15, y_16, y_17, y_18, y_19, y_20, y_21, y_22, y_23, y_24, y_25, y_26, y_27, y_28, y_29, y_30, y_31, y_32, y_33, y_34, y_35, y_36, y_37, y_38, y_39, y_40, y_41, y_42, y_43, y_44, y_45, y_46, y_47, y_48, y_49, y_50, y_51, y_52, y_53, y_54, y_55, y_56, y_57, y_58, y_59, y_60, y_61, y_62, y_63, y_64, y_65, y_66, y_67, y_68, y_69, y_70, y_71, y_72, y_73, y_74, y_75, y_76, y_77, y_78, y_79, y_80, y_81, y_82, y_83, y_84, y_85, y_86, y_87, y_88, y_89, y_90, y_91, y_92, y_93, y_94, y_95, y_96, y_97, y_98, y_99, y_100, y_101, y_102, y_103, y_104, y_105, y_106, y_107, y_108, y_109, y_1000, y_1001, y_1002, y_1003, g_as]
    simp only [q3, mj_go_eq, mj_go_eq, g_cut, g_k0, g_k1, g_w0, g_w1, g_w2, g_w3, g_w4, g_c1, g_c2, g_c3, g_us, g_ldr_0, g_getf, g_const, g_icne, g_icgt, g_goto, g_call3, o_153, g_ifle, g_vret, g_sti_1, g_ldi_1, g_iceq, g_getr, g_bald, g_ifne, g_call1, o_158, g_bast, g_icge, o_163, o_164, o_160, g_iast, o_161, o_162, g_call2, o_159, a_165_0, a_165_1, a_165_2, a_165_5, a_165_6, a_165_9, a_165_10, a_165_13, a_165_15, a_165_18, a_165_19, a_165_22, a_165_23, a_165_24, a_165_27, a_165_28, a_165_31, a_165_34, a_165_35, a_165_36, a_165_39, a_165_40, a_165_41, a_165_42, a_165_44, a_165_47, a_165_48, a_165_51, a_165_52, a_165_53, a_165_56, a_165_57, a_165_60, a_165_61, a_165_62, a_165_65, a_165_66, a_165_69, a_165_70, a_165_72, a_165_75, a_165_76, a_165_79, a_165_80, a_165_81, a_165_82, a_165_83, a_165_86, a_165_89, a_165_90, a_165_91, a_165_94, a_165_95, a_165_98, a_165_99, a_165_100, a_165_101, a_165_104, a_165_105, a_165_108, a_165_111, a_165_112, a_165_113, a_165_116, a_165_119, a_165_120, a_165_123, a_165_126, a_165_127, a_165_128, a_165_131, a_165_132, a_165_135, a_165_138, a_165_139, a_165_142, a_165_145, a_165_146, a_165_149, a_165_150, a_165_153, a_165_156, a_165_157, a_165_158, a_165_160, a_165_163, a_165_164, a_165_167, a_165_168, a_165_171, ne_eq, not_false_eq_true, true_and, and_true, and_self, Int.cast_ofNat_Int, reduceCtorEq, or_false, false_or, not_true_eq_false, or_true, true_or, Int.reduceToNat, Int.reduceAdd, Int.reduceEq, Int.reduceNe, Int.reduceLT, Int.reduceLE, Int.reduceNeg, Int.reduceSub, Int.reduceMul, Nat.reduceAdd, Nat.reduceLT, Nat.reduceLeDiff, Nat.reduceEqDiff, forall_const, false_implies, true_implies, p_1_0, p_1_1, p_1_2, p_1_3, p_1_4, p_1_5, p_1_6, p_1_7, p_1_8, p_1_9, p_2_0, p_4_0, p_4_1, p_4_2, p_4_3, p_4_4, p_4_5, p_5_0, p_5_1, p_5_2, p_5_3, p_5_4, p_5_5, p_12_0, p_12_1, p_12_2, p_12_3, p_12_4, p_18_0, p_18_1, p_18_2, p_18_3, p_23_0, p_23_1, p_23_2, p_23_3, p_23_4, p_31_0, p_31_1, p_31_2, p_31_3, p_36_0, p_36_1, p_36_2, p_36_3, p_36_4, p_42_0, p_42_1, p_42_2, p_42_3, p_42_4, p_42_5, p_42_6, p_42_7, p_42_8, p_52_0, p_52_1, p_52_2, p_52_3, p_52_4, p_52_5, p_52_6, p_58_0, p_58_1, p_58_2, p_62_0, p_62_1, p_62_2, p_62_3, p_67_1, p_67_2, p_67_3, p_67_4, p_67_13, p_67_15, p_67_16, p_67_17, p_67_18, p_67_19, p_67_21, p_67_22, p_67_23, p_67_24, p_67_25, p_67_26, p_67_28, p_67_29, p_67_30, p_67_31, p_67_33, p_67_34, p_67_35, p_67_36, p_67_37, p_67_38, p_67_39, p_67_40, p_67_41, p_67_42, p_67_43, p_67_44, p_67_48, p_67_49, p_67_50, p_67_51, p_67_52, p_67_53, p_67_54, p_67_55, p_x, p_y, p_z, p_sx, p_sy, p_sz, y_1, y_2, y_3, y_4, y_5, y_6, y_7, y_8, y_9, y_10, y_11, y_12, y_13, y_14, y_15, y_16, y_17, y_18, y_19, y_20, y_21, y_22, y_23, y_24, y_25, y_26, y_27, y_28, y_29, y_30, y_31, y_32, y_33, y_34, y_35, y_36, y_37, y_38, y_39, y_40, y_41, y_42, y_43, y_44, y_45, y_46, y_47, y_48, y_49, y_50, y_51, y_52, y_53, y_54, y_55, y_56, y_57, y_58, y_59, y_60, y_61, y_62, y_63, y_64, y_65, y_66, y_67, y_68, y_69, y_70, y_71, y_72, y_73, y_74, y_75, y_76, y_77, y_78, y_79, y_80, y_81, y_82, y_83, y_84, y_85, y_86, y_87, y_88, y_89, y_90, y_91, y_92, y_93, y_94, y_95, y_96, y_97, y_98, y_99, y_100, y_101, y_102, y_103, y_104, y_105, y_106, y_107, y_108, y_109, y_1000, y_1001, y_1002, y_1003, g_as] at ta
    repeat' (first | intro _ | with_reducible apply And.intro)
    all_goals (first | omega | exact ta | grind)
