set_option maxRecDepth 20000
/-! parcels on both sides -/
theorem J_parc {x y : Nat} {μ ν : mj_M} (hJ : J x y μ) (h : ∀ q : Nat, (q < 42 ∨ 51 < q) → q ≠ 93 → q ≠ 94 → q ≠ 95 → q ≠ 96 → ν q = μ q) : J x y ν := by
  rcases hJ.a.xy with ⟨rfl, rfl⟩ | ⟨rfl, rfl⟩
  · refine ⟨⟨hJ.a.xy, ?_, ?_, ?_, ?_, ?_, ?_, ?_, ?_, ?_, ?_⟩, ?_, ?_, ?_, ?_, ?_, ?_, ?_, ?_, ?_, ?_⟩
    all_goals (simp (disch := decide) only [h, Nat.reduceAdd])
    all_goals (with_reducible first | exact hJ.a.xy | exact hJ.a.n | exact hJ.a.ti | exact hJ.a.co | exact hJ.a.wb | exact hJ.a.li | exact hJ.a.rq | exact hJ.a.er | exact hJ.a.pc | exact hJ.a.st | exact hJ.a.sc | exact hJ.en | exact hJ.et | exact hJ.ec | exact hJ.el | exact hJ.eq | exact hJ.ee | exact hJ.lt | exact hJ.tp | exact hJ.ru | exact hJ.sh)
  · refine ⟨⟨hJ.a.xy, ?_, ?_, ?_, ?_, ?_, ?_, ?_, ?_, ?_, ?_⟩, ?_, ?_, ?_, ?_, ?_, ?_, ?_, ?_, ?_, ?_⟩
    all_goals (simp (disch := decide) only [h, Nat.reduceAdd])
    all_goals (with_reducible first | exact hJ.a.xy | exact hJ.a.n | exact hJ.a.ti | exact hJ.a.co | exact hJ.a.wb | exact hJ.a.li | exact hJ.a.rq | exact hJ.a.er | exact hJ.a.pc | exact hJ.a.st | exact hJ.a.sc | exact hJ.en | exact hJ.et | exact hJ.ec | exact hJ.el | exact hJ.eq | exact hJ.ee | exact hJ.lt | exact hJ.tp | exact hJ.ru | exact hJ.sh)
theorem k_parcels {L x y z : Nat} {μ : mj_M} (hJ : J x y μ) (wh : Int) (hw : -2147483648 ≤ wh ∧ wh < 2147483648) : KK L 130 210 [.inl wh] x y z μ := by
  have hn := hJ.a.n; have he := hJ.en; have hti := hJ.a.ti; have hco := hJ.a.co; have hli := hJ.a.li; have hrq := hJ.a.rq; have her := hJ.a.er
  have het := hJ.et; have hec := hJ.ec; have hel := hJ.el; have heq := hJ.eq; have hee := hJ.ee
  have hx : x = 31 ∨ x = 62 := by have := hJ.a.xy; omega
  unfold JN at hn; unfold JT at hti; unfold JC at hco; unfold JL at hli; unfold JQ at hrq; unfold JEr at her
  have hlt := hJ.lt
  have hru := hJ.ru
  unfold JLt at hlt
  unfold JRu at hru
  unfold KK
  by_cases c1 : 0 ≤ wh ∧ wh ≤ 1
  case neg =>
    have p1 := eq_false c1
    simp only [p1, c_Sb_within, c_Mo_in, e_130, e_210, mj_go_eq, g_cut, g_k0, g_k1, g_w0, g_w1, g_w2, g_w3, g_w4, g_c1, g_c2, g_c3, g_us, g_ldi_1, g_const, g_call3, o_144, g_ifne, g_ret, g_sti_2, g_ldi_2, g_icge, g_ldr_0, g_getr, g_call2, o_101, g_ifeq, o_6, g_goto, o_43, g_inc_2, o_38, g_iald, o_9, g_isub, o_44, o_142, g_call1, o_46, g_getf, g_i2l, g_lconst, o_148, g_iast, o_191, g_sti_3, g_iadd, g_ldi_3, g_ifge, g_sti_4, g_ldi_4, g_ishr, g_iand, g_sti_5, g_imul, o_197, g_ldi_5, g_ineg, g_inc_4, o_176, o_209, g_dup2i, g_dup2r, a_130_0, a_130_1, a_130_2, a_130_3, a_130_6, a_130_9, a_130_10, a_130_11, a_130_12, a_130_13, a_130_14, a_130_16, a_130_19, a_130_20, a_130_23, a_130_24, a_130_25, a_130_28, a_130_29, a_130_32, a_130_35, a_130_36, a_130_39, a_130_40, a_130_43, a_130_46, a_130_47, a_130_50, a_130_53, a_130_56, a_130_57, a_130_58, a_130_59, a_130_61, a_130_64, a_130_65, a_130_68, a_130_69, a_130_70, a_130_73, a_130_74, a_130_77, a_130_80, a_130_81, a_130_84, a_130_87, a_130_90, a_130_91, a_130_92, a_130_93, a_130_96, a_130_97, a_130_100, a_130_101, a_130_104, a_130_105, a_130_108, a_130_109, a_130_110, a_130_113, a_130_116, a_130_119, a_130_120, a_130_123, a_130_126, a_130_127, a_130_130, a_130_131, a_130_134, a_130_137, a_130_140, a_130_141, a_130_144, a_130_147, a_210_0, a_210_1, a_210_2, a_210_3, a_210_4, a_210_7, a_210_10, a_210_11, a_210_12, a_210_13, a_210_14, a_210_15, a_210_18, a_210_21, a_210_22, a_210_25, a_210_26, a_210_27, a_210_28, a_210_29, a_210_32, a_210_33, a_210_34, a_210_35, a_210_38, a_210_41, a_210_42, a_210_43, a_210_44, a_210_45, a_210_48, a_210_51, a_210_52, a_210_55, a_210_56, a_210_57, a_210_58, a_210_59, a_210_62, a_210_63, a_210_64, a_210_65, a_210_68, a_210_69, a_210_70, a_210_71, a_210_72, a_210_75, a_210_76, a_210_79, a_210_80, a_210_81, a_210_82, a_210_84, a_210_86, a_210_87, a_210_90, a_210_93, a_210_94, a_210_97, a_210_98, a_210_99, a_210_100, a_210_103, a_210_105, a_210_106, a_210_107, a_210_108, a_210_109, a_210_111, a_210_112, a_210_115, a_210_117, a_210_118, a_210_119, a_210_120, a_210_121, a_210_123, a_210_124, a_210_126, a_210_127, a_210_128, a_210_129, a_210_131, a_210_134, a_210_137, a_210_138, a_210_141, a_210_142, a_210_143, a_210_144, a_210_147, a_210_149, a_210_150, a_210_151, a_210_152, a_210_153, a_210_155, a_210_156, a_210_158, a_210_159, a_210_161, a_210_162, a_210_163, a_210_164, a_210_167, a_210_169, a_210_171, a_210_173, a_210_174, a_210_175, a_210_176, a_210_177, a_210_178, a_210_179, a_210_181, a_210_182, a_210_185, a_210_188, a_210_191, a_210_194, a_210_195, a_210_196, a_210_197, a_210_198, a_210_201, a_210_204, a_210_205, a_210_208, a_210_210, a_210_212, a_210_213, a_210_214, a_210_215, a_210_217, a_210_218, a_210_219, a_210_220, a_210_221, a_210_224, a_210_225, a_210_228, a_210_231, a_210_232, a_210_233, a_210_234, a_210_235, a_210_236, a_210_239, a_210_242, a_210_245, a_210_246, a_210_247, a_210_250, a_210_252, a_210_253, a_210_254, a_210_255, a_210_257, a_210_259, a_210_261, a_210_264, a_210_265, a_210_268, a_210_270, a_210_271, a_210_273, a_210_274, a_210_277, a_210_279, a_210_281, a_210_282, a_210_284, a_210_285, a_210_286, a_210_287, a_210_288, a_210_289, a_210_290, a_210_291, a_210_294, a_210_296, a_210_298, a_210_299, a_210_301, a_210_302, a_210_303, a_210_304, a_210_305, a_210_306, a_210_307, a_210_309, a_210_311, a_210_314, a_210_317, a_210_318, a_210_321, a_210_322, a_210_325, a_210_326, ne_eq, not_false_eq_true, true_and, and_true, and_self, Int.cast_ofNat_Int, reduceCtorEq, or_false, false_or, not_true_eq_false, or_true, true_or, Int.reduceToNat, Int.reduceAdd, Int.reduceEq, Int.reduceNe, Int.reduceLT, Int.reduceLE, Int.reduceNeg, Int.reduceSub, Int.reduceMul, Nat.reduceAdd, Nat.reduceLT, Nat.reduceLeDiff, Nat.reduceEqDiff, forall_const, false_implies, true_implies, p_1_0, p_1_1, p_1_2, p_1_3, p_1_4, p_1_5, p_1_6, p_1_7, p_1_8, p_1_9, p_2_0, p_4_0, p_4_1, p_4_2, p_4_3, p_4_4, p_4_5, p_5_0, p_5_1, p_5_2, p_5_3, p_5_4, p_5_5, p_12_0, p_12_1, p_12_2, p_12_3, p_12_4, p_18_0, p_18_1, p_18_2, p_18_3, p_23_0, p_23_1, p_23_2, p_23_3, p_23_4, p_31_0, p_31_1, p_31_2, p_31_3, p_36_0, p_36_1, p_36_2, p_36_3, p_36_4, p_42_0, p_42_1, p_42_2, p_42_3, p_42_4, p_42_5, p_42_6, p_42_7, p_42_8, p_52_0, p_52_1, p_52_2, p_52_3, p_52_4, p_52_5, p_52_6, p_58_0, p_58_1, p_58_2, p_62_0, p_62_1, p_62_2, p_62_3, p_67_1, p_67_2, p_67_3, p_67_4, p_67_13, p_67_15, p_67_16, p_67_17, p_67_18, p_67_19, p_67_21, p_67_22, p_67_23, p_67_24, p_67_25, p_67_26, p_67_28, p_67_29, p_67_30, p_67_31, p_67_33, p_67_34, p_67_35, p_67_36, p_67_37, p_67_38, p_67_39, p_67_40, p_67_41, p_67_42, p_67_43, p_67_44, p_67_48, p_67_49, p_67_50, p_67_51, p_67_52, p_67_53, p_67_54, p_67_55, p_x, p_y, p_z, p_sx, p_sy, p_sz, y_1, y_2, y_3, y_4, y_5, y_6, y_7, y_8, y_9, y_10, y_11, y_12, y_13, y_14, y_15, y_16, y_17, y_18, y_19, y_20, y_21, y_22, y_23, y_24, y_25, y_26, y_27, y_28, y_29, y_30, y_31, y_32, y_33, y_34, y_35, y_36, y_37, y_38, y_39, y_40, y_41, y_42, y_43, y_44, y_45, y_46, y_47, y_48, y_49, y_50, y_51, y_52, y_53, y_54, y_55, y_56, y_57, y_58, y_59, y_60, y_61, y_62, y_63, y_64, y_65, y_66, y_67, y_68, y_69, y_70, y_71, y_72, y_73, y_74, y_75, y_76, y_77, y_78, y_79, y_80, y_81, y_82, y_83, y_84, y_85, y_86, y_87, y_88, y_89, y_90, y_91, y_92, y_93, y_94, y_95, y_96, y_97, y_98, y_99, y_100, y_101, y_102, y_103, y_104, y_105, y_106, y_107, y_108, y_109, y_1000, y_1001, y_1002, y_1003, k_2, if_true, if_false]
    exact k_e rfl hJ
  have hH : pp_H μ x := ⟨hx, by omega, by omega, by omega, by omega, fun i => by have := hlt.2.2 i; omega, by omega⟩
  obtain ⟨ν, P, K, f1, o1, k1⟩ := c_Sb_parcels (L := L) (y := y) (z := z) hH c1
  have e67 : ν 67 = μ 67 := f1 67 (by decide)
  have e68 : ν 68 = μ 68 := f1 68 (by decide)
  have e73 : ν 73 = μ 7 := by rw [f1 73 (by decide)]; exact het.2.1
  have e74 : ν 74 = μ 8 := by rw [f1 74 (by decide)]; exact het.2.2.1
  have e78 : ν 78 = μ 13 := by rw [f1 78 (by decide)]; exact hec.1
  have e79 : ν 79 = μ 14 := by rw [f1 79 (by decide)]; exact hec.2.1
  have e80 : ν 80 = μ 15 := by rw [f1 80 (by decide)]; exact hec.2.2.1
  have e84 : ν 84 = μ 19 := by rw [f1 84 (by decide)]; exact hel.1
  have e85 : ν 85 = μ 20 := by rw [f1 85 (by decide)]; exact hel.2.1
  have e87 : ν 87 = μ 87 := f1 87 (by decide)
  have n14 : μ 67 14 = μ 5 7 := he.2.1
  have n20 : μ 67 20 = μ 12 5 := he.2.2.1
  have n27 : μ 67 27 = μ 18 4 := he.2.2.2.1
  have n0 : μ 67 0 = μ 4 7 := he.2.2.2.2.2.2.1
  have r0 : μ 68 0 = μ (x + 1) 0 := hru.1 0 (by decide) (by decide)
  have r4 : μ 68 4 = μ (x + 1) 4 := hru.1 4 (by decide) (by decide)
  have hHr : rp_H ν := by
    refine ⟨?_, ?_, ?_, ?_, fun l t a1 a2 a3 a4 => ?_, ?_⟩
    · rw [e67]; omega
    · rw [e67]; omega
    · rw [e67]; omega
    · rw [e67]; omega
    · rw [e67] at a2
      rw [e87, hlt.1 (l * 12 + t) (by omega)]
      have := hlt.2.2 (l * 12 + t)
      omega
    · rw [e68]; omega
  obtain ⟨ξ, P', K', f2, o2, k2⟩ := c_Mo_parcels (L := L) (x := x) (y := y) (z := z) hHr c1
  have hms : ∀ l t : Int, 0 ≤ l → l < μ 18 4 → 0 ≤ t → t < 12 → rms ν l t = vms μ x l t := by
    intro l t a1 a2 a3 a4
    have rr := hru.2.2.2.1 t a3 a4
    have hla := hlt.1 (l * 12 + t) (by omega)
    unfold rms vms
    rw [e67, e68, e73, e78, e80, e84, e87, n0, n20, r4, rr.1, rr.2, hla]
  have hcn : ∀ l t : Nat, l < 10 → t < 12 → rcn ν l t = vcn μ x l t := by
    intro l t a b
    unfold rcn vcn
    rw [e67, n27, n14]
    by_cases q : (l : Int) < μ 18 4
    · rw [hms l t (by omega) q (by omega) (by omega)]
    · rw [if_neg (fun z => q z.1), if_neg (fun z => q z.1)]
  have hwt : ∀ l t : Nat, l < 10 → t < 12 → rcn ν l t = 1 → rwt ν l t = vlk μ l t := by
    intro l t a b q
    have q2 : (l : Int) < μ 67 27 ∧ (t : Int) < μ 67 14 := by
      unfold rcn at q
      rw [e67] at q
      by_cases z : (l : Int) < μ 67 27 ∧ (t : Int) < μ 67 14 ∧ rms ν l t = true
      · exact ⟨z.1, z.2.1⟩
      · rw [if_neg z] at q; omega
    unfold rwt rlk vlk
    rw [e67, if_pos q2, e85, e74]
    have := mj_and_one (mj_shr (μ 20 l) (μ 8 t))
    split <;> omega
  have hra : ∀ l : Nat, l < 10 → rra ν l = max (vra μ x l) 0 := by
    intro l a
    unfold rra vra rha
    rw [e67, e68, e79, e80, n20, n27, r0]
    by_cases q : (l : Int) < μ 18 4
    · rw [if_pos q, if_pos q]
      have hz : zc (fun i => decide (μ 15 i = (l : Int)) && !decide (μ 14 i = 3)) (μ 12 5).toNat = zc (fun i => decide (μ 15 i = (l : Int)) && decide (μ 14 i = 1)) (μ 12 5).toNat + zc (fun i => decide (μ 15 i = (l : Int)) && decide (μ 14 i = 2)) (μ 12 5).toNat := by
        refine zc_add fun i hi => ?_
        have hc := hco.1 i (by omega) (by omega)
        simp only [Bool.and_eq_true, Bool.not_eq_true', decide_eq_true_eq, decide_eq_false_iff_not]
        by_cases e : μ 15 i = (l : Int)
        · by_cases e1 : μ 14 i = 1
          · simp [e, e1]
          · by_cases e2 : μ 14 i = 2
            · simp [e, e2]
            · have e3 : μ 14 i = 3 := by omega
              simp [e, e3]
        · simp [e]
      rw [hz]
    · rw [if_neg q, if_neg q]; rfl
  have hcb : ∀ t : Nat, t < 12 → rcb ν t = vcb μ t := by
    intro t a
    unfold rcb vcb
    rw [e67, e78, e79, n20, n14]
    rw [zc_cg (q := fun i => decide (μ 13 i = (t : Int)) && decide (μ 14 i = 0)) (fun i _ => by simp)]
  have o3 := pq_O_cg (a' := fun l => max (vra μ x l) 0) hcn hwt hra hcb o2
  obtain ⟨eP, eK⟩ := pq_O_uniq o1 o3
  have hJ2 : J x y ξ := J_parc hJ (fun q a b1 b2 b3 b4 => by rw [f2 q b1 b2 b3 b4]; exact f1 q a)
  rw [k1, k_2, k2, eP, eK]
  exact k_e rfl hJ2
