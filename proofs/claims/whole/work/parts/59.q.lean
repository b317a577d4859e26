set_option maxRecDepth 20000
/-! both sides coupled: the class's cells of one memory, the reference's of another -/
def JJ (x y : Nat) (μ ν : mj_M) : Prop :=
  (JA x y μ) ∧
  (ν 67 12 = μ 5 6 ∧ ν 67 14 = μ 5 7 ∧ ν 67 20 = μ 12 5 ∧ ν 67 27 = μ 18 4 ∧ ν 67 32 = μ 23 5 ∧ ν 67 47 = μ 36 5 ∧ ν 67 0 = μ 4 7 ∧ ν 67 5 = μ 2 1 ∧ ν 67 10 = μ 2 2) ∧
  (ν 72 = μ 6 ∧ ν 73 = μ 7 ∧ ν 74 = μ 8 ∧ ν 75 = μ 9 ∧ ν 76 = μ 10 ∧ ν 77 = μ 11) ∧
  (ν 78 = μ 13 ∧ ν 79 = μ 14 ∧ ν 80 = μ 15 ∧ ν 81 = μ 16 ∧ ν 82 = μ 17 ∧ ν 83 = μ 30) ∧
  (ν 84 = μ 19 ∧ ν 85 = μ 20 ∧ ν 86 = μ 21) ∧
  (ν 88 = μ 24 ∧ ν 89 = μ 25 ∧ ν 90 = μ 26 ∧ ν 91 = μ 27 ∧ ν 92 = μ 28) ∧
  (ν 100 = μ 37 ∧ ν 101 = μ 38 ∧ ν 102 = μ 39 ∧ ν 103 = μ 40 ∧ ν 104 = μ 41) ∧
  (JLt (μ 18 4) (μ 4 7) (μ 22) (ν 87)) ∧
  (∀ i, μ 3 i = mj_b (ν 71 i) ∧ 0 ≤ ν 71 i ∧ ν 71 i ≤ 255) ∧
  (JRu (ν 68) (μ (x + 1)) (μ (x + 2)) (μ (x + 3)) (μ (x + 4)) (μ x 4)) ∧
  (JS (μ 59) (μ 60) (μ 61) (ν 105) (ν 106) (ν 107))
theorem J_JJ {x y : Nat} {μ : mj_M} : J x y μ = JJ x y μ μ := rfl
theorem JJ.a {x y : Nat} {μ ν : mj_M} (h : JJ x y μ ν) : JA x y μ := h.1
theorem JJ.en {x y : Nat} {μ ν : mj_M} (h : JJ x y μ ν) : ν 67 12 = μ 5 6 ∧ ν 67 14 = μ 5 7 ∧ ν 67 20 = μ 12 5 ∧ ν 67 27 = μ 18 4 ∧ ν 67 32 = μ 23 5 ∧ ν 67 47 = μ 36 5 ∧ ν 67 0 = μ 4 7 ∧ ν 67 5 = μ 2 1 ∧ ν 67 10 = μ 2 2 := h.2.1
theorem JJ.et {x y : Nat} {μ ν : mj_M} (h : JJ x y μ ν) : ν 72 = μ 6 ∧ ν 73 = μ 7 ∧ ν 74 = μ 8 ∧ ν 75 = μ 9 ∧ ν 76 = μ 10 ∧ ν 77 = μ 11 := h.2.2.1
theorem JJ.ec {x y : Nat} {μ ν : mj_M} (h : JJ x y μ ν) : ν 78 = μ 13 ∧ ν 79 = μ 14 ∧ ν 80 = μ 15 ∧ ν 81 = μ 16 ∧ ν 82 = μ 17 ∧ ν 83 = μ 30 := h.2.2.2.1
theorem JJ.el {x y : Nat} {μ ν : mj_M} (h : JJ x y μ ν) : ν 84 = μ 19 ∧ ν 85 = μ 20 ∧ ν 86 = μ 21 := h.2.2.2.2.1
theorem JJ.eq {x y : Nat} {μ ν : mj_M} (h : JJ x y μ ν) : ν 88 = μ 24 ∧ ν 89 = μ 25 ∧ ν 90 = μ 26 ∧ ν 91 = μ 27 ∧ ν 92 = μ 28 := h.2.2.2.2.2.1
theorem JJ.ee {x y : Nat} {μ ν : mj_M} (h : JJ x y μ ν) : ν 100 = μ 37 ∧ ν 101 = μ 38 ∧ ν 102 = μ 39 ∧ ν 103 = μ 40 ∧ ν 104 = μ 41 := h.2.2.2.2.2.2.1
theorem JJ.lt {x y : Nat} {μ ν : mj_M} (h : JJ x y μ ν) : JLt (μ 18 4) (μ 4 7) (μ 22) (ν 87) := h.2.2.2.2.2.2.2.1
theorem JJ.tp {x y : Nat} {μ ν : mj_M} (h : JJ x y μ ν) : ∀ i, μ 3 i = mj_b (ν 71 i) ∧ 0 ≤ ν 71 i ∧ ν 71 i ≤ 255 := h.2.2.2.2.2.2.2.2.1
theorem JJ.ru {x y : Nat} {μ ν : mj_M} (h : JJ x y μ ν) : JRu (ν 68) (μ (x + 1)) (μ (x + 2)) (μ (x + 3)) (μ (x + 4)) (μ x 4) := h.2.2.2.2.2.2.2.2.2.1
theorem JJ.sh {x y : Nat} {μ ν : mj_M} (h : JJ x y μ ν) : JS (μ 59) (μ 60) (μ 61) (ν 105) (ν 106) (ν 107) := h.2.2.2.2.2.2.2.2.2.2
theorem JJ_x {x y : Nat} {μ ν : mj_M} (h : JJ x y μ ν) : x = 31 ∨ x = 62 := by have := h.a.xy; omega
theorem JJ_HH {x y : Nat} {μ ν : mj_M} (h : JJ x y μ ν) : HH x μ := by
  have hn := h.a.n
  unfold JN at hn
  have hru := h.ru
  refine ⟨JJ_x h, ⟨by have := hru.2.2.2.2.2.1; omega, by have := hru.2.2.2.2.2.1; omega⟩, by omega, by omega, by omega, fun i => ?_, fun r a b => ?_⟩
  · have := h.lt.2.2 i; omega
  · have := h.a.rq r a b; omega
theorem JJ_HM {x y : Nat} {μ ν : mj_M} (h : JJ x y μ ν) : HM ν := by
  have hn := h.a.n
  unfold JN at hn
  have he := h.en
  have hru := h.ru
  refine ⟨by have := hru.2.2.2.2.2.1; have := hru.2.1; omega, by omega, by omega, by omega, fun r a b => ?_⟩
  have hq := h.a.rq r a (by omega)
  rw [h.eq.1, h.eq.2.1]
  refine ⟨by omega, by omega, fun t p q => ?_⟩
  rw [h.lt.1 _ (by omega)]
  have := h.lt.2.2 (μ 24 r * 12 + t); omega
theorem vlm_eq {x y : Nat} {μ ν : mj_M} (h : JJ x y μ ν) (l : Int) : vlm ν l = vlate μ x l := by
  have hn := h.a.n
  unfold JN at hn
  have he := h.en
  have hec := h.ec
  have hru := h.ru
  have h1 := hru.1 1 (by decide) (by decide)
  have h2 := hru.2.2.2.2.1
  unfold vlm vlate
  rw [he.2.2.1, hec.2.1, hec.2.2.1, hec.2.2.2.2.1, he.2.2.2.2.2.2.1, h1]
  refine zc_cg fun i hi => ?_
  have hc := h.a.co.1 i (by omega) (by omega)
  rw [mj_w_id (x := μ 4 7 - μ 17 i) (by omega) (by omega), mj_w_id (x := μ 4 7 - μ (x + 1) 1) (by omega) (by omega)]
  rw [Bool.eq_iff_iff]
  simp only [Bool.and_eq_true, decide_eq_true_eq]
  omega
theorem vkm_eq {x y : Nat} {μ ν : mj_M} (h : JJ x y μ ν) (k r : Int) : vkm ν k r = vwt μ x k r := by
  have he := h.en
  have heq := h.eq
  have hel := h.el
  have het := h.et
  have h1 := mj_and_one (mj_shr (μ 20 (μ 24 r)) (μ 8 (μ 25 r)))
  unfold vkm vwt
  rw [heq.1, heq.2.1, heq.2.2.1, vlm_eq h, he.2.2.2.2.2.2.1, hel.2.1, hel.2.2, het.2.2.1]
  rcases h1 with h1 | h1 <;> rw [h1] <;> rfl
theorem vam_eq {x y : Nat} {μ ν : mj_M} (h : JJ x y μ ν) (r q : Int) : vam ν r q = vah μ x r q := by
  have hru := h.ru
  unfold vam vah
  rw [hru.2.1]
  refine vahr_cg (vkm_eq h · r) (vkm_eq h · q) _ _ fun i a b => ?_
  have := hru.2.2.2.2.2.1
  exact hru.2.2.1 i (by omega) (by omega)
theorem vsm_eq {x y : Nat} {μ ν : mj_M} (h : JJ x y μ ν) {t r : Int} (ht : 0 ≤ t ∧ t < 12) (hr : 0 ≤ r ∧ r < μ 23 5) : vsm ν t r = vst μ x t r := by
  have hn := h.a.n
  unfold JN at hn
  have he := h.en
  have heq := h.eq
  have hel := h.el
  have het := h.et
  have hec := h.ec
  have hru := h.ru
  have hq := h.a.rq r hr.1 hr.2
  have r0 := hru.1 0 (by decide) (by decide)
  have r4 := hru.1 4 (by decide) (by decide)
  have rr := hru.2.2.2.1 t ht.1 ht.2
  have hla := h.lt.1 (μ 24 r * 12 + t) (by omega)
  unfold vsm vst
  rw [heq.1, heq.2.1, heq.2.2.2.1, hel.1, het.2.1, he.2.2.1, he.2.2.2.2.2.2.1, hec.1, hec.2.1, hec.2.2.1, r0, r4, rr.1, rr.2, hla]
  have hz : zc (fun i => decide (μ 15 i = μ 24 r) && !decide (μ 14 i = 3)) (μ 12 5).toNat = zc (fun i => decide (μ 15 i = μ 24 r) && decide (μ 14 i = 1)) (μ 12 5).toNat + zc (fun i => decide (μ 15 i = μ 24 r) && decide (μ 14 i = 2)) (μ 12 5).toNat := by
    refine zc_add fun i hi => ?_
    have hc := h.a.co.1 i (by omega) (by omega)
    simp only [Bool.and_eq_true, Bool.not_eq_true', decide_eq_true_eq, decide_eq_false_iff_not]
    by_cases e : μ 15 i = μ 24 r
    · by_cases e1 : μ 14 i = 1
      · simp [e, e1]
      · by_cases e2 : μ 14 i = 2
        · simp [e, e2]
        · have e3 : μ 14 i = 3 := by omega
          simp [e, e3]
    · simp [e]
  rw [hz, Bool.and_comm (decide (μ 25 r = t))]
theorem zq_eq {x y : Nat} {μ ν : mj_M} (h : JJ x y μ ν) {t i : Int} (ht : 0 ≤ t ∧ t < 12) : zq (vsm ν t) (vam ν) (ν 67 32).toNat i = zq (vst μ x t) (vah μ x) (μ 23 5).toNat i := by
  rw [h.en.2.2.2.2.1]
  have hn := h.a.n
  unfold JN at hn
  exact zq_cg (fun r a b => vsm_eq h ht ⟨a, by omega⟩) (fun r q _ _ _ _ => vam_eq h r q)
theorem k_queue {L x y z : Nat} {μ : mj_M} (hJ : J x y μ) (a : Int) (b : Int) (ha : -2147483648 ≤ a ∧ a < 2147483648) (hb : -2147483648 ≤ b ∧ b < 2147483648) : KK L 127 203 [.inl a, .inl b] x y z μ := by
  have hn := hJ.a.n; have he := hJ.en; have hti := hJ.a.ti; have hco := hJ.a.co; have hli := hJ.a.li; have hrq := hJ.a.rq; have her := hJ.a.er
  have het := hJ.et; have hec := hJ.ec; have hel := hJ.el; have heq := hJ.eq; have hee := hJ.ee
  have hx : x = 31 ∨ x = 62 := by have := hJ.a.xy; omega
  unfold JN at hn; unfold JT at hti; unfold JC at hco; unfold JL at hli; unfold JQ at hrq; unfold JEr at her
  have hJJ : JJ x y μ μ := hJ
  unfold KK
  by_cases hsp : 0 ≤ a ∧ a < μ 5 7
  · obtain ⟨f, hz, hc⟩ := c_Ho_lineUp (L := L) (d := 94) (c := 110) (y := y) (z := z) (JJ_HH hJJ) (t := a) (by omega)
    have hq := fun hi => zi_zq hz (i := b) hi
    rw [← zq_eq hJJ (by omega), he.2.2.2.2.1] at hq
    have hle := zc_bd (vst μ x a) (μ 23 5).toNat
    have hJ2 : J x y (mj_ua μ 29 f) := by
      rcases hJ.a.xy with ⟨rfl, rfl⟩ | ⟨rfl, rfl⟩ <;> exact hJ
    have hq2 := c_Mo_queued (L := L) (d := 95) (c := 110) (x := x) (y := y) (z := z) (JJ_HM (show JJ x y (mj_ua μ 29 f) (mj_ua μ 29 f) from hJ2)) (t := a) (i := b) (by omega)
    have e1 : zq (vsm (mj_ua μ 29 f) a) (vam (mj_ua μ 29 f)) (mj_ua μ 29 f 67 32).toNat b = zq (vsm μ a) (vam μ) (μ 67 32).toNat b := rfl
    rw [e1] at hq2
    simp only [hc, hq2, e_127, e_101, e_203, e_170, e_148, mj_go_eq, g_cut, g_k0, g_k1, g_w0, g_w1, g_w2, g_w3, g_w4, g_c1, g_c2, g_c3, g_us, g_ldr_0, g_getr, g_ldi_1, g_call2, o_101, g_ifeq, g_ldi_2, g_ifge, g_const, g_ret, o_25, g_sti_3, g_ldi_3, g_icge, g_iald, g_goto, g_iflt, g_getf, g_zret, o_170, g_call3, o_202, g_i2l, g_lconst, g_isub, o_148, g_ldl_0, g_ldl_2, g_lcmp, g_ldl_4, g_ifgt, g_c4, a_127_0, a_127_1, a_127_4, a_127_5, a_127_8, a_127_11, a_127_12, a_127_15, a_127_16, a_127_17, a_127_18, a_127_21, a_127_22, a_127_25, a_127_26, a_127_27, a_127_28, a_127_31, a_127_32, a_127_34, a_127_37, a_127_38, a_127_41, a_127_44, a_127_45, a_127_46, a_127_49, a_127_51, a_101_0, a_101_1, a_101_4, a_101_5, a_101_6, a_101_9, a_101_12, a_101_13, a_101_16, a_101_17, a_203_0, a_203_1, a_203_2, a_203_5, a_203_8, a_203_9, a_203_12, a_203_13, a_203_16, a_203_17, a_203_18, a_203_19, a_203_22, a_170_0, a_170_1, a_170_2, a_170_3, a_170_4, a_170_7, a_170_8, a_170_9, a_170_10, a_170_13, a_148_0, a_148_1, a_148_2, a_148_3, a_148_6, a_148_7, a_148_9, a_148_10, a_148_13, a_148_14, a_148_17, a_148_18, ne_eq, not_false_eq_true, true_and, and_true, and_self, Int.cast_ofNat_Int, reduceCtorEq, or_false, false_or, not_true_eq_false, or_true, true_or, Int.reduceToNat, Int.reduceAdd, Int.reduceEq, Int.reduceNe, Int.reduceLT, Int.reduceLE, Int.reduceNeg, Int.reduceSub, Int.reduceMul, Nat.reduceAdd, Nat.reduceLT, Nat.reduceLeDiff, Nat.reduceEqDiff, forall_const, false_implies, true_implies, p_1_0, p_1_1, p_1_2, p_1_3, p_1_4, p_1_5, p_1_6, p_1_7, p_1_8, p_1_9, p_2_0, p_4_0, p_4_1, p_4_2, p_4_3, p_4_4, p_4_5, p_5_0, p_5_1, p_5_2, p_5_3, p_5_4, p_5_5, p_12_0, p_12_1, p_12_2, p_12_3, p_12_4, p_18_0, p_18_1, p_18_2, p_18_3, p_23_0, p_23_1, p_23_2, p_23_3, p_23_4, p_31_0, p_31_1, p_31_2, p_31_3, p_36_0, p_36_1, p_36_2, p_36_3, p_36_4, p_42_0, p_42_1, p_42_2, p_42_3, p_42_4, p_42_5, p_42_6, p_42_7, p_42_8, p_52_0, p_52_1, p_52_2, p_52_3, p_52_4, p_52_5, p_52_6, p_58_0, p_58_1, p_58_2, p_62_0, p_62_1, p_62_2, p_62_3, p_67_1, p_67_2, p_67_3, p_67_4, p_67_13, p_67_15, p_67_16, p_67_17, p_67_18, p_67_19, p_67_21, p_67_22, p_67_23, p_67_24, p_67_25, p_67_26, p_67_28, p_67_29, p_67_30, p_67_31, p_67_33, p_67_34, p_67_35, p_67_36, p_67_37, p_67_38, p_67_39, p_67_40, p_67_41, p_67_42, p_67_43, p_67_44, p_67_48, p_67_49, p_67_50, p_67_51, p_67_52, p_67_53, p_67_54, p_67_55, p_x, p_y, p_z, p_sx, p_sy, p_sz, y_1, y_2, y_3, y_4, y_5, y_6, y_7, y_8, y_9, y_10, y_11, y_12, y_13, y_14, y_15, y_16, y_17, y_18, y_19, y_20, y_21, y_22, y_23, y_24, y_25, y_26, y_27, y_28, y_29, y_30, y_31, y_32, y_33, y_34, y_35, y_36, y_37, y_38, y_39, y_40, y_41, y_42, y_43, y_44, y_45, y_46, y_47, y_48, y_49, y_50, y_51, y_52, y_53, y_54, y_55, y_56, y_57, y_58, y_59, y_60, y_61, y_62, y_63, y_64, y_65, y_66, y_67, y_68, y_69, y_70, y_71, y_72, y_73, y_74, y_75, y_76, y_77, y_78, y_79, y_80, y_81, y_82, y_83, y_84, y_85, y_86, y_87, y_88, y_89, y_90, y_91, y_92, y_93, y_94, y_95, y_96, y_97, y_98, y_99, y_100, y_101, y_102, y_103, y_104, y_105, y_106, y_107, y_108, y_109, y_1000, y_1001, y_1002, y_1003, k_2, g_us, g_un, g_ps, g_pn, if_true, if_false, g_as, g_an, g_lc1, g_lc2, he, het, hec, hel, heq, hee]
    try (simp (disch := omega) only [mj_w_id])
    repeat' (first | intro _ | with_reducible apply And.intro)
    all_goals (try omega)
    all_goals (try (with_reducible exact k_e rfl hJ))
    all_goals (refine k_e ?_ hJ2; rw [hq (by omega)]; first | rw [if_pos (by omega)] | rw [if_neg (by omega)])
  · simp only [e_127, e_101, e_203, e_170, e_148, mj_go_eq, g_cut, g_k0, g_k1, g_w0, g_w1, g_w2, g_w3, g_w4, g_c1, g_c2, g_c3, g_us, g_ldr_0, g_getr, g_ldi_1, g_call2, o_101, g_ifeq, g_ldi_2, g_ifge, g_const, g_ret, o_25, g_sti_3, g_ldi_3, g_icge, g_iald, g_goto, g_iflt, g_getf, g_zret, o_170, g_call3, o_202, g_i2l, g_lconst, g_isub, o_148, g_ldl_0, g_ldl_2, g_lcmp, g_ldl_4, g_ifgt, g_c4, a_127_0, a_127_1, a_127_4, a_127_5, a_127_8, a_127_11, a_127_12, a_127_15, a_127_16, a_127_17, a_127_18, a_127_21, a_127_22, a_127_25, a_127_26, a_127_27, a_127_28, a_127_31, a_127_32, a_127_34, a_127_37, a_127_38, a_127_41, a_127_44, a_127_45, a_127_46, a_127_49, a_127_51, a_101_0, a_101_1, a_101_4, a_101_5, a_101_6, a_101_9, a_101_12, a_101_13, a_101_16, a_101_17, a_203_0, a_203_1, a_203_2, a_203_5, a_203_8, a_203_9, a_203_12, a_203_13, a_203_16, a_203_17, a_203_18, a_203_19, a_203_22, a_170_0, a_170_1, a_170_2, a_170_3, a_170_4, a_170_7, a_170_8, a_170_9, a_170_10, a_170_13, a_148_0, a_148_1, a_148_2, a_148_3, a_148_6, a_148_7, a_148_9, a_148_10, a_148_13, a_148_14, a_148_17, a_148_18, ne_eq, not_false_eq_true, true_and, and_true, and_self, Int.cast_ofNat_Int, reduceCtorEq, or_false, false_or, not_true_eq_false, or_true, true_or, Int.reduceToNat, Int.reduceAdd, Int.reduceEq, Int.reduceNe, Int.reduceLT, Int.reduceLE, Int.reduceNeg, Int.reduceSub, Int.reduceMul, Nat.reduceAdd, Nat.reduceLT, Nat.reduceLeDiff, Nat.reduceEqDiff, forall_const, false_implies, true_implies, p_1_0, p_1_1, p_1_2, p_1_3, p_1_4, p_1_5, p_1_6, p_1_7, p_1_8, p_1_9, p_2_0, p_4_0, p_4_1, p_4_2, p_4_3, p_4_4, p_4_5, p_5_0, p_5_1, p_5_2, p_5_3, p_5_4, p_5_5, p_12_0, p_12_1, p_12_2, p_12_3, p_12_4, p_18_0, p_18_1, p_18_2, p_18_3, p_23_0, p_23_1, p_23_2, p_23_3, p_23_4, p_31_0, p_31_1, p_31_2, p_31_3, p_36_0, p_36_1, p_36_2, p_36_3, p_36_4, p_42_0, p_42_1, p_42_2, p_42_3, p_42_4, p_42_5, p_42_6, p_42_7, p_42_8, p_52_0, p_52_1, p_52_2, p_52_3, p_52_4, p_52_5, p_52_6, p_58_0, p_58_1, p_58_2, p_62_0, p_62_1, p_62_2, p_62_3, p_67_1, p_67_2, p_67_3, p_67_4, p_67_13, p_67_15, p_67_16, p_67_17, p_67_18, p_67_19, p_67_21, p_67_22, p_67_23, p_67_24, p_67_25, p_67_26, p_67_28, p_67_29, p_67_30, p_67_31, p_67_33, p_67_34, p_67_35, p_67_36, p_67_37, p_67_38, p_67_39, p_67_40, p_67_41, p_67_42, p_67_43, p_67_44, p_67_48, p_67_49, p_67_50, p_67_51, p_67_52, p_67_53, p_67_54, p_67_55, p_x, p_y, p_z, p_sx, p_sy, p_sz, y_1, y_2, y_3, y_4, y_5, y_6, y_7, y_8, y_9, y_10, y_11, y_12, y_13, y_14, y_15, y_16, y_17, y_18, y_19, y_20, y_21, y_22, y_23, y_24, y_25, y_26, y_27, y_28, y_29, y_30, y_31, y_32, y_33, y_34, y_35, y_36, y_37, y_38, y_39, y_40, y_41, y_42, y_43, y_44, y_45, y_46, y_47, y_48, y_49, y_50, y_51, y_52, y_53, y_54, y_55, y_56, y_57, y_58, y_59, y_60, y_61, y_62, y_63, y_64, y_65, y_66, y_67, y_68, y_69, y_70, y_71, y_72, y_73, y_74, y_75, y_76, y_77, y_78, y_79, y_80, y_81, y_82, y_83, y_84, y_85, y_86, y_87, y_88, y_89, y_90, y_91, y_92, y_93, y_94, y_95, y_96, y_97, y_98, y_99, y_100, y_101, y_102, y_103, y_104, y_105, y_106, y_107, y_108, y_109, y_1000, y_1001, y_1002, y_1003, k_2, g_us, g_un, g_ps, g_pn, if_true, if_false, g_lc1, g_lc2, he, het, hec, hel, heq, hee]
    try (simp (disch := omega) only [mj_w_id])
    repeat' (first | intro _ | with_reducible apply And.intro)
    all_goals (try omega)
    all_goals (try (with_reducible exact k_e rfl hJ))
