set_option maxRecDepth 20000
/-! serving -/
noncomputable def fr (μ : mj_M) (t : Int) : Int := zm (fun i => μ 13 i = t && μ 14 i = 0) (μ 16) (μ 12 5).toNat
noncomputable def qf (μ : mj_M) (x : Nat) (t : Int) : Int := zq (vst μ x t) (vah μ x) (μ 23 5).toNat 0
def FrC (μ μ' : mj_M) : Prop := ∀ q : Nat, ¬ (14 ≤ q ∧ q ≤ 17) → ¬ (21 ≤ q ∧ q ≤ 22) → ¬ (27 ≤ q ∧ q ≤ 29) → μ' q = μ q
def FrM (ν ν' : mj_M) : Prop := ∀ q : Nat, ¬ (79 ≤ q ∧ q ≤ 82) → ¬ (86 ≤ q ∧ q ≤ 87) → ¬ (91 ≤ q ∧ q ≤ 92) → ν' q = ν q
theorem FrC_r (μ : mj_M) : FrC μ μ := fun _ _ _ _ => rfl
theorem FrC_t {a b e : mj_M} (h1 : FrC a b) (h2 : FrC b e) : FrC a e := fun q p1 p2 p3 => (h2 q p1 p2 p3).trans (h1 q p1 p2 p3)
theorem FrM_r (μ : mj_M) : FrM μ μ := fun _ _ _ _ => rfl
theorem FrM_t {a b e : mj_M} (h1 : FrM a b) (h2 : FrM b e) : FrM a e := fun q p1 p2 p3 => (h2 q p1 p2 p3).trans (h1 q p1 p2 p3)
theorem FrC_ua (μ : mj_M) (f : Int → Int) : FrC μ (mj_ua μ 29 f) := fun q _ _ _ => g_an (by omega)
theorem FrC_snd (μ : mj_M) (x : Nat) (c r : Int) : FrC μ (snd μ x c r) := fun q _ _ _ => by
  unfold snd
  split
  · unfold arr snd0; simp (disch := omega) only [g_un]
  · unfold snd0; simp (disch := omega) only [g_un]
theorem FrM_snd (μ : mj_M) (c r : Int) : FrM μ (sndM μ c r) := fun q _ _ _ => by
  unfold sndM
  split
  · unfold arrM sndM0; simp (disch := omega) only [g_un]
  · unfold sndM0; simp (disch := omega) only [g_un]
theorem fr_ua (μ : mj_M) (f : Int → Int) (t : Int) : fr (mj_ua μ 29 f) t = fr μ t := rfl
theorem snd_14 (μ : mj_M) (x : Nat) (c r : Int) : ∃ v, v ≠ 0 ∧ snd μ x c r 14 = mj_pt (μ 14) c v := by
  unfold snd
  split
  · refine ⟨2, by decide, ?_⟩
    unfold arr snd0; simp only [g_us, g_un, g_ps, g_pn, if_true, if_false, ne_eq, not_false_eq_true, Nat.reduceEqDiff, Int.reduceEq, reduceCtorEq, mj_pt_pt, mj_pt_id, Int.add_sub_cancel]
  · refine ⟨1, by decide, ?_⟩
    unfold snd0; simp only [g_us, g_un, g_ps, g_pn, if_true, if_false, ne_eq, not_false_eq_true, Nat.reduceEqDiff, Int.reduceEq, reduceCtorEq, mj_pt_pt, mj_pt_id, Int.add_sub_cancel]
theorem cnt_dec {μ : mj_M} {x : Nat} {t r : Int} (h : fr μ t ≠ -4) : zc (fun i => snd μ x (fr μ t) r 13 i = t && snd μ x (fr μ t) r 14 i = 0) (μ 12 5).toNat < zc (fun i => μ 13 i = t && μ 14 i = 0) (μ 12 5).toNat := by
  obtain ⟨v, hv, e⟩ := snd_14 μ x (fr μ t) r
  rw [FrC_snd μ x (fr μ t) r 13 (by omega) (by omega) (by omega), e]
  rcases zm_bd (fun i => μ 13 i = t && μ 14 i = 0) (μ 16) (μ 12 5).toNat with h1 | ⟨h1, h2, h3⟩
  · exact absurd h1 h
  · change 0 ≤ fr μ t at h1
    change fr μ t < _ at h2
    change (decide (μ 13 (fr μ t) = t) && decide (μ 14 (fr μ t) = 0)) = true at h3
    obtain ⟨k, hk⟩ : ∃ k : Nat, fr μ t = k := ⟨(fr μ t).toNat, by omega⟩
    rw [hk] at h2 h3 ⊢
    refine zc_ltw (k := k) ?_ h3 (by omega) fun i hi hp => ?_
    · rw [g_ps]; simp [hv]
    · by_cases ei : (i : Int) = k
      · rw [ei]; exact h3
      · rw [g_pn ei] at hp; exact hp
noncomputable def Ch (x : Nat) (t : Int) : Nat → mj_M → mj_M → Prop
  | 0, μ, μ' => (fr μ t = -4 ∨ qf μ x t = -4) ∧ ∃ f, μ' = mj_ua μ 29 f
  | k + 1, μ, μ' => fr μ t ≠ -4 ∧ qf μ x t ≠ -4 ∧ ∃ f, Ch x t k (snd (mj_ua μ 29 f) x (fr μ t) (qf μ x t)) μ'
theorem fr_bd {x y : Nat} {μ ν : mj_M} (h : JJ x y μ ν) {t : Int} (hf : fr μ t ≠ -4) : (0 ≤ fr μ t ∧ fr μ t < μ 12 5) ∧ μ 13 (fr μ t) = t := by
  have hn := h.a.n
  unfold JN at hn
  rcases zm_bd (fun i => μ 13 i = t && μ 14 i = 0) (μ 16) (μ 12 5).toNat with h1 | ⟨h1, h2, h3⟩
  · exact absurd h1 hf
  · change 0 ≤ fr μ t at h1
    change fr μ t < _ at h2
    change (decide (μ 13 (fr μ t) = t) && decide (μ 14 (fr μ t) = 0)) = true at h3
    simp only [Bool.and_eq_true, decide_eq_true_eq] at h3
    exact ⟨⟨h1, by omega⟩, h3.1⟩
theorem qf_bd {x y : Nat} {μ ν : mj_M} (h : JJ x y μ ν) {t : Int} (hf : qf μ x t ≠ -4) : 0 ≤ qf μ x t ∧ qf μ x t < μ 23 5 := by
  have hn := h.a.n
  unfold JN at hn
  rcases zfst_bd (fun r => vst μ x t r && decide (zr (vst μ x t) (vah μ x) r (μ 23 5).toNat = 0)) (μ 23 5).toNat with h1 | ⟨h1, h2, h3⟩
  · exact absurd h1 hf
  · change 0 ≤ qf μ x t at h1
    change qf μ x t < _ at h2
    exact ⟨h1, by omega⟩
theorem r_serveTitle {L d c x y z : Nat} {t : Int} (ht : 0 ≤ t ∧ t < 12) : ∀ j : Nat, j ≤ 24 → ∀ (μ1 : mj_M) (v3 : mj_V), (∃ ν1, JJ x y μ1 ν1) → zc (fun i => μ1 13 i = t && μ1 14 i = 0) (μ1 12 5).toNat ≤ 24 - j → mj_run L (d + 5) 31 2 [.inr (.inr 4), .inl t, .inl (j : Int), v3] [] c (pz x y z) μ1 (fun r c' π' μ' => ∃ k : Nat, Ch x t k μ1 μ' ∧ (∃ ν', JJ x y μ' ν') ∧ FrC μ1 μ' ∧ j + k ≤ 24 ∧ r = [.inl ((j : Int) + k)] ∧ c' = c ∧ π' = pz x y z ∧ True : mj_Q) := by
  refine mj_down ?_ ?_
  · intro μ1 v3 hJ hz
    obtain ⟨ν1, h1⟩ := hJ
    have hn := h1.a.n
    unfold JN at hn
    have hb := zc_bd (fun i => μ1 13 i = t && μ1 14 i = 0) (μ1 12 5).toNat
    have hf : fr μ1 t = -4 := by
      by_cases e : fr μ1 t = -4
      · exact e
      · have := cnt_dec (x := x) (r := 0) e
        have := zc_bd (fun i => snd μ1 x (fr μ1 t) 0 13 i = t && snd μ1 x (fr μ1 t) 0 14 i = 0) (μ1 12 5).toNat
        omega
    generalize hP : (fun r c' π' μ' => ∃ k : Nat, Ch x t k μ1 μ' ∧ (∃ ν', JJ x y μ' ν') ∧ FrC μ1 μ' ∧ 24 + k ≤ 24 ∧ r = [.inl (((24 : Nat) : Int) + k)] ∧ c' = c ∧ π' = pz x y z ∧ True : mj_Q) = P
    refine mj_start ?_
    simp only [mj_go_eq, g_cut, g_k0, g_k1, g_w0, g_w1, g_w2, g_w3, g_w4, g_c1, g_c2, g_c3, g_us, g_const, g_sti_2, g_ldi_2, g_icge, g_ldr_0, g_getr, g_ldi_1, g_call2, o_13, g_sti_3, g_ldi_3, g_iflt, o_25, g_ifne, g_ret, g_iald, g_call3, o_32, g_inc_2, g_goto, a_31_0, a_31_1, a_31_2, a_31_3, a_31_5, a_31_8, a_31_9, a_31_12, a_31_13, a_31_16, a_31_17, a_31_18, a_31_21, a_31_22, a_31_23, a_31_26, a_31_29, a_31_30, a_31_31, a_31_32, a_31_33, a_31_34, a_31_37, a_31_38, a_31_39, a_31_42, a_31_45, a_31_48, a_31_50, ne_eq, not_false_eq_true, true_and, and_true, and_self, Int.cast_ofNat_Int, reduceCtorEq, or_false, false_or, not_true_eq_false, or_true, true_or, Int.reduceToNat, Int.reduceAdd, Int.reduceEq, Int.reduceNe, Int.reduceLT, Int.reduceLE, Int.reduceNeg, Int.reduceSub, Int.reduceMul, Nat.reduceAdd, Nat.reduceLT, Nat.reduceLeDiff, Nat.reduceEqDiff, forall_const, false_implies, true_implies, p_1_0, p_1_1, p_1_2, p_1_3, p_1_4, p_1_5, p_1_6, p_1_7, p_1_8, p_1_9, p_2_0, p_4_0, p_4_1, p_4_2, p_4_3, p_4_4, p_4_5, p_5_0, p_5_1, p_5_2, p_5_3, p_5_4, p_5_5, p_12_0, p_12_1, p_12_2, p_12_3, p_12_4, p_18_0, p_18_1, p_18_2, p_18_3, p_23_0, p_23_1, p_23_2, p_23_3, p_23_4, p_31_0, p_31_1, p_31_2, p_31_3, p_36_0, p_36_1, p_36_2, p_36_3, p_36_4, p_42_0, p_42_1, p_42_2, p_42_3, p_42_4, p_42_5, p_42_6, p_42_7, p_42_8, p_52_0, p_52_1, p_52_2, p_52_3, p_52_4, p_52_5, p_52_6, p_58_0, p_58_1, p_58_2, p_62_0, p_62_1, p_62_2, p_62_3, p_67_1, p_67_2, p_67_3, p_67_4, p_67_13, p_67_15, p_67_16, p_67_17, p_67_18, p_67_19, p_67_21, p_67_22, p_67_23, p_67_24, p_67_25, p_67_26, p_67_28, p_67_29, p_67_30, p_67_31, p_67_33, p_67_34, p_67_35, p_67_36, p_67_37, p_67_38, p_67_39, p_67_40, p_67_41, p_67_42, p_67_43, p_67_44, p_67_48, p_67_49, p_67_50, p_67_51, p_67_52, p_67_53, p_67_54, p_67_55, p_x, p_y, p_z, p_sx, p_sy, p_sz, y_1, y_2, y_3, y_4, y_5, y_6, y_7, y_8, y_9, y_10, y_11, y_12, y_13, y_14, y_15, y_16, y_17, y_18, y_19, y_20, y_21, y_22, y_23, y_24, y_25, y_26, y_27, y_28, y_29, y_30, y_31, y_32, y_33, y_34, y_35, y_36, y_37, y_38, y_39, y_40, y_41, y_42, y_43, y_44, y_45, y_46, y_47, y_48, y_49, y_50, y_51, y_52, y_53, y_54, y_55, y_56, y_57, y_58, y_59, y_60, y_61, y_62, y_63, y_64, y_65, y_66, y_67, y_68, y_69, y_70, y_71, y_72, y_73, y_74, y_75, y_76, y_77, y_78, y_79, y_80, y_81, y_82, y_83, y_84, y_85, y_86, y_87, y_88, y_89, y_90, y_91, y_92, y_93, y_94, y_95, y_96, y_97, y_98, y_99, y_100, y_101, y_102, y_103, y_104, y_105, y_106, y_107, y_108, y_109, y_1000, y_1001, y_1002, y_1003]
    rw [← hP]
    exact ⟨0, ⟨Or.inl hf, μ1 29, g_aid.symm⟩, ⟨ν1, h1⟩, FrC_r _, by omega, rfl, rfl, rfl, trivial⟩
  · intro j hj ih
    intro μ1 v3 hJ hz
    obtain ⟨ν1, h1⟩ := hJ
    have hn := h1.a.n
    unfold JN at hn
    have hx := JJ_x h1
    have hlp : ∀ Q : mj_Q, mj_call L (d + 4) 13 [.inr (.inr 12), .inl t] c (pz x y z) μ1 Q = Q [.inl (fr μ1 t)] c (pz x y z) μ1 := fun Q => c_Co_leastPlayed (L := L) (d := d + 4) (c := c) (x := x) (y := y) (z := z) (μ := μ1) (t := t) (by omega) Q
    by_cases hf : fr μ1 t = -4
    · rw [hf] at hlp
      generalize hP : (fun r c' π' μ' => ∃ k : Nat, Ch x t k μ1 μ' ∧ (∃ ν', JJ x y μ' ν') ∧ FrC μ1 μ' ∧ j + k ≤ 24 ∧ r = [.inl ((j : Int) + k)] ∧ c' = c ∧ π' = pz x y z ∧ True : mj_Q) = P
      refine mj_start ?_
      simp only [hlp, mj_go_eq, g_cut, g_k0, g_k1, g_w0, g_w1, g_w2, g_w3, g_w4, g_c1, g_c2, g_c3, g_us, g_const, g_sti_2, g_ldi_2, g_icge, g_ldr_0, g_getr, g_ldi_1, g_call2, o_13, g_sti_3, g_ldi_3, g_iflt, o_25, g_ifne, g_ret, g_iald, g_call3, o_32, g_inc_2, g_goto, a_31_0, a_31_1, a_31_2, a_31_3, a_31_5, a_31_8, a_31_9, a_31_12, a_31_13, a_31_16, a_31_17, a_31_18, a_31_21, a_31_22, a_31_23, a_31_26, a_31_29, a_31_30, a_31_31, a_31_32, a_31_33, a_31_34, a_31_37, a_31_38, a_31_39, a_31_42, a_31_45, a_31_48, a_31_50, ne_eq, not_false_eq_true, true_and, and_true, and_self, Int.cast_ofNat_Int, reduceCtorEq, or_false, false_or, not_true_eq_false, or_true, true_or, Int.reduceToNat, Int.reduceAdd, Int.reduceEq, Int.reduceNe, Int.reduceLT, Int.reduceLE, Int.reduceNeg, Int.reduceSub, Int.reduceMul, Nat.reduceAdd, Nat.reduceLT, Nat.reduceLeDiff, Nat.reduceEqDiff, forall_const, false_implies, true_implies, p_1_0, p_1_1, p_1_2, p_1_3, p_1_4, p_1_5, p_1_6, p_1_7, p_1_8, p_1_9, p_2_0, p_4_0, p_4_1, p_4_2, p_4_3, p_4_4, p_4_5, p_5_0, p_5_1, p_5_2, p_5_3, p_5_4, p_5_5, p_12_0, p_12_1, p_12_2, p_12_3, p_12_4, p_18_0, p_18_1, p_18_2, p_18_3, p_23_0, p_23_1, p_23_2, p_23_3, p_23_4, p_31_0, p_31_1, p_31_2, p_31_3, p_36_0, p_36_1, p_36_2, p_36_3, p_36_4, p_42_0, p_42_1, p_42_2, p_42_3, p_42_4, p_42_5, p_42_6, p_42_7, p_42_8, p_52_0, p_52_1, p_52_2, p_52_3, p_52_4, p_52_5, p_52_6, p_58_0, p_58_1, p_58_2, p_62_0, p_62_1, p_62_2, p_62_3, p_67_1, p_67_2, p_67_3, p_67_4, p_67_13, p_67_15, p_67_16, p_67_17, p_67_18, p_67_19, p_67_21, p_67_22, p_67_23, p_67_24, p_67_25, p_67_26, p_67_28, p_67_29, p_67_30, p_67_31, p_67_33, p_67_34, p_67_35, p_67_36, p_67_37, p_67_38, p_67_39, p_67_40, p_67_41, p_67_42, p_67_43, p_67_44, p_67_48, p_67_49, p_67_50, p_67_51, p_67_52, p_67_53, p_67_54, p_67_55, p_x, p_y, p_z, p_sx, p_sy, p_sz, y_1, y_2, y_3, y_4, y_5, y_6, y_7, y_8, y_9, y_10, y_11, y_12, y_13, y_14, y_15, y_16, y_17, y_18, y_19, y_20, y_21, y_22, y_23, y_24, y_25, y_26, y_27, y_28, y_29, y_30, y_31, y_32, y_33, y_34, y_35, y_36, y_37, y_38, y_39, y_40, y_41, y_42, y_43, y_44, y_45, y_46, y_47, y_48, y_49, y_50, y_51, y_52, y_53, y_54, y_55, y_56, y_57, y_58, y_59, y_60, y_61, y_62, y_63, y_64, y_65, y_66, y_67, y_68, y_69, y_70, y_71, y_72, y_73, y_74, y_75, y_76, y_77, y_78, y_79, y_80, y_81, y_82, y_83, y_84, y_85, y_86, y_87, y_88, y_89, y_90, y_91, y_92, y_93, y_94, y_95, y_96, y_97, y_98, y_99, y_100, y_101, y_102, y_103, y_104, y_105, y_106, y_107, y_108, y_109, y_1000, y_1001, y_1002, y_1003]
      rw [← hP]
      repeat' (first | intro _ | with_reducible apply And.intro)
      all_goals (first | omega | exact ⟨0, ⟨Or.inl hf, μ1 29, g_aid.symm⟩, ⟨ν1, h1⟩, FrC_r _, by omega, by rw [Int.natCast_zero, Int.add_zero], rfl, rfl, trivial⟩)
    · obtain ⟨f, hzi, hlu⟩ := c_Ho_lineUp (L := L) (d := d) (c := c) (y := y) (z := z) (JJ_HH h1) ht
      have hq := zi_zq hzi (i := 0) (Int.le_refl _)
      change qf μ1 x t = _ at hq
      have hfb := (fr_bd h1 hf).1
      have hft := (fr_bd h1 hf).2
      have hlen := zc_bd (vst μ1 x t) (μ1 23 5).toNat
      generalize zc (vst μ1 x t) (μ1 23 5).toNat = len at *
      have hJu := JJ_ua (f := f) h1
      by_cases h0 : len = 0
      · subst h0
        generalize hP : (fun r c' π' μ' => ∃ k : Nat, Ch x t k μ1 μ' ∧ (∃ ν', JJ x y μ' ν') ∧ FrC μ1 μ' ∧ j + k ≤ 24 ∧ r = [.inl ((j : Int) + k)] ∧ c' = c ∧ π' = pz x y z ∧ True : mj_Q) = P
        refine mj_start ?_
        simp only [hlp, hlu, mj_go_eq, g_cut, g_k0, g_k1, g_w0, g_w1, g_w2, g_w3, g_w4, g_c1, g_c2, g_c3, g_us, g_const, g_sti_2, g_ldi_2, g_icge, g_ldr_0, g_getr, g_ldi_1, g_call2, o_13, g_sti_3, g_ldi_3, g_iflt, o_25, g_ifne, g_ret, g_iald, g_call3, o_32, g_inc_2, g_goto, a_31_0, a_31_1, a_31_2, a_31_3, a_31_5, a_31_8, a_31_9, a_31_12, a_31_13, a_31_16, a_31_17, a_31_18, a_31_21, a_31_22, a_31_23, a_31_26, a_31_29, a_31_30, a_31_31, a_31_32, a_31_33, a_31_34, a_31_37, a_31_38, a_31_39, a_31_42, a_31_45, a_31_48, a_31_50, ne_eq, not_false_eq_true, true_and, and_true, and_self, Int.cast_ofNat_Int, reduceCtorEq, or_false, false_or, not_true_eq_false, or_true, true_or, Int.reduceToNat, Int.reduceAdd, Int.reduceEq, Int.reduceNe, Int.reduceLT, Int.reduceLE, Int.reduceNeg, Int.reduceSub, Int.reduceMul, Nat.reduceAdd, Nat.reduceLT, Nat.reduceLeDiff, Nat.reduceEqDiff, forall_const, false_implies, true_implies, p_1_0, p_1_1, p_1_2, p_1_3, p_1_4, p_1_5, p_1_6, p_1_7, p_1_8, p_1_9, p_2_0, p_4_0, p_4_1, p_4_2, p_4_3, p_4_4, p_4_5, p_5_0, p_5_1, p_5_2, p_5_3, p_5_4, p_5_5, p_12_0, p_12_1, p_12_2, p_12_3, p_12_4, p_18_0, p_18_1, p_18_2, p_18_3, p_23_0, p_23_1, p_23_2, p_23_3, p_23_4, p_31_0, p_31_1, p_31_2, p_31_3, p_36_0, p_36_1, p_36_2, p_36_3, p_36_4, p_42_0, p_42_1, p_42_2, p_42_3, p_42_4, p_42_5, p_42_6, p_42_7, p_42_8, p_52_0, p_52_1, p_52_2, p_52_3, p_52_4, p_52_5, p_52_6, p_58_0, p_58_1, p_58_2, p_62_0, p_62_1, p_62_2, p_62_3, p_67_1, p_67_2, p_67_3, p_67_4, p_67_13, p_67_15, p_67_16, p_67_17, p_67_18, p_67_19, p_67_21, p_67_22, p_67_23, p_67_24, p_67_25, p_67_26, p_67_28, p_67_29, p_67_30, p_67_31, p_67_33, p_67_34, p_67_35, p_67_36, p_67_37, p_67_38, p_67_39, p_67_40, p_67_41, p_67_42, p_67_43, p_67_44, p_67_48, p_67_49, p_67_50, p_67_51, p_67_52, p_67_53, p_67_54, p_67_55, p_x, p_y, p_z, p_sx, p_sy, p_sz, y_1, y_2, y_3, y_4, y_5, y_6, y_7, y_8, y_9, y_10, y_11, y_12, y_13, y_14, y_15, y_16, y_17, y_18, y_19, y_20, y_21, y_22, y_23, y_24, y_25, y_26, y_27, y_28, y_29, y_30, y_31, y_32, y_33, y_34, y_35, y_36, y_37, y_38, y_39, y_40, y_41, y_42, y_43, y_44, y_45, y_46, y_47, y_48, y_49, y_50, y_51, y_52, y_53, y_54, y_55, y_56, y_57, y_58, y_59, y_60, y_61, y_62, y_63, y_64, y_65, y_66, y_67, y_68, y_69, y_70, y_71, y_72, y_73, y_74, y_75, y_76, y_77, y_78, y_79, y_80, y_81, y_82, y_83, y_84, y_85, y_86, y_87, y_88, y_89, y_90, y_91, y_92, y_93, y_94, y_95, y_96, y_97, y_98, y_99, y_100, y_101, y_102, y_103, y_104, y_105, y_106, y_107, y_108, y_109, y_1000, y_1001, y_1002, y_1003]
        rw [← hP]
        repeat' (first | intro _ | with_reducible apply And.intro)
        all_goals (first | omega | exact ⟨0, ⟨Or.inr (by rw [hq]; exact if_neg (by decide)), f, rfl⟩, ⟨ν1, hJu⟩, FrC_ua _ _, by omega, by rw [Int.natCast_zero, Int.add_zero], rfl, rfl, trivial⟩)
      · rw [if_pos (by omega)] at hq
        have hr0 := (hzi.2.1 0 (Int.le_refl _) (by omega)).1
        rw [← hq] at hr0
        have hrq := h1.a.rq _ hr0.1 (by omega)
        have hso := fun Q => c_Ho_sendOut (L := L) (d := d + 2) (c0 := c) (x := x) (y := y) (z := z) (μ := mj_ua μ1 29 f) (c := fr μ1 t) (r := qf μ1 x t) hx (by omega) (by omega) hrq.1 (show μ1 18 4 ≤ 10 by omega) (show 0 ≤ μ1 13 (fr μ1 t) ∧ μ1 13 (fr μ1 t) < 12 by omega) Q
        have hJs := JJ_snd hJu (c := fr μ1 t) (r := qf μ1 x t) hfb (show 0 ≤ qf μ1 x t ∧ qf μ1 x t < μ1 23 5 by omega)
        have hcd := cnt_dec (μ := mj_ua μ1 29 f) (x := x) (t := t) (r := qf μ1 x t) (by rw [fr_ua]; exact hf)
        rw [fr_ua] at hcd
        have hfs := FrC_t (FrC_ua μ1 f) (FrC_snd (mj_ua μ1 29 f) x (fr μ1 t) (qf μ1 x t))
        have ih2 := ih (snd (mj_ua μ1 29 f) x (fr μ1 t) (qf μ1 x t)) (.inl (fr μ1 t)) ⟨_, hJs⟩ (by
          rw [hfs 12 (by omega) (by omega) (by omega)]
          have : zc (fun i => decide (mj_ua μ1 29 f 13 i = t) && decide (mj_ua μ1 29 f 14 i = 0)) (mj_ua μ1 29 f 12 5).toNat = zc (fun i => decide (μ1 13 i = t) && decide (μ1 14 i = 0)) (μ1 12 5).toNat := rfl
          have e2 : (mj_ua μ1 29 f 12 5).toNat = (μ1 12 5).toNat := rfl
          rw [this, e2] at hcd
          omega)
        have ih3 := mj_run_mono ih2 (Q' := (fun r c' π' μ' => ∃ k : Nat, Ch x t k μ1 μ' ∧ (∃ ν', JJ x y μ' ν') ∧ FrC μ1 μ' ∧ j + k ≤ 24 ∧ r = [.inl ((j : Int) + k)] ∧ c' = c ∧ π' = pz x y z ∧ True : mj_Q)) (fun r c' π' μ' ⟨k, q1, q2, q3, q4, q5, q6, q7, q8⟩ => ⟨k + 1, ⟨hf, by omega, f, q1⟩, q2, FrC_t hfs q3, by omega, by rw [q5]; refine congrArg (fun q : Int => [Sum.inl q]) ?_; omega, q6, q7, q8⟩)
        rw [Int.natCast_succ] at ih3
        clear ih ih2
        generalize (fun r c' π' μ' => ∃ k : Nat, Ch x t k μ1 μ' ∧ (∃ ν', JJ x y μ' ν') ∧ FrC μ1 μ' ∧ j + k ≤ 24 ∧ r = [.inl ((j : Int) + k)] ∧ c' = c ∧ π' = pz x y z ∧ True : mj_Q) = P at ih3 ⊢
        refine mj_start ?_
        simp only [hlp, hlu, mj_go_eq, g_cut, g_k0, g_k1, g_w0, g_w1, g_w2, g_w3, g_w4, g_c1, g_c2, g_c3, g_us, g_const, g_sti_2, g_ldi_2, g_icge, g_ldr_0, g_getr, g_ldi_1, g_call2, o_13, g_sti_3, g_ldi_3, g_iflt, o_25, g_ifne, g_ret, g_iald, g_call3, o_32, g_inc_2, g_goto, a_31_0, a_31_1, a_31_2, a_31_3, a_31_5, a_31_8, a_31_9, a_31_12, a_31_13, a_31_16, a_31_17, a_31_18, a_31_21, a_31_22, a_31_23, a_31_26, a_31_29, a_31_30, a_31_31, a_31_32, a_31_33, a_31_34, a_31_37, a_31_38, a_31_39, a_31_42, a_31_45, a_31_48, a_31_50, ne_eq, not_false_eq_true, true_and, and_true, and_self, Int.cast_ofNat_Int, reduceCtorEq, or_false, false_or, not_true_eq_false, or_true, true_or, Int.reduceToNat, Int.reduceAdd, Int.reduceEq, Int.reduceNe, Int.reduceLT, Int.reduceLE, Int.reduceNeg, Int.reduceSub, Int.reduceMul, Nat.reduceAdd, Nat.reduceLT, Nat.reduceLeDiff, Nat.reduceEqDiff, forall_const, false_implies, true_implies, p_1_0, p_1_1, p_1_2, p_1_3, p_1_4, p_1_5, p_1_6, p_1_7, p_1_8, p_1_9, p_2_0, p_4_0, p_4_1, p_4_2, p_4_3, p_4_4, p_4_5, p_5_0, p_5_1, p_5_2, p_5_3, p_5_4, p_5_5, p_12_0, p_12_1, p_12_2, p_12_3, p_12_4, p_18_0, p_18_1, p_18_2, p_18_3, p_23_0, p_23_1, p_23_2, p_23_3, p_23_4, p_31_0, p_31_1, p_31_2, p_31_3, p_36_0, p_36_1, p_36_2, p_36_3, p_36_4, p_42_0, p_42_1, p_42_2, p_42_3, p_42_4, p_42_5, p_42_6, p_42_7, p_42_8, p_52_0, p_52_1, p_52_2, p_52_3, p_52_4, p_52_5, p_52_6, p_58_0, p_58_1, p_58_2, p_62_0, p_62_1, p_62_2, p_62_3, p_67_1, p_67_2, p_67_3, p_67_4, p_67_13, p_67_15, p_67_16, p_67_17, p_67_18, p_67_19, p_67_21, p_67_22, p_67_23, p_67_24, p_67_25, p_67_26, p_67_28, p_67_29, p_67_30, p_67_31, p_67_33, p_67_34, p_67_35, p_67_36, p_67_37, p_67_38, p_67_39, p_67_40, p_67_41, p_67_42, p_67_43, p_67_44, p_67_48, p_67_49, p_67_50, p_67_51, p_67_52, p_67_53, p_67_54, p_67_55, p_x, p_y, p_z, p_sx, p_sy, p_sz, y_1, y_2, y_3, y_4, y_5, y_6, y_7, y_8, y_9, y_10, y_11, y_12, y_13, y_14, y_15, y_16, y_17, y_18, y_19, y_20, y_21, y_22, y_23, y_24, y_25, y_26, y_27, y_28, y_29, y_30, y_31, y_32, y_33, y_34, y_35, y_36, y_37, y_38, y_39, y_40, y_41, y_42, y_43, y_44, y_45, y_46, y_47, y_48, y_49, y_50, y_51, y_52, y_53, y_54, y_55, y_56, y_57, y_58, y_59, y_60, y_61, y_62, y_63, y_64, y_65, y_66, y_67, y_68, y_69, y_70, y_71, y_72, y_73, y_74, y_75, y_76, y_77, y_78, y_79, y_80, y_81, y_82, y_83, y_84, y_85, y_86, y_87, y_88, y_89, y_90, y_91, y_92, y_93, y_94, y_95, y_96, y_97, y_98, y_99, y_100, y_101, y_102, y_103, y_104, y_105, y_106, y_107, y_108, y_109, y_1000, y_1001, y_1002, y_1003, g_as, ← hq, hso]
        try (simp (disch := omega) only [mj_w_id])
        repeat' (first | intro _ | with_reducible apply And.intro)
        all_goals (first | omega | exact ih3)
theorem c_Ho_serveTitle {L d c x y z : Nat} {μ ν : mj_M} {t : Int} (h : JJ x y μ ν) (ht : 0 ≤ t ∧ t < 12) : ∃ (k : Nat) (μ' : mj_M), Ch x t k μ μ' ∧ (∃ ν', JJ x y μ' ν') ∧ FrC μ μ' ∧ k ≤ 24 ∧ ∀ Q : mj_Q, mj_call L (d + 5) 31 [.inr (.inr 4), .inl t] c (pz x y z) μ Q = Q [.inl (k : Int)] c (pz x y z) μ' := by
  have hn := h.a.n
  unfold JN at hn
  have hb := zc_bd (fun i => μ 13 i = t && μ 14 i = 0) (μ 12 5).toNat
  have h0 := r_serveTitle (L := L) (d := d) (c := c) (x := x) (y := y) (z := z) ht 0 (Nat.zero_le _) μ (.inr (.inr 0)) ⟨ν, h⟩ (by omega)
  have hc : ∀ P : mj_Q, mj_run L (d + 5) 31 2 [.inr (.inr 4), .inl t, .inl 0, .inr (.inr 0)] [] c (pz x y z) μ P → mj_call L (d + 5) 31 [.inr (.inr 4), .inl t] c (pz x y z) μ P := fun P hp => by
    simp only [e_31, mj_go_eq, g_cut, g_k0, g_k1, g_w0, g_w1, g_w2, g_w3, g_w4, g_c1, g_c2, g_c3, g_us, g_const, g_sti_2, g_ldi_2, g_icge, g_ldr_0, g_getr, g_ldi_1, g_call2, o_13, g_sti_3, g_ldi_3, g_iflt, o_25, g_ifne, g_ret, g_iald, g_call3, o_32, g_inc_2, g_goto, a_31_0, a_31_1, a_31_2, a_31_3, a_31_5, a_31_8, a_31_9, a_31_12, a_31_13, a_31_16, a_31_17, a_31_18, a_31_21, a_31_22, a_31_23, a_31_26, a_31_29, a_31_30, a_31_31, a_31_32, a_31_33, a_31_34, a_31_37, a_31_38, a_31_39, a_31_42, a_31_45, a_31_48, a_31_50, ne_eq, not_false_eq_true, true_and, and_true, and_self, Int.cast_ofNat_Int, reduceCtorEq, or_false, false_or, not_true_eq_false, or_true, true_or, Int.reduceToNat, Int.reduceAdd, Int.reduceEq, Int.reduceNe, Int.reduceLT, Int.reduceLE, Int.reduceNeg, Int.reduceSub, Int.reduceMul, Nat.reduceAdd, Nat.reduceLT, Nat.reduceLeDiff, Nat.reduceEqDiff, forall_const, false_implies, true_implies]
    exact hp
  obtain ⟨r, c', π', μ', ⟨k, q1, q2, q3, q4, rfl, rfl, rfl, _⟩, hQ⟩ := mj_call_ex (hc _ h0)
  rw [Int.natCast_zero, Int.zero_add] at hQ
  exact ⟨k, μ', q1, q2, q3, by omega, hQ⟩
noncomputable def SA (x : Nat) : Nat → Int → Nat → mj_M → mj_M → Prop
  | 0, _, k, μ, μ' => k = 0 ∧ μ' = μ
  | m + 1, t, k, μ, μ' => ∃ (k1 k2 : Nat) (μ1 : mj_M), k1 ≤ 24 ∧ k = k1 + k2 ∧ Ch x t k1 μ μ1 ∧ SA x m (t + 1) k2 μ1 μ'
theorem r_serveAll {L d c x y z : Nat} (n : Nat) (hn : n ≤ 12) : ∀ j : Nat, j ≤ n → ∀ (μ1 : mj_M) (o : Int), 0 ≤ o ∧ o ≤ 24 * j → (∃ ν1, JJ x y μ1 ν1) → μ1 5 7 = n → mj_run L (d + 6) 30 4 [.inr (.inr 4), .inl o, .inl (j : Int)] [] c (pz x y z) μ1 (fun r c' π' μ' => ∃ k : Nat, SA x (n - j) j k μ1 μ' ∧ (∃ ν', JJ x y μ' ν') ∧ FrC μ1 μ' ∧ r = [.inl (o + k)] ∧ c' = c ∧ π' = pz x y z) := by
  refine mj_down ?_ ?_
  · intro μ1 o ho hJ hm
    generalize hP : (fun r c' π' μ' => ∃ k : Nat, SA x (n - n) n k μ1 μ' ∧ (∃ ν', JJ x y μ' ν') ∧ FrC μ1 μ' ∧ r = [.inl (o + k)] ∧ c' = c ∧ π' = pz x y z : mj_Q) = P
    refine mj_start ?_
    simp only [mj_go_eq, g_cut, g_k0, g_k1, g_w0, g_w1, g_w2, g_w3, g_w4, g_c1, g_c2, g_c3, g_us, g_const, g_sti_1, g_sti_2, g_ldi_2, g_ldr_0, g_getr, g_getf, g_icge, g_ldi_1, g_call2, o_31, g_iadd, g_inc_2, g_goto, g_ret, a_30_0, a_30_1, a_30_2, a_30_3, a_30_4, a_30_5, a_30_6, a_30_9, a_30_12, a_30_15, a_30_16, a_30_17, a_30_18, a_30_21, a_30_22, a_30_23, a_30_26, a_30_29, a_30_30, ne_eq, not_false_eq_true, true_and, and_true, and_self, Int.cast_ofNat_Int, reduceCtorEq, or_false, false_or, not_true_eq_false, or_true, true_or, Int.reduceToNat, Int.reduceAdd, Int.reduceEq, Int.reduceNe, Int.reduceLT, Int.reduceLE, Int.reduceNeg, Int.reduceSub, Int.reduceMul, Nat.reduceAdd, Nat.reduceLT, Nat.reduceLeDiff, Nat.reduceEqDiff, forall_const, false_implies, true_implies, p_1_0, p_1_1, p_1_2, p_1_3, p_1_4, p_1_5, p_1_6, p_1_7, p_1_8, p_1_9, p_2_0, p_4_0, p_4_1, p_4_2, p_4_3, p_4_4, p_4_5, p_5_0, p_5_1, p_5_2, p_5_3, p_5_4, p_5_5, p_12_0, p_12_1, p_12_2, p_12_3, p_12_4, p_18_0, p_18_1, p_18_2, p_18_3, p_23_0, p_23_1, p_23_2, p_23_3, p_23_4, p_31_0, p_31_1, p_31_2, p_31_3, p_36_0, p_36_1, p_36_2, p_36_3, p_36_4, p_42_0, p_42_1, p_42_2, p_42_3, p_42_4, p_42_5, p_42_6, p_42_7, p_42_8, p_52_0, p_52_1, p_52_2, p_52_3, p_52_4, p_52_5, p_52_6, p_58_0, p_58_1, p_58_2, p_62_0, p_62_1, p_62_2, p_62_3, p_67_1, p_67_2, p_67_3, p_67_4, p_67_13, p_67_15, p_67_16, p_67_17, p_67_18, p_67_19, p_67_21, p_67_22, p_67_23, p_67_24, p_67_25, p_67_26, p_67_28, p_67_29, p_67_30, p_67_31, p_67_33, p_67_34, p_67_35, p_67_36, p_67_37, p_67_38, p_67_39, p_67_40, p_67_41, p_67_42, p_67_43, p_67_44, p_67_48, p_67_49, p_67_50, p_67_51, p_67_52, p_67_53, p_67_54, p_67_55, p_x, p_y, p_z, p_sx, p_sy, p_sz, y_1, y_2, y_3, y_4, y_5, y_6, y_7, y_8, y_9, y_10, y_11, y_12, y_13, y_14, y_15, y_16, y_17, y_18, y_19, y_20, y_21, y_22, y_23, y_24, y_25, y_26, y_27, y_28, y_29, y_30, y_31, y_32, y_33, y_34, y_35, y_36, y_37, y_38, y_39, y_40, y_41, y_42, y_43, y_44, y_45, y_46, y_47, y_48, y_49, y_50, y_51, y_52, y_53, y_54, y_55, y_56, y_57, y_58, y_59, y_60, y_61, y_62, y_63, y_64, y_65, y_66, y_67, y_68, y_69, y_70, y_71, y_72, y_73, y_74, y_75, y_76, y_77, y_78, y_79, y_80, y_81, y_82, y_83, y_84, y_85, y_86, y_87, y_88, y_89, y_90, y_91, y_92, y_93, y_94, y_95, y_96, y_97, y_98, y_99, y_100, y_101, y_102, y_103, y_104, y_105, y_106, y_107, y_108, y_109, y_1000, y_1001, y_1002, y_1003]
    rw [← hP, Nat.sub_self]
    repeat' (first | intro _ | with_reducible apply And.intro)
    all_goals (first | omega | exact ⟨0, ⟨rfl, rfl⟩, hJ, FrC_r _, by rw [Int.natCast_zero, Int.add_zero], rfl, rfl⟩)
  · intro j hj ih
    intro μ1 o ho hJ hm
    obtain ⟨ν1, h1⟩ := hJ
    obtain ⟨k1, μ2, p1, p2, p3, p4, hst⟩ := c_Ho_serveTitle (L := L) (d := d) (c := c) (z := z) (t := j) h1 (by omega)
    have ih2 := ih μ2 (o + k1) (by omega) p2 (by rw [p3 5 (by omega) (by omega) (by omega)]; exact hm)
    have ih3 := mj_run_mono ih2 (Q' := (fun r c' π' μ' => ∃ k : Nat, SA x (n - j) j k μ1 μ' ∧ (∃ ν', JJ x y μ' ν') ∧ FrC μ1 μ' ∧ r = [.inl (o + k)] ∧ c' = c ∧ π' = pz x y z)) (fun r c' π' μ' ⟨k, q1, q2, q3, q4, q5, q6⟩ => ⟨k1 + k, by rw [show n - j = (n - (j + 1)) + 1 by omega]; exact ⟨k1, k, μ2, p4, rfl, p1, q1⟩, q2, FrC_t p3 q3, by rw [q4]; refine congrArg (fun q : Int => [Sum.inl q]) ?_; omega, q5, q6⟩)
    rw [Int.natCast_succ] at ih3
    clear ih ih2
    generalize (fun r c' π' μ' => ∃ k : Nat, SA x (n - j) j k μ1 μ' ∧ (∃ ν', JJ x y μ' ν') ∧ FrC μ1 μ' ∧ r = [.inl (o + k)] ∧ c' = c ∧ π' = pz x y z : mj_Q) = P at ih3 ⊢
    refine mj_start ?_
    simp only [hst, mj_go_eq, g_cut, g_k0, g_k1, g_w0, g_w1, g_w2, g_w3, g_w4, g_c1, g_c2, g_c3, g_us, g_const, g_sti_1, g_sti_2, g_ldi_2, g_ldr_0, g_getr, g_getf, g_icge, g_ldi_1, g_call2, o_31, g_iadd, g_inc_2, g_goto, g_ret, a_30_0, a_30_1, a_30_2, a_30_3, a_30_4, a_30_5, a_30_6, a_30_9, a_30_12, a_30_15, a_30_16, a_30_17, a_30_18, a_30_21, a_30_22, a_30_23, a_30_26, a_30_29, a_30_30, ne_eq, not_false_eq_true, true_and, and_true, and_self, Int.cast_ofNat_Int, reduceCtorEq, or_false, false_or, not_true_eq_false, or_true, true_or, Int.reduceToNat, Int.reduceAdd, Int.reduceEq, Int.reduceNe, Int.reduceLT, Int.reduceLE, Int.reduceNeg, Int.reduceSub, Int.reduceMul, Nat.reduceAdd, Nat.reduceLT, Nat.reduceLeDiff, Nat.reduceEqDiff, forall_const, false_implies, true_implies, p_1_0, p_1_1, p_1_2, p_1_3, p_1_4, p_1_5, p_1_6, p_1_7, p_1_8, p_1_9, p_2_0, p_4_0, p_4_1, p_4_2, p_4_3, p_4_4, p_4_5, p_5_0, p_5_1, p_5_2, p_5_3, p_5_4, p_5_5, p_12_0, p_12_1, p_12_2, p_12_3, p_12_4, p_18_0, p_18_1, p_18_2, p_18_3, p_23_0, p_23_1, p_23_2, p_23_3, p_23_4, p_31_0, p_31_1, p_31_2, p_31_3, p_36_0, p_36_1, p_36_2, p_36_3, p_36_4, p_42_0, p_42_1, p_42_2, p_42_3, p_42_4, p_42_5, p_42_6, p_42_7, p_42_8, p_52_0, p_52_1, p_52_2, p_52_3, p_52_4, p_52_5, p_52_6, p_58_0, p_58_1, p_58_2, p_62_0, p_62_1, p_62_2, p_62_3, p_67_1, p_67_2, p_67_3, p_67_4, p_67_13, p_67_15, p_67_16, p_67_17, p_67_18, p_67_19, p_67_21, p_67_22, p_67_23, p_67_24, p_67_25, p_67_26, p_67_28, p_67_29, p_67_30, p_67_31, p_67_33, p_67_34, p_67_35, p_67_36, p_67_37, p_67_38, p_67_39, p_67_40, p_67_41, p_67_42, p_67_43, p_67_44, p_67_48, p_67_49, p_67_50, p_67_51, p_67_52, p_67_53, p_67_54, p_67_55, p_x, p_y, p_z, p_sx, p_sy, p_sz, y_1, y_2, y_3, y_4, y_5, y_6, y_7, y_8, y_9, y_10, y_11, y_12, y_13, y_14, y_15, y_16, y_17, y_18, y_19, y_20, y_21, y_22, y_23, y_24, y_25, y_26, y_27, y_28, y_29, y_30, y_31, y_32, y_33, y_34, y_35, y_36, y_37, y_38, y_39, y_40, y_41, y_42, y_43, y_44, y_45, y_46, y_47, y_48, y_49, y_50, y_51, y_52, y_53, y_54, y_55, y_56, y_57, y_58, y_59, y_60, y_61, y_62, y_63, y_64, y_65, y_66, y_67, y_68, y_69, y_70, y_71, y_72, y_73, y_74, y_75, y_76, y_77, y_78, y_79, y_80, y_81, y_82, y_83, y_84, y_85, y_86, y_87, y_88, y_89, y_90, y_91, y_92, y_93, y_94, y_95, y_96, y_97, y_98, y_99, y_100, y_101, y_102, y_103, y_104, y_105, y_106, y_107, y_108, y_109, y_1000, y_1001, y_1002, y_1003]
    try (simp (disch := omega) only [mj_w_id])
    repeat' (first | intro _ | with_reducible apply And.intro)
    all_goals (first | omega | exact ih3)
theorem c_Ho_serveAll {L d c x y z : Nat} {μ ν : mj_M} (h : JJ x y μ ν) : ∃ (k : Nat) (μ' : mj_M), SA x (μ 5 7).toNat 0 k μ μ' ∧ (∃ ν', JJ x y μ' ν') ∧ FrC μ μ' ∧ ∀ Q : mj_Q, mj_call L (d + 6) 30 [.inr (.inr 4)] c (pz x y z) μ Q = Q [.inl (k : Int)] c (pz x y z) μ' := by
  have hn := h.a.n
  unfold JN at hn
  have h0 := r_serveAll (L := L) (d := d) (c := c) (x := x) (y := y) (z := z) (μ 5 7).toNat (by omega) 0 (Nat.zero_le _) μ 0 (by omega) ⟨ν, h⟩ (by omega)
  have hc : ∀ P : mj_Q, mj_run L (d + 6) 30 4 [.inr (.inr 4), .inl 0, .inl 0] [] c (pz x y z) μ P → mj_call L (d + 6) 30 [.inr (.inr 4)] c (pz x y z) μ P := fun P hp => by
    simp only [e_30, mj_go_eq, g_cut, g_k0, g_k1, g_w0, g_w1, g_w2, g_w3, g_w4, g_c1, g_c2, g_c3, g_us, g_const, g_sti_1, g_sti_2, g_ldi_2, g_ldr_0, g_getr, g_getf, g_icge, g_ldi_1, g_call2, o_31, g_iadd, g_inc_2, g_goto, g_ret, a_30_0, a_30_1, a_30_2, a_30_3, a_30_4, a_30_5, a_30_6, a_30_9, a_30_12, a_30_15, a_30_16, a_30_17, a_30_18, a_30_21, a_30_22, a_30_23, a_30_26, a_30_29, a_30_30, ne_eq, not_false_eq_true, true_and, and_true, and_self, Int.cast_ofNat_Int, reduceCtorEq, or_false, false_or, not_true_eq_false, or_true, true_or, Int.reduceToNat, Int.reduceAdd, Int.reduceEq, Int.reduceNe, Int.reduceLT, Int.reduceLE, Int.reduceNeg, Int.reduceSub, Int.reduceMul, Nat.reduceAdd, Nat.reduceLT, Nat.reduceLeDiff, Nat.reduceEqDiff, forall_const, false_implies, true_implies]
    exact hp
  obtain ⟨r, c', π', μ', ⟨k, q1, q2, q3, rfl, rfl, rfl⟩, hQ⟩ := mj_call_ex (hc _ h0)
  rw [Int.zero_add] at hQ
  exact ⟨k, μ', q1, q2, q3, hQ⟩
