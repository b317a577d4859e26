set_option maxRecDepth 20000
theorem vcb_1 (v : Int) (b : Bool) : ∀ m : Nat, (0 ≤ zs (fun t => if (decide (v = t) && b) = true then 1 else 0) m ∧ zs (fun t => if (decide (v = t) && b) = true then 1 else 0) m ≤ 1) ∧ ((m : Int) ≤ v → zs (fun t => if (decide (v = t) && b) = true then 1 else 0) m = 0)
  | 0 => ⟨⟨Int.le_refl _, by simp [zs]⟩, fun _ => rfl⟩
  | m + 1 => by
    have ih := vcb_1 v b m
    rw [zs_s]
    generalize zs (fun t => if (decide (v = t) && b) = true then 1 else 0) m = S at *
    by_cases e : v = (m : Int)
    · have := ih.2 (by omega)
      have e2 : ¬ ((m + 1 : Nat) : Int) ≤ v := by omega
      refine ⟨?_, fun q => absurd q e2⟩
      show 0 ≤ S + (if (decide (v = (m : Int)) && b) = true then (1 : Int) else 0) ∧ S + (if (decide (v = (m : Int)) && b) = true then (1 : Int) else 0) ≤ 1
      split <;> omega
    · have : (if (decide (v = (m : Int)) && b) = true then (1 : Int) else 0) = 0 := by
        rw [if_neg]
        simp [e]
      show (0 ≤ S + (if (decide (v = (m : Int)) && b) = true then (1 : Int) else 0) ∧ S + (if (decide (v = (m : Int)) && b) = true then (1 : Int) else 0) ≤ 1) ∧ (((m + 1 : Nat) : Int) ≤ v → S + (if (decide (v = (m : Int)) && b) = true then (1 : Int) else 0) = 0)
      rw [this]
      refine ⟨by omega, fun q => ?_⟩
      have := ih.2 (by omega)
      omega
theorem vcb_n (f : Int → Int) (g : Int → Bool) : ∀ n : Nat, zs (fun t => zc (fun i => decide (f i = t) && g i) n) 12 ≤ n
  | 0 => by
    rw [pq_0 _ 12 (fun i _ => rfl)]; exact Int.le_refl _
  | n + 1 => by
    have ih := vcb_n f g n
    have h1 := (vcb_1 (f n) (g n) 12).1.2
    have e : zs (fun t => zc (fun i => decide (f i = t) && g i) (n + 1)) 12 = zs (fun t => zc (fun i => decide (f i = t) && g i) n) 12 + zs (fun t => if (decide (f n = t) && g n) = true then 1 else 0) 12 := by
      rw [← zs_add2]
      exact zs_cg (fun t _ => rfl)
    rw [e]
    omega
theorem vcb_sum (μ : mj_M) (h : 0 ≤ μ 12 5 ∧ μ 12 5 ≤ 24) : zs (vcb μ) 12 ≤ 24 := by
  have h1 := vcb_n (μ 13) (fun i => decide (μ 14 i = 0)) (μ 12 5).toNat
  have h2 := zs_le2 (f := vcb μ) (g := fun t => zc (fun i => decide (μ 13 i = t) && decide (μ 14 i = 0)) (μ 12 5).toNat) (n := 12) (fun t _ => by
    unfold vcb
    have := (zc_bd (fun i => decide (μ 13 i = (t : Int)) && decide (μ 14 i = 0)) (μ 12 5).toNat).1
    split
    · exact Int.le_refl _
    · exact this)
  omega
theorem vcb_bd (μ : mj_M) (h : 0 ≤ μ 12 5 ∧ μ 12 5 ≤ 24) (t : Int) : 0 ≤ vcb μ t ∧ vcb μ t ≤ 24 := by
  have := zc_bd (fun i => decide (μ 13 i = t) && decide (μ 14 i = 0)) (μ 12 5).toNat
  unfold vcb
  split <;> omega
theorem vra_bd (μ : mj_M) (x : Nat) (h : 0 ≤ μ 12 5 ∧ μ 12 5 ≤ 24) (h0 : 1 ≤ μ (x + 1) 0 ∧ μ (x + 1) 0 ≤ 6) (l : Int) : -24 ≤ vra μ x l ∧ vra μ x l ≤ 6 := by
  have := zc_bd (fun i => decide (μ 15 i = l) && !decide (μ 14 i = 3)) (μ 12 5).toNat
  unfold vra
  split <;> omega
theorem c_Sb_parcels {L x y z : Nat} {μ : mj_M} {wh : Int} (hH : pp_H μ x) (hw : 0 ≤ wh ∧ wh ≤ 1) : ∃ (ν : mj_M) (P K : Int), (∀ q : Nat, q < 42 ∨ 51 < q → ν q = μ q) ∧ pq_O (vcn μ x) (vlk μ) (fun l => max (vra μ x l) 0) (vcb μ) P K ∧ ∀ Q : mj_Q, mj_call L 99 130 [.inr (.inr 1), .inl wh] 110 (pz x y z) μ Q = Q [.inl (if wh = 0 then P else K)] 110 (pz x y z) ν := by
  obtain ⟨hx, h12, h4, h18, h5, h22, h0⟩ := id hH
  have hrun : mj_call L 99 130 [.inr (.inr 1), .inl wh] 110 (pz x y z) μ (fun r0 c' π' μ' => ∃ P K : Int, ((∀ q : Nat, q < 42 ∨ 51 < q → μ' q = μ q) ∧ pq_O (vcn μ x) (vlk μ) (fun l => max (vra μ x l) 0) (vcb μ) P K) ∧ r0 = [.inl (if wh = 0 then P else K)] ∧ c' = 110 ∧ π' = pz x y z) := by
    generalize hQ : (fun r0 c' π' μ' => ∃ P K : Int, ((∀ q : Nat, q < 42 ∨ 51 < q → μ' q = μ q) ∧ pq_O (vcn μ x) (vlk μ) (fun l => max (vra μ x l) 0) (vcb μ) P K) ∧ r0 = [.inl (if wh = 0 then P else K)] ∧ c' = 110 ∧ π' = pz x y z : mj_Q) = Q
    -- listeners
    have key2 : ∀ (k : Nat) (l : Int), l + k = 10 → 0 ≤ l → ∀ ν : mj_M, pp_I μ x ν l (l * 12) → mj_run L 99 130 58 [.inr (.inr 1), .inl wh, .inl l] [] 110 (pz x y z) ν Q := by
      intro k
      induction k with
      | zero =>
        intro l hk hl ν hI
        have e : l = 10 := by omega
        subst e
        obtain ⟨p1, p2, p3, p4⟩ := id hI
        have hsp : ∀ k : Int, 0 ≤ k → k < 120 → ∃ l t : Int, (0 ≤ l ∧ l < 10) ∧ (0 ≤ t ∧ t < 12) ∧ k = l * 12 + t := fun k a b => ⟨k / 12, k % 12, by omega, by omega, by omega⟩
        have hcv : ∀ l t : Int, vcn μ x l t = 0 ∨ vcn μ x l t = 1 := fun l t => by unfold vcn; split <;> simp
        obtain ⟨ν', f1, o1, ks⟩ := c_Pa_solve (L := L) (d := 95) (c := 110) (x := x) (y := y) (z := z) (μ := ν) (fun k a b => by
          obtain ⟨l, t, hl, ht, rfl⟩ := hsp k a b
          have := p4 l t hl.1 hl.2 ht.1 ht.2 (by omega)
          rw [this.1]
          exact ⟨hcv l t, this.2.2.2⟩) (fun k a b => by
          obtain ⟨l, t, hl, ht, rfl⟩ := hsp k a b
          exact (p4 l t hl.1 hl.2 ht.1 ht.2 (by omega)).2.1) (fun l a b => by
          rw [p3 l a b]; have := vra_bd μ x h12 h0 l; omega) (fun t a b => by
          rw [p2 t a b]; have := vcb_bd μ h12 t; omega) (by
          rw [zs_cg (q := vcb μ) (fun t _ => p2 t (by omega) (by omega))]
          exact vcb_sum μ h12)
        have o2 : pq_O (vcn μ x) (vlk μ) (fun l => max (vra μ x l) 0) (vcb μ) (ν' 42 9) (ν' 42 10) := by
          refine pq_O_cg (fun l t a b => ?_) (fun l t a b q => ?_) (fun l a => ?_) (fun t a => ?_) o1
          · exact (p4 l t (by omega) (by omega) (by omega) (by omega) (by omega)).1
          · have := p4 l t (by omega) (by omega) (by omega) (by omega) (by omega)
            have q : ν 49 ((l : Int) * 12 + t) = 1 := q
            rw [this.1] at q
            exact this.2.2.1 q
          · show max (ν 46 l) 0 = max (vra μ x l) 0
            rw [p3 l (by omega) (by omega)]
          · exact p2 t (by omega) (by omega)
        have fr : ∀ q : Nat, q < 42 ∨ 51 < q → ν' q = μ q := fun q hq => by
          rw [f1 q (by omega)]; exact p1 q (by omega) (by omega) (by omega) (by omega) (by omega)
        refine mj_start ?_
        by_cases e : wh = 0
        · have d1 := eq_true e
          simp only [d1, ks, mj_go_eq, g_cut, g_k0, g_k1, g_w0, g_w1, g_w2, g_w3, g_w4, g_c1, g_c2, g_c3, g_us, g_ldi_1, g_const, g_call3, o_144, g_ifne, g_ret, g_sti_2, g_ldi_2, g_icge, g_ldr_0, g_getr, g_call2, o_101, g_ifeq, o_6, g_goto, o_43, g_inc_2, o_38, g_iald, o_9, g_isub, o_44, o_142, g_call1, o_46, g_getf, a_130_0, a_130_1, a_130_2, a_130_3, a_130_6, a_130_9, a_130_10, a_130_11, a_130_12, a_130_13, a_130_14, a_130_16, a_130_19, a_130_20, a_130_23, a_130_24, a_130_25, a_130_28, a_130_29, a_130_32, a_130_35, a_130_36, a_130_39, a_130_40, a_130_43, a_130_46, a_130_47, a_130_50, a_130_53, a_130_56, a_130_57, a_130_58, a_130_59, a_130_61, a_130_64, a_130_65, a_130_68, a_130_69, a_130_70, a_130_73, a_130_74, a_130_77, a_130_80, a_130_81, a_130_84, a_130_87, a_130_90, a_130_91, a_130_92, a_130_93, a_130_96, a_130_97, a_130_100, a_130_101, a_130_104, a_130_105, a_130_108, a_130_109, a_130_110, a_130_113, a_130_116, a_130_119, a_130_120, a_130_123, a_130_126, a_130_127, a_130_130, a_130_131, a_130_134, a_130_137, a_130_140, a_130_141, a_130_144, a_130_147, ne_eq, not_false_eq_true, true_and, and_true, and_self, Int.cast_ofNat_Int, reduceCtorEq, or_false, false_or, not_true_eq_false, or_true, true_or, Int.reduceToNat, Int.reduceAdd, Int.reduceEq, Int.reduceNe, Int.reduceLT, Int.reduceLE, Int.reduceNeg, Int.reduceSub, Int.reduceMul, Nat.reduceAdd, Nat.reduceLT, Nat.reduceLeDiff, Nat.reduceEqDiff, forall_const, false_implies, true_implies, p_1_0, p_1_1, p_1_2, p_1_3, p_1_4, p_1_5, p_1_6, p_1_7, p_1_8, p_1_9, p_2_0, p_4_0, p_4_1, p_4_2, p_4_3, p_4_4, p_4_5, p_5_0, p_5_1, p_5_2, p_5_3, p_5_4, p_5_5, p_12_0, p_12_1, p_12_2, p_12_3, p_12_4, p_18_0, p_18_1, p_18_2, p_18_3, p_23_0, p_23_1, p_23_2, p_23_3, p_23_4, p_31_0, p_31_1, p_31_2, p_31_3, p_36_0, p_36_1, p_36_2, p_36_3, p_36_4, p_42_0, p_42_1, p_42_2, p_42_3, p_42_4, p_42_5, p_42_6, p_42_7, p_42_8, p_52_0, p_52_1, p_52_2, p_52_3, p_52_4, p_52_5, p_52_6, p_58_0, p_58_1, p_58_2, p_62_0, p_62_1, p_62_2, p_62_3, p_67_1, p_67_2, p_67_3, p_67_4, p_67_13, p_67_15, p_67_16, p_67_17, p_67_18, p_67_19, p_67_21, p_67_22, p_67_23, p_67_24, p_67_25, p_67_26, p_67_28, p_67_29, p_67_30, p_67_31, p_67_33, p_67_34, p_67_35, p_67_36, p_67_37, p_67_38, p_67_39, p_67_40, p_67_41, p_67_42, p_67_43, p_67_44, p_67_48, p_67_49, p_67_50, p_67_51, p_67_52, p_67_53, p_67_54, p_67_55, p_x, p_y, p_z, p_sx, p_sy, p_sz, y_1, y_2, y_3, y_4, y_5, y_6, y_7, y_8, y_9, y_10, y_11, y_12, y_13, y_14, y_15, y_16, y_17, y_18, y_19, y_20, y_21, y_22, y_23, y_24, y_25, y_26, y_27, y_28, y_29, y_30, y_31, y_32, y_33, y_34, y_35, y_36, y_37, y_38, y_39, y_40, y_41, y_42, y_43, y_44, y_45, y_46, y_47, y_48, y_49, y_50, y_51, y_52, y_53, y_54, y_55, y_56, y_57, y_58, y_59, y_60, y_61, y_62, y_63, y_64, y_65, y_66, y_67, y_68, y_69, y_70, y_71, y_72, y_73, y_74, y_75, y_76, y_77, y_78, y_79, y_80, y_81, y_82, y_83, y_84, y_85, y_86, y_87, y_88, y_89, y_90, y_91, y_92, y_93, y_94, y_95, y_96, y_97, y_98, y_99, y_100, y_101, y_102, y_103, y_104, y_105, y_106, y_107, y_108, y_109, y_1000, y_1001, y_1002, y_1003]
          rw [← hQ]
          exact ⟨_, _, ⟨fr, o2⟩, by rw [if_pos e], rfl, rfl⟩
        · have d1 := eq_false e
          simp only [d1, ks, mj_go_eq, g_cut, g_k0, g_k1, g_w0, g_w1, g_w2, g_w3, g_w4, g_c1, g_c2, g_c3, g_us, g_ldi_1, g_const, g_call3, o_144, g_ifne, g_ret, g_sti_2, g_ldi_2, g_icge, g_ldr_0, g_getr, g_call2, o_101, g_ifeq, o_6, g_goto, o_43, g_inc_2, o_38, g_iald, o_9, g_isub, o_44, o_142, g_call1, o_46, g_getf, a_130_0, a_130_1, a_130_2, a_130_3, a_130_6, a_130_9, a_130_10, a_130_11, a_130_12, a_130_13, a_130_14, a_130_16, a_130_19, a_130_20, a_130_23, a_130_24, a_130_25, a_130_28, a_130_29, a_130_32, a_130_35, a_130_36, a_130_39, a_130_40, a_130_43, a_130_46, a_130_47, a_130_50, a_130_53, a_130_56, a_130_57, a_130_58, a_130_59, a_130_61, a_130_64, a_130_65, a_130_68, a_130_69, a_130_70, a_130_73, a_130_74, a_130_77, a_130_80, a_130_81, a_130_84, a_130_87, a_130_90, a_130_91, a_130_92, a_130_93, a_130_96, a_130_97, a_130_100, a_130_101, a_130_104, a_130_105, a_130_108, a_130_109, a_130_110, a_130_113, a_130_116, a_130_119, a_130_120, a_130_123, a_130_126, a_130_127, a_130_130, a_130_131, a_130_134, a_130_137, a_130_140, a_130_141, a_130_144, a_130_147, ne_eq, not_false_eq_true, true_and, and_true, and_self, Int.cast_ofNat_Int, reduceCtorEq, or_false, false_or, not_true_eq_false, or_true, true_or, Int.reduceToNat, Int.reduceAdd, Int.reduceEq, Int.reduceNe, Int.reduceLT, Int.reduceLE, Int.reduceNeg, Int.reduceSub, Int.reduceMul, Nat.reduceAdd, Nat.reduceLT, Nat.reduceLeDiff, Nat.reduceEqDiff, forall_const, false_implies, true_implies, p_1_0, p_1_1, p_1_2, p_1_3, p_1_4, p_1_5, p_1_6, p_1_7, p_1_8, p_1_9, p_2_0, p_4_0, p_4_1, p_4_2, p_4_3, p_4_4, p_4_5, p_5_0, p_5_1, p_5_2, p_5_3, p_5_4, p_5_5, p_12_0, p_12_1, p_12_2, p_12_3, p_12_4, p_18_0, p_18_1, p_18_2, p_18_3, p_23_0, p_23_1, p_23_2, p_23_3, p_23_4, p_31_0, p_31_1, p_31_2, p_31_3, p_36_0, p_36_1, p_36_2, p_36_3, p_36_4, p_42_0, p_42_1, p_42_2, p_42_3, p_42_4, p_42_5, p_42_6, p_42_7, p_42_8, p_52_0, p_52_1, p_52_2, p_52_3, p_52_4, p_52_5, p_52_6, p_58_0, p_58_1, p_58_2, p_62_0, p_62_1, p_62_2, p_62_3, p_67_1, p_67_2, p_67_3, p_67_4, p_67_13, p_67_15, p_67_16, p_67_17, p_67_18, p_67_19, p_67_21, p_67_22, p_67_23, p_67_24, p_67_25, p_67_26, p_67_28, p_67_29, p_67_30, p_67_31, p_67_33, p_67_34, p_67_35, p_67_36, p_67_37, p_67_38, p_67_39, p_67_40, p_67_41, p_67_42, p_67_43, p_67_44, p_67_48, p_67_49, p_67_50, p_67_51, p_67_52, p_67_53, p_67_54, p_67_55, p_x, p_y, p_z, p_sx, p_sy, p_sz, y_1, y_2, y_3, y_4, y_5, y_6, y_7, y_8, y_9, y_10, y_11, y_12, y_13, y_14, y_15, y_16, y_17, y_18, y_19, y_20, y_21, y_22, y_23, y_24, y_25, y_26, y_27, y_28, y_29, y_30, y_31, y_32, y_33, y_34, y_35, y_36, y_37, y_38, y_39, y_40, y_41, y_42, y_43, y_44, y_45, y_46, y_47, y_48, y_49, y_50, y_51, y_52, y_53, y_54, y_55, y_56, y_57, y_58, y_59, y_60, y_61, y_62, y_63, y_64, y_65, y_66, y_67, y_68, y_69, y_70, y_71, y_72, y_73, y_74, y_75, y_76, y_77, y_78, y_79, y_80, y_81, y_82, y_83, y_84, y_85, y_86, y_87, y_88, y_89, y_90, y_91, y_92, y_93, y_94, y_95, y_96, y_97, y_98, y_99, y_100, y_101, y_102, y_103, y_104, y_105, y_106, y_107, y_108, y_109, y_1000, y_1001, y_1002, y_1003]
          rw [← hQ]
          exact ⟨_, _, ⟨fr, o2⟩, by rw [if_neg e], rfl, rfl⟩
      | succ k ih =>
        intro l hk hl0 ν hI
        have hl : 0 ≤ l ∧ l < 10 := by omega
        have hf := hI.1
        have e18 : ν 18 = μ 18 := hf 18 (by decide) (by decide) (by decide) (by decide) (by decide)
        have e12 : ν 12 = μ 12 := hf 12 (by decide) (by decide) (by decide) (by decide) (by decide)
        have e14 : ν 14 = μ 14 := hf 14 (by decide) (by decide) (by decide) (by decide) (by decide)
        have e15 : ν 15 = μ 15 := hf 15 (by decide) (by decide) (by decide) (by decide) (by decide)
        have ex : ν (x + 1) = μ (x + 1) := hf (x + 1) (by omega) (by omega) (by omega) (by omega) (by omega)
        have hv := vra_bd μ x h12 h0 l
        have hI1 : pp_I μ x (mj_up ν 46 l (vra μ x l)) (l + 1) (l * 12) := by
          obtain ⟨p1, p2, p3, p4⟩ := hI
          refine ⟨fun q a1 a2 a3 a4 a5 => ?_, fun t a1 a2 => ?_, fun l' a1 a2 => ?_, fun l' t' a1 a2 a3 a4 a5 => ?_⟩
          · rw [g_un a2]; exact p1 q a1 a2 a3 a4 a5
          · rw [g_un (by decide)]; exact p2 t a1 a2
          · rw [g_us]
            by_cases e : l' = l
            · subst e; rw [g_ps]
            · rw [g_pn e]; exact p3 l' a1 (by omega)
          · rw [g_un (by decide), g_un (by decide), g_un (by decide)]
            exact p4 l' t' a1 a2 a3 a4 a5
        obtain ⟨ν', hI2, kp⟩ := c_Sb_setPairs (L := L) (d := 95) (c := 110) (x := x) (y := y) (z := z) hH hl hI1
        have i' := ih (l + 1) (by omega) (by omega) ν' hI2
        have w1 : mj_w (l + 1) = l + 1 := mj_w_id (by omega) (by omega)
        have t1 : (l < 10) = True := eq_true hl.2
        have kl := fun Q => c_Li_has (L := L) (d := 98) (c := 110) (x := x) (y := y) (z := z) (μ := ν) (l := l) hl.1 Q
        have kh := fun Q => c_Co_held (L := L) (d := 98) (c := 110) (x := x) (y := y) (z := z) (μ := ν) (l := l) (by rw [e12]; exact h12) Q
        have ks := fun v Q => c_Pa_setListener (L := L) (d := 98) (c := 110) (x := x) (y := y) (z := z) (μ := ν) (t := l) (v := v) hl Q
        rw [e18] at kl
        rw [e12, e14, e15] at kh
        refine mj_start ?_
        by_cases c1 : l < μ 18 4
        · have d1 := eq_true c1
          have hv2 : μ (x + 1) 0 - zc (fun i => μ 15 i = l && !decide (μ 14 i = 3)) (μ 12 5).toNat = vra μ x l := by unfold vra; rw [if_pos c1]
          have w2 : mj_w (vra μ x l) = vra μ x l := mj_w_id (by omega) (by omega)
          simp only [w1, t1, kl, kh, d1, ex, ks, hv2, w2, kp, yx0 hx, yx1 hx, yx2 hx, yx3 hx, yx4 hx, px0 hx, px1 hx, px2 hx, px3 hx, mj_go_eq, g_cut, g_k0, g_k1, g_w0, g_w1, g_w2, g_w3, g_w4, g_c1, g_c2, g_c3, g_us, g_ldi_1, g_const, g_call3, o_144, g_ifne, g_ret, g_sti_2, g_ldi_2, g_icge, g_ldr_0, g_getr, g_call2, o_101, g_ifeq, o_6, g_goto, o_43, g_inc_2, o_38, g_iald, o_9, g_isub, o_44, o_142, g_call1, o_46, g_getf, a_130_0, a_130_1, a_130_2, a_130_3, a_130_6, a_130_9, a_130_10, a_130_11, a_130_12, a_130_13, a_130_14, a_130_16, a_130_19, a_130_20, a_130_23, a_130_24, a_130_25, a_130_28, a_130_29, a_130_32, a_130_35, a_130_36, a_130_39, a_130_40, a_130_43, a_130_46, a_130_47, a_130_50, a_130_53, a_130_56, a_130_57, a_130_58, a_130_59, a_130_61, a_130_64, a_130_65, a_130_68, a_130_69, a_130_70, a_130_73, a_130_74, a_130_77, a_130_80, a_130_81, a_130_84, a_130_87, a_130_90, a_130_91, a_130_92, a_130_93, a_130_96, a_130_97, a_130_100, a_130_101, a_130_104, a_130_105, a_130_108, a_130_109, a_130_110, a_130_113, a_130_116, a_130_119, a_130_120, a_130_123, a_130_126, a_130_127, a_130_130, a_130_131, a_130_134, a_130_137, a_130_140, a_130_141, a_130_144, a_130_147, ne_eq, not_false_eq_true, true_and, and_true, and_self, Int.cast_ofNat_Int, reduceCtorEq, or_false, false_or, not_true_eq_false, or_true, true_or, Int.reduceToNat, Int.reduceAdd, Int.reduceEq, Int.reduceNe, Int.reduceLT, Int.reduceLE, Int.reduceNeg, Int.reduceSub, Int.reduceMul, Nat.reduceAdd, Nat.reduceLT, Nat.reduceLeDiff, Nat.reduceEqDiff, forall_const, false_implies, true_implies, p_1_0, p_1_1, p_1_2, p_1_3, p_1_4, p_1_5, p_1_6, p_1_7, p_1_8, p_1_9, p_2_0, p_4_0, p_4_1, p_4_2, p_4_3, p_4_4, p_4_5, p_5_0, p_5_1, p_5_2, p_5_3, p_5_4, p_5_5, p_12_0, p_12_1, p_12_2, p_12_3, p_12_4, p_18_0, p_18_1, p_18_2, p_18_3, p_23_0, p_23_1, p_23_2, p_23_3, p_23_4, p_31_0, p_31_1, p_31_2, p_31_3, p_36_0, p_36_1, p_36_2, p_36_3, p_36_4, p_42_0, p_42_1, p_42_2, p_42_3, p_42_4, p_42_5, p_42_6, p_42_7, p_42_8, p_52_0, p_52_1, p_52_2, p_52_3, p_52_4, p_52_5, p_52_6, p_58_0, p_58_1, p_58_2, p_62_0, p_62_1, p_62_2, p_62_3, p_67_1, p_67_2, p_67_3, p_67_4, p_67_13, p_67_15, p_67_16, p_67_17, p_67_18, p_67_19, p_67_21, p_67_22, p_67_23, p_67_24, p_67_25, p_67_26, p_67_28, p_67_29, p_67_30, p_67_31, p_67_33, p_67_34, p_67_35, p_67_36, p_67_37, p_67_38, p_67_39, p_67_40, p_67_41, p_67_42, p_67_43, p_67_44, p_67_48, p_67_49, p_67_50, p_67_51, p_67_52, p_67_53, p_67_54, p_67_55, p_x, p_y, p_z, p_sx, p_sy, p_sz, y_1, y_2, y_3, y_4, y_5, y_6, y_7, y_8, y_9, y_10, y_11, y_12, y_13, y_14, y_15, y_16, y_17, y_18, y_19, y_20, y_21, y_22, y_23, y_24, y_25, y_26, y_27, y_28, y_29, y_30, y_31, y_32, y_33, y_34, y_35, y_36, y_37, y_38, y_39, y_40, y_41, y_42, y_43, y_44, y_45, y_46, y_47, y_48, y_49, y_50, y_51, y_52, y_53, y_54, y_55, y_56, y_57, y_58, y_59, y_60, y_61, y_62, y_63, y_64, y_65, y_66, y_67, y_68, y_69, y_70, y_71, y_72, y_73, y_74, y_75, y_76, y_77, y_78, y_79, y_80, y_81, y_82, y_83, y_84, y_85, y_86, y_87, y_88, y_89, y_90, y_91, y_92, y_93, y_94, y_95, y_96, y_97, y_98, y_99, y_100, y_101, y_102, y_103, y_104, y_105, y_106, y_107, y_108, y_109, y_1000, y_1001, y_1002, y_1003, if_true, if_false]
          repeat' (first | intro _ | with_reducible apply And.intro)
          all_goals (first | omega | exact i' | skip)
        · have d1 := eq_false c1
          have hv2 : vra μ x l = 0 := by unfold vra; rw [if_neg c1]
          rw [hv2] at kp
          simp only [w1, t1, kl, d1, ks, kp, yx0 hx, yx1 hx, yx2 hx, yx3 hx, yx4 hx, px0 hx, px1 hx, px2 hx, px3 hx, mj_go_eq, g_cut, g_k0, g_k1, g_w0, g_w1, g_w2, g_w3, g_w4, g_c1, g_c2, g_c3, g_us, g_ldi_1, g_const, g_call3, o_144, g_ifne, g_ret, g_sti_2, g_ldi_2, g_icge, g_ldr_0, g_getr, g_call2, o_101, g_ifeq, o_6, g_goto, o_43, g_inc_2, o_38, g_iald, o_9, g_isub, o_44, o_142, g_call1, o_46, g_getf, a_130_0, a_130_1, a_130_2, a_130_3, a_130_6, a_130_9, a_130_10, a_130_11, a_130_12, a_130_13, a_130_14, a_130_16, a_130_19, a_130_20, a_130_23, a_130_24, a_130_25, a_130_28, a_130_29, a_130_32, a_130_35, a_130_36, a_130_39, a_130_40, a_130_43, a_130_46, a_130_47, a_130_50, a_130_53, a_130_56, a_130_57, a_130_58, a_130_59, a_130_61, a_130_64, a_130_65, a_130_68, a_130_69, a_130_70, a_130_73, a_130_74, a_130_77, a_130_80, a_130_81, a_130_84, a_130_87, a_130_90, a_130_91, a_130_92, a_130_93, a_130_96, a_130_97, a_130_100, a_130_101, a_130_104, a_130_105, a_130_108, a_130_109, a_130_110, a_130_113, a_130_116, a_130_119, a_130_120, a_130_123, a_130_126, a_130_127, a_130_130, a_130_131, a_130_134, a_130_137, a_130_140, a_130_141, a_130_144, a_130_147, ne_eq, not_false_eq_true, true_and, and_true, and_self, Int.cast_ofNat_Int, reduceCtorEq, or_false, false_or, not_true_eq_false, or_true, true_or, Int.reduceToNat, Int.reduceAdd, Int.reduceEq, Int.reduceNe, Int.reduceLT, Int.reduceLE, Int.reduceNeg, Int.reduceSub, Int.reduceMul, Nat.reduceAdd, Nat.reduceLT, Nat.reduceLeDiff, Nat.reduceEqDiff, forall_const, false_implies, true_implies, p_1_0, p_1_1, p_1_2, p_1_3, p_1_4, p_1_5, p_1_6, p_1_7, p_1_8, p_1_9, p_2_0, p_4_0, p_4_1, p_4_2, p_4_3, p_4_4, p_4_5, p_5_0, p_5_1, p_5_2, p_5_3, p_5_4, p_5_5, p_12_0, p_12_1, p_12_2, p_12_3, p_12_4, p_18_0, p_18_1, p_18_2, p_18_3, p_23_0, p_23_1, p_23_2, p_23_3, p_23_4, p_31_0, p_31_1, p_31_2, p_31_3, p_36_0, p_36_1, p_36_2, p_36_3, p_36_4, p_42_0, p_42_1, p_42_2, p_42_3, p_42_4, p_42_5, p_42_6, p_42_7, p_42_8, p_52_0, p_52_1, p_52_2, p_52_3, p_52_4, p_52_5, p_52_6, p_58_0, p_58_1, p_58_2, p_62_0, p_62_1, p_62_2, p_62_3, p_67_1, p_67_2, p_67_3, p_67_4, p_67_13, p_67_15, p_67_16, p_67_17, p_67_18, p_67_19, p_67_21, p_67_22, p_67_23, p_67_24, p_67_25, p_67_26, p_67_28, p_67_29, p_67_30, p_67_31, p_67_33, p_67_34, p_67_35, p_67_36, p_67_37, p_67_38, p_67_39, p_67_40, p_67_41, p_67_42, p_67_43, p_67_44, p_67_48, p_67_49, p_67_50, p_67_51, p_67_52, p_67_53, p_67_54, p_67_55, p_x, p_y, p_z, p_sx, p_sy, p_sz, y_1, y_2, y_3, y_4, y_5, y_6, y_7, y_8, y_9, y_10, y_11, y_12, y_13, y_14, y_15, y_16, y_17, y_18, y_19, y_20, y_21, y_22, y_23, y_24, y_25, y_26, y_27, y_28, y_29, y_30, y_31, y_32, y_33, y_34, y_35, y_36, y_37, y_38, y_39, y_40, y_41, y_42, y_43, y_44, y_45, y_46, y_47, y_48, y_49, y_50, y_51, y_52, y_53, y_54, y_55, y_56, y_57, y_58, y_59, y_60, y_61, y_62, y_63, y_64, y_65, y_66, y_67, y_68, y_69, y_70, y_71, y_72, y_73, y_74, y_75, y_76, y_77, y_78, y_79, y_80, y_81, y_82, y_83, y_84, y_85, y_86, y_87, y_88, y_89, y_90, y_91, y_92, y_93, y_94, y_95, y_96, y_97, y_98, y_99, y_100, y_101, y_102, y_103, y_104, y_105, y_106, y_107, y_108, y_109, y_1000, y_1001, y_1002, y_1003, if_true, if_false]
          repeat' (first | intro _ | with_reducible apply And.intro)
          all_goals (first | omega | exact i' | skip)
    -- titles
    have key1 : ∀ (k : Nat) (t : Int), t + k = 12 → 0 ≤ t → ∀ ν : mj_M, pp_f μ ν → (∀ t' : Int, 0 ≤ t' → t' < t → ν 43 t' = vcb μ t') → mj_run L 99 130 13 [.inr (.inr 1), .inl wh, .inl t] [] 110 (pz x y z) ν Q := by
      intro k
      induction k with
      | zero =>
        intro t hk ht ν hf hI
        have e : t = 12 := by omega
        subst e
        have i' := key2 10 0 (by omega) (by omega) ν ⟨hf, hI, fun l a b => by omega, fun l t a1 a2 a3 a4 a5 => by omega⟩
        refine mj_start ?_
        simp only [mj_go_eq, g_cut, g_k0, g_k1, g_w0, g_w1, g_w2, g_w3, g_w4, g_c1, g_c2, g_c3, g_us, g_ldi_1, g_const, g_call3, o_144, g_ifne, g_ret, g_sti_2, g_ldi_2, g_icge, g_ldr_0, g_getr, g_call2, o_101, g_ifeq, o_6, g_goto, o_43, g_inc_2, o_38, g_iald, o_9, g_isub, o_44, o_142, g_call1, o_46, g_getf, a_130_0, a_130_1, a_130_2, a_130_3, a_130_6, a_130_9, a_130_10, a_130_11, a_130_12, a_130_13, a_130_14, a_130_16, a_130_19, a_130_20, a_130_23, a_130_24, a_130_25, a_130_28, a_130_29, a_130_32, a_130_35, a_130_36, a_130_39, a_130_40, a_130_43, a_130_46, a_130_47, a_130_50, a_130_53, a_130_56, a_130_57, a_130_58, a_130_59, a_130_61, a_130_64, a_130_65, a_130_68, a_130_69, a_130_70, a_130_73, a_130_74, a_130_77, a_130_80, a_130_81, a_130_84, a_130_87, a_130_90, a_130_91, a_130_92, a_130_93, a_130_96, a_130_97, a_130_100, a_130_101, a_130_104, a_130_105, a_130_108, a_130_109, a_130_110, a_130_113, a_130_116, a_130_119, a_130_120, a_130_123, a_130_126, a_130_127, a_130_130, a_130_131, a_130_134, a_130_137, a_130_140, a_130_141, a_130_144, a_130_147, ne_eq, not_false_eq_true, true_and, and_true, and_self, Int.cast_ofNat_Int, reduceCtorEq, or_false, false_or, not_true_eq_false, or_true, true_or, Int.reduceToNat, Int.reduceAdd, Int.reduceEq, Int.reduceNe, Int.reduceLT, Int.reduceLE, Int.reduceNeg, Int.reduceSub, Int.reduceMul, Nat.reduceAdd, Nat.reduceLT, Nat.reduceLeDiff, Nat.reduceEqDiff, forall_const, false_implies, true_implies, p_1_0, p_1_1, p_1_2, p_1_3, p_1_4, p_1_5, p_1_6, p_1_7, p_1_8, p_1_9, p_2_0, p_4_0, p_4_1, p_4_2, p_4_3, p_4_4, p_4_5, p_5_0, p_5_1, p_5_2, p_5_3, p_5_4, p_5_5, p_12_0, p_12_1, p_12_2, p_12_3, p_12_4, p_18_0, p_18_1, p_18_2, p_18_3, p_23_0, p_23_1, p_23_2, p_23_3, p_23_4, p_31_0, p_31_1, p_31_2, p_31_3, p_36_0, p_36_1, p_36_2, p_36_3, p_36_4, p_42_0, p_42_1, p_42_2, p_42_3, p_42_4, p_42_5, p_42_6, p_42_7, p_42_8, p_52_0, p_52_1, p_52_2, p_52_3, p_52_4, p_52_5, p_52_6, p_58_0, p_58_1, p_58_2, p_62_0, p_62_1, p_62_2, p_62_3, p_67_1, p_67_2, p_67_3, p_67_4, p_67_13, p_67_15, p_67_16, p_67_17, p_67_18, p_67_19, p_67_21, p_67_22, p_67_23, p_67_24, p_67_25, p_67_26, p_67_28, p_67_29, p_67_30, p_67_31, p_67_33, p_67_34, p_67_35, p_67_36, p_67_37, p_67_38, p_67_39, p_67_40, p_67_41, p_67_42, p_67_43, p_67_44, p_67_48, p_67_49, p_67_50, p_67_51, p_67_52, p_67_53, p_67_54, p_67_55, p_x, p_y, p_z, p_sx, p_sy, p_sz, y_1, y_2, y_3, y_4, y_5, y_6, y_7, y_8, y_9, y_10, y_11, y_12, y_13, y_14, y_15, y_16, y_17, y_18, y_19, y_20, y_21, y_22, y_23, y_24, y_25, y_26, y_27, y_28, y_29, y_30, y_31, y_32, y_33, y_34, y_35, y_36, y_37, y_38, y_39, y_40, y_41, y_42, y_43, y_44, y_45, y_46, y_47, y_48, y_49, y_50, y_51, y_52, y_53, y_54, y_55, y_56, y_57, y_58, y_59, y_60, y_61, y_62, y_63, y_64, y_65, y_66, y_67, y_68, y_69, y_70, y_71, y_72, y_73, y_74, y_75, y_76, y_77, y_78, y_79, y_80, y_81, y_82, y_83, y_84, y_85, y_86, y_87, y_88, y_89, y_90, y_91, y_92, y_93, y_94, y_95, y_96, y_97, y_98, y_99, y_100, y_101, y_102, y_103, y_104, y_105, y_106, y_107, y_108, y_109, y_1000, y_1001, y_1002, y_1003]
        exact i'
      | succ k ih =>
        intro t hk ht0 ν hf hI
        have ht : 0 ≤ t ∧ t < 12 := by omega
        have e5 : ν 5 = μ 5 := hf 5 (by decide) (by decide) (by decide) (by decide) (by decide)
        have e12 : ν 12 = μ 12 := hf 12 (by decide) (by decide) (by decide) (by decide) (by decide)
        have e13 : ν 13 = μ 13 := hf 13 (by decide) (by decide) (by decide) (by decide) (by decide)
        have e14 : ν 14 = μ 14 := hf 14 (by decide) (by decide) (by decide) (by decide) (by decide)
        have i' := ih (t + 1) (by omega) (by omega) (mj_up ν 43 t (vcb μ t)) (fun q a1 a2 a3 a4 a5 => by rw [g_un a1]; exact hf q a1 a2 a3 a4 a5) (fun t' a1 a2 => by
          rw [g_us]
          by_cases e : t' = t
          · subst e; rw [g_ps]
          · rw [g_pn e]; exact hI t' a1 (by omega))
        have w1 : mj_w (t + 1) = t + 1 := mj_w_id (by omega) (by omega)
        have t1 : (t < 12) = True := eq_true ht.2
        have kt := fun Q => c_Ti_has (L := L) (d := 98) (c := 110) (x := x) (y := y) (z := z) (μ := ν) (l := t) ht.1 Q
        have kh := fun Q => c_Co_inHouse (L := L) (d := 98) (c := 110) (x := x) (y := y) (z := z) (μ := ν) (t := t) (by rw [e12]; exact h12) Q
        have ks := fun v Q => c_Pa_setTitle (L := L) (d := 98) (c := 110) (x := x) (y := y) (z := z) (μ := ν) (t := t) (v := v) ht Q
        rw [e5] at kt
        rw [e12, e13, e14] at kh
        refine mj_start ?_
        by_cases c1 : t < μ 5 7
        · have d1 := eq_true c1
          have hv2 : zc (fun i => μ 13 i = t && μ 14 i = 0) (μ 12 5).toNat = vcb μ t := by unfold vcb; rw [if_pos c1]
          simp only [w1, t1, kt, kh, d1, hv2, ks, mj_go_eq, g_cut, g_k0, g_k1, g_w0, g_w1, g_w2, g_w3, g_w4, g_c1, g_c2, g_c3, g_us, g_ldi_1, g_const, g_call3, o_144, g_ifne, g_ret, g_sti_2, g_ldi_2, g_icge, g_ldr_0, g_getr, g_call2, o_101, g_ifeq, o_6, g_goto, o_43, g_inc_2, o_38, g_iald, o_9, g_isub, o_44, o_142, g_call1, o_46, g_getf, a_130_0, a_130_1, a_130_2, a_130_3, a_130_6, a_130_9, a_130_10, a_130_11, a_130_12, a_130_13, a_130_14, a_130_16, a_130_19, a_130_20, a_130_23, a_130_24, a_130_25, a_130_28, a_130_29, a_130_32, a_130_35, a_130_36, a_130_39, a_130_40, a_130_43, a_130_46, a_130_47, a_130_50, a_130_53, a_130_56, a_130_57, a_130_58, a_130_59, a_130_61, a_130_64, a_130_65, a_130_68, a_130_69, a_130_70, a_130_73, a_130_74, a_130_77, a_130_80, a_130_81, a_130_84, a_130_87, a_130_90, a_130_91, a_130_92, a_130_93, a_130_96, a_130_97, a_130_100, a_130_101, a_130_104, a_130_105, a_130_108, a_130_109, a_130_110, a_130_113, a_130_116, a_130_119, a_130_120, a_130_123, a_130_126, a_130_127, a_130_130, a_130_131, a_130_134, a_130_137, a_130_140, a_130_141, a_130_144, a_130_147, ne_eq, not_false_eq_true, true_and, and_true, and_self, Int.cast_ofNat_Int, reduceCtorEq, or_false, false_or, not_true_eq_false, or_true, true_or, Int.reduceToNat, Int.reduceAdd, Int.reduceEq, Int.reduceNe, Int.reduceLT, Int.reduceLE, Int.reduceNeg, Int.reduceSub, Int.reduceMul, Nat.reduceAdd, Nat.reduceLT, Nat.reduceLeDiff, Nat.reduceEqDiff, forall_const, false_implies, true_implies, p_1_0, p_1_1, p_1_2, p_1_3, p_1_4, p_1_5, p_1_6, p_1_7, p_1_8, p_1_9, p_2_0, p_4_0, p_4_1, p_4_2, p_4_3, p_4_4, p_4_5, p_5_0, p_5_1, p_5_2, p_5_3, p_5_4, p_5_5, p_12_0, p_12_1, p_12_2, p_12_3, p_12_4, p_18_0, p_18_1, p_18_2, p_18_3, p_23_0, p_23_1, p_23_2, p_23_3, p_23_4, p_31_0, p_31_1, p_31_2, p_31_3, p_36_0, p_36_1, p_36_2, p_36_3, p_36_4, p_42_0, p_42_1, p_42_2, p_42_3, p_42_4, p_42_5, p_42_6, p_42_7, p_42_8, p_52_0, p_52_1, p_52_2, p_52_3, p_52_4, p_52_5, p_52_6, p_58_0, p_58_1, p_58_2, p_62_0, p_62_1, p_62_2, p_62_3, p_67_1, p_67_2, p_67_3, p_67_4, p_67_13, p_67_15, p_67_16, p_67_17, p_67_18, p_67_19, p_67_21, p_67_22, p_67_23, p_67_24, p_67_25, p_67_26, p_67_28, p_67_29, p_67_30, p_67_31, p_67_33, p_67_34, p_67_35, p_67_36, p_67_37, p_67_38, p_67_39, p_67_40, p_67_41, p_67_42, p_67_43, p_67_44, p_67_48, p_67_49, p_67_50, p_67_51, p_67_52, p_67_53, p_67_54, p_67_55, p_x, p_y, p_z, p_sx, p_sy, p_sz, y_1, y_2, y_3, y_4, y_5, y_6, y_7, y_8, y_9, y_10, y_11, y_12, y_13, y_14, y_15, y_16, y_17, y_18, y_19, y_20, y_21, y_22, y_23, y_24, y_25, y_26, y_27, y_28, y_29, y_30, y_31, y_32, y_33, y_34, y_35, y_36, y_37, y_38, y_39, y_40, y_41, y_42, y_43, y_44, y_45, y_46, y_47, y_48, y_49, y_50, y_51, y_52, y_53, y_54, y_55, y_56, y_57, y_58, y_59, y_60, y_61, y_62, y_63, y_64, y_65, y_66, y_67, y_68, y_69, y_70, y_71, y_72, y_73, y_74, y_75, y_76, y_77, y_78, y_79, y_80, y_81, y_82, y_83, y_84, y_85, y_86, y_87, y_88, y_89, y_90, y_91, y_92, y_93, y_94, y_95, y_96, y_97, y_98, y_99, y_100, y_101, y_102, y_103, y_104, y_105, y_106, y_107, y_108, y_109, y_1000, y_1001, y_1002, y_1003, if_true, if_false]
          exact i'
        · have d1 := eq_false c1
          have hv2 : vcb μ t = 0 := by unfold vcb; rw [if_neg c1]
          rw [hv2] at i'
          simp only [w1, t1, kt, d1, ks, mj_go_eq, g_cut, g_k0, g_k1, g_w0, g_w1, g_w2, g_w3, g_w4, g_c1, g_c2, g_c3, g_us, g_ldi_1, g_const, g_call3, o_144, g_ifne, g_ret, g_sti_2, g_ldi_2, g_icge, g_ldr_0, g_getr, g_call2, o_101, g_ifeq, o_6, g_goto, o_43, g_inc_2, o_38, g_iald, o_9, g_isub, o_44, o_142, g_call1, o_46, g_getf, a_130_0, a_130_1, a_130_2, a_130_3, a_130_6, a_130_9, a_130_10, a_130_11, a_130_12, a_130_13, a_130_14, a_130_16, a_130_19, a_130_20, a_130_23, a_130_24, a_130_25, a_130_28, a_130_29, a_130_32, a_130_35, a_130_36, a_130_39, a_130_40, a_130_43, a_130_46, a_130_47, a_130_50, a_130_53, a_130_56, a_130_57, a_130_58, a_130_59, a_130_61, a_130_64, a_130_65, a_130_68, a_130_69, a_130_70, a_130_73, a_130_74, a_130_77, a_130_80, a_130_81, a_130_84, a_130_87, a_130_90, a_130_91, a_130_92, a_130_93, a_130_96, a_130_97, a_130_100, a_130_101, a_130_104, a_130_105, a_130_108, a_130_109, a_130_110, a_130_113, a_130_116, a_130_119, a_130_120, a_130_123, a_130_126, a_130_127, a_130_130, a_130_131, a_130_134, a_130_137, a_130_140, a_130_141, a_130_144, a_130_147, ne_eq, not_false_eq_true, true_and, and_true, and_self, Int.cast_ofNat_Int, reduceCtorEq, or_false, false_or, not_true_eq_false, or_true, true_or, Int.reduceToNat, Int.reduceAdd, Int.reduceEq, Int.reduceNe, Int.reduceLT, Int.reduceLE, Int.reduceNeg, Int.reduceSub, Int.reduceMul, Nat.reduceAdd, Nat.reduceLT, Nat.reduceLeDiff, Nat.reduceEqDiff, forall_const, false_implies, true_implies, p_1_0, p_1_1, p_1_2, p_1_3, p_1_4, p_1_5, p_1_6, p_1_7, p_1_8, p_1_9, p_2_0, p_4_0, p_4_1, p_4_2, p_4_3, p_4_4, p_4_5, p_5_0, p_5_1, p_5_2, p_5_3, p_5_4, p_5_5, p_12_0, p_12_1, p_12_2, p_12_3, p_12_4, p_18_0, p_18_1, p_18_2, p_18_3, p_23_0, p_23_1, p_23_2, p_23_3, p_23_4, p_31_0, p_31_1, p_31_2, p_31_3, p_36_0, p_36_1, p_36_2, p_36_3, p_36_4, p_42_0, p_42_1, p_42_2, p_42_3, p_42_4, p_42_5, p_42_6, p_42_7, p_42_8, p_52_0, p_52_1, p_52_2, p_52_3, p_52_4, p_52_5, p_52_6, p_58_0, p_58_1, p_58_2, p_62_0, p_62_1, p_62_2, p_62_3, p_67_1, p_67_2, p_67_3, p_67_4, p_67_13, p_67_15, p_67_16, p_67_17, p_67_18, p_67_19, p_67_21, p_67_22, p_67_23, p_67_24, p_67_25, p_67_26, p_67_28, p_67_29, p_67_30, p_67_31, p_67_33, p_67_34, p_67_35, p_67_36, p_67_37, p_67_38, p_67_39, p_67_40, p_67_41, p_67_42, p_67_43, p_67_44, p_67_48, p_67_49, p_67_50, p_67_51, p_67_52, p_67_53, p_67_54, p_67_55, p_x, p_y, p_z, p_sx, p_sy, p_sz, y_1, y_2, y_3, y_4, y_5, y_6, y_7, y_8, y_9, y_10, y_11, y_12, y_13, y_14, y_15, y_16, y_17, y_18, y_19, y_20, y_21, y_22, y_23, y_24, y_25, y_26, y_27, y_28, y_29, y_30, y_31, y_32, y_33, y_34, y_35, y_36, y_37, y_38, y_39, y_40, y_41, y_42, y_43, y_44, y_45, y_46, y_47, y_48, y_49, y_50, y_51, y_52, y_53, y_54, y_55, y_56, y_57, y_58, y_59, y_60, y_61, y_62, y_63, y_64, y_65, y_66, y_67, y_68, y_69, y_70, y_71, y_72, y_73, y_74, y_75, y_76, y_77, y_78, y_79, y_80, y_81, y_82, y_83, y_84, y_85, y_86, y_87, y_88, y_89, y_90, y_91, y_92, y_93, y_94, y_95, y_96, y_97, y_98, y_99, y_100, y_101, y_102, y_103, y_104, y_105, y_106, y_107, y_108, y_109, y_1000, y_1001, y_1002, y_1003, if_true, if_false]
          exact i'
    have h0 := key1 12 0 (by omega) (by omega) μ (fun _ _ _ _ _ _ => rfl) (fun t a b => by omega)
    have p1 : (0 ≤ wh ∧ wh ≤ 1) = True := eq_true hw
    simp only [p1, c_Sb_within, e_130, mj_go_eq, g_cut, g_k0, g_k1, g_w0, g_w1, g_w2, g_w3, g_w4, g_c1, g_c2, g_c3, g_us, g_ldi_1, g_const, g_call3, o_144, g_ifne, g_ret, g_sti_2, g_ldi_2, g_icge, g_ldr_0, g_getr, g_call2, o_101, g_ifeq, o_6, g_goto, o_43, g_inc_2, o_38, g_iald, o_9, g_isub, o_44, o_142, g_call1, o_46, g_getf, a_130_0, a_130_1, a_130_2, a_130_3, a_130_6, a_130_9, a_130_10, a_130_11, a_130_12, a_130_13, a_130_14, a_130_16, a_130_19, a_130_20, a_130_23, a_130_24, a_130_25, a_130_28, a_130_29, a_130_32, a_130_35, a_130_36, a_130_39, a_130_40, a_130_43, a_130_46, a_130_47, a_130_50, a_130_53, a_130_56, a_130_57, a_130_58, a_130_59, a_130_61, a_130_64, a_130_65, a_130_68, a_130_69, a_130_70, a_130_73, a_130_74, a_130_77, a_130_80, a_130_81, a_130_84, a_130_87, a_130_90, a_130_91, a_130_92, a_130_93, a_130_96, a_130_97, a_130_100, a_130_101, a_130_104, a_130_105, a_130_108, a_130_109, a_130_110, a_130_113, a_130_116, a_130_119, a_130_120, a_130_123, a_130_126, a_130_127, a_130_130, a_130_131, a_130_134, a_130_137, a_130_140, a_130_141, a_130_144, a_130_147, ne_eq, not_false_eq_true, true_and, and_true, and_self, Int.cast_ofNat_Int, reduceCtorEq, or_false, false_or, not_true_eq_false, or_true, true_or, Int.reduceToNat, Int.reduceAdd, Int.reduceEq, Int.reduceNe, Int.reduceLT, Int.reduceLE, Int.reduceNeg, Int.reduceSub, Int.reduceMul, Nat.reduceAdd, Nat.reduceLT, Nat.reduceLeDiff, Nat.reduceEqDiff, forall_const, false_implies, true_implies, p_1_0, p_1_1, p_1_2, p_1_3, p_1_4, p_1_5, p_1_6, p_1_7, p_1_8, p_1_9, p_2_0, p_4_0, p_4_1, p_4_2, p_4_3, p_4_4, p_4_5, p_5_0, p_5_1, p_5_2, p_5_3, p_5_4, p_5_5, p_12_0, p_12_1, p_12_2, p_12_3, p_12_4, p_18_0, p_18_1, p_18_2, p_18_3, p_23_0, p_23_1, p_23_2, p_23_3, p_23_4, p_31_0, p_31_1, p_31_2, p_31_3, p_36_0, p_36_1, p_36_2, p_36_3, p_36_4, p_42_0, p_42_1, p_42_2, p_42_3, p_42_4, p_42_5, p_42_6, p_42_7, p_42_8, p_52_0, p_52_1, p_52_2, p_52_3, p_52_4, p_52_5, p_52_6, p_58_0, p_58_1, p_58_2, p_62_0, p_62_1, p_62_2, p_62_3, p_67_1, p_67_2, p_67_3, p_67_4, p_67_13, p_67_15, p_67_16, p_67_17, p_67_18, p_67_19, p_67_21, p_67_22, p_67_23, p_67_24, p_67_25, p_67_26, p_67_28, p_67_29, p_67_30, p_67_31, p_67_33, p_67_34, p_67_35, p_67_36, p_67_37, p_67_38, p_67_39, p_67_40, p_67_41, p_67_42, p_67_43, p_67_44, p_67_48, p_67_49, p_67_50, p_67_51, p_67_52, p_67_53, p_67_54, p_67_55, p_x, p_y, p_z, p_sx, p_sy, p_sz, y_1, y_2, y_3, y_4, y_5, y_6, y_7, y_8, y_9, y_10, y_11, y_12, y_13, y_14, y_15, y_16, y_17, y_18, y_19, y_20, y_21, y_22, y_23, y_24, y_25, y_26, y_27, y_28, y_29, y_30, y_31, y_32, y_33, y_34, y_35, y_36, y_37, y_38, y_39, y_40, y_41, y_42, y_43, y_44, y_45, y_46, y_47, y_48, y_49, y_50, y_51, y_52, y_53, y_54, y_55, y_56, y_57, y_58, y_59, y_60, y_61, y_62, y_63, y_64, y_65, y_66, y_67, y_68, y_69, y_70, y_71, y_72, y_73, y_74, y_75, y_76, y_77, y_78, y_79, y_80, y_81, y_82, y_83, y_84, y_85, y_86, y_87, y_88, y_89, y_90, y_91, y_92, y_93, y_94, y_95, y_96, y_97, y_98, y_99, y_100, y_101, y_102, y_103, y_104, y_105, y_106, y_107, y_108, y_109, y_1000, y_1001, y_1002, y_1003, if_true, if_false]
    exact h0
  obtain ⟨r0, c', π', μ', ⟨P, K, ⟨b1, b2⟩, e1, e2, e3⟩, hq⟩ := mj_call_ex hrun
  subst e1; subst e2; subst e3
  exact ⟨μ', P, K, b1, b2, hq⟩
