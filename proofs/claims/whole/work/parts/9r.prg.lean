set_option maxRecDepth 20000
theorem wo_bd {w m : Int → Int} {t : Int} (hW : 0 ≤ w t ∧ w t ≤ 30) (hM : 0 ≤ m t ∧ m t ≤ 720) (h : 0 < w t) : 0 ≤ wo w m t ∧ wo w m t ≤ 300000 := by
  unfold wo; omega
theorem c_Pr_worth {L d c x y z : Nat} {μ : mj_M} {t : Int} (hW : ∀ i, 0 ≤ μ 54 i ∧ μ 54 i ≤ 30) (hM : ∀ i, 0 ≤ μ 55 i ∧ μ 55 i ≤ 720) (ht : 0 ≤ t ∧ t < 12) (Q : mj_Q) : mj_call L d 58 [.inr (.inr 52), .inl t] c (pz x y z) μ Q = Q [.inl (wo (μ 54) (μ 55) t)] c (pz x y z) μ := by
  refine mj_call_eq ?_ Q
  have h1 := hW t
  have h2 := hM t
  have w1 : mj_w (μ 54 t * 10000) = μ 54 t * 10000 := mj_w_id (by omega) (by omega)
  have w2 : mj_w (μ 54 t * 10000 - μ 55 t) = μ 54 t * 10000 - μ 55 t := mj_w_id (by omega) (by omega)
  unfold wo
  simp only [e_58, mj_go_eq, g_cut, g_k0, g_k1, g_w0, g_w1, g_w2, g_w3, g_w4, g_c1, g_c2, g_c3, g_us, g_ldr_0, g_getr, g_ldi_1, g_iald, g_const, g_imul, g_isub, g_ret, a_58_0, a_58_1, a_58_4, a_58_5, a_58_6, a_58_9, a_58_10, a_58_11, a_58_14, a_58_15, a_58_16, a_58_17, ne_eq, not_false_eq_true, true_and, and_true, and_self, Int.cast_ofNat_Int, reduceCtorEq, or_false, false_or, not_true_eq_false, or_true, true_or, Int.reduceToNat, Int.reduceAdd, Int.reduceEq, Int.reduceNe, Int.reduceLT, Int.reduceLE, Int.reduceNeg, Int.reduceSub, Int.reduceMul, Nat.reduceAdd, Nat.reduceLT, Nat.reduceLeDiff, Nat.reduceEqDiff, forall_const, false_implies, true_implies, p_1_0, p_1_1, p_1_2, p_1_3, p_1_4, p_1_5, p_1_6, p_1_7, p_1_8, p_1_9, p_2_0, p_4_0, p_4_1, p_4_2, p_4_3, p_4_4, p_4_5, p_5_0, p_5_1, p_5_2, p_5_3, p_5_4, p_5_5, p_12_0, p_12_1, p_12_2, p_12_3, p_12_4, p_18_0, p_18_1, p_18_2, p_18_3, p_23_0, p_23_1, p_23_2, p_23_3, p_23_4, p_31_0, p_31_1, p_31_2, p_31_3, p_36_0, p_36_1, p_36_2, p_36_3, p_36_4, p_42_0, p_42_1, p_42_2, p_42_3, p_42_4, p_42_5, p_42_6, p_42_7, p_42_8, p_52_0, p_52_1, p_52_2, p_52_3, p_52_4, p_52_5, p_52_6, p_58_0, p_58_1, p_58_2, p_62_0, p_62_1, p_62_2, p_62_3, p_67_1, p_67_2, p_67_3, p_67_4, p_67_13, p_67_15, p_67_16, p_67_17, p_67_18, p_67_19, p_67_21, p_67_22, p_67_23, p_67_24, p_67_25, p_67_26, p_67_28, p_67_29, p_67_30, p_67_31, p_67_33, p_67_34, p_67_35, p_67_36, p_67_37, p_67_38, p_67_39, p_67_40, p_67_41, p_67_42, p_67_43, p_67_44, p_67_48, p_67_49, p_67_50, p_67_51, p_67_52, p_67_53, p_67_54, p_67_55, p_x, p_y, p_z, p_sx, p_sy, p_sz, y_1, y_2, y_3, y_4, y_5, y_6, y_7, y_8, y_9, y_10, y_11, y_12, y_13, y_14, y_15, y_16, y_17, y_18, y_19, y_20, y_21, y_22, y_23, y_24, y_25, y_26, y_27, y_28, y_29, y_30, y_31, y_32, y_33, y_34, y_35, y_36, y_37, y_38, y_39, y_40, y_41, y_42, y_43, y_44, y_45, y_46, y_47, y_48, y_49, y_50, y_51, y_52, y_53, y_54, y_55, y_56, y_57, y_58, y_59, y_60, y_61, y_62, y_63, y_64, y_65, y_66, y_67, y_68, y_69, y_70, y_71, y_72, y_73, y_74, y_75, y_76, y_77, y_78, y_79, y_80, y_81, y_82, y_83, y_84, y_85, y_86, y_87, y_88, y_89, y_90, y_91, y_92, y_93, y_94, y_95, y_96, y_97, y_98, y_99, y_100, y_101, y_102, y_103, y_104, y_105, y_106, y_107, y_108, y_109, y_1000, y_1001, y_1002, y_1003, w1, w2]
  repeat' (first | intro _ | with_reducible apply And.intro)
  all_goals (first | omega | trivial | rfl | skip)
theorem zs_z (n : Nat) : zs (fun _ => 0) n = 0 := by
  induction n with
  | zero => rfl
  | succ n ih => show zs (fun _ => 0) n + 0 = 0; rw [ih]; rfl
theorem zs_low (φ : Int → Int) (q : Nat) : zs (fun j => if (q : Int) ≤ j then φ j else 0) q = 0 := by
  have : zs (fun j => if (q : Int) ≤ j then φ j else 0) q = zs (fun _ => 0) q := zs_cg (fun i hi => by rw [if_neg (by omega)])
  rw [this, zs_z]
theorem c_Pr_mostFrom {L d c x y z R q : Nat} {μ : mj_M} {room : Int} (hR : μ 52 7 = R) (hq : q ≤ R) (hs : SR (μ 54) (μ 55) (μ 56) 12 R (μ 57)) (hW : ∀ i, 0 ≤ μ 54 i ∧ μ 54 i ≤ 30) (hM : ∀ i, 0 ≤ μ 55 i ∧ μ 55 i ≤ 720) (hv : ∀ i, μ 56 i ≠ 0 → 0 < μ 54 i) (hroom : 0 ≤ room ∧ room ≤ 4800) : ∃ X : Int, (0 ≤ X ∧ X ≤ 4000000) ∧ (q = R → X = 0) ∧ (∀ cc : Int → Int, (∀ j : Nat, j < R → (cc j = 0 ∨ cc j = 1) ∧ (cc j = 1 → (q : Int) ≤ j)) → zs (fun j => cc j * μ 55 (μ 57 j)) R ≤ room → zs (fun j => cc j * wo (μ 54) (μ 55) (μ 57 j)) R ≤ X) ∧ ∀ Q : mj_Q, mj_call L (d + 1) 61 [.inr (.inr 52), .inl (q : Int), .inl room] c (pz x y z) μ Q = Q [.inl X] c (pz x y z) μ := by
  have hR12 := hs.1
  have hwo : ∀ j : Nat, j < R → 0 ≤ wo (μ 54) (μ 55) (μ 57 j) ∧ wo (μ 54) (μ 55) (μ 57 j) ≤ 300000 := fun j hj => wo_bd (hW _) (hM _) (hv _ (hs.2.1 j hj).2)
  have hAb : ∀ k : Nat, k ≤ R → 0 ≤ zs (fun j => if (q : Int) ≤ j then wo (μ 54) (μ 55) (μ 57 j) else 0) k ∧ zs (fun j => if (q : Int) ≤ j then wo (μ 54) (μ 55) (μ 57 j) else 0) k ≤ k * 300000 := fun k hk => zs_bd2 (fun i hi => by
    have := hwo i (by omega)
    split <;> omega)
  have hBb : ∀ k : Nat, k ≤ R → 0 ≤ zs (fun j => if (q : Int) ≤ j then μ 55 (μ 57 j) else 0) k ∧ zs (fun j => if (q : Int) ≤ j then μ 55 (μ 57 j) else 0) k ≤ k * 720 := fun k hk => zs_bd2 (fun i hi => by
    have := hM (μ 57 i)
    split <;> omega)
  generalize hP : (fun r' c' π' μ' => ∃ X : Int, (0 ≤ X ∧ X ≤ 4000000) ∧ (q = R → X = 0) ∧ (∀ cc : Int → Int, (∀ j : Nat, j < R → (cc j = 0 ∨ cc j = 1) ∧ (cc j = 1 → (q : Int) ≤ j)) → zs (fun j => cc j * μ 55 (μ 57 j)) R ≤ room → zs (fun j => cc j * wo (μ 54) (μ 55) (μ 57 j)) R ≤ X) ∧ r' = [.inl X] ∧ c' = c ∧ π' = pz x y z ∧ μ' = μ : mj_Q) = P
  have key : ∀ j : Nat, j ≤ R → q ≤ j → ∀ v6 : mj_V, 0 ≤ room - zs (fun j => if (q : Int) ≤ j then μ 55 (μ 57 j) else 0) j → mj_run L (d + 1) 61 8 [.inr (.inr 52), .inl (q : Int), .inl room, .inl (zs (fun j => if (q : Int) ≤ j then wo (μ 54) (μ 55) (μ 57 j) else 0) j), .inl (room - zs (fun j => if (q : Int) ≤ j then μ 55 (μ 57 j) else 0) j), .inl (j : Int), v6] [] c (pz x y z) μ P := by
    refine mj_down ?_ ?_
    · intro hqj v6 hl
      have hA := hAb R (Nat.le_refl _)
      refine mj_start ?_
      simp only [hR, mj_go_eq, g_cut, g_k0, g_k1, g_w0, g_w1, g_w2, g_w3, g_w4, g_c1, g_c2, g_c3, g_us, g_const, g_sti_3, g_ldi_2, g_sti_4, g_ldi_1, g_sti_5, g_ldi_5, g_ldr_0, g_getf, g_icge, g_getr, g_iald, g_sti_6, g_ldi_6, g_ldi_4, g_icle, g_ifle, g_ldi_3, g_call2, o_58, g_i2l, g_lmul, g_ldiv, g_l2i, g_iadd, g_goto, g_ret, g_isub, g_inc_5, a_61_0, a_61_1, a_61_2, a_61_3, a_61_5, a_61_6, a_61_8, a_61_10, a_61_11, a_61_14, a_61_17, a_61_18, a_61_21, a_61_23, a_61_24, a_61_26, a_61_27, a_61_30, a_61_32, a_61_33, a_61_35, a_61_38, a_61_39, a_61_42, a_61_44, a_61_45, a_61_48, a_61_49, a_61_50, a_61_52, a_61_55, a_61_56, a_61_58, a_61_59, a_61_60, a_61_61, a_61_64, a_61_66, a_61_67, a_61_68, a_61_69, a_61_70, a_61_71, a_61_74, a_61_75, a_61_76, a_61_77, a_61_78, a_61_80, a_61_83, a_61_84, a_61_85, a_61_87, a_61_88, a_61_91, a_61_93, a_61_94, a_61_95, a_61_97, a_61_100, a_61_103, a_61_104, ne_eq, not_false_eq_true, true_and, and_true, and_self, Int.cast_ofNat_Int, reduceCtorEq, or_false, false_or, not_true_eq_false, or_true, true_or, Int.reduceToNat, Int.reduceAdd, Int.reduceEq, Int.reduceNe, Int.reduceLT, Int.reduceLE, Int.reduceNeg, Int.reduceSub, Int.reduceMul, Nat.reduceAdd, Nat.reduceLT, Nat.reduceLeDiff, Nat.reduceEqDiff, forall_const, false_implies, true_implies, p_1_0, p_1_1, p_1_2, p_1_3, p_1_4, p_1_5, p_1_6, p_1_7, p_1_8, p_1_9, p_2_0, p_4_0, p_4_1, p_4_2, p_4_3, p_4_4, p_4_5, p_5_0, p_5_1, p_5_2, p_5_3, p_5_4, p_5_5, p_12_0, p_12_1, p_12_2, p_12_3, p_12_4, p_18_0, p_18_1, p_18_2, p_18_3, p_23_0, p_23_1, p_23_2, p_23_3, p_23_4, p_31_0, p_31_1, p_31_2, p_31_3, p_36_0, p_36_1, p_36_2, p_36_3, p_36_4, p_42_0, p_42_1, p_42_2, p_42_3, p_42_4, p_42_5, p_42_6, p_42_7, p_42_8, p_52_0, p_52_1, p_52_2, p_52_3, p_52_4, p_52_5, p_52_6, p_58_0, p_58_1, p_58_2, p_62_0, p_62_1, p_62_2, p_62_3, p_67_1, p_67_2, p_67_3, p_67_4, p_67_13, p_67_15, p_67_16, p_67_17, p_67_18, p_67_19, p_67_21, p_67_22, p_67_23, p_67_24, p_67_25, p_67_26, p_67_28, p_67_29, p_67_30, p_67_31, p_67_33, p_67_34, p_67_35, p_67_36, p_67_37, p_67_38, p_67_39, p_67_40, p_67_41, p_67_42, p_67_43, p_67_44, p_67_48, p_67_49, p_67_50, p_67_51, p_67_52, p_67_53, p_67_54, p_67_55, p_x, p_y, p_z, p_sx, p_sy, p_sz, y_1, y_2, y_3, y_4, y_5, y_6, y_7, y_8, y_9, y_10, y_11, y_12, y_13, y_14, y_15, y_16, y_17, y_18, y_19, y_20, y_21, y_22, y_23, y_24, y_25, y_26, y_27, y_28, y_29, y_30, y_31, y_32, y_33, y_34, y_35, y_36, y_37, y_38, y_39, y_40, y_41, y_42, y_43, y_44, y_45, y_46, y_47, y_48, y_49, y_50, y_51, y_52, y_53, y_54, y_55, y_56, y_57, y_58, y_59, y_60, y_61, y_62, y_63, y_64, y_65, y_66, y_67, y_68, y_69, y_70, y_71, y_72, y_73, y_74, y_75, y_76, y_77, y_78, y_79, y_80, y_81, y_82, y_83, y_84, y_85, y_86, y_87, y_88, y_89, y_90, y_91, y_92, y_93, y_94, y_95, y_96, y_97, y_98, y_99, y_100, y_101, y_102, y_103, y_104, y_105, y_106, y_107, y_108, y_109, y_1000, y_1001, y_1002, y_1003]
      rw [← hP]
      repeat' (first | intro _ | with_reducible apply And.intro)
      all_goals (first | omega | skip)
      refine ⟨_, ⟨by omega, by omega⟩, fun e => ?_, fun cc h1 h2 => mf_all (fun j hj => (hwo j hj).1) h1, rfl, rfl, rfl, rfl⟩
      subst e
      exact zs_low (fun j => wo (μ 54) (μ 55) (μ 57 j)) q
    · intro j hj ih
      intro hqj v6 hl
      have htj := (hs.2.1 j hj).1
      have hA := hAb j (by omega)
      have hBj := hBb j (by omega)
      have hwj := hwo j hj
      have hmj := hM (μ 57 j)
      have hkw := fun Q => c_Pr_worth (L := L) (d := d) (c := c) (x := x) (y := y) (z := z) (μ := μ) (t := μ 57 j) hW hM (by omega) Q
      have sA : zs (fun j => if (q : Int) ≤ j then wo (μ 54) (μ 55) (μ 57 j) else 0) (j + 1) = zs (fun j => if (q : Int) ≤ j then wo (μ 54) (μ 55) (μ 57 j) else 0) j + (if (q : Int) ≤ j then wo (μ 54) (μ 55) (μ 57 j) else 0) := rfl
      have sB : zs (fun j => if (q : Int) ≤ j then μ 55 (μ 57 j) else 0) (j + 1) = zs (fun j => if (q : Int) ≤ j then μ 55 (μ 57 j) else 0) j + (if (q : Int) ≤ j then μ 55 (μ 57 j) else 0) := rfl
      have q1 : (q : Int) ≤ j := by omega
      rw [sA, sB, Int.natCast_succ, if_pos q1, if_pos q1] at ih
      have ih := ih (by omega)
      generalize hAA : zs (fun j => if (q : Int) ≤ j then wo (μ 54) (μ 55) (μ 57 j) else 0) j = AA at *
      generalize hBB : zs (fun j => if (q : Int) ≤ j then μ 55 (μ 57 j) else 0) j = Bv at *
      generalize hWW : wo (μ 54) (μ 55) (μ 57 j) = W at *
      by_cases q2 : room - Bv < μ 55 (μ 57 j)
      · have hM0 : 0 < μ 55 (μ 57 j) := by omega
        have hprod : 0 ≤ W * (room - Bv) ∧ W * (room - Bv) ≤ 300000 * 4800 := by
          refine ⟨Int.mul_nonneg hwj.1 hl, ?_⟩
          have p1 : W * (room - Bv) ≤ 300000 * (room - Bv) := Int.mul_le_mul_of_nonneg_right hwj.2 hl
          omega
        have hdiv : 0 ≤ W * (room - Bv) / μ 55 (μ 57 j) ∧ W * (room - Bv) / μ 55 (μ 57 j) ≤ W := by
          refine ⟨Int.ediv_nonneg hprod.1 (by omega), ?_⟩
          have p2 : W * (room - Bv) ≤ W * μ 55 (μ 57 j) := Int.mul_le_mul_of_nonneg_left (by omega) hwj.1
          have p3 : W * (room - Bv) / μ 55 (μ 57 j) ≤ W * μ 55 (μ 57 j) / μ 55 (μ 57 j) := Int.ediv_le_ediv hM0 p2
          rw [Int.mul_ediv_cancel _ (by omega)] at p3
          exact p3
        have e1 : mj_wl (W * (room - Bv)) = W * (room - Bv) := by unfold mj_wl; omega
        have e2 : (W * (room - Bv)).tdiv (μ 55 (μ 57 j)) = W * (room - Bv) / μ 55 (μ 57 j) := Int.tdiv_eq_ediv_of_nonneg hprod.1
        have fin : ∀ cc : Int → Int, (∀ j : Nat, j < R → (cc j = 0 ∨ cc j = 1) ∧ (cc j = 1 → (q : Int) ≤ j)) → zs (fun j => cc j * μ 55 (μ 57 j)) R ≤ room → zs (fun j => cc j * wo (μ 54) (μ 55) (μ 57 j)) R ≤ AA + W * (room - Bv) / μ 55 (μ 57 j) := fun cc h1 h2 => by
          have := mf_crit (w := μ 54) (m := μ 55) (r := μ 57) (c := cc) (fr := q) (room := room) (k := j) (R := R) hj q1 hM0 (by rw [hWW]; exact hwj.1) (fun i hi => hs.2.2.1 i j hi hj) (fun i hi hi2 => by
            by_cases e : i = j
            · rw [e]; unfold dns; omega
            · exact hs.2.2.1 j i (by omega) hi2) h1 h2
          rw [hAA, hBB, hWW] at this
          exact this
        generalize hD : W * (room - Bv) / μ 55 (μ 57 j) = D at *
        generalize hPr : W * (room - Bv) = PR at *
        have e3 : mj_wl D = D := by unfold mj_wl; omega
        have q2b : ¬ μ 55 (μ 57 j) ≤ room - Bv := by omega
        refine mj_start ?_
        simp only [hR, hkw, hPr, e1, e2, e3, mj_go_eq, g_cut, g_k0, g_k1, g_w0, g_w1, g_w2, g_w3, g_w4, g_c1, g_c2, g_c3, g_us, g_const, g_sti_3, g_ldi_2, g_sti_4, g_ldi_1, g_sti_5, g_ldi_5, g_ldr_0, g_getf, g_icge, g_getr, g_iald, g_sti_6, g_ldi_6, g_ldi_4, g_icle, g_ifle, g_ldi_3, g_call2, o_58, g_i2l, g_lmul, g_ldiv, g_l2i, g_iadd, g_goto, g_ret, g_isub, g_inc_5, a_61_0, a_61_1, a_61_2, a_61_3, a_61_5, a_61_6, a_61_8, a_61_10, a_61_11, a_61_14, a_61_17, a_61_18, a_61_21, a_61_23, a_61_24, a_61_26, a_61_27, a_61_30, a_61_32, a_61_33, a_61_35, a_61_38, a_61_39, a_61_42, a_61_44, a_61_45, a_61_48, a_61_49, a_61_50, a_61_52, a_61_55, a_61_56, a_61_58, a_61_59, a_61_60, a_61_61, a_61_64, a_61_66, a_61_67, a_61_68, a_61_69, a_61_70, a_61_71, a_61_74, a_61_75, a_61_76, a_61_77, a_61_78, a_61_80, a_61_83, a_61_84, a_61_85, a_61_87, a_61_88, a_61_91, a_61_93, a_61_94, a_61_95, a_61_97, a_61_100, a_61_103, a_61_104, ne_eq, not_false_eq_true, true_and, and_true, and_self, Int.cast_ofNat_Int, reduceCtorEq, or_false, false_or, not_true_eq_false, or_true, true_or, Int.reduceToNat, Int.reduceAdd, Int.reduceEq, Int.reduceNe, Int.reduceLT, Int.reduceLE, Int.reduceNeg, Int.reduceSub, Int.reduceMul, Nat.reduceAdd, Nat.reduceLT, Nat.reduceLeDiff, Nat.reduceEqDiff, forall_const, false_implies, true_implies, p_1_0, p_1_1, p_1_2, p_1_3, p_1_4, p_1_5, p_1_6, p_1_7, p_1_8, p_1_9, p_2_0, p_4_0, p_4_1, p_4_2, p_4_3, p_4_4, p_4_5, p_5_0, p_5_1, p_5_2, p_5_3, p_5_4, p_5_5, p_12_0, p_12_1, p_12_2, p_12_3, p_12_4, p_18_0, p_18_1, p_18_2, p_18_3, p_23_0, p_23_1, p_23_2, p_23_3, p_23_4, p_31_0, p_31_1, p_31_2, p_31_3, p_36_0, p_36_1, p_36_2, p_36_3, p_36_4, p_42_0, p_42_1, p_42_2, p_42_3, p_42_4, p_42_5, p_42_6, p_42_7, p_42_8, p_52_0, p_52_1, p_52_2, p_52_3, p_52_4, p_52_5, p_52_6, p_58_0, p_58_1, p_58_2, p_62_0, p_62_1, p_62_2, p_62_3, p_67_1, p_67_2, p_67_3, p_67_4, p_67_13, p_67_15, p_67_16, p_67_17, p_67_18, p_67_19, p_67_21, p_67_22, p_67_23, p_67_24, p_67_25, p_67_26, p_67_28, p_67_29, p_67_30, p_67_31, p_67_33, p_67_34, p_67_35, p_67_36, p_67_37, p_67_38, p_67_39, p_67_40, p_67_41, p_67_42, p_67_43, p_67_44, p_67_48, p_67_49, p_67_50, p_67_51, p_67_52, p_67_53, p_67_54, p_67_55, p_x, p_y, p_z, p_sx, p_sy, p_sz, y_1, y_2, y_3, y_4, y_5, y_6, y_7, y_8, y_9, y_10, y_11, y_12, y_13, y_14, y_15, y_16, y_17, y_18, y_19, y_20, y_21, y_22, y_23, y_24, y_25, y_26, y_27, y_28, y_29, y_30, y_31, y_32, y_33, y_34, y_35, y_36, y_37, y_38, y_39, y_40, y_41, y_42, y_43, y_44, y_45, y_46, y_47, y_48, y_49, y_50, y_51, y_52, y_53, y_54, y_55, y_56, y_57, y_58, y_59, y_60, y_61, y_62, y_63, y_64, y_65, y_66, y_67, y_68, y_69, y_70, y_71, y_72, y_73, y_74, y_75, y_76, y_77, y_78, y_79, y_80, y_81, y_82, y_83, y_84, y_85, y_86, y_87, y_88, y_89, y_90, y_91, y_92, y_93, y_94, y_95, y_96, y_97, y_98, y_99, y_100, y_101, y_102, y_103, y_104, y_105, y_106, y_107, y_108, y_109, y_1000, y_1001, y_1002, y_1003]
        try (simp (disch := omega) only [mj_w_id])
        try simp only [hPr, e1, e2, e3]
        try (simp (disch := omega) only [mj_w_id])
        rw [← hP]
        repeat' (first | intro _ | with_reducible apply And.intro)
        all_goals (first | omega | skip)
        exact ⟨_, ⟨by omega, by omega⟩, fun e => by omega, fin, rfl, rfl, rfl, rfl⟩
      · have ih2 := fun v6 => ih v6 (by omega)
        rw [show room - (Bv + μ 55 (μ 57 j)) = room - Bv - μ 55 (μ 57 j) by omega] at ih2
        clear ih
        refine mj_start ?_
        simp only [hR, hkw, mj_go_eq, g_cut, g_k0, g_k1, g_w0, g_w1, g_w2, g_w3, g_w4, g_c1, g_c2, g_c3, g_us, g_const, g_sti_3, g_ldi_2, g_sti_4, g_ldi_1, g_sti_5, g_ldi_5, g_ldr_0, g_getf, g_icge, g_getr, g_iald, g_sti_6, g_ldi_6, g_ldi_4, g_icle, g_ifle, g_ldi_3, g_call2, o_58, g_i2l, g_lmul, g_ldiv, g_l2i, g_iadd, g_goto, g_ret, g_isub, g_inc_5, a_61_0, a_61_1, a_61_2, a_61_3, a_61_5, a_61_6, a_61_8, a_61_10, a_61_11, a_61_14, a_61_17, a_61_18, a_61_21, a_61_23, a_61_24, a_61_26, a_61_27, a_61_30, a_61_32, a_61_33, a_61_35, a_61_38, a_61_39, a_61_42, a_61_44, a_61_45, a_61_48, a_61_49, a_61_50, a_61_52, a_61_55, a_61_56, a_61_58, a_61_59, a_61_60, a_61_61, a_61_64, a_61_66, a_61_67, a_61_68, a_61_69, a_61_70, a_61_71, a_61_74, a_61_75, a_61_76, a_61_77, a_61_78, a_61_80, a_61_83, a_61_84, a_61_85, a_61_87, a_61_88, a_61_91, a_61_93, a_61_94, a_61_95, a_61_97, a_61_100, a_61_103, a_61_104, ne_eq, not_false_eq_true, true_and, and_true, and_self, Int.cast_ofNat_Int, reduceCtorEq, or_false, false_or, not_true_eq_false, or_true, true_or, Int.reduceToNat, Int.reduceAdd, Int.reduceEq, Int.reduceNe, Int.reduceLT, Int.reduceLE, Int.reduceNeg, Int.reduceSub, Int.reduceMul, Nat.reduceAdd, Nat.reduceLT, Nat.reduceLeDiff, Nat.reduceEqDiff, forall_const, false_implies, true_implies, p_1_0, p_1_1, p_1_2, p_1_3, p_1_4, p_1_5, p_1_6, p_1_7, p_1_8, p_1_9, p_2_0, p_4_0, p_4_1, p_4_2, p_4_3, p_4_4, p_4_5, p_5_0, p_5_1, p_5_2, p_5_3, p_5_4, p_5_5, p_12_0, p_12_1, p_12_2, p_12_3, p_12_4, p_18_0, p_18_1, p_18_2, p_18_3, p_23_0, p_23_1, p_23_2, p_23_3, p_23_4, p_31_0, p_31_1, p_31_2, p_31_3, p_36_0, p_36_1, p_36_2, p_36_3, p_36_4, p_42_0, p_42_1, p_42_2, p_42_3, p_42_4, p_42_5, p_42_6, p_42_7, p_42_8, p_52_0, p_52_1, p_52_2, p_52_3, p_52_4, p_52_5, p_52_6, p_58_0, p_58_1, p_58_2, p_62_0, p_62_1, p_62_2, p_62_3, p_67_1, p_67_2, p_67_3, p_67_4, p_67_13, p_67_15, p_67_16, p_67_17, p_67_18, p_67_19, p_67_21, p_67_22, p_67_23, p_67_24, p_67_25, p_67_26, p_67_28, p_67_29, p_67_30, p_67_31, p_67_33, p_67_34, p_67_35, p_67_36, p_67_37, p_67_38, p_67_39, p_67_40, p_67_41, p_67_42, p_67_43, p_67_44, p_67_48, p_67_49, p_67_50, p_67_51, p_67_52, p_67_53, p_67_54, p_67_55, p_x, p_y, p_z, p_sx, p_sy, p_sz, y_1, y_2, y_3, y_4, y_5, y_6, y_7, y_8, y_9, y_10, y_11, y_12, y_13, y_14, y_15, y_16, y_17, y_18, y_19, y_20, y_21, y_22, y_23, y_24, y_25, y_26, y_27, y_28, y_29, y_30, y_31, y_32, y_33, y_34, y_35, y_36, y_37, y_38, y_39, y_40, y_41, y_42, y_43, y_44, y_45, y_46, y_47, y_48, y_49, y_50, y_51, y_52, y_53, y_54, y_55, y_56, y_57, y_58, y_59, y_60, y_61, y_62, y_63, y_64, y_65, y_66, y_67, y_68, y_69, y_70, y_71, y_72, y_73, y_74, y_75, y_76, y_77, y_78, y_79, y_80, y_81, y_82, y_83, y_84, y_85, y_86, y_87, y_88, y_89, y_90, y_91, y_92, y_93, y_94, y_95, y_96, y_97, y_98, y_99, y_100, y_101, y_102, y_103, y_104, y_105, y_106, y_107, y_108, y_109, y_1000, y_1001, y_1002, y_1003]
        try (simp (disch := omega) only [mj_w_id])
        repeat' (first | intro _ | with_reducible apply And.intro)
        all_goals (first | omega | exact ih2 _)
  have h0 := key q hq (Nat.le_refl _) (.inr (.inr 0))
  have z1 := zs_low (fun j => wo (μ 54) (μ 55) (μ 57 j)) q
  have z2 := zs_low (fun j => μ 55 (μ 57 j)) q
  simp only [z1, z2, Int.sub_zero] at h0
  have hc : mj_call L (d + 1) 61 [.inr (.inr 52), .inl (q : Int), .inl room] c (pz x y z) μ P := by
    simp only [e_61, mj_go_eq, g_cut, g_k0, g_k1, g_w0, g_w1, g_w2, g_w3, g_w4, g_c1, g_c2, g_c3, g_us, g_const, g_sti_3, g_ldi_2, g_sti_4, g_ldi_1, g_sti_5, g_ldi_5, g_ldr_0, g_getf, g_icge, g_getr, g_iald, g_sti_6, g_ldi_6, g_ldi_4, g_icle, g_ifle, g_ldi_3, g_call2, o_58, g_i2l, g_lmul, g_ldiv, g_l2i, g_iadd, g_goto, g_ret, g_isub, g_inc_5, a_61_0, a_61_1, a_61_2, a_61_3, a_61_5, a_61_6, a_61_8, a_61_10, a_61_11, a_61_14, a_61_17, a_61_18, a_61_21, a_61_23, a_61_24, a_61_26, a_61_27, a_61_30, a_61_32, a_61_33, a_61_35, a_61_38, a_61_39, a_61_42, a_61_44, a_61_45, a_61_48, a_61_49, a_61_50, a_61_52, a_61_55, a_61_56, a_61_58, a_61_59, a_61_60, a_61_61, a_61_64, a_61_66, a_61_67, a_61_68, a_61_69, a_61_70, a_61_71, a_61_74, a_61_75, a_61_76, a_61_77, a_61_78, a_61_80, a_61_83, a_61_84, a_61_85, a_61_87, a_61_88, a_61_91, a_61_93, a_61_94, a_61_95, a_61_97, a_61_100, a_61_103, a_61_104, ne_eq, not_false_eq_true, true_and, and_true, and_self, Int.cast_ofNat_Int, reduceCtorEq, or_false, false_or, not_true_eq_false, or_true, true_or, Int.reduceToNat, Int.reduceAdd, Int.reduceEq, Int.reduceNe, Int.reduceLT, Int.reduceLE, Int.reduceNeg, Int.reduceSub, Int.reduceMul, Nat.reduceAdd, Nat.reduceLT, Nat.reduceLeDiff, Nat.reduceEqDiff, forall_const, false_implies, true_implies, p_1_0, p_1_1, p_1_2, p_1_3, p_1_4, p_1_5, p_1_6, p_1_7, p_1_8, p_1_9, p_2_0, p_4_0, p_4_1, p_4_2, p_4_3, p_4_4, p_4_5, p_5_0, p_5_1, p_5_2, p_5_3, p_5_4, p_5_5, p_12_0, p_12_1, p_12_2, p_12_3, p_12_4, p_18_0, p_18_1, p_18_2, p_18_3, p_23_0, p_23_1, p_23_2, p_23_3, p_23_4, p_31_0, p_31_1, p_31_2, p_31_3, p_36_0, p_36_1, p_36_2, p_36_3, p_36_4, p_42_0, p_42_1, p_42_2, p_42_3, p_42_4, p_42_5, p_42_6, p_42_7, p_42_8, p_52_0, p_52_1, p_52_2, p_52_3, p_52_4, p_52_5, p_52_6, p_58_0, p_58_1, p_58_2, p_62_0, p_62_1, p_62_2, p_62_3, p_67_1, p_67_2, p_67_3, p_67_4, p_67_13, p_67_15, p_67_16, p_67_17, p_67_18, p_67_19, p_67_21, p_67_22, p_67_23, p_67_24, p_67_25, p_67_26, p_67_28, p_67_29, p_67_30, p_67_31, p_67_33, p_67_34, p_67_35, p_67_36, p_67_37, p_67_38, p_67_39, p_67_40, p_67_41, p_67_42, p_67_43, p_67_44, p_67_48, p_67_49, p_67_50, p_67_51, p_67_52, p_67_53, p_67_54, p_67_55, p_x, p_y, p_z, p_sx, p_sy, p_sz, y_1, y_2, y_3, y_4, y_5, y_6, y_7, y_8, y_9, y_10, y_11, y_12, y_13, y_14, y_15, y_16, y_17, y_18, y_19, y_20, y_21, y_22, y_23, y_24, y_25, y_26, y_27, y_28, y_29, y_30, y_31, y_32, y_33, y_34, y_35, y_36, y_37, y_38, y_39, y_40, y_41, y_42, y_43, y_44, y_45, y_46, y_47, y_48, y_49, y_50, y_51, y_52, y_53, y_54, y_55, y_56, y_57, y_58, y_59, y_60, y_61, y_62, y_63, y_64, y_65, y_66, y_67, y_68, y_69, y_70, y_71, y_72, y_73, y_74, y_75, y_76, y_77, y_78, y_79, y_80, y_81, y_82, y_83, y_84, y_85, y_86, y_87, y_88, y_89, y_90, y_91, y_92, y_93, y_94, y_95, y_96, y_97, y_98, y_99, y_100, y_101, y_102, y_103, y_104, y_105, y_106, y_107, y_108, y_109, y_1000, y_1001, y_1002, y_1003]
    exact h0 hroom.1
  obtain ⟨r', c', π', μ', hp, hQ⟩ := mj_call_ex hc
  rw [← hP] at hp
  obtain ⟨X, a1, a2, a3, rfl, rfl, rfl, rfl⟩ := hp
  exact ⟨X, a1, a2, a3, hQ⟩
