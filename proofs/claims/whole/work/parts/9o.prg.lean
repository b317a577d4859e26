set_option maxRecDepth 20000
/-! the program: the class sorts by rate -/
theorem zs_ins (φ r : Int → Int) (n : Int) (p R : Nat) : ∀ q : Nat, p ≤ q → q ≤ R → zs (fun j => φ (mj_pt (zsh r p R) p n j)) (q + 1) = zs (fun j => φ (r j)) q + φ n := by
  intro q
  induction q with
  | zero =>
    intro h1 h2
    have : p = 0 := by omega
    subst this
    show (0 : Int) + φ (mj_pt (zsh r 0 R) 0 n 0) = 0 + φ n
    rw [g_ps]
  | succ q ih =>
    intro h1 h2
    by_cases e : p = q + 1
    · subst e
      show zs (fun j => φ (mj_pt (zsh r ((q + 1 : Nat) : Int) R) ((q + 1 : Nat) : Int) n j)) (q + 1) + φ (mj_pt (zsh r ((q + 1 : Nat) : Int) R) ((q + 1 : Nat) : Int) n ((q + 1 : Nat) : Int)) = _
      rw [g_ps]
      have : zs (fun j => φ (mj_pt (zsh r ((q + 1 : Nat) : Int) R) ((q + 1 : Nat) : Int) n j)) (q + 1) = zs (fun j => φ (r j)) (q + 1) := zs_cg (fun i hi => by
        rw [g_pn (by omega)]
        unfold zsh
        rw [if_neg (by omega)])
      rw [this]
    · have := ih (by omega) (by omega)
      show zs (fun j => φ (mj_pt (zsh r p R) p n j)) (q + 1) + φ (mj_pt (zsh r p R) p n ((q + 1 : Nat) : Int)) = zs (fun j => φ (r j)) q + φ (r q) + φ n
      rw [this, g_pn (by omega)]
      unfold zsh
      rw [if_pos (by omega), show ((q + 1 : Nat) : Int) - 1 = q by omega]
      omega
def SR (w m v : Int → Int) (n R : Nat) (r : Int → Int) : Prop := R ≤ n ∧ (∀ j : Nat, j < R → (0 ≤ r j ∧ r j < n) ∧ v (r j) ≠ 0) ∧ (∀ i j : Nat, i < j → j < R → dns w m (r i) (r j)) ∧ (∀ φ : Int → Int, zs (fun j => φ (r j)) R = zs (fun t => if v t ≠ 0 then φ t else 0) n) ∧ (∀ i j : Nat, i < j → j < R → r i ≠ r j) ∧ ∀ t : Int, 0 ≤ t → t < n → v t ≠ 0 → ∃ j : Nat, j < R ∧ r j = t
theorem SR_0 (w m v r : Int → Int) : SR w m v 0 0 r := ⟨Nat.le_refl _, fun j h => by omega, fun i j h1 h2 => by omega, fun φ => rfl, fun i j h1 h2 => by omega, fun t h1 h2 => by omega⟩
theorem SR_skip {w m v r : Int → Int} {n R : Nat} (h : SR w m v n R r) (hv : v n = 0) : SR w m v (n + 1) R r := by
  refine ⟨by have := h.1; omega, fun j hj => ?_, h.2.2.1, fun φ => ?_, h.2.2.2.2.1, fun t h1 h2 h3 => ?_⟩
  · have := h.2.1 j hj
    exact ⟨by omega, this.2⟩
  · rw [h.2.2.2.1 φ]
    show _ = zs (fun t => if v t ≠ 0 then φ t else 0) n + (if v n ≠ 0 then φ n else 0)
    rw [if_neg (fun q => q hv), Int.add_zero]
  · by_cases e : t = n
    · rw [e] at h3; exact absurd hv h3
    · exact h.2.2.2.2.2 t h1 (by omega) h3
theorem SR_ins {w m v r : Int → Int} {n R p : Nat} (hw : ∀ i, v i ≠ 0 → 0 < w i) (hw0 : ∀ i, 0 ≤ w i) (hm : ∀ i, 0 ≤ m i) (h : SR w m v n R r) (hv : v n ≠ 0) (hp : p ≤ R) (h1 : p = 0 ∨ dns w m (r (p - 1)) n) (h2 : ∀ j : Nat, p ≤ j → j < R → dns w m n (r j)) : SR w m v (n + 1) (R + 1) (mj_pt (zsh r p R) p n) := by
  obtain ⟨a1, a2, a3, a4, a5, a6⟩ := h
  have lo : ∀ j : Nat, j < p → mj_pt (zsh r p R) p n j = r j := fun j hj => by
    rw [g_pn (by omega)]; unfold zsh; rw [if_neg (by omega)]
  have hi : ∀ j : Nat, p < j → j ≤ R → mj_pt (zsh r p R) p n j = r ((j - 1 : Nat) : Int) := fun j h1 h2 => by
    rw [g_pn (by omega)]; unfold zsh; rw [if_pos (by omega), show (j : Int) - 1 = ((j - 1 : Nat) : Int) by omega]
  have at' : mj_pt (zsh r p R) p n p = n := g_ps
  have lowd : ∀ j : Nat, j < p → dns w m (r j) n := fun j hj => by
    rcases h1 with e | e
    · omega
    · rw [show (p : Int) - 1 = ((p - 1 : Nat) : Int) by omega] at e
      by_cases q : j = p - 1
      · rw [q]; exact e
      · exact dns_tr (hw _ (a2 (p - 1) (by omega)).2) (hm _) (hm _) (hm _) (hw0 _) (hw0 _) (a3 j (p - 1) (by omega) (by omega)) e
  refine ⟨by omega, fun j hj => ?_, fun i j hij hj => ?_, fun φ => ?_, fun i j hij hj => ?_, fun t t1 t2 t3 => ?_⟩
  · by_cases e1 : j < p
    · rw [lo j e1]; have := a2 j (by omega); exact ⟨by omega, this.2⟩
    · by_cases e2 : j = p
      · rw [e2, at']; exact ⟨by omega, hv⟩
      · rw [hi j (by omega) (by omega)]; have := a2 (j - 1) (by omega); exact ⟨by omega, this.2⟩
  · by_cases e1 : j < p
    · rw [lo j e1, lo i (by omega)]; exact a3 i j hij (by omega)
    · by_cases e2 : j = p
      · rw [e2, at', lo i (by omega)]; exact lowd i (by omega)
      · rw [hi j (by omega) (by omega)]
        by_cases e3 : i < p
        · rw [lo i e3]; exact a3 i (j - 1) (by omega) (by omega)
        · by_cases e4 : i = p
          · rw [e4, at']; exact h2 (j - 1) (by omega) (by omega)
          · rw [hi i (by omega) (by omega)]; exact a3 (i - 1) (j - 1) (by omega) (by omega)
  · rw [zs_ins φ r n p R R hp (Nat.le_refl _), a4 φ]
    show _ = zs (fun t => if v t ≠ 0 then φ t else 0) n + (if v n ≠ 0 then φ n else 0)
    rw [if_pos hv]
  · by_cases e1 : j < p
    · rw [lo j e1, lo i (by omega)]; exact a5 i j hij (by omega)
    · by_cases e2 : j = p
      · rw [e2, at', lo i (by omega)]
        have := (a2 i (by omega)).1
        omega
      · rw [hi j (by omega) (by omega)]
        by_cases e3 : i < p
        · rw [lo i e3]; exact a5 i (j - 1) (by omega) (by omega)
        · by_cases e4 : i = p
          · rw [e4, at']
            have := (a2 (j - 1) (by omega)).1
            omega
          · rw [hi i (by omega) (by omega)]; exact a5 (i - 1) (j - 1) (by omega) (by omega)
  · by_cases e : t = n
    · exact ⟨p, by omega, by rw [at', e]⟩
    · obtain ⟨j, j1, j2⟩ := a6 t t1 (by omega) t3
      by_cases e1 : j < p
      · exact ⟨j, by omega, by rw [lo j e1, j2]⟩
      · refine ⟨j + 1, by omega, ?_⟩
        rw [hi (j + 1) (by omega) (by omega), show j + 1 - 1 = j by omega, j2]
theorem c_Pr_isDenser {L d c x y z : Nat} {μ : mj_M} {t o : Int} (hW : ∀ i, 0 ≤ μ 54 i ∧ μ 54 i ≤ 30) (hM : ∀ i, 0 ≤ μ 55 i ∧ μ 55 i ≤ 720) (ht : 0 ≤ t ∧ t < 12) (ho : 0 ≤ o ∧ o < 12) (Q : mj_Q) : mj_call L d 60 [.inr (.inr 52), .inl t, .inl o] c (pz x y z) μ Q = Q [.inl (if μ 54 o * μ 55 t < μ 54 t * μ 55 o then 1 else 0)] c (pz x y z) μ := by
  refine mj_call_eq ?_ Q
  have pb : ∀ a b : Int, 0 ≤ a → a ≤ 30 → 0 ≤ b → b ≤ 720 → 0 ≤ a * b ∧ a * b ≤ 21600 := fun a b h1 h2 h3 h4 => by
    refine ⟨Int.mul_nonneg h1 h3, ?_⟩
    have q1 : a * b ≤ 30 * b := Int.mul_le_mul_of_nonneg_right h2 h3
    omega
  have b1 := pb _ _ (hW t).1 (hW t).2 (hM o).1 (hM o).2
  have b2 := pb _ _ (hW o).1 (hW o).2 (hM t).1 (hM t).2
  have w1 : mj_w (μ 54 t * μ 55 o) = μ 54 t * μ 55 o := mj_w_id (by omega) (by omega)
  have w2 : mj_w (μ 54 o * μ 55 t) = μ 54 o * μ 55 t := mj_w_id (by omega) (by omega)
  generalize hA : μ 54 t * μ 55 o = A at *
  generalize hB : μ 54 o * μ 55 t = Bv at *
  by_cases q : Bv < A
  · simp only [e_60, mj_go_eq, g_cut, g_k0, g_k1, g_w0, g_w1, g_w2, g_w3, g_w4, g_c1, g_c2, g_c3, g_us, g_ldr_0, g_getr, g_ldi_1, g_iald, g_ldi_2, g_imul, g_icle, g_const, g_goto, g_zret, a_60_0, a_60_1, a_60_4, a_60_5, a_60_6, a_60_7, a_60_10, a_60_11, a_60_12, a_60_13, a_60_14, a_60_17, a_60_18, a_60_19, a_60_20, a_60_23, a_60_24, a_60_25, a_60_26, a_60_29, a_60_30, a_60_33, a_60_34, ne_eq, not_false_eq_true, true_and, and_true, and_self, Int.cast_ofNat_Int, reduceCtorEq, or_false, false_or, not_true_eq_false, or_true, true_or, Int.reduceToNat, Int.reduceAdd, Int.reduceEq, Int.reduceNe, Int.reduceLT, Int.reduceLE, Int.reduceNeg, Int.reduceSub, Int.reduceMul, Nat.reduceAdd, Nat.reduceLT, Nat.reduceLeDiff, Nat.reduceEqDiff, forall_const, false_implies, true_implies, p_1_0, p_1_1, p_1_2, p_1_3, p_1_4, p_1_5, p_1_6, p_1_7, p_1_8, p_1_9, p_2_0, p_4_0, p_4_1, p_4_2, p_4_3, p_4_4, p_4_5, p_5_0, p_5_1, p_5_2, p_5_3, p_5_4, p_5_5, p_12_0, p_12_1, p_12_2, p_12_3, p_12_4, p_18_0, p_18_1, p_18_2, p_18_3, p_23_0, p_23_1, p_23_2, p_23_3, p_23_4, p_31_0, p_31_1, p_31_2, p_31_3, p_36_0, p_36_1, p_36_2, p_36_3, p_36_4, p_42_0, p_42_1, p_42_2, p_42_3, p_42_4, p_42_5, p_42_6, p_42_7, p_42_8, p_52_0, p_52_1, p_52_2, p_52_3, p_52_4, p_52_5, p_52_6, p_58_0, p_58_1, p_58_2, p_62_0, p_62_1, p_62_2, p_62_3, p_67_1, p_67_2, p_67_3, p_67_4, p_67_13, p_67_15, p_67_16, p_67_17, p_67_18, p_67_19, p_67_21, p_67_22, p_67_23, p_67_24, p_67_25, p_67_26, p_67_28, p_67_29, p_67_30, p_67_31, p_67_33, p_67_34, p_67_35, p_67_36, p_67_37, p_67_38, p_67_39, p_67_40, p_67_41, p_67_42, p_67_43, p_67_44, p_67_48, p_67_49, p_67_50, p_67_51, p_67_52, p_67_53, p_67_54, p_67_55, p_x, p_y, p_z, p_sx, p_sy, p_sz, y_1, y_2, y_3, y_4, y_5, y_6, y_7, y_8, y_9, y_10, y_11, y_12, y_13, y_14, y_15, y_16, y_17, y_18, y_19, y_20, y_21, y_22, y_23, y_24, y_25, y_26, y_27, y_28, y_29, y_30, y_31, y_32, y_33, y_34, y_35, y_36, y_37, y_38, y_39, y_40, y_41, y_42, y_43, y_44, y_45, y_46, y_47, y_48, y_49, y_50, y_51, y_52, y_53, y_54, y_55, y_56, y_57, y_58, y_59, y_60, y_61, y_62, y_63, y_64, y_65, y_66, y_67, y_68, y_69, y_70, y_71, y_72, y_73, y_74, y_75, y_76, y_77, y_78, y_79, y_80, y_81, y_82, y_83, y_84, y_85, y_86, y_87, y_88, y_89, y_90, y_91, y_92, y_93, y_94, y_95, y_96, y_97, y_98, y_99, y_100, y_101, y_102, y_103, y_104, y_105, y_106, y_107, y_108, y_109, y_1000, y_1001, y_1002, y_1003, hA, hB, w1, w2, q, if_true]
    repeat' (first | intro _ | with_reducible apply And.intro)
    all_goals (first | omega | trivial | rfl | skip)
  · simp only [e_60, mj_go_eq, g_cut, g_k0, g_k1, g_w0, g_w1, g_w2, g_w3, g_w4, g_c1, g_c2, g_c3, g_us, g_ldr_0, g_getr, g_ldi_1, g_iald, g_ldi_2, g_imul, g_icle, g_const, g_goto, g_zret, a_60_0, a_60_1, a_60_4, a_60_5, a_60_6, a_60_7, a_60_10, a_60_11, a_60_12, a_60_13, a_60_14, a_60_17, a_60_18, a_60_19, a_60_20, a_60_23, a_60_24, a_60_25, a_60_26, a_60_29, a_60_30, a_60_33, a_60_34, ne_eq, not_false_eq_true, true_and, and_true, and_self, Int.cast_ofNat_Int, reduceCtorEq, or_false, false_or, not_true_eq_false, or_true, true_or, Int.reduceToNat, Int.reduceAdd, Int.reduceEq, Int.reduceNe, Int.reduceLT, Int.reduceLE, Int.reduceNeg, Int.reduceSub, Int.reduceMul, Nat.reduceAdd, Nat.reduceLT, Nat.reduceLeDiff, Nat.reduceEqDiff, forall_const, false_implies, true_implies, p_1_0, p_1_1, p_1_2, p_1_3, p_1_4, p_1_5, p_1_6, p_1_7, p_1_8, p_1_9, p_2_0, p_4_0, p_4_1, p_4_2, p_4_3, p_4_4, p_4_5, p_5_0, p_5_1, p_5_2, p_5_3, p_5_4, p_5_5, p_12_0, p_12_1, p_12_2, p_12_3, p_12_4, p_18_0, p_18_1, p_18_2, p_18_3, p_23_0, p_23_1, p_23_2, p_23_3, p_23_4, p_31_0, p_31_1, p_31_2, p_31_3, p_36_0, p_36_1, p_36_2, p_36_3, p_36_4, p_42_0, p_42_1, p_42_2, p_42_3, p_42_4, p_42_5, p_42_6, p_42_7, p_42_8, p_52_0, p_52_1, p_52_2, p_52_3, p_52_4, p_52_5, p_52_6, p_58_0, p_58_1, p_58_2, p_62_0, p_62_1, p_62_2, p_62_3, p_67_1, p_67_2, p_67_3, p_67_4, p_67_13, p_67_15, p_67_16, p_67_17, p_67_18, p_67_19, p_67_21, p_67_22, p_67_23, p_67_24, p_67_25, p_67_26, p_67_28, p_67_29, p_67_30, p_67_31, p_67_33, p_67_34, p_67_35, p_67_36, p_67_37, p_67_38, p_67_39, p_67_40, p_67_41, p_67_42, p_67_43, p_67_44, p_67_48, p_67_49, p_67_50, p_67_51, p_67_52, p_67_53, p_67_54, p_67_55, p_x, p_y, p_z, p_sx, p_sy, p_sz, y_1, y_2, y_3, y_4, y_5, y_6, y_7, y_8, y_9, y_10, y_11, y_12, y_13, y_14, y_15, y_16, y_17, y_18, y_19, y_20, y_21, y_22, y_23, y_24, y_25, y_26, y_27, y_28, y_29, y_30, y_31, y_32, y_33, y_34, y_35, y_36, y_37, y_38, y_39, y_40, y_41, y_42, y_43, y_44, y_45, y_46, y_47, y_48, y_49, y_50, y_51, y_52, y_53, y_54, y_55, y_56, y_57, y_58, y_59, y_60, y_61, y_62, y_63, y_64, y_65, y_66, y_67, y_68, y_69, y_70, y_71, y_72, y_73, y_74, y_75, y_76, y_77, y_78, y_79, y_80, y_81, y_82, y_83, y_84, y_85, y_86, y_87, y_88, y_89, y_90, y_91, y_92, y_93, y_94, y_95, y_96, y_97, y_98, y_99, y_100, y_101, y_102, y_103, y_104, y_105, y_106, y_107, y_108, y_109, y_1000, y_1001, y_1002, y_1003, hA, hB, w1, w2, q, if_false]
    repeat' (first | intro _ | with_reducible apply And.intro)
    all_goals (first | omega | trivial | rfl | skip)
