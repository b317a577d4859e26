set_option maxRecDepth 20000
/-! turn -/
theorem tu_first {can wt ra cb f fn a b x h : Int → Int} {r : Int → Nat} {la P K last : Int} (hI : cs_I can wt ra cb f la a b x P K) (hf : cs_f can wt x fn) (hl : 0 ≤ last ∧ last < 10) (ha : 0 < a last) : tu_I can wt ra cb fn (mj_pt a last (a last - 1)) b x h r P K (h last) last x := by
  obtain ⟨i1, i2, i3, i4, i5, i6, i7, i8, i9, i10⟩ := hI
  refine ⟨hl, fun _ _ _ _ _ _ _ => rfl, i2, hf, fun l' a1 a2 => ?_, fun t a1 a2 => (i4 t a1 a2).2, i9, by omega⟩
  have := i3 l' a1 a2
  by_cases e : l' = last
  · subst e; rw [g_ps, if_pos rfl]; omega
  · rw [g_pn e, if_neg e]; omega
theorem tu_next {can wt ra cb fn a b x0 g h x : Int → Int} {r : Int → Nat} {P K hl l l2 t : Int} (hI : tu_I can wt ra cb fn a b x0 h r P K hl l x) (ht : 0 ≤ t ∧ t < 12) (c1 : can (l * 12 + t) = 1) (c2 : x0 (l * 12 + t) = 0) (c3 : h l = g t + wt (l * 12 + t)) (c4 : r t < r (12 + l)) (hl2 : 0 ≤ l2 ∧ l2 < 10) (d1 : x0 (l2 * 12 + t) = 1) (d2 : g t + wt (l2 * 12 + t) = h l2) (d3 : r (12 + l2) < r t) (e1 : fn (12 + l) = h l) (e2 : fn t = g t) (e3 : fn (12 + l2) = h l2) : tu_I can wt ra cb fn a b x0 h r P K hl l2 (mj_pt (mj_pt x (l * 12 + t) 1) (l2 * 12 + t) 0) := by
  obtain ⟨i1, i2, i3, i4, i5, i6, i7, i8⟩ := hI
  have hne : l2 ≠ l := by intro z; subst z; omega
  have x1 : x (l * 12 + t) = 0 := by rw [i2 l t i1.1 i1.2 ht.1 ht.2 c4]; exact c2
  have x2 : x (l2 * 12 + t) = 1 := by rw [i2 l2 t hl2.1 hl2.2 ht.1 ht.2 c4]; exact d1
  have x3 : mj_pt x (l * 12 + t) 1 (l2 * 12 + t) = 1 := by rw [g_pn (by omega)]; exact x2
  refine ⟨hl2, fun l' t' a1 a2 a3 a4 hr => ?_, cs_x_up (cs_x_up i3 (Or.inr ⟨rfl, c1⟩)) (Or.inl rfl), cs_f_up hl2 ht (cs_f_up i1 ht i4 (by omega)) (by omega), fun l' a1 a2 => ?_, fun t' a1 a2 => ?_, ?_, ?_⟩
  · have hne' : t' ≠ t := by intro z; subst z; omega
    rw [g_pn (by omega), g_pn (by omega)]
    exact i2 l' t' a1 a2 a3 a4 (by omega)
  · rw [cs_row hl2 ht, cs_row i1 ht, x3, x1]
    have := i5 l' a1 a2
    by_cases z1 : l' = l
    · have q1 : ¬ l' = l2 := by omega
      rw [if_pos z1] at this
      simp only [if_neg q1, if_pos z1]
      omega
    · rw [if_neg z1] at this
      by_cases z2 : l' = l2
      · simp only [if_pos z2, if_neg z1]; omega
      · simp only [if_neg z2, if_neg z1]; omega
  · rw [cs_col hl2 ht t' ⟨a1, a2⟩, cs_col i1 ht t' ⟨a1, a2⟩, x3, x1]
    have := i6 t' a1 a2
    by_cases z : t' = t
    · rw [if_pos z, if_pos z]; omega
    · rw [if_neg z, if_neg z]; omega
  · rw [cs_D hl2 ht, cs_D i1 ht, x3, x1, i7]; omega
  · rw [cs_Dw hl2 ht, cs_Dw i1 ht, x3, x1, i8]; omega
theorem tu_fin {can wt ra cb fn a b x0 g h x : Int → Int} {r : Int → Nat} {P K hl l t : Int} (hI : tu_I can wt ra cb fn a b x0 h r P K hl l x) (hc : cs_c can wt) (ht : 0 ≤ t ∧ t < 12) (c1 : can (l * 12 + t) = 1) (c2 : x0 (l * 12 + t) = 0) (c3 : h l = g t + wt (l * 12 + t)) (c4 : r t < r (12 + l)) (d1 : 0 < b t) (d2 : g t = 0) (e1 : fn (12 + l) = h l) (e2 : fn t = g t) (hb : ∀ t : Int, 0 ≤ t → t < 12 → 0 ≤ b t) (hS : ∀ t : Int, cn_S b t → fn t = 0) (h1 : ∀ t : Int, 0 ≤ t → t < 12 → fn t ≤ 0) (h2 : ∀ l : Int, 0 ≤ l → l < 10 → (hl ≤ fn (12 + l) ∧ fn (12 + l) ≤ 1) ∧ (0 < a l → fn (12 + l) = hl)) : cs_I can wt ra cb fn hl a (mj_pt b t (b t - 1)) (mj_pt x (l * 12 + t) 1) (P + 1) (K + hl) := by
  obtain ⟨i1, i2, i3, i4, i5, i6, i7, i8⟩ := hI
  have x1 : x (l * 12 + t) = 0 := by rw [i2 l t i1.1 i1.2 ht.1 ht.2 c4]; exact c2
  refine ⟨hc, cs_x_up i3 (Or.inr ⟨rfl, c1⟩), fun l' a1 a2 => ?_, fun t' a1 a2 => ?_, cs_f_up i1 ht i4 (by omega), fun t' s => ?_, h1, h2, ?_, ?_⟩
  · rw [cs_row i1 ht, x1]
    have := i5 l' a1 a2
    by_cases z1 : l' = l
    · rw [if_pos z1] at this ⊢; omega
    · rw [if_neg z1] at this ⊢; omega
  · rw [cs_col i1 ht t' ⟨a1, a2⟩, x1]
    have := i6 t' a1 a2
    by_cases z : t' = t
    · subst z; rw [g_ps, if_pos rfl]; omega
    · rw [g_pn z, if_neg z]; have := hb t' a1 a2; omega
  · refine hS t' ⟨s.1, s.2.1, ?_⟩
    have s3 := s.2.2
    by_cases z : t' = t
    · subst z; exact d1
    · rw [g_pn z] at s3; exact s3
  · rw [cs_D i1 ht, x1, i7]; omega
  · rw [cs_Dw i1 ht, x1, i8]; omega
/-- the memory while a chain is turned -/
noncomputable def TM (ν : mj_M) (a x b : Int → Int) : mj_M := mj_ua (mj_ua (mj_ua ν 46 a) 50 x) 43 b
section
variable {ν : mj_M} {a x b : Int → Int} {i v : Int}
theorem TM_43 : TM ν a x b 43 = b := rfl
theorem TM_46 : TM ν a x b 46 = a := rfl
theorem TM_50 : TM ν a x b 50 = x := rfl
theorem TM_42 : TM ν a x b 42 = ν 42 := rfl
theorem TM_45 : TM ν a x b 45 = ν 45 := rfl
theorem TM_48 : TM ν a x b 48 = ν 48 := rfl
theorem TM_o {k : Nat} (h1 : k ≠ 43) (h2 : k ≠ 46) (h3 : k ≠ 50) : TM ν a x b k = ν k := by
  unfold TM
  rw [g_an h1, g_an h3, g_an h2]
theorem TM_ext {ξ : mj_M} (h1 : ξ 43 = b) (h2 : ξ 46 = a) (h3 : ξ 50 = x) (h5 : ∀ k : Nat, k ≠ 43 → k ≠ 46 → k ≠ 50 → ξ k = ν k) : ξ = TM ν a x b := by
  funext k
  by_cases e1 : k = 43
  · subst e1; exact h1
  by_cases e2 : k = 46
  · subst e2; exact h2
  by_cases e3 : k = 50
  · subst e3; exact h3
  rw [TM_o e1 e2 e3]; exact h5 k e1 e2 e3
theorem TM_u43 : mj_up (TM ν a x b) 43 i v = TM ν a x (mj_pt b i v) :=
  TM_ext rfl rfl rfl (fun k p q r => by rw [g_un p, TM_o p q r])
theorem TM_u46 : mj_up (TM ν a x b) 46 i v = TM ν (mj_pt a i v) x b :=
  TM_ext rfl rfl rfl (fun k p q r => by rw [g_un q, TM_o p q r])
theorem TM_u50 : mj_up (TM ν a x b) 50 i v = TM ν a (mj_pt x i v) b :=
  TM_ext rfl rfl rfl (fun k p q r => by rw [g_un r, TM_o p q r])
theorem TM_id (ν : mj_M) : ν = TM ν (ν 46) (ν 50) (ν 43) := TM_ext rfl rfl rfl (fun _ _ _ _ => rfl)
end
theorem pq_lt3 {a b c : Int} {k : Nat} (h1 : a < b) (h2 : b < c) (h3 : c < ((k + 1 : Nat) : Int)) : a < k := by omega
theorem pq_lt0 {a : Int} (h1 : 0 ≤ a) (h2 : a < ((0 : Nat) : Int)) : False := by omega
theorem tu_loop {L d c x y z : Nat} {ν : mj_M} {can wt ra cb f a b x0 g h : Int → Int} {r : Int → Nat} {P K hl la : Int} {Q : mj_Q} {last : Int}
    (hN : pb_N 22 (cn_A can x0) (cn_w wt) (cn_S b) f) (hB : pb_B 22 (-1000) (cn_A can x0) (cn_w wt) (cn_S b) f (cn_G g h) (cn_p (ν 45) (ν 48)) r) (hX : pb_X (-1000) (cn_A can x0) (cn_w wt) (cn_G g h)) (hc : cs_c can wt)
    (hb : ∀ t : Int, 0 ≤ t → t < 12 → 0 ≤ b t ∧ b t ≤ 100) (hS : ∀ t : Int, cn_S b t → pb_f (-1000) (la - hl) f (cn_G g h) t = 0) (h1 : ∀ t : Int, 0 ≤ t → t < 12 → pb_f (-1000) (la - hl) f (cn_G g h) t ≤ 0) (h2 : ∀ l : Int, 0 ≤ l → l < 10 → (hl ≤ pb_f (-1000) (la - hl) f (cn_G g h) (12 + l) ∧ pb_f (-1000) (la - hl) f (cn_G g h) (12 + l) ≤ 1) ∧ (0 < a l → pb_f (-1000) (la - hl) f (cn_G g h) (12 + l) = hl))
    (hq : ∀ (x' b' : Int → Int), cs_I can wt ra cb (pb_f (-1000) (la - hl) f (cn_G g h)) hl a b' x' (P + 1) (K + hl) → Q [] c (pz x y z) (TM ν a x' b')) :
    ∀ (k i : Nat), i + k = 22 → ∀ (l : Int) (x' : Int → Int) (v4 : mj_V), pb_k 22 r (12 + l) < k → h l ≠ -1000 → f (12 + l) - (la - hl) ≤ h l → tu_I can wt ra cb (pb_f (-1000) (la - hl) f (cn_G g h)) a b x0 h r P K hl l x' → mj_run L d 51 14 [.inr (.inr 42), .inl last, .inl l, .inl (i : Int), v4] [] c (pz x y z) (TM ν a x' b) Q := by
  intro k
  induction k with
  | zero =>
    intro i hk l x' v4 hr hu ho hI
    exact (pq_lt0 (pb_k_bd (N := 22) (r := r) (v := 12 + l) (by have := hI.1; omega)).1 hr).elim
  | succ k ih =>
    intro i hk l x' v4 hr hu ho hI
    have hl' := hI.1
    obtain ⟨ht, c1, c2, c3, c4, c5, c6⟩ := tu_par hN hB hX hl' hu ho
    have e1 : pb_f (-1000) (la - hl) f (cn_G g h) (12 + l) = h l := by
      rw [pb_on (by rw [cn_G_l hl'.1]; exact hu) (by rw [cn_G_l hl'.1]; exact ho), cn_G_l hl'.1]
    have e2 : pb_f (-1000) (la - hl) f (cn_G g h) (ν 48 l) = g (ν 48 l) := by
      rw [pb_on (by rw [cn_G_t ht.2]; exact c3) (by rw [cn_G_t ht.2]; exact c6), cn_G_t ht.2]
    have hk' := pb_k_lt (N := 22) (v := 12 + l) (u := ν 48 l) (by omega) c5
    have z1 : ((i : Int) < 22) = True := eq_true (by omega)
    have z2 : (0 ≤ l) = True := eq_true hl'.1
    have z3 : (l < 10) = True := eq_true hl'.2
    have z4 : (0 ≤ ν 48 l) = True := eq_true ht.1
    have z5 : (ν 48 l < 12) = True := eq_true ht.2
    have z6 : (ν 48 l < 0) = False := eq_false (by omega)
    have z7 : (0 ≤ l * 12 + ν 48 l) = True := eq_true (by omega)
    have z8 : (l * 12 + ν 48 l < 120) = True := eq_true (by omega)
    have w1 : mj_w (l * 12) = l * 12 := mj_w_id (by omega) (by omega)
    have w2 : mj_w (l * 12 + ν 48 l) = l * 12 + ν 48 l := mj_w_id (by omega) (by omega)
    have w3 : mj_w ((i : Int) + 1) = ((i + 1 : Nat) : Int) := by rw [mj_w_id (by omega) (by omega)]; omega
    rcases tu_par2 hN hB hX ht c3 c6 with ⟨d1, d2, d3⟩ | ⟨d1, d2, d3, d4, d5, d6, d7⟩
    · have hF := tu_fin hI hc ht c1 c2 c4 c5 d2 d3 e1 e2 (fun t a1 a2 => (hb t a1 a2).1) hS h1 h2
      have hF' := hq _ _ hF
      have y1 := eq_true d1
      have w4 : mj_w (b (ν 48 l) - 1) = b (ν 48 l) - 1 := by have := hb _ ht.1 ht.2; exact mj_w_id (by omega) (by omega)
      refine mj_start ?_
      simp only [w1, w2, w3, w4, z1, z2, z3, z4, z5, z6, z7, z8, y1, TM_42, TM_43, TM_45, TM_46, TM_48, TM_50, TM_u43, TM_u46, TM_u50, mj_go_eq, g_cut, g_k0, g_k1, g_w0, g_w1, g_w2, g_w3, g_w4, g_c1, g_c2, g_c3, g_us, g_ldr_0, g_getr, g_ldi_1, g_dup2i, g_dup2r, g_iald, g_const, g_isub, g_iast, g_sti_2, g_sti_3, g_ldi_3, g_icge, g_ldi_2, g_sti_4, g_ldi_4, g_ifge, g_vret, g_imul, g_iadd, g_bast, g_inc_3, g_goto, a_51_0, a_51_1, a_51_4, a_51_5, a_51_6, a_51_7, a_51_8, a_51_9, a_51_10, a_51_11, a_51_12, a_51_13, a_51_14, a_51_15, a_51_17, a_51_20, a_51_21, a_51_24, a_51_25, a_51_26, a_51_28, a_51_30, a_51_33, a_51_34, a_51_35, a_51_38, a_51_39, a_51_41, a_51_42, a_51_44, a_51_45, a_51_46, a_51_47, a_51_48, a_51_51, a_51_53, a_51_54, a_51_55, a_51_56, a_51_59, a_51_60, a_51_63, a_51_65, a_51_66, a_51_67, a_51_68, a_51_69, a_51_70, a_51_71, a_51_72, a_51_75, a_51_76, a_51_78, a_51_79, a_51_81, a_51_82, a_51_83, a_51_84, a_51_87, a_51_90, ne_eq, not_false_eq_true, true_and, and_true, and_self, Int.cast_ofNat_Int, reduceCtorEq, or_false, false_or, not_true_eq_false, or_true, true_or, Int.reduceToNat, Int.reduceAdd, Int.reduceEq, Int.reduceNe, Int.reduceLT, Int.reduceLE, Int.reduceNeg, Int.reduceSub, Int.reduceMul, Nat.reduceAdd, Nat.reduceLT, Nat.reduceLeDiff, Nat.reduceEqDiff, forall_const, false_implies, true_implies, p_1_0, p_1_1, p_1_2, p_1_3, p_1_4, p_1_5, p_1_6, p_1_7, p_1_8, p_1_9, p_2_0, p_4_0, p_4_1, p_4_2, p_4_3, p_4_4, p_4_5, p_5_0, p_5_1, p_5_2, p_5_3, p_5_4, p_5_5, p_12_0, p_12_1, p_12_2, p_12_3, p_12_4, p_18_0, p_18_1, p_18_2, p_18_3, p_23_0, p_23_1, p_23_2, p_23_3, p_23_4, p_31_0, p_31_1, p_31_2, p_31_3, p_36_0, p_36_1, p_36_2, p_36_3, p_36_4, p_42_0, p_42_1, p_42_2, p_42_3, p_42_4, p_42_5, p_42_6, p_42_7, p_42_8, p_52_0, p_52_1, p_52_2, p_52_3, p_52_4, p_52_5, p_52_6, p_58_0, p_58_1, p_58_2, p_62_0, p_62_1, p_62_2, p_62_3, p_67_1, p_67_2, p_67_3, p_67_4, p_67_13, p_67_15, p_67_16, p_67_17, p_67_18, p_67_19, p_67_21, p_67_22, p_67_23, p_67_24, p_67_25, p_67_26, p_67_28, p_67_29, p_67_30, p_67_31, p_67_33, p_67_34, p_67_35, p_67_36, p_67_37, p_67_38, p_67_39, p_67_40, p_67_41, p_67_42, p_67_43, p_67_44, p_67_48, p_67_49, p_67_50, p_67_51, p_67_52, p_67_53, p_67_54, p_67_55, p_x, p_y, p_z, p_sx, p_sy, p_sz, y_1, y_2, y_3, y_4, y_5, y_6, y_7, y_8, y_9, y_10, y_11, y_12, y_13, y_14, y_15, y_16, y_17, y_18, y_19, y_20, y_21, y_22, y_23, y_24, y_25, y_26, y_27, y_28, y_29, y_30, y_31, y_32, y_33, y_34, y_35, y_36, y_37, y_38, y_39, y_40, y_41, y_42, y_43, y_44, y_45, y_46, y_47, y_48, y_49, y_50, y_51, y_52, y_53, y_54, y_55, y_56, y_57, y_58, y_59, y_60, y_61, y_62, y_63, y_64, y_65, y_66, y_67, y_68, y_69, y_70, y_71, y_72, y_73, y_74, y_75, y_76, y_77, y_78, y_79, y_80, y_81, y_82, y_83, y_84, y_85, y_86, y_87, y_88, y_89, y_90, y_91, y_92, y_93, y_94, y_95, y_96, y_97, y_98, y_99, y_100, y_101, y_102, y_103, y_104, y_105, y_106, y_107, y_108, y_109, y_1000, y_1001, y_1002, y_1003, if_true, if_false]
      exact hF'
    · have e3 : pb_f (-1000) (la - hl) f (cn_G g h) (12 + ν 45 (ν 48 l)) = h (ν 45 (ν 48 l)) := by
        rw [pb_on (by rw [cn_G_l d1.1]; exact d4) (by rw [cn_G_l d1.1]; exact d7), cn_G_l d1.1]
      have hI' := tu_next hI ht c1 c2 c4 c5 d1 d3 d5 d6 e1 e2 e3
      have hk2 := pb_k_lt (N := 22) (u := 12 + ν 45 (ν 48 l)) (v := ν 48 l) (by omega) d6
      have i' := ih (i + 1) (by omega) (ν 45 (ν 48 l)) _ (.inl (ν 48 l)) (pq_lt3 hk2 hk' hr) d4 d7 hI'
      have y1 : (ν 45 (ν 48 l) < 0) = False := eq_false (by omega)
      have y2 : (0 ≤ ν 45 (ν 48 l) * 12 + ν 48 l) = True := eq_true (by omega)
      have y3 : (ν 45 (ν 48 l) * 12 + ν 48 l < 120) = True := eq_true (by omega)
      have w4 : mj_w (ν 45 (ν 48 l) * 12) = ν 45 (ν 48 l) * 12 := mj_w_id (by omega) (by omega)
      have w5 : mj_w (ν 45 (ν 48 l) * 12 + ν 48 l) = ν 45 (ν 48 l) * 12 + ν 48 l := mj_w_id (by omega) (by omega)
      refine mj_start ?_
      simp only [w1, w2, w3, w4, w5, z1, z2, z3, z4, z5, z6, z7, z8, y1, y2, y3, TM_42, TM_43, TM_45, TM_46, TM_48, TM_50, TM_u43, TM_u46, TM_u50, mj_go_eq, g_cut, g_k0, g_k1, g_w0, g_w1, g_w2, g_w3, g_w4, g_c1, g_c2, g_c3, g_us, g_ldr_0, g_getr, g_ldi_1, g_dup2i, g_dup2r, g_iald, g_const, g_isub, g_iast, g_sti_2, g_sti_3, g_ldi_3, g_icge, g_ldi_2, g_sti_4, g_ldi_4, g_ifge, g_vret, g_imul, g_iadd, g_bast, g_inc_3, g_goto, a_51_0, a_51_1, a_51_4, a_51_5, a_51_6, a_51_7, a_51_8, a_51_9, a_51_10, a_51_11, a_51_12, a_51_13, a_51_14, a_51_15, a_51_17, a_51_20, a_51_21, a_51_24, a_51_25, a_51_26, a_51_28, a_51_30, a_51_33, a_51_34, a_51_35, a_51_38, a_51_39, a_51_41, a_51_42, a_51_44, a_51_45, a_51_46, a_51_47, a_51_48, a_51_51, a_51_53, a_51_54, a_51_55, a_51_56, a_51_59, a_51_60, a_51_63, a_51_65, a_51_66, a_51_67, a_51_68, a_51_69, a_51_70, a_51_71, a_51_72, a_51_75, a_51_76, a_51_78, a_51_79, a_51_81, a_51_82, a_51_83, a_51_84, a_51_87, a_51_90, ne_eq, not_false_eq_true, true_and, and_true, and_self, Int.cast_ofNat_Int, reduceCtorEq, or_false, false_or, not_true_eq_false, or_true, true_or, Int.reduceToNat, Int.reduceAdd, Int.reduceEq, Int.reduceNe, Int.reduceLT, Int.reduceLE, Int.reduceNeg, Int.reduceSub, Int.reduceMul, Nat.reduceAdd, Nat.reduceLT, Nat.reduceLeDiff, Nat.reduceEqDiff, forall_const, false_implies, true_implies, p_1_0, p_1_1, p_1_2, p_1_3, p_1_4, p_1_5, p_1_6, p_1_7, p_1_8, p_1_9, p_2_0, p_4_0, p_4_1, p_4_2, p_4_3, p_4_4, p_4_5, p_5_0, p_5_1, p_5_2, p_5_3, p_5_4, p_5_5, p_12_0, p_12_1, p_12_2, p_12_3, p_12_4, p_18_0, p_18_1, p_18_2, p_18_3, p_23_0, p_23_1, p_23_2, p_23_3, p_23_4, p_31_0, p_31_1, p_31_2, p_31_3, p_36_0, p_36_1, p_36_2, p_36_3, p_36_4, p_42_0, p_42_1, p_42_2, p_42_3, p_42_4, p_42_5, p_42_6, p_42_7, p_42_8, p_52_0, p_52_1, p_52_2, p_52_3, p_52_4, p_52_5, p_52_6, p_58_0, p_58_1, p_58_2, p_62_0, p_62_1, p_62_2, p_62_3, p_67_1, p_67_2, p_67_3, p_67_4, p_67_13, p_67_15, p_67_16, p_67_17, p_67_18, p_67_19, p_67_21, p_67_22, p_67_23, p_67_24, p_67_25, p_67_26, p_67_28, p_67_29, p_67_30, p_67_31, p_67_33, p_67_34, p_67_35, p_67_36, p_67_37, p_67_38, p_67_39, p_67_40, p_67_41, p_67_42, p_67_43, p_67_44, p_67_48, p_67_49, p_67_50, p_67_51, p_67_52, p_67_53, p_67_54, p_67_55, p_x, p_y, p_z, p_sx, p_sy, p_sz, y_1, y_2, y_3, y_4, y_5, y_6, y_7, y_8, y_9, y_10, y_11, y_12, y_13, y_14, y_15, y_16, y_17, y_18, y_19, y_20, y_21, y_22, y_23, y_24, y_25, y_26, y_27, y_28, y_29, y_30, y_31, y_32, y_33, y_34, y_35, y_36, y_37, y_38, y_39, y_40, y_41, y_42, y_43, y_44, y_45, y_46, y_47, y_48, y_49, y_50, y_51, y_52, y_53, y_54, y_55, y_56, y_57, y_58, y_59, y_60, y_61, y_62, y_63, y_64, y_65, y_66, y_67, y_68, y_69, y_70, y_71, y_72, y_73, y_74, y_75, y_76, y_77, y_78, y_79, y_80, y_81, y_82, y_83, y_84, y_85, y_86, y_87, y_88, y_89, y_90, y_91, y_92, y_93, y_94, y_95, y_96, y_97, y_98, y_99, y_100, y_101, y_102, y_103, y_104, y_105, y_106, y_107, y_108, y_109, y_1000, y_1001, y_1002, y_1003, if_true, if_false]
      exact i'
