set_option maxRecDepth 20000
def PX (a n : Int) (f : Int → Int) : Prop := f 1 = n ∧ n ≤ 200 ∧ (f 2 = 0 → 0 ≤ f 5 ∧ f 5 ≤ n) ∧ (0 ≤ f 7 ∧ f 7 ≤ 200) ∧ a ≤ f 5
theorem PX_PF {a n : Int} {f : Int → Int} (h : PX a n f) : PF f := ⟨by have := h.1; have := h.2.1; omega, fun q => by have := h.1; have := h.2.2.1 q; omega⟩
theorem nxf_7 {b f : Int → Int} (h2 : f 2 = 0) : nxf b f 7 = zadv (tsp b) (f 1) 200 (f 5) := by
  unfold nxf
  rw [if_pos h2]
  unfold nx1 wdf nmf
  split
  · simp only [g_ps, g_pn, ne_eq, Int.reduceEq, not_false_eq_true]
  · split
    · simp only [g_ps, g_pn, ne_eq, Int.reduceEq, not_false_eq_true]
    · split
      · split <;> simp only [g_ps, g_pn, ne_eq, Int.reduceEq, not_false_eq_true]
      · split <;> simp only [g_ps, g_pn, ne_eq, Int.reduceEq, not_false_eq_true]
theorem PX_next {b t f : Int → Int} {a n : Int} (hb : TB b t) (h : PX a n f) : PX a n (nxf b f) := by
  by_cases h2 : f 2 = 0
  · have h5 := h.2.2.1 h2
    have h1 := h.1
    have hp := PF_next hb (PX_PF h)
    have hr := (RT_next0 (g := fun i => if i = 5 then f 1 else if i = 6 then f 5 else 0) hb ⟨h2, rfl, rfl, by have := h.2.1; omega, rfl, by omega, by omega⟩).2.1
    have e1 : nxf b f 1 = f 1 := nxf_o b f (by decide)
    have hz := zadv_bd (tsp b) (f 1) 200 (f 5)
    refine ⟨by rw [e1]; exact h1, h.2.1, fun q => ?_, ?_, by have := h.2.2.2.2; omega⟩
    · have := hp.2 q; omega
    · rw [nxf_7 h2]
      have := h.2.1
      omega
  · rw [nxf_flt h2]; exact h
theorem PX_flf {f : Int → Int} {a n : Int} (good : Prop) [Decidable good] {code : Int} (hc : code ≠ 0) (h : PX a n f) : PX a n (flf f good code) := by
  unfold PX at *
  rw [flf_o (i := 1) _ _ _ (by decide), flf_o (i := 5) _ _ _ (by decide), flf_o (i := 7) _ _ _ (by decide)]
  refine ⟨h.1, h.2.1, fun q => ?_, h.2.2.2⟩
  unfold flf at q
  split at q
  · rw [g_ps] at q; exact absurd q hc
  · exact h.2.2.1 q
theorem PX_flt {f : Int → Int} {a n : Int} {v : Int} (hv : v ≠ 0) (h : PX a n f) : PX a n (mj_pt f 2 v) := by
  unfold PX at *
  rw [g_pn (x := 1) (by decide), g_pn (x := 5) (by decide), g_pn (x := 7) (by decide), g_ps]
  exact ⟨h.1, h.2.1, fun q => absurd q hv, h.2.2.2⟩
theorem PX_4 {f : Int → Int} {a n : Int} {v : Int} (h : PX a n f) : PX a n (mj_pt f 4 v) := by
  unfold PX at *
  simp only [g_pn, ne_eq, Int.reduceEq, not_false_eq_true]
  exact h
theorem PX_rnf {b t f : Int → Int} {a n lo hi : Int} (hb : TB b t) (h : PX a n f) : PX a n (rnf b f lo hi) := PX_flf _ (by decide) (PX_flf _ (by decide) (PX_next hb h))
theorem PX_rsf {b t f : Int → Int} {a n p q : Int} (hb : TB b t) (h : PX a n f) : PX a n (rsf b f p q) := PX_flf _ (by decide) (PX_next hb h)
theorem PX_rkf {ρ : mj_M} {z : Nat} {f t : Int → Int} {a n : Int} (hb : TB (ρ 3) t) (h : PX a n f) : PX a n (rkf ρ z f) := PX_flf _ (by decide) (PX_flf _ (by decide) (PX_next hb h))
theorem PX_kl {z : Nat} {t : Int → Int} {a n : Int} (hz : z = 31 ∨ z = 62) : ∀ (k : Nat) (ρ : mj_M) (f : Int → Int), TB (ρ 3) t → PX a n f → PX a n (kl z k ρ f).2
  | 0, ρ, f, hb, h => h
  | k + 1, ρ, f, hb, h => by
    have p3 : PX a n (rsf (ρ 3) (rkf ρ z (rsf (ρ 3) f 43 45)) 44 59) := PX_rsf hb (PX_rkf hb (PX_rsf hb h))
    unfold kl
    split
    · exact PX_kl hz k _ _ (by rw [rkr_o (by omega)]; exact hb) p3
    · exact p3
theorem PX_rln {z : Nat} {ρ : mj_M} {f t : Int → Int} {a n : Int} (hz : z = 31 ∨ z = 62) (hb : TB (ρ 3) t) (h : PX a n f) : PX a n (rln z ρ f).2 := by
  unfold rln
  split
  · split
    · rw [(rrt_2 z ρ f).1]
      exact PX_rsf hb (PX_rnf hb (PX_rnf hb (PX_flf _ (by decide) (PX_rnf hb h))))
    · split
      · split
        · exact PX_kl hz 6 _ _ (by rw [g_un (by omega)]; exact hb) (PX_4 h)
        · split
          · exact PX_rsf hb (PX_rnf hb (PX_4 h))
          · exact PX_rnf hb (PX_4 h)
      · exact PX_flt (by decide) h
  · exact PX_flt (by decide) h
theorem rd_p {z : Nat} {t : Int → Int} (hz : z = 31 ∨ z = 62) : ∀ (k : Nat) (ρ : mj_M) (f : Int → Int) (n a q : Int), TB (ρ 3) t → PX a q f → 0 ≤ n → (0 ≤ (rd z k ρ f n).2.2) ∧ (0 ≤ (rd z k ρ f n).2.1 7 ∧ (rd z k ρ f n).2.1 7 ≤ 200) ∧ (∀ i : Nat, ¬ (z ≤ i ∧ i ≤ z + 4) → (rd z k ρ f n).1 i = ρ i)
  | 0, ρ, f, n, a, q, hb, h, hn => ⟨hn, h.2.2.2.1, fun _ _ => rfl⟩
  | k + 1, ρ, f, n, a, q, hb, h, hn => by
    have hr := rln_p hz hb (PX_PF h)
    have hx := PX_rln (a := a) (n := q) hz hb h
    have e3 : (rln z ρ f).1 3 = ρ 3 := hr.2 3 (by omega)
    unfold rd
    split
    · split
      · have ih := rd_p hz k (rln z ρ f).1 (nxf (ρ 3) (rln z ρ f).2) (n + 1) a q (by rw [e3]; exact hb) (PX_next hb hx) (by omega)
        exact ⟨ih.1, ih.2.1, fun i hi => by rw [ih.2.2 i hi]; exact hr.2 i hi⟩
      · exact ⟨hn, hx.2.2.2.1, hr.2⟩
    · exact ⟨hn, h.2.2.2.1, fun _ _ => rfl⟩
theorem s_rd {L d c x y w z : Nat} (hz : z = 31 ∨ z = 62) {Q : mj_Q} {v2 : mj_V} {R : mj_M × (Int → Int) × Int} {ν0 : mj_M} {g0 : Int → Int}
    (hX : ∀ (ν' : mj_M) (g' : Int → Int) (n' : Int), RT R.2.1 g' → (∀ q, q ≠ 69 → q ≠ 70 → ν' q = ν0 q) → (∀ i, ¬ (6 ≤ i ∧ i ≤ 11) → g' i = g0 i) → (R.2.1 2 = 0 → n' = R.2.2 ∧ RD z R.1 ν') → mj_go L (d + 7) 166 68 [.inr (.inr 67), .inl n', v2] [] c (pz x y w) (mj_ua ν' 67 g') Q) :
    ∀ (k : Nat) (ρ ν : mj_M) (f g : Int → Int) (n : Int), TB (ρ 3) (ν 71) → JST (ρ 1001) (ρ 1002) (ρ 1003) → RT f g → PX (f 5) (f 1) f → (f 2 = 0 → RD z ρ ν ∧ RTo (f 4) ν) → (f 2 = 0 → f 6 ≠ 0 → f 1 + 1 ≤ f 5 + k) → (0 ≤ n ∧ n + k ≤ 1000) → (∀ q, q ≠ 69 → q ≠ 70 → ν q = ν0 q) → (∀ i, ¬ (6 ≤ i ∧ i ≤ 11) → g i = g0 i) → rd z k ρ f n = R → mj_run L (d + 7) 166 44 [.inr (.inr 67), .inl n, v2] [] c (pz x y w) (mj_ua ν 67 g) Q := by
  have ex : ∀ (ν' : mj_M) (g' : Int → Int) (n' : Int), (¬ g' 10 = 0 ∨ g' 8 = 0) → mj_go L (d + 7) 166 68 [.inr (.inr 67), .inl n', v2] [] c (pz x y w) (mj_ua ν' 67 g') Q → mj_run L (d + 7) 166 44 [.inr (.inr 67), .inl n', v2] [] c (pz x y w) (mj_ua ν' 67 g') Q := fun ν' g' n' hc hx => by
    simp only [mj_go_eq] at hx
    refine mj_start ?_
    simp only [mj_go_eq, g_cut, g_k0, g_k1, g_w0, g_w1, g_w2, g_w3, g_w4, g_c1, g_c2, g_c3, g_us, g_const, g_sti_1, g_ldr_0, g_putf, g_getr, g_call1, o_150, g_sti_2, g_ldi_2, g_icge, g_bast, g_inc_2, g_goto, o_158, g_getf, g_ifne, g_ifeq, o_165, g_inc_1, g_ifle, g_isub, g_ret, g_iald, g_iast, g_ldi_1, a_166_44, a_166_45, a_166_48, a_166_51, a_166_52, a_166_55, a_166_58, a_166_59, a_166_62, a_166_65, ne_eq, not_false_eq_true, true_and, and_true, and_self, Int.cast_ofNat_Int, reduceCtorEq, or_false, false_or, not_true_eq_false, or_true, true_or, Int.reduceToNat, Int.reduceAdd, Int.reduceEq, Int.reduceNe, Int.reduceLT, Int.reduceLE, Int.reduceNeg, Int.reduceSub, Int.reduceMul, Nat.reduceAdd, Nat.reduceLT, Nat.reduceLeDiff, Nat.reduceEqDiff, forall_const, false_implies, true_implies, p_1_0, p_1_1, p_1_2, p_1_3, p_1_4, p_1_5, p_1_6, p_1_7, p_1_8, p_1_9, p_2_0, p_4_0, p_4_1, p_4_2, p_4_3, p_4_4, p_4_5, p_5_0, p_5_1, p_5_2, p_5_3, p_5_4, p_5_5, p_12_0, p_12_1, p_12_2, p_12_3, p_12_4, p_18_0, p_18_1, p_18_2, p_18_3, p_23_0, p_23_1, p_23_2, p_23_3, p_23_4, p_31_0, p_31_1, p_31_2, p_31_3, p_36_0, p_36_1, p_36_2, p_36_3, p_36_4, p_42_0, p_42_1, p_42_2, p_42_3, p_42_4, p_42_5, p_42_6, p_42_7, p_42_8, p_52_0, p_52_1, p_52_2, p_52_3, p_52_4, p_52_5, p_52_6, p_58_0, p_58_1, p_58_2, p_62_0, p_62_1, p_62_2, p_62_3, p_67_1, p_67_2, p_67_3, p_67_4, p_67_13, p_67_15, p_67_16, p_67_17, p_67_18, p_67_19, p_67_21, p_67_22, p_67_23, p_67_24, p_67_25, p_67_26, p_67_28, p_67_29, p_67_30, p_67_31, p_67_33, p_67_34, p_67_35, p_67_36, p_67_37, p_67_38, p_67_39, p_67_40, p_67_41, p_67_42, p_67_43, p_67_44, p_67_48, p_67_49, p_67_50, p_67_51, p_67_52, p_67_53, p_67_54, p_67_55, p_x, p_y, p_z, p_sx, p_sy, p_sz, y_1, y_2, y_3, y_4, y_5, y_6, y_7, y_8, y_9, y_10, y_11, y_12, y_13, y_14, y_15, y_16, y_17, y_18, y_19, y_20, y_21, y_22, y_23, y_24, y_25, y_26, y_27, y_28, y_29, y_30, y_31, y_32, y_33, y_34, y_35, y_36, y_37, y_38, y_39, y_40, y_41, y_42, y_43, y_44, y_45, y_46, y_47, y_48, y_49, y_50, y_51, y_52, y_53, y_54, y_55, y_56, y_57, y_58, y_59, y_60, y_61, y_62, y_63, y_64, y_65, y_66, y_67, y_68, y_69, y_70, y_71, y_72, y_73, y_74, y_75, y_76, y_77, y_78, y_79, y_80, y_81, y_82, y_83, y_84, y_85, y_86, y_87, y_88, y_89, y_90, y_91, y_92, y_93, y_94, y_95, y_96, y_97, y_98, y_99, y_100, y_101, y_102, y_103, y_104, y_105, y_106, y_107, y_108, y_109, y_1000, y_1001, y_1002, y_1003, g_as]
    repeat' (first | intro _ | with_reducible apply And.intro)
    all_goals (first | omega | exact hx)
  intro k
  induction k with
  | zero =>
    intro ρ ν f g n hb hst h hx hd hfu hn hfr hgr hr
    have hr' : (ρ, f, n) = R := hr
    subst hr'
    have hc : ¬ g 10 = 0 ∨ g 8 = 0 := by
      by_cases q : f 2 = 0
      · by_cases q6 : f 6 = 0
        · obtain ⟨_, _, _, _, hdd⟩ := h
          rcases hdd with ⟨_, _, _, _, hk⟩ | ⟨a1, _⟩
          · unfold TKR at hk; omega
          · exact absurd q a1
        · have := hfu q q6
          have := hx.2.2.1 q
          omega
      · exact Or.inl (by rw [h.2.2.1]; exact q)
    exact ex ν g n hc (hX ν g n h hfr hgr (fun q => ⟨rfl, (hd q).1⟩))
  | succ k ih =>
    intro ρ ν f g n hb hst h hx hd hfu hn hfr hgr hr
    unfold rd at hr
    by_cases hc : f 2 = 0 ∧ f 6 ≠ 0
    · rw [if_pos hc] at hr
      have hdd := hd hc.1
      obtain ⟨r, c', π', μ', ⟨ν', g', u1, u2, u3, u4, a5, a6, a7, a8⟩, hQ⟩ := mj_call_ex (s_line (L := L) (d := d) (c := c) (x := x) (y := y) (w := w) hz hb h hc.1 hdd.1 hdd.2 hst)
      subst u1
      subst u2
      rw [u3, u4] at hQ
      have hrp := rln_p hz hb (PX_PF hx)
      have hrx := PX_rln hz hb hx
      have e3 : (rln z ρ f).1 3 = ρ 3 := hrp.2 3 (by omega)
      have e71 : ν' 71 = ν 71 := a6 71 (by decide) (by decide)
      have g10 : g 10 = 0 := by rw [h.2.2.1]; exact hc.1
      have g8 : ¬ g 8 = 0 := by
        obtain ⟨_, _, _, _, hk2⟩ := h
        rcases hk2 with ⟨_, _, _, _, hk⟩ | ⟨a1, _⟩
        · unfold TKR at hk; omega
        · exact absurd hc.1 a1
      have hfr' : ∀ q, q ≠ 69 → q ≠ 70 → ν' q = ν0 q := fun q p1 p2 => (a6 q p1 p2).trans (hfr q p1 p2)
      have hgr' : ∀ i, ¬ (6 ≤ i ∧ i ≤ 11) → g' i = g0 i := fun i hi => (a7 i hi).trans (hgr i hi)
      by_cases hf : (rln z ρ f).2 2 = 0
      · rw [if_pos hf] at hr
        have h1 := hrx.1
        have hnx := RT_next0 (g := fun i => if i = 5 then (rln z ρ f).2 1 else if i = 6 then (rln z ρ f).2 5 else 0) hb ⟨hf, rfl, rfl, by have := hrx.2.1; omega, rfl, by have := hrx.2.2.1 hf; omega, by have := hrx.2.2.1 hf; omega⟩
        have n1 : nxf (ρ 3) (rln z ρ f).2 1 = f 1 := by rw [nxf_o _ _ (by decide)]; exact h1
        have pxn := PX_next hb hrx
        have ih2 := ih (rln z ρ f).1 ν' (nxf (ρ 3) (rln z ρ f).2) g' (n + 1) (by rw [e3, e71]; exact hb) (by rw [hrp.2 1001 (by omega), hrp.2 1002 (by omega), hrp.2 1003 (by omega)]; exact hst) a5 ⟨rfl, by rw [n1]; exact pxn.2.1, by rw [n1]; exact pxn.2.2.1, pxn.2.2.2.1, Int.le_refl _⟩ (fun _ => by rw [nxf_4]; exact a8 hf) (fun q1 q2 => by
          have := hnx.2.2 q1 q2
          have := hfu hc.1 hc.2
          have := hrx.2.2.2.2
          rw [n1]
          omega) (by omega) hfr' hgr' hr
        refine mj_start ?_
        simp only [hQ, g10, g8, mj_go_eq, g_cut, g_k0, g_k1, g_w0, g_w1, g_w2, g_w3, g_w4, g_c1, g_c2, g_c3, g_us, g_const, g_sti_1, g_ldr_0, g_putf, g_getr, g_call1, o_150, g_sti_2, g_ldi_2, g_icge, g_bast, g_inc_2, g_goto, o_158, g_getf, g_ifne, g_ifeq, o_165, g_inc_1, g_ifle, g_isub, g_ret, g_iald, g_iast, g_ldi_1, a_166_44, a_166_45, a_166_48, a_166_51, a_166_52, a_166_55, a_166_58, a_166_59, a_166_62, a_166_65, ne_eq, not_false_eq_true, true_and, and_true, and_self, Int.cast_ofNat_Int, reduceCtorEq, or_false, false_or, not_true_eq_false, or_true, true_or, Int.reduceToNat, Int.reduceAdd, Int.reduceEq, Int.reduceNe, Int.reduceLT, Int.reduceLE, Int.reduceNeg, Int.reduceSub, Int.reduceMul, Nat.reduceAdd, Nat.reduceLT, Nat.reduceLeDiff, Nat.reduceEqDiff, forall_const, false_implies, true_implies, p_1_0, p_1_1, p_1_2, p_1_3, p_1_4, p_1_5, p_1_6, p_1_7, p_1_8, p_1_9, p_2_0, p_4_0, p_4_1, p_4_2, p_4_3, p_4_4, p_4_5, p_5_0, p_5_1, p_5_2, p_5_3, p_5_4, p_5_5, p_12_0, p_12_1, p_12_2, p_12_3, p_12_4, p_18_0, p_18_1, p_18_2, p_18_3, p_23_0, p_23_1, p_23_2, p_23_3, p_23_4, p_31_0, p_31_1, p_31_2, p_31_3, p_36_0, p_36_1, p_36_2, p_36_3, p_36_4, p_42_0, p_42_1, p_42_2, p_42_3, p_42_4, p_42_5, p_42_6, p_42_7, p_42_8, p_52_0, p_52_1, p_52_2, p_52_3, p_52_4, p_52_5, p_52_6, p_58_0, p_58_1, p_58_2, p_62_0, p_62_1, p_62_2, p_62_3, p_67_1, p_67_2, p_67_3, p_67_4, p_67_13, p_67_15, p_67_16, p_67_17, p_67_18, p_67_19, p_67_21, p_67_22, p_67_23, p_67_24, p_67_25, p_67_26, p_67_28, p_67_29, p_67_30, p_67_31, p_67_33, p_67_34, p_67_35, p_67_36, p_67_37, p_67_38, p_67_39, p_67_40, p_67_41, p_67_42, p_67_43, p_67_44, p_67_48, p_67_49, p_67_50, p_67_51, p_67_52, p_67_53, p_67_54, p_67_55, p_x, p_y, p_z, p_sx, p_sy, p_sz, y_1, y_2, y_3, y_4, y_5, y_6, y_7, y_8, y_9, y_10, y_11, y_12, y_13, y_14, y_15, y_16, y_17, y_18, y_19, y_20, y_21, y_22, y_23, y_24, y_25, y_26, y_27, y_28, y_29, y_30, y_31, y_32, y_33, y_34, y_35, y_36, y_37, y_38, y_39, y_40, y_41, y_42, y_43, y_44, y_45, y_46, y_47, y_48, y_49, y_50, y_51, y_52, y_53, y_54, y_55, y_56, y_57, y_58, y_59, y_60, y_61, y_62, y_63, y_64, y_65, y_66, y_67, y_68, y_69, y_70, y_71, y_72, y_73, y_74, y_75, y_76, y_77, y_78, y_79, y_80, y_81, y_82, y_83, y_84, y_85, y_86, y_87, y_88, y_89, y_90, y_91, y_92, y_93, y_94, y_95, y_96, y_97, y_98, y_99, y_100, y_101, y_102, y_103, y_104, y_105, y_106, y_107, y_108, y_109, y_1000, y_1001, y_1002, y_1003, g_as]
        try (simp (disch := omega) only [mj_w_id])
        repeat' (first | intro _ | with_reducible apply And.intro)
        all_goals (first | omega | exact ih2 | exact absurd (by assumption) g8)
      · rw [if_neg hf] at hr
        subst hr
        have hg' : ¬ g' 10 = 0 := by rw [a5.2.2.1, nxf_flt hf]; exact hf
        have ex2 := ex ν' g' (n + 1) (Or.inl hg') (hX ν' g' (n + 1) (by rw [nxf_flt hf] at a5; exact a5) hfr' hgr' (fun q => absurd q hf))
        refine mj_start ?_
        simp only [hQ, g10, g8, mj_go_eq, g_cut, g_k0, g_k1, g_w0, g_w1, g_w2, g_w3, g_w4, g_c1, g_c2, g_c3, g_us, g_const, g_sti_1, g_ldr_0, g_putf, g_getr, g_call1, o_150, g_sti_2, g_ldi_2, g_icge, g_bast, g_inc_2, g_goto, o_158, g_getf, g_ifne, g_ifeq, o_165, g_inc_1, g_ifle, g_isub, g_ret, g_iald, g_iast, g_ldi_1, a_166_44, a_166_45, a_166_48, a_166_51, a_166_52, a_166_55, a_166_58, a_166_59, a_166_62, a_166_65, ne_eq, not_false_eq_true, true_and, and_true, and_self, Int.cast_ofNat_Int, reduceCtorEq, or_false, false_or, not_true_eq_false, or_true, true_or, Int.reduceToNat, Int.reduceAdd, Int.reduceEq, Int.reduceNe, Int.reduceLT, Int.reduceLE, Int.reduceNeg, Int.reduceSub, Int.reduceMul, Nat.reduceAdd, Nat.reduceLT, Nat.reduceLeDiff, Nat.reduceEqDiff, forall_const, false_implies, true_implies, p_1_0, p_1_1, p_1_2, p_1_3, p_1_4, p_1_5, p_1_6, p_1_7, p_1_8, p_1_9, p_2_0, p_4_0, p_4_1, p_4_2, p_4_3, p_4_4, p_4_5, p_5_0, p_5_1, p_5_2, p_5_3, p_5_4, p_5_5, p_12_0, p_12_1, p_12_2, p_12_3, p_12_4, p_18_0, p_18_1, p_18_2, p_18_3, p_23_0, p_23_1, p_23_2, p_23_3, p_23_4, p_31_0, p_31_1, p_31_2, p_31_3, p_36_0, p_36_1, p_36_2, p_36_3, p_36_4, p_42_0, p_42_1, p_42_2, p_42_3, p_42_4, p_42_5, p_42_6, p_42_7, p_42_8, p_52_0, p_52_1, p_52_2, p_52_3, p_52_4, p_52_5, p_52_6, p_58_0, p_58_1, p_58_2, p_62_0, p_62_1, p_62_2, p_62_3, p_67_1, p_67_2, p_67_3, p_67_4, p_67_13, p_67_15, p_67_16, p_67_17, p_67_18, p_67_19, p_67_21, p_67_22, p_67_23, p_67_24, p_67_25, p_67_26, p_67_28, p_67_29, p_67_30, p_67_31, p_67_33, p_67_34, p_67_35, p_67_36, p_67_37, p_67_38, p_67_39, p_67_40, p_67_41, p_67_42, p_67_43, p_67_44, p_67_48, p_67_49, p_67_50, p_67_51, p_67_52, p_67_53, p_67_54, p_67_55, p_x, p_y, p_z, p_sx, p_sy, p_sz, y_1, y_2, y_3, y_4, y_5, y_6, y_7, y_8, y_9, y_10, y_11, y_12, y_13, y_14, y_15, y_16, y_17, y_18, y_19, y_20, y_21, y_22, y_23, y_24, y_25, y_26, y_27, y_28, y_29, y_30, y_31, y_32, y_33, y_34, y_35, y_36, y_37, y_38, y_39, y_40, y_41, y_42, y_43, y_44, y_45, y_46, y_47, y_48, y_49, y_50, y_51, y_52, y_53, y_54, y_55, y_56, y_57, y_58, y_59, y_60, y_61, y_62, y_63, y_64, y_65, y_66, y_67, y_68, y_69, y_70, y_71, y_72, y_73, y_74, y_75, y_76, y_77, y_78, y_79, y_80, y_81, y_82, y_83, y_84, y_85, y_86, y_87, y_88, y_89, y_90, y_91, y_92, y_93, y_94, y_95, y_96, y_97, y_98, y_99, y_100, y_101, y_102, y_103, y_104, y_105, y_106, y_107, y_108, y_109, y_1000, y_1001, y_1002, y_1003, g_as]
        try (simp (disch := omega) only [mj_w_id])
        repeat' (first | intro _ | with_reducible apply And.intro)
        all_goals (first | omega | exact ex2 | exact absurd (by assumption) g8)
    · rw [if_neg hc] at hr
      subst hr
      have hc' : ¬ g 10 = 0 ∨ g 8 = 0 := by
        by_cases q : f 2 = 0
        · have q6 : f 6 = 0 := by
            by_cases a : f 6 = 0
            · exact a
            · exact absurd ⟨q, a⟩ hc
          obtain ⟨_, _, _, _, hdd⟩ := h
          rcases hdd with ⟨_, _, _, _, hk⟩ | ⟨a1, _⟩
          · unfold TKR at hk; omega
          · exact absurd q a1
        · exact Or.inl (by rw [h.2.2.1]; exact q)
      exact ex ν g n hc' (hX ν g n h hfr hgr (fun q => ⟨rfl, (hd q).1⟩))
