set_option maxRecDepth 20000
/-! the class's net: titles 0 .. 11, listeners 12 .. 21 -/
noncomputable def cn_G (g h : Int → Int) : Int → Int := fun v => if v < 12 then g v else h (v - 12)
noncomputable def cn_p (p q : Int → Int) : Int → Int := fun v => if v < 12 then (if p v < 0 then -4 else 12 + p v) else q (v - 12)
def cn_A (can x : Int → Int) (u v : Int) : Prop := (0 ≤ u ∧ u < 12 ∧ 12 ≤ v ∧ v < 22 ∧ can ((v - 12) * 12 + u) = 1 ∧ x ((v - 12) * 12 + u) = 0) ∨ (12 ≤ u ∧ u < 22 ∧ 0 ≤ v ∧ v < 12 ∧ can ((u - 12) * 12 + v) = 1 ∧ x ((u - 12) * 12 + v) = 1)
noncomputable def cn_w (wt : Int → Int) (u v : Int) : Int := if u < 12 then wt ((v - 12) * 12 + u) else -wt ((u - 12) * 12 + v)
def cn_S (b : Int → Int) (v : Int) : Prop := 0 ≤ v ∧ v < 12 ∧ 0 < b v
theorem cn_G_t {g h : Int → Int} {t : Int} (ht : t < 12) : cn_G g h t = g t := if_pos ht
theorem cn_G_l {g h : Int → Int} {l : Int} (hl : 0 ≤ l) : cn_G g h (12 + l) = h l := by
  unfold cn_G
  rw [if_neg (by omega), show 12 + l - 12 = l by omega]
theorem cn_p_l {p q : Int → Int} {l : Int} (hl : 0 ≤ l) : cn_p p q (12 + l) = q l := by
  unfold cn_p
  rw [if_neg (by omega), show 12 + l - 12 = l by omega]
theorem cn_G_ut {g h : Int → Int} {t v : Int} (ht : t < 12) : mj_pt (cn_G g h) t v = cn_G (mj_pt g t v) h := by
  funext j
  unfold mj_pt cn_G
  by_cases e : j = t
  · subst e; simp [ht]
  · simp [e]
theorem cn_G_ul {g h : Int → Int} {l v : Int} (hl : 0 ≤ l) : mj_pt (cn_G g h) (12 + l) v = cn_G g (mj_pt h l v) := by
  funext j
  unfold cn_G
  by_cases e : j = 12 + l
  · subst e; rw [g_ps, if_neg (by omega), show 12 + l - 12 = l by omega, g_ps]
  · rw [g_pn e]
    by_cases z : j < 12
    · rw [if_pos z, if_pos z]
    · rw [if_neg z, if_neg z, g_pn (by omega)]
theorem cn_p_ut {p q : Int → Int} {t l : Int} (ht : t < 12) (hl : 0 ≤ l) : mj_pt (cn_p p q) t (12 + l) = cn_p (mj_pt p t l) q := by
  funext j
  unfold cn_p
  by_cases e : j = t
  · subst e
    rw [g_ps, g_ps, if_pos ht, if_neg (by omega)]
  · rw [g_pn e, g_pn e]
theorem cn_p_ul {p q : Int → Int} {l t : Int} (hl : 0 ≤ l) : mj_pt (cn_p p q) (12 + l) t = cn_p p (mj_pt q l t) := by
  funext j
  unfold cn_p
  by_cases e : j = 12 + l
  · subst e; rw [g_ps, if_neg (by omega), show 12 + l - 12 = l by omega, g_ps]
  · rw [g_pn e]
    by_cases z : j < 12
    · rw [if_pos z, if_pos z]
    · rw [if_neg z, if_neg z, g_pn (by omega)]
theorem cn_A1 {can x : Int → Int} {l t : Int} (hl : 0 ≤ l ∧ l < 10) (ht : 0 ≤ t ∧ t < 12) (h1 : can (l * 12 + t) = 1) (h2 : x (l * 12 + t) = 0) : cn_A can x t (12 + l) := by
  refine Or.inl ⟨ht.1, ht.2, by omega, by omega, ?_, ?_⟩
  · rw [show (12 + l - 12) * 12 + t = l * 12 + t by omega]; exact h1
  · rw [show (12 + l - 12) * 12 + t = l * 12 + t by omega]; exact h2
theorem cn_A2 {can x : Int → Int} {l t : Int} (hl : 0 ≤ l ∧ l < 10) (ht : 0 ≤ t ∧ t < 12) (h1 : can (l * 12 + t) = 1) (h2 : x (l * 12 + t) = 1) : cn_A can x (12 + l) t := by
  refine Or.inr ⟨by omega, by omega, ht.1, ht.2, ?_, ?_⟩
  · rw [show (12 + l - 12) * 12 + t = l * 12 + t by omega]; exact h1
  · rw [show (12 + l - 12) * 12 + t = l * 12 + t by omega]; exact h2
theorem cn_w1 {wt : Int → Int} {l t : Int} (ht : t < 12) : cn_w wt t (12 + l) = wt (l * 12 + t) := by
  unfold cn_w
  rw [if_pos ht, show (12 + l - 12) * 12 + t = l * 12 + t by omega]
theorem cn_w2 {wt : Int → Int} {l t : Int} (hl : 0 ≤ l) : cn_w wt (12 + l) t = -wt (l * 12 + t) := by
  unfold cn_w
  rw [if_neg (by omega), show (12 + l - 12) * 12 + t = l * 12 + t by omega]
/-- an arc is a pair, taken or given up -/
theorem cn_A_cs {can x : Int → Int} {u v : Int} (h : cn_A can x u v) : ∃ l t : Int, (0 ≤ l ∧ l < 10) ∧ (0 ≤ t ∧ t < 12) ∧ can (l * 12 + t) = 1 ∧ ((u = t ∧ v = 12 + l ∧ x (l * 12 + t) = 0) ∨ (u = 12 + l ∧ v = t ∧ x (l * 12 + t) = 1)) := by
  rcases h with ⟨a, b, c, d, e, f⟩ | ⟨a, b, c, d, e, f⟩
  · exact ⟨v - 12, u, by omega, ⟨a, b⟩, e, Or.inl ⟨rfl, by omega, f⟩⟩
  · exact ⟨u - 12, v, by omega, ⟨c, d⟩, e, Or.inr ⟨by omega, rfl, f⟩⟩
/-- the memory while chains are sought -/
noncomputable def PM (μ : mj_M) (g p h q : Int → Int) : mj_M := mj_ua (mj_ua (mj_ua (mj_ua μ 44 g) 45 p) 47 h) 48 q
section
variable {μ : mj_M} {g p h q : Int → Int} {i v : Int}
theorem PM_44 : PM μ g p h q 44 = g := rfl
theorem PM_45 : PM μ g p h q 45 = p := rfl
theorem PM_47 : PM μ g p h q 47 = h := rfl
theorem PM_48 : PM μ g p h q 48 = q := rfl
theorem PM_42 : PM μ g p h q 42 = μ 42 := rfl
theorem PM_43 : PM μ g p h q 43 = μ 43 := rfl
theorem PM_46 : PM μ g p h q 46 = μ 46 := rfl
theorem PM_49 : PM μ g p h q 49 = μ 49 := rfl
theorem PM_50 : PM μ g p h q 50 = μ 50 := rfl
theorem PM_51 : PM μ g p h q 51 = μ 51 := rfl
theorem PM_o {k : Nat} (h1 : k ≠ 44) (h2 : k ≠ 45) (h3 : k ≠ 47) (h4 : k ≠ 48) : PM μ g p h q k = μ k := by
  unfold PM
  rw [g_an h4, g_an h3, g_an h2, g_an h1]
theorem PM_ext {ν : mj_M} (h1 : ν 44 = g) (h2 : ν 45 = p) (h3 : ν 47 = h) (h4 : ν 48 = q) (h5 : ∀ k : Nat, k ≠ 44 → k ≠ 45 → k ≠ 47 → k ≠ 48 → ν k = μ k) : ν = PM μ g p h q := by
  funext k
  by_cases e1 : k = 44
  · subst e1; exact h1
  by_cases e2 : k = 45
  · subst e2; exact h2
  by_cases e3 : k = 47
  · subst e3; exact h3
  by_cases e4 : k = 48
  · subst e4; exact h4
  rw [PM_o e1 e2 e3 e4]; exact h5 k e1 e2 e3 e4
theorem PM_u44 : mj_up (PM μ g p h q) 44 i v = PM μ (mj_pt g i v) p h q :=
  PM_ext rfl rfl rfl rfl (fun k a b c d => by rw [g_un a, PM_o a b c d])
theorem PM_u45 : mj_up (PM μ g p h q) 45 i v = PM μ g (mj_pt p i v) h q :=
  PM_ext rfl rfl rfl rfl (fun k a b c d => by rw [g_un b, PM_o a b c d])
theorem PM_u47 : mj_up (PM μ g p h q) 47 i v = PM μ g p (mj_pt h i v) q :=
  PM_ext rfl rfl rfl rfl (fun k a b c d => by rw [g_un c, PM_o a b c d])
theorem PM_u48 : mj_up (PM μ g p h q) 48 i v = PM μ g p h (mj_pt q i v) :=
  PM_ext rfl rfl rfl rfl (fun k a b c d => by rw [g_un d, PM_o a b c d])
end
theorem c_Pa_take1 {L d c x y z : Nat} {μ : mj_M} {g p h q : Int → Int} {l t : Int} (hl : 0 ≤ l ∧ l < 10) (ht : 0 ≤ t ∧ t < 12) (hg : -1000 ≤ g t ∧ g t ≤ 1) (hw : 0 ≤ μ 51 (l * 12 + t) ∧ μ 51 (l * 12 + t) ≤ 1) (hc : g t ≠ -1000 ∧ h l < g t + μ 51 (l * 12 + t)) (Q : mj_Q) : mj_call L d 49 [.inr (.inr 42), .inl l, .inl t, .inl (l * 12 + t)] c (pz x y z) (PM μ g p h q) Q = Q [.inl 1] c (pz x y z) (PM μ g p (mj_pt h l (g t + μ 51 (l * 12 + t))) (mj_pt q l t)) := by
  refine mj_call_eq ?_ Q
  have w1 : mj_w (g t + μ 51 (l * 12 + t)) = g t + μ 51 (l * 12 + t) := mj_w_id (by omega) (by omega)
  have e1 := eq_false hc.1
  have e2 := eq_true hc.2
  simp only [w1, e1, e2, PM_42, PM_43, PM_44, PM_45, PM_46, PM_47, PM_48, PM_49, PM_50, PM_51, PM_u44, PM_u45, PM_u47, PM_u48, e_49, mj_go_eq, g_cut, g_k0, g_k1, g_w0, g_w1, g_w2, g_w3, g_w4, g_c1, g_c2, g_c3, g_us, g_ldr_0, g_getr, g_ldi_2, g_iald, g_ldi_3, g_iadd, g_sti_4, g_const, g_iceq, g_ldi_4, g_ldi_1, g_icgt, g_zret, g_iast, a_49_0, a_49_1, a_49_4, a_49_5, a_49_6, a_49_7, a_49_10, a_49_11, a_49_12, a_49_13, a_49_15, a_49_16, a_49_19, a_49_20, a_49_21, a_49_24, a_49_27, a_49_29, a_49_30, a_49_33, a_49_34, a_49_35, a_49_38, a_49_39, a_49_40, a_49_41, a_49_44, a_49_45, a_49_47, a_49_48, a_49_49, a_49_52, a_49_53, a_49_54, a_49_55, a_49_56, ne_eq, not_false_eq_true, true_and, and_true, and_self, Int.cast_ofNat_Int, reduceCtorEq, or_false, false_or, not_true_eq_false, or_true, true_or, Int.reduceToNat, Int.reduceAdd, Int.reduceEq, Int.reduceNe, Int.reduceLT, Int.reduceLE, Int.reduceNeg, Int.reduceSub, Int.reduceMul, Nat.reduceAdd, Nat.reduceLT, Nat.reduceLeDiff, Nat.reduceEqDiff, forall_const, false_implies, true_implies, p_1_0, p_1_1, p_1_2, p_1_3, p_1_4, p_1_5, p_1_6, p_1_7, p_1_8, p_1_9, p_2_0, p_4_0, p_4_1, p_4_2, p_4_3, p_4_4, p_4_5, p_5_0, p_5_1, p_5_2, p_5_3, p_5_4, p_5_5, p_12_0, p_12_1, p_12_2, p_12_3, p_12_4, p_18_0, p_18_1, p_18_2, p_18_3, p_23_0, p_23_1, p_23_2, p_23_3, p_23_4, p_31_0, p_31_1, p_31_2, p_31_3, p_36_0, p_36_1, p_36_2, p_36_3, p_36_4, p_42_0, p_42_1, p_42_2, p_42_3, p_42_4, p_42_5, p_42_6, p_42_7, p_42_8, p_52_0, p_52_1, p_52_2, p_52_3, p_52_4, p_52_5, p_52_6, p_58_0, p_58_1, p_58_2, p_62_0, p_62_1, p_62_2, p_62_3, p_67_1, p_67_2, p_67_3, p_67_4, p_67_13, p_67_15, p_67_16, p_67_17, p_67_18, p_67_19, p_67_21, p_67_22, p_67_23, p_67_24, p_67_25, p_67_26, p_67_28, p_67_29, p_67_30, p_67_31, p_67_33, p_67_34, p_67_35, p_67_36, p_67_37, p_67_38, p_67_39, p_67_40, p_67_41, p_67_42, p_67_43, p_67_44, p_67_48, p_67_49, p_67_50, p_67_51, p_67_52, p_67_53, p_67_54, p_67_55, p_x, p_y, p_z, p_sx, p_sy, p_sz, y_1, y_2, y_3, y_4, y_5, y_6, y_7, y_8, y_9, y_10, y_11, y_12, y_13, y_14, y_15, y_16, y_17, y_18, y_19, y_20, y_21, y_22, y_23, y_24, y_25, y_26, y_27, y_28, y_29, y_30, y_31, y_32, y_33, y_34, y_35, y_36, y_37, y_38, y_39, y_40, y_41, y_42, y_43, y_44, y_45, y_46, y_47, y_48, y_49, y_50, y_51, y_52, y_53, y_54, y_55, y_56, y_57, y_58, y_59, y_60, y_61, y_62, y_63, y_64, y_65, y_66, y_67, y_68, y_69, y_70, y_71, y_72, y_73, y_74, y_75, y_76, y_77, y_78, y_79, y_80, y_81, y_82, y_83, y_84, y_85, y_86, y_87, y_88, y_89, y_90, y_91, y_92, y_93, y_94, y_95, y_96, y_97, y_98, y_99, y_100, y_101, y_102, y_103, y_104, y_105, y_106, y_107, y_108, y_109, y_1000, y_1001, y_1002, y_1003]
  repeat' (first | intro _ | with_reducible apply And.intro)
  all_goals (first | omega | trivial | rfl | skip)
theorem c_Pa_take0 {L d c x y z : Nat} {μ : mj_M} {g p h q : Int → Int} {l t : Int} (hl : 0 ≤ l ∧ l < 10) (ht : 0 ≤ t ∧ t < 12) (hg : -1000 ≤ g t ∧ g t ≤ 1) (hw : 0 ≤ μ 51 (l * 12 + t) ∧ μ 51 (l * 12 + t) ≤ 1) (hc : ¬ (g t ≠ -1000 ∧ h l < g t + μ 51 (l * 12 + t))) (Q : mj_Q) : mj_call L d 49 [.inr (.inr 42), .inl l, .inl t, .inl (l * 12 + t)] c (pz x y z) (PM μ g p h q) Q = Q [.inl 0] c (pz x y z) (PM μ g p h q) := by
  refine mj_call_eq ?_ Q
  have w1 : mj_w (g t + μ 51 (l * 12 + t)) = g t + μ 51 (l * 12 + t) := mj_w_id (by omega) (by omega)
  by_cases e : g t = -1000
  · have e1 := eq_true e
    simp only [w1, e1, PM_42, PM_43, PM_44, PM_45, PM_46, PM_47, PM_48, PM_49, PM_50, PM_51, PM_u44, PM_u45, PM_u47, PM_u48, e_49, mj_go_eq, g_cut, g_k0, g_k1, g_w0, g_w1, g_w2, g_w3, g_w4, g_c1, g_c2, g_c3, g_us, g_ldr_0, g_getr, g_ldi_2, g_iald, g_ldi_3, g_iadd, g_sti_4, g_const, g_iceq, g_ldi_4, g_ldi_1, g_icgt, g_zret, g_iast, a_49_0, a_49_1, a_49_4, a_49_5, a_49_6, a_49_7, a_49_10, a_49_11, a_49_12, a_49_13, a_49_15, a_49_16, a_49_19, a_49_20, a_49_21, a_49_24, a_49_27, a_49_29, a_49_30, a_49_33, a_49_34, a_49_35, a_49_38, a_49_39, a_49_40, a_49_41, a_49_44, a_49_45, a_49_47, a_49_48, a_49_49, a_49_52, a_49_53, a_49_54, a_49_55, a_49_56, ne_eq, not_false_eq_true, true_and, and_true, and_self, Int.cast_ofNat_Int, reduceCtorEq, or_false, false_or, not_true_eq_false, or_true, true_or, Int.reduceToNat, Int.reduceAdd, Int.reduceEq, Int.reduceNe, Int.reduceLT, Int.reduceLE, Int.reduceNeg, Int.reduceSub, Int.reduceMul, Nat.reduceAdd, Nat.reduceLT, Nat.reduceLeDiff, Nat.reduceEqDiff, forall_const, false_implies, true_implies, p_1_0, p_1_1, p_1_2, p_1_3, p_1_4, p_1_5, p_1_6, p_1_7, p_1_8, p_1_9, p_2_0, p_4_0, p_4_1, p_4_2, p_4_3, p_4_4, p_4_5, p_5_0, p_5_1, p_5_2, p_5_3, p_5_4, p_5_5, p_12_0, p_12_1, p_12_2, p_12_3, p_12_4, p_18_0, p_18_1, p_18_2, p_18_3, p_23_0, p_23_1, p_23_2, p_23_3, p_23_4, p_31_0, p_31_1, p_31_2, p_31_3, p_36_0, p_36_1, p_36_2, p_36_3, p_36_4, p_42_0, p_42_1, p_42_2, p_42_3, p_42_4, p_42_5, p_42_6, p_42_7, p_42_8, p_52_0, p_52_1, p_52_2, p_52_3, p_52_4, p_52_5, p_52_6, p_58_0, p_58_1, p_58_2, p_62_0, p_62_1, p_62_2, p_62_3, p_67_1, p_67_2, p_67_3, p_67_4, p_67_13, p_67_15, p_67_16, p_67_17, p_67_18, p_67_19, p_67_21, p_67_22, p_67_23, p_67_24, p_67_25, p_67_26, p_67_28, p_67_29, p_67_30, p_67_31, p_67_33, p_67_34, p_67_35, p_67_36, p_67_37, p_67_38, p_67_39, p_67_40, p_67_41, p_67_42, p_67_43, p_67_44, p_67_48, p_67_49, p_67_50, p_67_51, p_67_52, p_67_53, p_67_54, p_67_55, p_x, p_y, p_z, p_sx, p_sy, p_sz, y_1, y_2, y_3, y_4, y_5, y_6, y_7, y_8, y_9, y_10, y_11, y_12, y_13, y_14, y_15, y_16, y_17, y_18, y_19, y_20, y_21, y_22, y_23, y_24, y_25, y_26, y_27, y_28, y_29, y_30, y_31, y_32, y_33, y_34, y_35, y_36, y_37, y_38, y_39, y_40, y_41, y_42, y_43, y_44, y_45, y_46, y_47, y_48, y_49, y_50, y_51, y_52, y_53, y_54, y_55, y_56, y_57, y_58, y_59, y_60, y_61, y_62, y_63, y_64, y_65, y_66, y_67, y_68, y_69, y_70, y_71, y_72, y_73, y_74, y_75, y_76, y_77, y_78, y_79, y_80, y_81, y_82, y_83, y_84, y_85, y_86, y_87, y_88, y_89, y_90, y_91, y_92, y_93, y_94, y_95, y_96, y_97, y_98, y_99, y_100, y_101, y_102, y_103, y_104, y_105, y_106, y_107, y_108, y_109, y_1000, y_1001, y_1002, y_1003]
    repeat' (first | intro _ | with_reducible apply And.intro)
    all_goals (first | omega | trivial | rfl | skip)
  · have e1 := eq_false e
    have e2 : (h l < g t + μ 51 (l * 12 + t)) = False := eq_false (fun z => hc ⟨e, z⟩)
    simp only [w1, e1, e2, PM_42, PM_43, PM_44, PM_45, PM_46, PM_47, PM_48, PM_49, PM_50, PM_51, PM_u44, PM_u45, PM_u47, PM_u48, e_49, mj_go_eq, g_cut, g_k0, g_k1, g_w0, g_w1, g_w2, g_w3, g_w4, g_c1, g_c2, g_c3, g_us, g_ldr_0, g_getr, g_ldi_2, g_iald, g_ldi_3, g_iadd, g_sti_4, g_const, g_iceq, g_ldi_4, g_ldi_1, g_icgt, g_zret, g_iast, a_49_0, a_49_1, a_49_4, a_49_5, a_49_6, a_49_7, a_49_10, a_49_11, a_49_12, a_49_13, a_49_15, a_49_16, a_49_19, a_49_20, a_49_21, a_49_24, a_49_27, a_49_29, a_49_30, a_49_33, a_49_34, a_49_35, a_49_38, a_49_39, a_49_40, a_49_41, a_49_44, a_49_45, a_49_47, a_49_48, a_49_49, a_49_52, a_49_53, a_49_54, a_49_55, a_49_56, ne_eq, not_false_eq_true, true_and, and_true, and_self, Int.cast_ofNat_Int, reduceCtorEq, or_false, false_or, not_true_eq_false, or_true, true_or, Int.reduceToNat, Int.reduceAdd, Int.reduceEq, Int.reduceNe, Int.reduceLT, Int.reduceLE, Int.reduceNeg, Int.reduceSub, Int.reduceMul, Nat.reduceAdd, Nat.reduceLT, Nat.reduceLeDiff, Nat.reduceEqDiff, forall_const, false_implies, true_implies, p_1_0, p_1_1, p_1_2, p_1_3, p_1_4, p_1_5, p_1_6, p_1_7, p_1_8, p_1_9, p_2_0, p_4_0, p_4_1, p_4_2, p_4_3, p_4_4, p_4_5, p_5_0, p_5_1, p_5_2, p_5_3, p_5_4, p_5_5, p_12_0, p_12_1, p_12_2, p_12_3, p_12_4, p_18_0, p_18_1, p_18_2, p_18_3, p_23_0, p_23_1, p_23_2, p_23_3, p_23_4, p_31_0, p_31_1, p_31_2, p_31_3, p_36_0, p_36_1, p_36_2, p_36_3, p_36_4, p_42_0, p_42_1, p_42_2, p_42_3, p_42_4, p_42_5, p_42_6, p_42_7, p_42_8, p_52_0, p_52_1, p_52_2, p_52_3, p_52_4, p_52_5, p_52_6, p_58_0, p_58_1, p_58_2, p_62_0, p_62_1, p_62_2, p_62_3, p_67_1, p_67_2, p_67_3, p_67_4, p_67_13, p_67_15, p_67_16, p_67_17, p_67_18, p_67_19, p_67_21, p_67_22, p_67_23, p_67_24, p_67_25, p_67_26, p_67_28, p_67_29, p_67_30, p_67_31, p_67_33, p_67_34, p_67_35, p_67_36, p_67_37, p_67_38, p_67_39, p_67_40, p_67_41, p_67_42, p_67_43, p_67_44, p_67_48, p_67_49, p_67_50, p_67_51, p_67_52, p_67_53, p_67_54, p_67_55, p_x, p_y, p_z, p_sx, p_sy, p_sz, y_1, y_2, y_3, y_4, y_5, y_6, y_7, y_8, y_9, y_10, y_11, y_12, y_13, y_14, y_15, y_16, y_17, y_18, y_19, y_20, y_21, y_22, y_23, y_24, y_25, y_26, y_27, y_28, y_29, y_30, y_31, y_32, y_33, y_34, y_35, y_36, y_37, y_38, y_39, y_40, y_41, y_42, y_43, y_44, y_45, y_46, y_47, y_48, y_49, y_50, y_51, y_52, y_53, y_54, y_55, y_56, y_57, y_58, y_59, y_60, y_61, y_62, y_63, y_64, y_65, y_66, y_67, y_68, y_69, y_70, y_71, y_72, y_73, y_74, y_75, y_76, y_77, y_78, y_79, y_80, y_81, y_82, y_83, y_84, y_85, y_86, y_87, y_88, y_89, y_90, y_91, y_92, y_93, y_94, y_95, y_96, y_97, y_98, y_99, y_100, y_101, y_102, y_103, y_104, y_105, y_106, y_107, y_108, y_109, y_1000, y_1001, y_1002, y_1003]
    repeat' (first | intro _ | with_reducible apply And.intro)
    all_goals (first | omega | trivial | rfl | skip)
theorem c_Pa_giveUp1 {L d c x y z : Nat} {μ : mj_M} {g p h q : Int → Int} {l t : Int} (hl : 0 ≤ l ∧ l < 10) (ht : 0 ≤ t ∧ t < 12) (hg : -1000 ≤ h l ∧ h l ≤ 1) (hw : 0 ≤ μ 51 (l * 12 + t) ∧ μ 51 (l * 12 + t) ≤ 1) (hc : h l ≠ -1000 ∧ g t < h l - μ 51 (l * 12 + t)) (Q : mj_Q) : mj_call L d 50 [.inr (.inr 42), .inl l, .inl t, .inl (l * 12 + t)] c (pz x y z) (PM μ g p h q) Q = Q [.inl 1] c (pz x y z) (PM μ (mj_pt g t (h l - μ 51 (l * 12 + t))) (mj_pt p t l) h q) := by
  refine mj_call_eq ?_ Q
  have w1 : mj_w (h l - μ 51 (l * 12 + t)) = h l - μ 51 (l * 12 + t) := mj_w_id (by omega) (by omega)
  have e1 := eq_false hc.1
  have e2 := eq_true hc.2
  simp only [w1, e1, e2, PM_42, PM_43, PM_44, PM_45, PM_46, PM_47, PM_48, PM_49, PM_50, PM_51, PM_u44, PM_u45, PM_u47, PM_u48, e_50, mj_go_eq, g_cut, g_k0, g_k1, g_w0, g_w1, g_w2, g_w3, g_w4, g_c1, g_c2, g_c3, g_us, g_ldr_0, g_getr, g_ldi_1, g_iald, g_ldi_3, g_isub, g_sti_4, g_const, g_iceq, g_ldi_4, g_ldi_2, g_icgt, g_zret, g_iast, a_50_0, a_50_1, a_50_4, a_50_5, a_50_6, a_50_7, a_50_10, a_50_11, a_50_12, a_50_13, a_50_15, a_50_16, a_50_19, a_50_20, a_50_21, a_50_24, a_50_27, a_50_29, a_50_30, a_50_33, a_50_34, a_50_35, a_50_38, a_50_39, a_50_40, a_50_41, a_50_44, a_50_45, a_50_47, a_50_48, a_50_49, a_50_52, a_50_53, a_50_54, a_50_55, a_50_56, ne_eq, not_false_eq_true, true_and, and_true, and_self, Int.cast_ofNat_Int, reduceCtorEq, or_false, false_or, not_true_eq_false, or_true, true_or, Int.reduceToNat, Int.reduceAdd, Int.reduceEq, Int.reduceNe, Int.reduceLT, Int.reduceLE, Int.reduceNeg, Int.reduceSub, Int.reduceMul, Nat.reduceAdd, Nat.reduceLT, Nat.reduceLeDiff, Nat.reduceEqDiff, forall_const, false_implies, true_implies, p_1_0, p_1_1, p_1_2, p_1_3, p_1_4, p_1_5, p_1_6, p_1_7, p_1_8, p_1_9, p_2_0, p_4_0, p_4_1, p_4_2, p_4_3, p_4_4, p_4_5, p_5_0, p_5_1, p_5_2, p_5_3, p_5_4, p_5_5, p_12_0, p_12_1, p_12_2, p_12_3, p_12_4, p_18_0, p_18_1, p_18_2, p_18_3, p_23_0, p_23_1, p_23_2, p_23_3, p_23_4, p_31_0, p_31_1, p_31_2, p_31_3, p_36_0, p_36_1, p_36_2, p_36_3, p_36_4, p_42_0, p_42_1, p_42_2, p_42_3, p_42_4, p_42_5, p_42_6, p_42_7, p_42_8, p_52_0, p_52_1, p_52_2, p_52_3, p_52_4, p_52_5, p_52_6, p_58_0, p_58_1, p_58_2, p_62_0, p_62_1, p_62_2, p_62_3, p_67_1, p_67_2, p_67_3, p_67_4, p_67_13, p_67_15, p_67_16, p_67_17, p_67_18, p_67_19, p_67_21, p_67_22, p_67_23, p_67_24, p_67_25, p_67_26, p_67_28, p_67_29, p_67_30, p_67_31, p_67_33, p_67_34, p_67_35, p_67_36, p_67_37, p_67_38, p_67_39, p_67_40, p_67_41, p_67_42, p_67_43, p_67_44, p_67_48, p_67_49, p_67_50, p_67_51, p_67_52, p_67_53, p_67_54, p_67_55, p_x, p_y, p_z, p_sx, p_sy, p_sz, y_1, y_2, y_3, y_4, y_5, y_6, y_7, y_8, y_9, y_10, y_11, y_12, y_13, y_14, y_15, y_16, y_17, y_18, y_19, y_20, y_21, y_22, y_23, y_24, y_25, y_26, y_27, y_28, y_29, y_30, y_31, y_32, y_33, y_34, y_35, y_36, y_37, y_38, y_39, y_40, y_41, y_42, y_43, y_44, y_45, y_46, y_47, y_48, y_49, y_50, y_51, y_52, y_53, y_54, y_55, y_56, y_57, y_58, y_59, y_60, y_61, y_62, y_63, y_64, y_65, y_66, y_67, y_68, y_69, y_70, y_71, y_72, y_73, y_74, y_75, y_76, y_77, y_78, y_79, y_80, y_81, y_82, y_83, y_84, y_85, y_86, y_87, y_88, y_89, y_90, y_91, y_92, y_93, y_94, y_95, y_96, y_97, y_98, y_99, y_100, y_101, y_102, y_103, y_104, y_105, y_106, y_107, y_108, y_109, y_1000, y_1001, y_1002, y_1003]
  repeat' (first | intro _ | with_reducible apply And.intro)
  all_goals (first | omega | trivial | rfl | skip)
theorem c_Pa_giveUp0 {L d c x y z : Nat} {μ : mj_M} {g p h q : Int → Int} {l t : Int} (hl : 0 ≤ l ∧ l < 10) (ht : 0 ≤ t ∧ t < 12) (hg : -1000 ≤ h l ∧ h l ≤ 1) (hw : 0 ≤ μ 51 (l * 12 + t) ∧ μ 51 (l * 12 + t) ≤ 1) (hc : ¬ (h l ≠ -1000 ∧ g t < h l - μ 51 (l * 12 + t))) (Q : mj_Q) : mj_call L d 50 [.inr (.inr 42), .inl l, .inl t, .inl (l * 12 + t)] c (pz x y z) (PM μ g p h q) Q = Q [.inl 0] c (pz x y z) (PM μ g p h q) := by
  refine mj_call_eq ?_ Q
  have w1 : mj_w (h l - μ 51 (l * 12 + t)) = h l - μ 51 (l * 12 + t) := mj_w_id (by omega) (by omega)
  by_cases e : h l = -1000
  · have e1 := eq_true e
    simp only [w1, e1, PM_42, PM_43, PM_44, PM_45, PM_46, PM_47, PM_48, PM_49, PM_50, PM_51, PM_u44, PM_u45, PM_u47, PM_u48, e_50, mj_go_eq, g_cut, g_k0, g_k1, g_w0, g_w1, g_w2, g_w3, g_w4, g_c1, g_c2, g_c3, g_us, g_ldr_0, g_getr, g_ldi_1, g_iald, g_ldi_3, g_isub, g_sti_4, g_const, g_iceq, g_ldi_4, g_ldi_2, g_icgt, g_zret, g_iast, a_50_0, a_50_1, a_50_4, a_50_5, a_50_6, a_50_7, a_50_10, a_50_11, a_50_12, a_50_13, a_50_15, a_50_16, a_50_19, a_50_20, a_50_21, a_50_24, a_50_27, a_50_29, a_50_30, a_50_33, a_50_34, a_50_35, a_50_38, a_50_39, a_50_40, a_50_41, a_50_44, a_50_45, a_50_47, a_50_48, a_50_49, a_50_52, a_50_53, a_50_54, a_50_55, a_50_56, ne_eq, not_false_eq_true, true_and, and_true, and_self, Int.cast_ofNat_Int, reduceCtorEq, or_false, false_or, not_true_eq_false, or_true, true_or, Int.reduceToNat, Int.reduceAdd, Int.reduceEq, Int.reduceNe, Int.reduceLT, Int.reduceLE, Int.reduceNeg, Int.reduceSub, Int.reduceMul, Nat.reduceAdd, Nat.reduceLT, Nat.reduceLeDiff, Nat.reduceEqDiff, forall_const, false_implies, true_implies, p_1_0, p_1_1, p_1_2, p_1_3, p_1_4, p_1_5, p_1_6, p_1_7, p_1_8, p_1_9, p_2_0, p_4_0, p_4_1, p_4_2, p_4_3, p_4_4, p_4_5, p_5_0, p_5_1, p_5_2, p_5_3, p_5_4, p_5_5, p_12_0, p_12_1, p_12_2, p_12_3, p_12_4, p_18_0, p_18_1, p_18_2, p_18_3, p_23_0, p_23_1, p_23_2, p_23_3, p_23_4, p_31_0, p_31_1, p_31_2, p_31_3, p_36_0, p_36_1, p_36_2, p_36_3, p_36_4, p_42_0, p_42_1, p_42_2, p_42_3, p_42_4, p_42_5, p_42_6, p_42_7, p_42_8, p_52_0, p_52_1, p_52_2, p_52_3, p_52_4, p_52_5, p_52_6, p_58_0, p_58_1, p_58_2, p_62_0, p_62_1, p_62_2, p_62_3, p_67_1, p_67_2, p_67_3, p_67_4, p_67_13, p_67_15, p_67_16, p_67_17, p_67_18, p_67_19, p_67_21, p_67_22, p_67_23, p_67_24, p_67_25, p_67_26, p_67_28, p_67_29, p_67_30, p_67_31, p_67_33, p_67_34, p_67_35, p_67_36, p_67_37, p_67_38, p_67_39, p_67_40, p_67_41, p_67_42, p_67_43, p_67_44, p_67_48, p_67_49, p_67_50, p_67_51, p_67_52, p_67_53, p_67_54, p_67_55, p_x, p_y, p_z, p_sx, p_sy, p_sz, y_1, y_2, y_3, y_4, y_5, y_6, y_7, y_8, y_9, y_10, y_11, y_12, y_13, y_14, y_15, y_16, y_17, y_18, y_19, y_20, y_21, y_22, y_23, y_24, y_25, y_26, y_27, y_28, y_29, y_30, y_31, y_32, y_33, y_34, y_35, y_36, y_37, y_38, y_39, y_40, y_41, y_42, y_43, y_44, y_45, y_46, y_47, y_48, y_49, y_50, y_51, y_52, y_53, y_54, y_55, y_56, y_57, y_58, y_59, y_60, y_61, y_62, y_63, y_64, y_65, y_66, y_67, y_68, y_69, y_70, y_71, y_72, y_73, y_74, y_75, y_76, y_77, y_78, y_79, y_80, y_81, y_82, y_83, y_84, y_85, y_86, y_87, y_88, y_89, y_90, y_91, y_92, y_93, y_94, y_95, y_96, y_97, y_98, y_99, y_100, y_101, y_102, y_103, y_104, y_105, y_106, y_107, y_108, y_109, y_1000, y_1001, y_1002, y_1003]
    repeat' (first | intro _ | with_reducible apply And.intro)
    all_goals (first | omega | trivial | rfl | skip)
  · have e1 := eq_false e
    have e2 : (g t < h l - μ 51 (l * 12 + t)) = False := eq_false (fun z => hc ⟨e, z⟩)
    simp only [w1, e1, e2, PM_42, PM_43, PM_44, PM_45, PM_46, PM_47, PM_48, PM_49, PM_50, PM_51, PM_u44, PM_u45, PM_u47, PM_u48, e_50, mj_go_eq, g_cut, g_k0, g_k1, g_w0, g_w1, g_w2, g_w3, g_w4, g_c1, g_c2, g_c3, g_us, g_ldr_0, g_getr, g_ldi_1, g_iald, g_ldi_3, g_isub, g_sti_4, g_const, g_iceq, g_ldi_4, g_ldi_2, g_icgt, g_zret, g_iast, a_50_0, a_50_1, a_50_4, a_50_5, a_50_6, a_50_7, a_50_10, a_50_11, a_50_12, a_50_13, a_50_15, a_50_16, a_50_19, a_50_20, a_50_21, a_50_24, a_50_27, a_50_29, a_50_30, a_50_33, a_50_34, a_50_35, a_50_38, a_50_39, a_50_40, a_50_41, a_50_44, a_50_45, a_50_47, a_50_48, a_50_49, a_50_52, a_50_53, a_50_54, a_50_55, a_50_56, ne_eq, not_false_eq_true, true_and, and_true, and_self, Int.cast_ofNat_Int, reduceCtorEq, or_false, false_or, not_true_eq_false, or_true, true_or, Int.reduceToNat, Int.reduceAdd, Int.reduceEq, Int.reduceNe, Int.reduceLT, Int.reduceLE, Int.reduceNeg, Int.reduceSub, Int.reduceMul, Nat.reduceAdd, Nat.reduceLT, Nat.reduceLeDiff, Nat.reduceEqDiff, forall_const, false_implies, true_implies, p_1_0, p_1_1, p_1_2, p_1_3, p_1_4, p_1_5, p_1_6, p_1_7, p_1_8, p_1_9, p_2_0, p_4_0, p_4_1, p_4_2, p_4_3, p_4_4, p_4_5, p_5_0, p_5_1, p_5_2, p_5_3, p_5_4, p_5_5, p_12_0, p_12_1, p_12_2, p_12_3, p_12_4, p_18_0, p_18_1, p_18_2, p_18_3, p_23_0, p_23_1, p_23_2, p_23_3, p_23_4, p_31_0, p_31_1, p_31_2, p_31_3, p_36_0, p_36_1, p_36_2, p_36_3, p_36_4, p_42_0, p_42_1, p_42_2, p_42_3, p_42_4, p_42_5, p_42_6, p_42_7, p_42_8, p_52_0, p_52_1, p_52_2, p_52_3, p_52_4, p_52_5, p_52_6, p_58_0, p_58_1, p_58_2, p_62_0, p_62_1, p_62_2, p_62_3, p_67_1, p_67_2, p_67_3, p_67_4, p_67_13, p_67_15, p_67_16, p_67_17, p_67_18, p_67_19, p_67_21, p_67_22, p_67_23, p_67_24, p_67_25, p_67_26, p_67_28, p_67_29, p_67_30, p_67_31, p_67_33, p_67_34, p_67_35, p_67_36, p_67_37, p_67_38, p_67_39, p_67_40, p_67_41, p_67_42, p_67_43, p_67_44, p_67_48, p_67_49, p_67_50, p_67_51, p_67_52, p_67_53, p_67_54, p_67_55, p_x, p_y, p_z, p_sx, p_sy, p_sz, y_1, y_2, y_3, y_4, y_5, y_6, y_7, y_8, y_9, y_10, y_11, y_12, y_13, y_14, y_15, y_16, y_17, y_18, y_19, y_20, y_21, y_22, y_23, y_24, y_25, y_26, y_27, y_28, y_29, y_30, y_31, y_32, y_33, y_34, y_35, y_36, y_37, y_38, y_39, y_40, y_41, y_42, y_43, y_44, y_45, y_46, y_47, y_48, y_49, y_50, y_51, y_52, y_53, y_54, y_55, y_56, y_57, y_58, y_59, y_60, y_61, y_62, y_63, y_64, y_65, y_66, y_67, y_68, y_69, y_70, y_71, y_72, y_73, y_74, y_75, y_76, y_77, y_78, y_79, y_80, y_81, y_82, y_83, y_84, y_85, y_86, y_87, y_88, y_89, y_90, y_91, y_92, y_93, y_94, y_95, y_96, y_97, y_98, y_99, y_100, y_101, y_102, y_103, y_104, y_105, y_106, y_107, y_108, y_109, y_1000, y_1001, y_1002, y_1003]
    repeat' (first | intro _ | with_reducible apply And.intro)
    all_goals (first | omega | trivial | rfl | skip)
