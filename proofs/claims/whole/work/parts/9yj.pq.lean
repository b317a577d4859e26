set_option maxRecDepth 20000
/-! turn, solve -/
theorem cs_nn {can x : Int → Int} (h : cs_x can x) {u k : Int} {n : Nat} (hk : ∀ i : Nat, i < n → 0 ≤ u + k * i ∧ u + k * i < 120) : 0 ≤ zs (fun i => x (u + k * i)) n := by
  have := zs_bd2 (f := fun i => x (u + k * i)) (b := 1) (n := n) (fun i hi => by have := (h (u + k * i) (hk i hi).1 (hk i hi).2).1; omega)
  exact this.1
theorem cs_b100 {can wt ra cb f a b x : Int → Int} {la P K : Int} (h : cs_I can wt ra cb f la a b x P K) (hcb : ∀ t : Int, 0 ≤ t → t < 12 → cb t ≤ 100) : ∀ t : Int, 0 ≤ t → t < 12 → b t ≤ 100 := by
  intro t a1 a2
  have q1 := h.2.2.2.1 t a1 a2
  have q2 := hcb t a1 a2
  have q3 := cs_nn h.2.1 (u := t) (k := 12) (n := 10) (fun i hi => by omega)
  rw [zs_cg (q := fun l => x (l * 12 + t)) (fun i _ => by rw [show t + 12 * (i : Int) = i * 12 + t by omega])] at q3
  omega
theorem cs_a100 {can wt ra cb f a b x : Int → Int} {la P K : Int} (h : cs_I can wt ra cb f la a b x P K) (hra : ∀ l : Int, 0 ≤ l → l < 10 → ra l ≤ 100) : ∀ l : Int, 0 ≤ l → l < 10 → a l ≤ 100 := by
  intro l a1 a2
  have q1 := h.2.2.1 l a1 a2
  have q2 := hra l a1 a2
  have q3 := cs_nn h.2.1 (u := l * 12) (k := 1) (n := 12) (fun i hi => by omega)
  rw [zs_cg (q := fun t => x (l * 12 + t)) (fun i _ => by rw [Int.one_mul])] at q3
  omega
theorem c_Pa_turn {L d c x y z : Nat} {ν : mj_M} {ra cb f g h : Int → Int} {r : Int → Nat} {la P K last : Int} (hI : cs_I (ν 49) (ν 51) ra cb f la (ν 46) (ν 43) (ν 50) P K) (hB : cn_B ν f g (ν 45) h (ν 48) r) (hX : pb_X (-1000) (cn_A (ν 49) (ν 50)) (cn_w (ν 51)) (cn_G g h)) (hL : cn_L (ν 46) h 10 last) (h0 : 0 ≤ last) (hcb : ∀ t : Int, 0 ≤ t → t < 12 → cb t ≤ 100) (hra : ∀ l : Int, 0 ≤ l → l < 10 → ra l ≤ 100) :
    ∃ a x' b f' : Int → Int, cs_I (ν 49) (ν 51) ra cb f' (h last) a b x' (P + 1) (K + h last) ∧ ∀ Q : mj_Q, mj_call L d 51 [.inr (.inr 42), .inl last] c (pz x y z) ν Q = Q [] c (pz x y z) (TM ν a x' b) := by
  have hN := cs_I_N hI
  have hbd := cs_b100 hI hcb
  have had := cs_a100 hI hra
  have hL' : (0 ≤ last ∧ last < 10) ∧ 0 < ν 46 last ∧ -1000 < h last ∧ ∀ l : Int, 0 ≤ l → l < 10 → 0 < ν 46 l → h l ≤ h last := by
    rcases hL with q | q
    · omega
    · exact q
  obtain ⟨hl, ha, hu, hm⟩ := hL'
  obtain ⟨i1, i2, i3, i4, i5, i6, i7, i8, i9, i10⟩ := id hI
  have hG : cn_G g h (12 + last) = h last := cn_G_l hl.1
  have hBl := (hB (12 + last) (by omega) (by omega)).1
  rw [hG] at hBl
  have hla := (i8 last hl.1 hl.2).2 ha
  have hE : 0 ≤ la - h last := by omega
  have hN' := pb_f_N (E := la - h last) (by decide) hE hN hB hX
  have hf' : cs_f (ν 49) (ν 51) (ν 50) (pb_f (-1000) (la - h last) f (cn_G g h)) := cs_f_of hN'
  have hS : ∀ t : Int, cn_S (ν 43) t → pb_f (-1000) (la - h last) f (cn_G g h) t = 0 := fun t s => (hN'.2.1 t s).2.2
  have h1 : ∀ t : Int, 0 ≤ t → t < 12 → pb_f (-1000) (la - h last) f (cn_G g h) t ≤ 0 := fun t a1 a2 => by
    have := (pb_f_bd (E := la - h last) hE hB a1 (show t < ((22 : Nat) : Int) by omega)).1
    have := i7 t a1 a2
    omega
  have h2 : ∀ l : Int, 0 ≤ l → l < 10 → (h last ≤ pb_f (-1000) (la - h last) f (cn_G g h) (12 + l) ∧ pb_f (-1000) (la - h last) f (cn_G g h) (12 + l) ≤ 1) ∧ (0 < mj_pt (ν 46) last (ν 46 last - 1) l → pb_f (-1000) (la - h last) f (cn_G g h) (12 + l) = h last) := fun l a1 a2 => by
    have b1 := pb_f_bd (E := la - h last) hE hB (show 0 ≤ 12 + l by omega) (show 12 + l < ((22 : Nat) : Int) by omega)
    have b2 := i8 l a1 a2
    refine ⟨⟨by omega, by omega⟩, fun ha' => ?_⟩
    have b3 : 0 < ν 46 l := by
      by_cases e : l = last
      · subst e; exact ha
      · rw [g_pn e] at ha'; exact ha'
    have b4 := b2.2 b3
    have b5 := hm l a1 a2 b3
    unfold pb_f
    rw [cn_G_l a1]
    split <;> omega
  have hk := (pb_k_bd (N := 22) (r := r) (v := 12 + last) (by omega)).2
  have w1 : mj_w (ν 46 last - 1) = ν 46 last - 1 := by have := had last hl.1 hl.2; exact mj_w_id (by omega) (by omega)
  have z1 : (0 ≤ last) = True := eq_true hl.1
  have z2 : (last < 10) = True := eq_true hl.2
  have hrun : mj_call L d 51 [.inr (.inr 42), .inl last] c (pz x y z) ν (fun r0 c' π' μ' => ∃ x' b, cs_I (ν 49) (ν 51) ra cb (pb_f (-1000) (la - h last) f (cn_G g h)) (h last) (mj_pt (ν 46) last (ν 46 last - 1)) b x' (P + 1) (K + h last) ∧ r0 = [] ∧ c' = c ∧ π' = pz x y z ∧ μ' = TM ν (mj_pt (ν 46) last (ν 46 last - 1)) x' b) := by
    have h3 := tu_loop (L := L) (d := d) (c := c) (x := x) (y := y) (z := z) (ν := ν) (a := mj_pt (ν 46) last (ν 46 last - 1)) (last := last) (ra := ra) (cb := cb) (P := P) (K := K) (Q := fun r0 c' π' μ' => ∃ x' b, cs_I (ν 49) (ν 51) ra cb (pb_f (-1000) (la - h last) f (cn_G g h)) (h last) (mj_pt (ν 46) last (ν 46 last - 1)) b x' (P + 1) (K + h last) ∧ r0 = [] ∧ c' = c ∧ π' = pz x y z ∧ μ' = TM ν (mj_pt (ν 46) last (ν 46 last - 1)) x' b) hN hB hX i1 (fun t a1 a2 => ⟨(i4 t a1 a2).1, hbd t a1 a2⟩) hS h1 h2 (fun x' b' hI' => ⟨x', b', hI', rfl, rfl, rfl, rfl⟩) 22 0 (by omega) last (ν 50) mj_nul hk (by omega) (by omega) (tu_first hI hf' hl ha)
    have e : mj_up ν 46 last (ν 46 last - 1) = TM ν (mj_pt (ν 46) last (ν 46 last - 1)) (ν 50) (ν 43) := by
      have := TM_u46 (ν := ν) (a := ν 46) (x := ν 50) (b := ν 43) (i := last) (v := ν 46 last - 1)
      rw [← TM_id] at this
      exact this
    simp only [w1, z1, z2, e, e_51, mj_go_eq, g_cut, g_k0, g_k1, g_w0, g_w1, g_w2, g_w3, g_w4, g_c1, g_c2, g_c3, g_us, g_ldr_0, g_getr, g_ldi_1, g_dup2i, g_dup2r, g_iald, g_const, g_isub, g_iast, g_sti_2, g_sti_3, g_ldi_3, g_icge, g_ldi_2, g_sti_4, g_ldi_4, g_ifge, g_vret, g_imul, g_iadd, g_bast, g_inc_3, g_goto, a_51_0, a_51_1, a_51_4, a_51_5, a_51_6, a_51_7, a_51_8, a_51_9, a_51_10, a_51_11, a_51_12, a_51_13, a_51_14, a_51_15, a_51_17, a_51_20, a_51_21, a_51_24, a_51_25, a_51_26, a_51_28, a_51_30, a_51_33, a_51_34, a_51_35, a_51_38, a_51_39, a_51_41, a_51_42, a_51_44, a_51_45, a_51_46, a_51_47, a_51_48, a_51_51, a_51_53, a_51_54, a_51_55, a_51_56, a_51_59, a_51_60, a_51_63, a_51_65, a_51_66, a_51_67, a_51_68, a_51_69, a_51_70, a_51_71, a_51_72, a_51_75, a_51_76, a_51_78, a_51_79, a_51_81, a_51_82, a_51_83, a_51_84, a_51_87, a_51_90, ne_eq, not_false_eq_true, true_and, and_true, and_self, Int.cast_ofNat_Int, reduceCtorEq, or_false, false_or, not_true_eq_false, or_true, true_or, Int.reduceToNat, Int.reduceAdd, Int.reduceEq, Int.reduceNe, Int.reduceLT, Int.reduceLE, Int.reduceNeg, Int.reduceSub, Int.reduceMul, Nat.reduceAdd, Nat.reduceLT, Nat.reduceLeDiff, Nat.reduceEqDiff, forall_const, false_implies, true_implies, p_1_0, p_1_1, p_1_2, p_1_3, p_1_4, p_1_5, p_1_6, p_1_7, p_1_8, p_1_9, p_2_0, p_4_0, p_4_1, p_4_2, p_4_3, p_4_4, p_4_5, p_5_0, p_5_1, p_5_2, p_5_3, p_5_4, p_5_5, p_12_0, p_12_1, p_12_2, p_12_3, p_12_4, p_18_0, p_18_1, p_18_2, p_18_3, p_23_0, p_23_1, p_23_2, p_23_3, p_23_4, p_31_0, p_31_1, p_31_2, p_31_3, p_36_0, p_36_1, p_36_2, p_36_3, p_36_4, p_42_0, p_42_1, p_42_2, p_42_3, p_42_4, p_42_5, p_42_6, p_42_7, p_42_8, p_52_0, p_52_1, p_52_2, p_52_3, p_52_4, p_52_5, p_52_6, p_58_0, p_58_1, p_58_2, p_62_0, p_62_1, p_62_2, p_62_3, p_67_1, p_67_2, p_67_3, p_67_4, p_67_13, p_67_15, p_67_16, p_67_17, p_67_18, p_67_19, p_67_21, p_67_22, p_67_23, p_67_24, p_67_25, p_67_26, p_67_28, p_67_29, p_67_30, p_67_31, p_67_33, p_67_34, p_67_35, p_67_36, p_67_37, p_67_38, p_67_39, p_67_40, p_67_41, p_67_42, p_67_43, p_67_44, p_67_48, p_67_49, p_67_50, p_67_51, p_67_52, p_67_53, p_67_54, p_67_55, p_x, p_y, p_z, p_sx, p_sy, p_sz, y_1, y_2, y_3, y_4, y_5, y_6, y_7, y_8, y_9, y_10, y_11, y_12, y_13, y_14, y_15, y_16, y_17, y_18, y_19, y_20, y_21, y_22, y_23, y_24, y_25, y_26, y_27, y_28, y_29, y_30, y_31, y_32, y_33, y_34, y_35, y_36, y_37, y_38, y_39, y_40, y_41, y_42, y_43, y_44, y_45, y_46, y_47, y_48, y_49, y_50, y_51, y_52, y_53, y_54, y_55, y_56, y_57, y_58, y_59, y_60, y_61, y_62, y_63, y_64, y_65, y_66, y_67, y_68, y_69, y_70, y_71, y_72, y_73, y_74, y_75, y_76, y_77, y_78, y_79, y_80, y_81, y_82, y_83, y_84, y_85, y_86, y_87, y_88, y_89, y_90, y_91, y_92, y_93, y_94, y_95, y_96, y_97, y_98, y_99, y_100, y_101, y_102, y_103, y_104, y_105, y_106, y_107, y_108, y_109, y_1000, y_1001, y_1002, y_1003]
    exact h3
  obtain ⟨r0, c', π', μ', ⟨x', b, hI', e1, e2, e3, e4⟩, hq⟩ := mj_call_ex hrun
  subst e1; subst e2; subst e3; subst e4
  exact ⟨_, x', b, _, hI', hq⟩
/-- the most pairs, then the most liked: by potentials -/
theorem cs_opt {can wt ra cb f a b x : Int → Int} {la P K : Int} (hI : cs_I can wt ra cb f la a b x P K) (hmax : ∀ y, pq_F (fun l t => can (l * 12 + t)) ra cb y → pq_D y 10 12 ≤ P) : pq_O (fun l t => can (l * 12 + t)) (fun l t => wt (l * 12 + t)) ra cb P K := by
  obtain ⟨i1, i2, i3, i4, i5, i6, i7, i8, i9, i10⟩ := hI
  refine ⟨⟨fun l t => x (l * 12 + t), ⟨fun l t h1 h2 => ?_, fun l h1 => ?_, fun t h1 => ?_⟩, i9, i10⟩, fun y hy => ⟨hmax y hy, fun hP => ?_⟩⟩
  · have := i2 ((l : Int) * 12 + t) (by omega) (by omega)
    rcases this.1 with q | q
    · exact Or.inl q
    · exact Or.inr ⟨q, this.2 q⟩
  · have := i3 l (by omega) (by omega)
    show zs (fun t => x (l * 12 + t)) 12 ≤ ra l
    omega
  · have := i4 t (by omega) (by omega)
    show zs (fun l => x (l * 12 + t)) 10 ≤ cb t
    omega
  · have := pq_DL (w := fun l t => wt (l * 12 + t)) (x := fun l t => x (l * 12 + t)) (y := y) (P := fun l => f (12 + l) - la) (R := fun t => - f t) (la := la) (n := 10) (m := 12) (fun l t h1 h2 => ?_) (fun l h1 => ?_) (fun t h1 => ?_)
    · rw [i10, i9, hP, Int.sub_self, Int.mul_zero] at this
      show pq_D (fun i j => wt (i * 12 + j) * y i j) 10 12 ≤ K
      omega
    · have q1 := (i2 ((l : Int) * 12 + t) (by omega) (by omega)).1
      have q2 := hy.1 l t h1 h2
      have q3 := i5 l t (by omega) (by omega) (by omega) (by omega)
      have q4 := (i2 ((l : Int) * 12 + t) (by omega) (by omega)).2
      show wt (l * 12 + t) * (y l t - x (l * 12 + t)) ≤ (f (12 + l) - la + - f t + la) * (y l t - x (l * 12 + t))
      rcases q1 with q1 | q1
      · rcases q2 with q2 | ⟨q2, q5⟩
        · rw [q1, q2, Int.sub_self, Int.mul_zero, Int.mul_zero]; exact Int.le_refl _
        · have := (q3 q5).1 q1
          rw [q1, q2, Int.sub_zero, Int.mul_one, Int.mul_one]; omega
      · have := (q3 (q4 q1)).2 q1
        rcases q2 with q2 | ⟨q2, q5⟩
        · rw [q1, q2, show (0 : Int) - 1 = -1 from rfl, Int.mul_neg, Int.mul_neg, Int.mul_one, Int.mul_one]; omega
        · rw [q1, q2, Int.sub_self, Int.mul_zero, Int.mul_zero]; exact Int.le_refl _
    · have q1 := i8 l (by omega) (by omega)
      have q2 := i3 l (by omega) (by omega)
      have q3 := hy.2.1 l h1
      show (f (12 + l) - la) * (zs (fun t => y l t) 12 - zs (fun t => x (l * 12 + t)) 12) ≤ 0
      by_cases e : 0 < a l
      · rw [q1.2 e, Int.sub_self, Int.zero_mul]; exact Int.le_refl _
      · exact pq_np (by omega) (by omega)
    · have q1 := i7 t (by omega) (by omega)
      have q2 := i4 t (by omega) (by omega)
      have q3 := hy.2.2 t h1
      show (- f t) * (zs (fun l => y l t) 10 - zs (fun l => x (l * 12 + t)) 10) ≤ 0
      by_cases e : 0 < b t
      · rw [i6 t ⟨by omega, by omega, e⟩, Int.neg_zero, Int.zero_mul]; exact Int.le_refl _
      · exact pq_np (by omega) (by omega)
theorem pq_D_1 (y : Int → Int → Int) (n m : Nat) : pq_D (fun i j => 1 * y i j) n m = pq_D y n m := pq_D_cg (fun i j _ _ => Int.one_mul _)
/-- no chain is left -/
theorem cs_max1 {can wt ra cb f a b x g h p q : Int → Int} {r : Int → Nat} {la P K : Int} (hI : cs_I can wt ra cb f la a b x P K) (hB : pb_B 22 (-1000) (cn_A can x) (cn_w wt) (cn_S b) f (cn_G g h) (cn_p p q) r) (hX : pb_X (-1000) (cn_A can x) (cn_w wt) (cn_G g h)) (hL : ∀ l : Int, 0 ≤ l → l < 10 → ¬ (0 < a l ∧ -1000 < h l)) : ∀ y, pq_F (fun l t => can (l * 12 + t)) ra cb y → pq_D y 10 12 ≤ P := by
  intro y hy
  have hN := cs_I_N hI
  obtain ⟨i1, i2, i3, i4, i5, i6, i7, i8, i9, i10⟩ := hI
  have hge : ∀ v : Int, 0 ≤ v → v < 22 → -1000 ≤ cn_G g h v := fun v a1 a2 => (pb_le1 (by decide) hN hB v a1 (by omega)).1
  -- a reached node leads on to a reached one
  have hrc : ∀ u v : Int, cn_A can x u v → cn_G g h u ≠ -1000 → cn_G g h v ≠ -1000 := by
    intro u v hA hu z
    have z1 := hN.1 u v hA
    have z2 := hX u v hA hu
    have z3 := (hB u z1.1 z1.2.1).1
    have z4 := pb_c_bd 22 (-1000) (cn_G g h)
    omega
  have := pq_DL (w := fun _ _ => 1) (x := fun l t => x (l * 12 + t)) (y := y) (P := fun l => if cn_G g h (12 + l) = -1000 then 0 else 1) (R := fun t => if cn_G g h t = -1000 then 1 else 0) (la := 0) (n := 10) (m := 12) (fun l t h1 h2 => ?_) (fun l h1 => ?_) (fun t h1 => ?_)
  · rw [pq_D_1, pq_D_1, i9, Int.zero_mul] at this; omega
  · have q1 := (i2 ((l : Int) * 12 + t) (by omega) (by omega)).1
    have q2 := hy.1 l t h1 h2
    have q4 := (i2 ((l : Int) * 12 + t) (by omega) (by omega)).2
    show 1 * (y l t - x (l * 12 + t)) ≤ ((if cn_G g h (12 + l) = -1000 then 0 else 1) + (if cn_G g h t = -1000 then 1 else 0) + 0) * (y l t - x (l * 12 + t))
    rcases q1 with q1 | q1
    · rcases q2 with q2 | ⟨q2, q5⟩
      · rw [q1, q2, Int.sub_self, Int.mul_zero, Int.mul_zero]; exact Int.le_refl _
      · have hh := hrc _ _ (cn_A1 (l := l) (t := t) (by omega) (by omega) q5 q1)
        rw [q1, q2, Int.sub_zero, Int.mul_one, Int.mul_one]
        split
        · split
          · omega
          · next z1 z2 => exact absurd z1 (hh z2)
        · split <;> omega
    · have hh := hrc _ _ (cn_A2 (l := l) (t := t) (by omega) (by omega) (q4 q1) q1)
      rcases q2 with q2 | ⟨q2, q5⟩
      · rw [q1, q2, show (0 : Int) - 1 = -1 from rfl, Int.mul_neg, Int.mul_neg, Int.mul_one, Int.mul_one]
        split
        · split <;> omega
        · split
          · next z1 z2 => exact absurd z2 (hh z1)
          · omega
      · rw [q1, q2, Int.sub_self, Int.mul_zero, Int.mul_zero]; exact Int.le_refl _
  · have q2 := i3 l (by omega) (by omega)
    have q3 := hy.2.1 l h1
    show (if cn_G g h (12 + l) = -1000 then 0 else 1) * (zs (fun t => y l t) 12 - zs (fun t => x (l * 12 + t)) 12) ≤ 0
    by_cases e : cn_G g h (12 + l) = -1000
    · rw [if_pos e, Int.zero_mul]; exact Int.le_refl _
    · rw [if_neg e, Int.one_mul]
      have z1 := hL l (by omega) (by omega)
      have z2 := hge (12 + l) (by omega) (by omega)
      rw [cn_G_l (by omega)] at e z2
      have : ¬ 0 < a l := fun z => z1 ⟨z, by omega⟩
      omega
  · have q2 := i4 t (by omega) (by omega)
    have q3 := hy.2.2 t h1
    show (if cn_G g h t = -1000 then 1 else 0) * (zs (fun l => y l t) 10 - zs (fun l => x (l * 12 + t)) 10) ≤ 0
    by_cases e : cn_G g h t = -1000
    · rw [if_pos e, Int.one_mul]
      have : ¬ 0 < b t := fun z => by
        have := (hB t (by omega) (by omega)).2.1 ⟨by omega, by omega, z⟩
        omega
      omega
    · rw [if_neg e, Int.zero_mul]; exact Int.le_refl _
/-- all copies are taken -/
theorem cs_max2 {can ra cb : Int → Int} (hcb : zs cb 12 ≤ 24) : ∀ y, pq_F (fun l t => can (l * 12 + t)) ra cb y → pq_D y 10 12 ≤ 24 := by
  intro y hy
  rw [pq_D_sw]
  have := zs_le2 (f := fun t => zs (fun l => y l t) 10) (g := cb) (n := 12) (fun t ht => hy.2.2 t ht)
  show zs (fun t => zs (fun l => y l t) 10) 12 ≤ 24
  omega
theorem cs_K {can wt ra cb f a b x : Int → Int} {la P K : Int} (hI : cs_I can wt ra cb f la a b x P K) : 0 ≤ K ∧ K ≤ 120 := by
  have h1 := pq_D_le (F := fun l t => wt (l * 12 + t) * x (l * 12 + t)) (G := fun _ _ => 1) (n := 10) (m := 12) (fun l t a1 a2 => by
    have q1 := (hI.2.1 ((l : Int) * 12 + t) (by omega) (by omega)).1
    have q2 := (hI.1 ((l : Int) * 12 + t) (by omega) (by omega)).2
    show wt (l * 12 + t) * x (l * 12 + t) ≤ 1
    rcases q1 with q | q
    · rw [q, Int.mul_zero]; decide
    · rw [q, Int.mul_one]; exact q2.2)
  have h2 := pq_D_le (F := fun _ _ => 0) (G := fun l t => wt (l * 12 + t) * x (l * 12 + t)) (n := 10) (m := 12) (fun l t a1 a2 => by
    have q1 := (hI.2.1 ((l : Int) * 12 + t) (by omega) (by omega)).1
    have q2 := (hI.1 ((l : Int) * 12 + t) (by omega) (by omega)).2
    show 0 ≤ wt (l * 12 + t) * x (l * 12 + t)
    rcases q1 with q | q
    · rw [q, Int.mul_zero]; decide
    · rw [q, Int.mul_one]; exact q2.1)
  rw [hI.2.2.2.2.2.2.2.2.2] at h1 h2
  have e1 : pq_D (fun _ _ => 1) 10 12 = 120 := rfl
  have e2 : pq_D (fun _ _ => 0) 10 12 = 0 := rfl
  omega
