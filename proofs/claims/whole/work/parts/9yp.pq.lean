set_option maxRecDepth 20000
/-! pushing one along a way (the reference) -/
noncomputable def ri_c (ro : Int → Int) (v : Int) : Int := zs (fun a => ro (24 * a + v)) 24
noncomputable def ri_T (co ro0 ro : Int → Int) : Int := pq_D (fun u v => co (24 * u + v) * (ro (24 * u + v) - ro0 (24 * u + v))) 24 24
noncomputable def ri_p (ro : Int → Int) (u v : Int) : Int → Int := mj_pt (mj_pt ro (24 * u + v) (ro (24 * u + v) - 1)) (24 * v + u) (ro (24 * v + u) + 1)
section
variable {ro co ro0 : Int → Int} {u v : Int}
theorem ri_p_1 (hu : 0 ≤ u ∧ u < 24) (hv : 0 ≤ v ∧ v < 24) (h : u ≠ v) : ri_p ro u v (24 * u + v) = ro (24 * u + v) - 1 := by
  unfold ri_p; rw [g_pn (by omega), g_ps]
theorem ri_p_2 : ri_p ro u v (24 * v + u) = ro (24 * v + u) + 1 := by
  unfold ri_p; rw [g_ps]
theorem ri_p_o {k : Int} (h1 : k ≠ 24 * u + v) (h2 : k ≠ 24 * v + u) : ri_p ro u v k = ro k := by
  unfold ri_p; rw [g_pn h2, g_pn h1]
theorem ri_p_c (hu : 0 ≤ u ∧ u < 24) (hv : 0 ≤ v ∧ v < 24) (h : u ≠ v) (a : Int) (ha : 0 ≤ a ∧ a < 24) : ri_c (ri_p ro u v) a = ri_c ro a + (if a = u then 1 else 0) - (if a = v then 1 else 0) := by
  unfold ri_c
  by_cases e1 : a = u
  · subst e1
    rw [if_pos rfl, if_neg h, pq_ch1 (k := v) (f := fun i => ro (24 * i + a)) hv.1 (by omega) (fun i _ q => ri_p_o (by omega) (by omega)), ri_p_2]; omega
  · by_cases e2 : a = v
    · subst e2
      rw [if_neg e1, if_pos rfl, pq_ch1 (k := u) (f := fun i => ro (24 * i + a)) hu.1 (by omega) (fun i _ q => ri_p_o (by omega) (by omega)), ri_p_1 hu hv h]; omega
    · rw [if_neg e1, if_neg e2, zs_cg (q := fun i => ro (24 * i + a)) (fun i _ => ri_p_o (by omega) (by omega))]; omega
theorem ri_p_T (hu : 0 ≤ u ∧ u < 24) (hv : 0 ≤ v ∧ v < 24) (h : u ≠ v) (hs : co (24 * v + u) = -co (24 * u + v)) : ri_T co ro0 (ri_p ro u v) = ri_T co ro0 ro - 2 * co (24 * u + v) := by
  unfold ri_T
  have e1 := pq_D_ch (n := 24) (m := 24) (a := v) (b := u) (F := fun i j => co (24 * i + j) * (mj_pt ro (24 * u + v) (ro (24 * u + v) - 1) (24 * i + j) - ro0 (24 * i + j))) (G := fun i j => co (24 * i + j) * (ri_p ro u v (24 * i + j) - ro0 (24 * i + j))) hv hu (fun i j _ _ q => by unfold ri_p; rw [g_pn (by omega)])
  have e2 := pq_D_ch (n := 24) (m := 24) (a := u) (b := v) (F := fun i j => co (24 * i + j) * (ro (24 * i + j) - ro0 (24 * i + j))) (G := fun i j => co (24 * i + j) * (mj_pt ro (24 * u + v) (ro (24 * u + v) - 1) (24 * i + j) - ro0 (24 * i + j))) hu hv (fun i j _ _ q => by rw [g_pn (by omega)])
  rw [ri_p_2, g_pn (show 24 * v + u ≠ 24 * u + v by omega), ← Int.mul_sub, show ro (24 * v + u) + 1 - ro0 (24 * v + u) - (ro (24 * v + u) - ro0 (24 * v + u)) = 1 by omega, Int.mul_one] at e1
  rw [g_ps, ← Int.mul_sub, show ro (24 * u + v) - 1 - ro0 (24 * u + v) - (ro (24 * u + v) - ro0 (24 * u + v)) = -1 by omega, Int.mul_neg, Int.mul_one] at e2
  omega
end
/-- what holds ahead of each way -/
def ri_I (co ro0 f ro : Int → Int) (P K : Int) : Prop :=
  (∀ u v : Int, 0 ≤ u → u < 24 → 0 ≤ v → v < 24 → 0 ≤ ro (24 * u + v) ∧ ro (24 * u + v) + ro (24 * v + u) = ro0 (24 * u + v) + ro0 (24 * v + u)) ∧
  (∀ a : Int, 1 ≤ a → a < 24 → ri_c ro a = ri_c ro0 a - if a = 23 then P else 0) ∧
  pb_N 24 (rn_A ro) (rn_w co) rn_S f ∧ ri_T co ro0 ro = 2 * K
def ri_k (co : Int → Int) : Prop := ∀ u v : Int, 0 ≤ u → u < 24 → 0 ≤ v → v < 24 → (-1 ≤ co (24 * u + v) ∧ co (24 * u + v) ≤ 1) ∧ co (24 * v + u) = -co (24 * u + v)
/-- on the way: v is one too many -/
def rw_I (co ro0 fn ro1 F : Int → Int) (r : Int → Nat) (P K : Int) (v : Int) (ro : Int → Int) : Prop :=
  (0 ≤ v ∧ v < 24) ∧ (∀ a b : Int, 0 ≤ a → a < 24 → 0 ≤ b → b < 24 → r a ≤ r v → r b ≤ r v → ro (24 * a + b) = ro1 (24 * a + b)) ∧
  (∀ u v : Int, 0 ≤ u → u < 24 → 0 ≤ v → v < 24 → 0 ≤ ro (24 * u + v) ∧ ro (24 * u + v) + ro (24 * v + u) = ro0 (24 * u + v) + ro0 (24 * v + u)) ∧
  (∀ a : Int, 1 ≤ a → a < 24 → ri_c ro a = ri_c ro0 a - (if a = 23 then P else 0) + (if a = v then 1 else 0)) ∧
  (∀ a b : Int, rn_A ro a b → fn a + rn_w co a b ≤ fn b) ∧ ri_T co ro0 ro = 2 * (K - F 23 + F v)
theorem rw_first {co ro0 f fn ro F : Int → Int} {r : Int → Nat} {P K : Int} (h : ri_I co ro0 f ro P K) (hf : pb_N 24 (rn_A ro) (rn_w co) rn_S fn) : rw_I co ro0 fn ro F r (P + 1) K 23 ro := by
  obtain ⟨i1, i2, i3, i4⟩ := h
  refine ⟨by omega, fun _ _ _ _ _ _ _ _ => rfl, i1, fun a a1 a2 => ?_, fun a b hA => (hf.1 a b hA).2.2.2.2.2, by omega⟩
  rw [i2 a a1 a2]
  by_cases e : a = 23
  · rw [if_pos e, if_pos e, if_pos e]; omega
  · rw [if_neg e, if_neg e, if_neg e]; omega
/-- the way's next arc -/
theorem rw_par {co f ro1 F q : Int → Int} {r : Int → Nat} {E v : Int} (hN : pb_N 24 (rn_A ro1) (rn_w co) rn_S f) (hB : pb_B 24 (-100000) (rn_A ro1) (rn_w co) rn_S f (rn_G F) q r) (hX : pb_X (-100000) (rn_A ro1) (rn_w co) (rn_G F)) (hv : 0 ≤ v ∧ v < 24) (h0 : v ≠ 0) (hu : F v ≠ 100000) (ho : f v - E ≤ -F v) :
    (0 ≤ q v ∧ q v < 24) ∧ 0 < ro1 (24 * q v + v) ∧ F (q v) ≠ 100000 ∧ F v = F (q v) + co (24 * q v + v) ∧ r (q v) < r v ∧ f (q v) - E ≤ -F (q v) := by
  have hp : q v ≠ -4 := by
    intro z
    rcases (hB v hv.1 hv.2).2.2 with ⟨_, y⟩ | y
    · rcases y with y | y
      · unfold rn_G at y; omega
      · exact h0 y
    · omega
  obtain ⟨c1, c2, c3, c4, c5, c6⟩ := pb_par hB hX hv.1 hv.2 hp
  have c7 := pb_on_par (E := E) hN hB hX hv.1 hv.2 hp ho
  unfold rn_G at c3 c5 c7
  unfold rn_w at c5
  exact ⟨c1, c2.2.2.2.2, by omega, by omega, c6, c7⟩
theorem rw_next {co ro0 fn ro1 F ro : Int → Int} {r : Int → Nat} {P K u v : Int} (hk : ri_k co) (h : rw_I co ro0 fn ro1 F r P K v ro) (hv0 : v ≠ 0) (hu : 0 ≤ u ∧ u < 24) (c1 : 0 < ro1 (24 * u + v)) (c2 : F v = F u + co (24 * u + v)) (c3 : r u < r v) (e1 : fn u = -F u) (e2 : fn v = -F v) : 0 < ro (24 * u + v) ∧ rw_I co ro0 fn ro1 F r P K u (ri_p ro u v) := by
  obtain ⟨i1, i2, i3, i4, i5, i6⟩ := h
  have hne : u ≠ v := by intro z; subst z; omega
  have hpos : 0 < ro (24 * u + v) := by rw [i2 u v hu.1 hu.2 i1.1 i1.2 (by omega) (Nat.le_refl _)]; exact c1
  have hkk := hk u v hu.1 hu.2 i1.1 i1.2
  refine ⟨hpos, hu, fun a b a1 a2 b1 b2 ra rb => ?_, fun a b a1 a2 b1 b2 => ?_, fun a a1 a2 => ?_, fun a b hA => ?_, ?_⟩
  · have n1 : a ≠ v := by intro z; subst z; omega
    have n2 : b ≠ v := by intro z; subst z; omega
    rw [ri_p_o (by omega) (by omega)]
    exact i2 a b a1 a2 b1 b2 (by omega) (by omega)
  · have h1 := i3 a b a1 a2 b1 b2
    by_cases z1 : a = u ∧ b = v
    · obtain ⟨rfl, rfl⟩ := z1
      rw [ri_p_1 hu i1 hne, ri_p_2]; omega
    · by_cases z2 : a = v ∧ b = u
      · obtain ⟨rfl, rfl⟩ := z2
        rw [ri_p_1 hu i1 hne, ri_p_2]; omega
      · rw [ri_p_o (by omega) (by omega), ri_p_o (by omega) (by omega)]; exact h1
  · rw [ri_p_c hu i1 hne a (by omega), i4 a a1 a2]
    by_cases z1 : a = v
    · rw [if_pos z1]; omega
    · rw [if_neg z1]; omega
  · obtain ⟨a1, a2, b1, b2, hp⟩ := hA
    by_cases z1 : a = u ∧ b = v
    · obtain ⟨rfl, rfl⟩ := z1
      exact i5 a b ⟨a1, a2, b1, b2, hpos⟩
    · by_cases z2 : a = v ∧ b = u
      · obtain ⟨rfl, rfl⟩ := z2
        unfold rn_w
        omega
      · rw [ri_p_o (by omega) (by omega)] at hp
        exact i5 a b ⟨a1, a2, b1, b2, hp⟩
  · rw [ri_p_T hu i1 hne hkk.2, i6]; omega
theorem rw_fin {co ro0 fn ro1 F ro : Int → Int} {r : Int → Nat} {P K : Int} (hk : ri_k co) (h : rw_I co ro0 fn ro1 F r P K 0 ro) (hF : F 0 = 0) (h0 : fn 0 = 0) (h1 : ∀ v : Int, 0 ≤ v → v < 24 → fn v ≤ 1) : ri_I co ro0 fn ro P (K - F 23) := by
  obtain ⟨i1, i2, i3, i4, i5, i6⟩ := h
  refine ⟨i3, fun a a1 a2 => ?_, ⟨fun u v hA => ?_, fun v s => ?_, h1⟩, by omega⟩
  · rw [i4 a a1 a2, if_neg (show a ≠ 0 by omega)]; omega
  · have hw := (hk u v hA.1 hA.2.1 hA.2.2.1 hA.2.2.2.1).1
    refine ⟨hA.1, hA.2.1, hA.2.2.1, hA.2.2.2.1, ?_, i5 u v hA⟩
    unfold rn_w; omega
  · have s : v = 0 := s
    subst s
    exact ⟨by decide, by decide, h0⟩
