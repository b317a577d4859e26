set_option maxRecDepth 20000
/-! what the reference's rooms say of pairs -/
theorem zs_split (g : Int → Int) (n : Nat) : ∀ m : Nat, zs g (n + m) = zs g n + zs (fun i => g (n + i)) m
  | 0 => by rw [Nat.add_zero]; exact (Int.add_zero _).symm
  | m + 1 => by
    rw [← Nat.add_assoc, zs_s, zs_s, zs_split g n m, show ((n + m : Nat) : Int) = (n : Int) + m by omega]
    omega
theorem zs24 (g : Int → Int) : zs g 24 = g 0 + zs (fun i => g (1 + i)) 10 + zs (fun i => g (11 + i)) 12 + g 23 := by
  have e1 : zs g 24 = zs g 23 + g 23 := zs_s g 23
  have e2 := zs_split g 11 12
  have e3 := zs_split g 1 10
  have e4 : zs g 1 = g 0 := by
    rw [show (1 : Nat) = 0 + 1 from rfl, zs_s]
    exact Int.zero_add _
  rw [show (11 : Nat) + 12 = 23 from rfl] at e2
  rw [show (1 : Nat) + 10 = 11 from rfl] at e3
  rw [e1, e2, e3, e4]
  rfl
def ri_s (cn : Int → Int → Int) (ra cb ro0 : Int → Int) : Prop := ∀ u v : Int, 0 ≤ u → u < 24 → 0 ≤ v → v < 24 → ro0 (24 * u + v) = if u = 0 ∧ 1 ≤ v ∧ v ≤ 10 then ra (v - 1) else if (1 ≤ u ∧ u ≤ 10) ∧ 11 ≤ v ∧ v ≤ 22 then cn (u - 1) (v - 11) else if (11 ≤ u ∧ u ≤ 22) ∧ v = 23 then cb (u - 11) else 0
def ri_cs (wt : Int → Int → Int) (co : Int → Int) : Prop := ∀ u v : Int, 0 ≤ u → u < 24 → 0 ≤ v → v < 24 → co (24 * u + v) = if (1 ≤ u ∧ u ≤ 10) ∧ 11 ≤ v ∧ v ≤ 22 then -wt (u - 1) (v - 11) else if (11 ≤ u ∧ u ≤ 22) ∧ 1 ≤ v ∧ v ≤ 10 then wt (v - 1) (u - 11) else 0
section
variable {cn wt : Int → Int → Int} {ra cb ro0 co ro f : Int → Int} {P K l t u v : Int}
theorem ri_s01 (h : ri_s cn ra cb ro0) (hl : 0 ≤ l ∧ l < 10) : ro0 (24 * 0 + (1 + l)) = ra l := by
  rw [h 0 (1 + l) (by omega) (by omega) (by omega) (by omega), if_pos (by omega), show 1 + l - 1 = l by omega]
theorem ri_s12 (h : ri_s cn ra cb ro0) (hl : 0 ≤ l ∧ l < 10) (ht : 0 ≤ t ∧ t < 12) : ro0 (24 * (1 + l) + (11 + t)) = cn l t := by
  rw [h (1 + l) (11 + t) (by omega) (by omega) (by omega) (by omega), if_neg (by omega), if_pos (by omega), show 1 + l - 1 = l by omega, show 11 + t - 11 = t by omega]
theorem ri_s23 (h : ri_s cn ra cb ro0) (ht : 0 ≤ t ∧ t < 12) : ro0 (24 * (11 + t) + 23) = cb t := by
  rw [h (11 + t) 23 (by omega) (by omega) (by omega) (by omega), if_neg (by omega), if_neg (by omega), if_pos (by omega), show 11 + t - 11 = t by omega]
theorem ri_sz (h : ri_s cn ra cb ro0) (hu : 0 ≤ u ∧ u < 24) (hv : 0 ≤ v ∧ v < 24) (h1 : ¬ (u = 0 ∧ 1 ≤ v ∧ v ≤ 10)) (h2 : ¬ ((1 ≤ u ∧ u ≤ 10) ∧ 11 ≤ v ∧ v ≤ 22)) (h3 : ¬ ((11 ≤ u ∧ u ≤ 22) ∧ v = 23)) : ro0 (24 * u + v) = 0 := by
  rw [h u v hu.1 hu.2 hv.1 hv.2, if_neg h1, if_neg h2, if_neg h3]
theorem ri_c12 (h : ri_cs wt co) (hl : 0 ≤ l ∧ l < 10) (ht : 0 ≤ t ∧ t < 12) : co (24 * (1 + l) + (11 + t)) = -wt l t := by
  rw [h (1 + l) (11 + t) (by omega) (by omega) (by omega) (by omega), if_pos (by omega), show 1 + l - 1 = l by omega, show 11 + t - 11 = t by omega]
theorem ri_c21 (h : ri_cs wt co) (hl : 0 ≤ l ∧ l < 10) (ht : 0 ≤ t ∧ t < 12) : co (24 * (11 + t) + (1 + l)) = wt l t := by
  rw [h (11 + t) (1 + l) (by omega) (by omega) (by omega) (by omega), if_neg (by omega), if_pos (by omega), show 1 + l - 1 = l by omega, show 11 + t - 11 = t by omega]
theorem ri_cz (h : ri_cs wt co) (hu : 0 ≤ u ∧ u < 24) (hv : 0 ≤ v ∧ v < 24) (h1 : ¬ ((1 ≤ u ∧ u ≤ 10) ∧ 11 ≤ v ∧ v ≤ 22)) (h2 : ¬ ((11 ≤ u ∧ u ≤ 22) ∧ 1 ≤ v ∧ v ≤ 10)) : co (24 * u + v) = 0 := by
  rw [h u v hu.1 hu.2 hv.1 hv.2, if_neg h1, if_neg h2]
theorem ri_cs_k (h : ri_cs wt co) (hw : ∀ l t : Int, 0 ≤ l → l < 10 → 0 ≤ t → t < 12 → 0 ≤ wt l t ∧ wt l t ≤ 1) : ri_k co := by
  intro u v a1 a2 b1 b2
  by_cases e1 : (1 ≤ u ∧ u ≤ 10) ∧ 11 ≤ v ∧ v ≤ 22
  · have q := hw (u - 1) (v - 11) (by omega) (by omega) (by omega) (by omega)
    rw [h u v a1 a2 b1 b2, h v u b1 b2 a1 a2, if_pos e1, if_neg (by omega), if_pos (by omega)]
    omega
  · by_cases e2 : (11 ≤ u ∧ u ≤ 22) ∧ 1 ≤ v ∧ v ≤ 10
    · have q := hw (v - 1) (u - 11) (by omega) (by omega) (by omega) (by omega)
      rw [h u v a1 a2 b1 b2, h v u b1 b2 a1 a2, if_neg e1, if_pos e2, if_pos (by omega)]
      omega
    · rw [ri_cz h ⟨a1, a2⟩ ⟨b1, b2⟩ e1 e2, ri_cz h ⟨b1, b2⟩ ⟨a1, a2⟩ (by omega) (by omega)]
      omega
/-- what a state's rooms are -/
def ri_F (cn wt : Int → Int → Int) (ra cb ro : Int → Int) (P K : Int) : Prop :=
  (∀ l t : Int, 0 ≤ l → l < 10 → 0 ≤ t → t < 12 → ro (24 * (1 + l) + (11 + t)) = cn l t - ro (24 * (11 + t) + (1 + l)) ∧ (ro (24 * (11 + t) + (1 + l)) = 0 ∨ (ro (24 * (11 + t) + (1 + l)) = 1 ∧ cn l t = 1))) ∧
  (∀ l : Int, 0 ≤ l → l < 10 → ro (24 * 0 + (1 + l)) = ra l - zs (fun t => ro (24 * (11 + t) + (1 + l))) 12 ∧ ro (24 * (1 + l) + 0) = zs (fun t => ro (24 * (11 + t) + (1 + l))) 12 ∧ zs (fun t => ro (24 * (11 + t) + (1 + l))) 12 ≤ ra l) ∧
  (∀ t : Int, 0 ≤ t → t < 12 → ro (24 * (11 + t) + 23) = cb t - zs (fun l => ro (24 * (11 + t) + (1 + l))) 10 ∧ ro (24 * 23 + (11 + t)) = zs (fun l => ro (24 * (11 + t) + (1 + l))) 10 ∧ zs (fun l => ro (24 * (11 + t) + (1 + l))) 10 ≤ cb t) ∧
  pq_D (fun l t => ro (24 * (11 + t) + (1 + l))) 10 12 = P ∧ pq_D (fun l t => wt l t * ro (24 * (11 + t) + (1 + l))) 10 12 = K
theorem ri_I_F (hs : ri_s cn ra cb ro0) (hc : ri_cs wt co) (hcn : ∀ l t : Int, 0 ≤ l → l < 10 → 0 ≤ t → t < 12 → cn l t = 0 ∨ cn l t = 1) (h : ri_I co ro0 f ro P K) : ri_F cn wt ra cb ro P K := by
  obtain ⟨i1, i2, i3, i4⟩ := h
  -- rooms that never were
  have hz : ∀ u v : Int, 0 ≤ u → u < 24 → 0 ≤ v → v < 24 → ro0 (24 * u + v) = 0 → ro0 (24 * v + u) = 0 → ro (24 * u + v) = 0 := by
    intro u v a1 a2 b1 b2 z1 z2
    have q1 := i1 u v a1 a2 b1 b2
    have q2 := i1 v u b1 b2 a1 a2
    omega
  have f1 : ∀ l t : Int, 0 ≤ l → l < 10 → 0 ≤ t → t < 12 → ro (24 * (1 + l) + (11 + t)) = cn l t - ro (24 * (11 + t) + (1 + l)) ∧ (ro (24 * (11 + t) + (1 + l)) = 0 ∨ (ro (24 * (11 + t) + (1 + l)) = 1 ∧ cn l t = 1)) := by
    intro l t a1 a2 b1 b2
    have q1 := i1 (1 + l) (11 + t) (by omega) (by omega) (by omega) (by omega)
    have q2 := i1 (11 + t) (1 + l) (by omega) (by omega) (by omega) (by omega)
    rw [ri_s12 hs ⟨a1, a2⟩ ⟨b1, b2⟩, ri_sz hs (u := 11 + t) (v := 1 + l) (by omega) (by omega) (by omega) (by omega) (by omega)] at q1
    have q3 := hcn l t a1 a2 b1 b2
    omega
  have f2 : ∀ l : Int, 0 ≤ l → l < 10 → ro (24 * 0 + (1 + l)) = ra l - zs (fun t => ro (24 * (11 + t) + (1 + l))) 12 ∧ ro (24 * (1 + l) + 0) = zs (fun t => ro (24 * (11 + t) + (1 + l))) 12 ∧ zs (fun t => ro (24 * (11 + t) + (1 + l))) 12 ≤ ra l := by
    intro l a1 a2
    have q1 := i2 (1 + l) (by omega) (by omega)
    rw [if_neg (by omega)] at q1
    unfold ri_c at q1
    rw [zs24, zs24] at q1
    rw [pq_0 (fun i => ro (24 * (1 + i) + (1 + l))) 10 (fun i hi => hz _ _ (by omega) (by omega) (by omega) (by omega) (ri_sz hs (by omega) (by omega) (by omega) (by omega) (by omega)) (ri_sz hs (by omega) (by omega) (by omega) (by omega) (by omega)))] at q1
    rw [hz 23 (1 + l) (by omega) (by omega) (by omega) (by omega) (ri_sz hs (by omega) (by omega) (by omega) (by omega) (by omega)) (ri_sz hs (by omega) (by omega) (by omega) (by omega) (by omega))] at q1
    rw [pq_0 (fun i => ro0 (24 * (1 + i) + (1 + l))) 10 (fun i hi => ri_sz hs (by omega) (by omega) (by omega) (by omega) (by omega)), pq_0 (fun i => ro0 (24 * (11 + i) + (1 + l))) 12 (fun i hi => ri_sz hs (by omega) (by omega) (by omega) (by omega) (by omega)), ri_sz hs (u := 23) (v := 1 + l) (by omega) (by omega) (by omega) (by omega) (by omega), ri_s01 hs ⟨a1, a2⟩] at q1
    have q2 := i1 0 (1 + l) (by omega) (by omega) (by omega) (by omega)
    rw [ri_s01 hs ⟨a1, a2⟩, ri_sz hs (u := 1 + l) (v := 0) (by omega) (by omega) (by omega) (by omega) (by omega)] at q2
    have q3 := i1 (1 + l) 0 (by omega) (by omega) (by omega) (by omega)
    omega
  have f3 : ∀ t : Int, 0 ≤ t → t < 12 → ro (24 * (11 + t) + 23) = cb t - zs (fun l => ro (24 * (11 + t) + (1 + l))) 10 ∧ ro (24 * 23 + (11 + t)) = zs (fun l => ro (24 * (11 + t) + (1 + l))) 10 ∧ zs (fun l => ro (24 * (11 + t) + (1 + l))) 10 ≤ cb t := by
    intro t a1 a2
    have q1 := i2 (11 + t) (by omega) (by omega)
    rw [if_neg (by omega)] at q1
    unfold ri_c at q1
    rw [zs24, zs24] at q1
    rw [hz 0 (11 + t) (by omega) (by omega) (by omega) (by omega) (ri_sz hs (by omega) (by omega) (by omega) (by omega) (by omega)) (ri_sz hs (by omega) (by omega) (by omega) (by omega) (by omega))] at q1
    rw [pq_0 (fun i => ro (24 * (11 + i) + (11 + t))) 12 (fun i hi => hz _ _ (by omega) (by omega) (by omega) (by omega) (ri_sz hs (by omega) (by omega) (by omega) (by omega) (by omega)) (ri_sz hs (by omega) (by omega) (by omega) (by omega) (by omega)))] at q1
    rw [pq_0 (fun i => ro0 (24 * (11 + i) + (11 + t))) 12 (fun i hi => ri_sz hs (by omega) (by omega) (by omega) (by omega) (by omega)), ri_sz hs (u := 0) (v := 11 + t) (by omega) (by omega) (by omega) (by omega) (by omega), ri_sz hs (u := 23) (v := 11 + t) (by omega) (by omega) (by omega) (by omega) (by omega)] at q1
    have q4 : zs (fun i => ro0 (24 * (1 + i) + (11 + t))) 10 = zs (fun i => ro (24 * (1 + i) + (11 + t))) 10 + zs (fun l => ro (24 * (11 + t) + (1 + l))) 10 := by
      rw [← zs_add2]
      refine zs_cg (fun i hi => ?_)
      rw [ri_s12 hs (by omega) ⟨a1, a2⟩, (f1 i t (by omega) (by omega) a1 a2).1]; omega
    have q2 := i1 (11 + t) 23 (by omega) (by omega) (by omega) (by omega)
    rw [ri_s23 hs ⟨a1, a2⟩, ri_sz hs (u := 23) (v := 11 + t) (by omega) (by omega) (by omega) (by omega) (by omega)] at q2
    have q3 := i1 23 (11 + t) (by omega) (by omega) (by omega) (by omega)
    omega
  refine ⟨f1, f2, f3, ?_, ?_⟩
  · have q1 := i2 23 (by omega) (by omega)
    rw [if_pos rfl] at q1
    unfold ri_c at q1
    rw [zs24, zs24] at q1
    rw [hz 0 23 (by omega) (by omega) (by omega) (by omega) (ri_sz hs (by omega) (by omega) (by omega) (by omega) (by omega)) (ri_sz hs (by omega) (by omega) (by omega) (by omega) (by omega)), hz 23 23 (by omega) (by omega) (by omega) (by omega) (ri_sz hs (by omega) (by omega) (by omega) (by omega) (by omega)) (ri_sz hs (by omega) (by omega) (by omega) (by omega) (by omega))] at q1
    rw [pq_0 (fun i => ro (24 * (1 + i) + 23)) 10 (fun i hi => hz _ _ (by omega) (by omega) (by omega) (by omega) (ri_sz hs (by omega) (by omega) (by omega) (by omega) (by omega)) (ri_sz hs (by omega) (by omega) (by omega) (by omega) (by omega)))] at q1
    rw [pq_0 (fun i => ro0 (24 * (1 + i) + 23)) 10 (fun i hi => ri_sz hs (by omega) (by omega) (by omega) (by omega) (by omega)), ri_sz hs (u := 0) (v := 23) (by omega) (by omega) (by omega) (by omega) (by omega), ri_sz hs (u := 23) (v := 23) (by omega) (by omega) (by omega) (by omega) (by omega)] at q1
    have q4 : zs (fun i => ro0 (24 * (11 + i) + 23)) 12 = zs (fun i => ro (24 * (11 + i) + 23)) 12 + zs (fun t => zs (fun l => ro (24 * (11 + t) + (1 + l))) 10) 12 := by
      rw [← zs_add2]
      refine zs_cg (fun i hi => ?_)
      rw [ri_s23 hs (by omega), (f3 i (by omega) (by omega)).1]; omega
    rw [pq_D_sw]
    show zs (fun t => zs (fun l => ro (24 * (11 + t) + (1 + l))) 10) 12 = P
    omega
  · unfold ri_T pq_D at i4
    have hzero : ∀ u : Int, 0 ≤ u → u < 24 → ¬ (1 ≤ u ∧ u ≤ 22) → zs (fun j => co (24 * u + j) * (ro (24 * u + j) - ro0 (24 * u + j))) 24 = 0 := by
      intro u a1 a2 hu
      exact pq_0 _ 24 (fun j hj => by rw [ri_cz hc ⟨a1, a2⟩ (by omega) (by omega) (by omega), Int.zero_mul])
    have hl : ∀ l : Int, 0 ≤ l → l < 10 → zs (fun j => co (24 * (1 + l) + j) * (ro (24 * (1 + l) + j) - ro0 (24 * (1 + l) + j))) 24 = zs (fun t => wt l t * ro (24 * (11 + t) + (1 + l))) 12 := by
      intro l a1 a2
      rw [zs24]
      rw [ri_cz hc (u := 1 + l) (v := 0) (by omega) (by omega) (by omega) (by omega), ri_cz hc (u := 1 + l) (v := 23) (by omega) (by omega) (by omega) (by omega), Int.zero_mul, Int.zero_mul]
      rw [pq_0 (fun i => co (24 * (1 + l) + (1 + i)) * (ro (24 * (1 + l) + (1 + i)) - ro0 (24 * (1 + l) + (1 + i)))) 10 (fun j hj => by rw [ri_cz hc (by omega) (by omega) (by omega) (by omega), Int.zero_mul])]
      rw [Int.add_zero, Int.zero_add, Int.zero_add]
      refine zs_cg (fun j hj => ?_)
      rw [ri_c12 hc ⟨a1, a2⟩ (by omega), ri_s12 hs ⟨a1, a2⟩ (by omega), (f1 l j a1 a2 (by omega) (by omega)).1, show cn l j - ro (24 * (11 + (j : Int)) + (1 + l)) - cn l j = -ro (24 * (11 + (j : Int)) + (1 + l)) by omega, Int.neg_mul_neg]
    have ht : ∀ t : Int, 0 ≤ t → t < 12 → zs (fun j => co (24 * (11 + t) + j) * (ro (24 * (11 + t) + j) - ro0 (24 * (11 + t) + j))) 24 = zs (fun l => wt l t * ro (24 * (11 + t) + (1 + l))) 10 := by
      intro t a1 a2
      rw [zs24]
      rw [ri_cz hc (u := 11 + t) (v := 0) (by omega) (by omega) (by omega) (by omega), ri_cz hc (u := 11 + t) (v := 23) (by omega) (by omega) (by omega) (by omega), Int.zero_mul, Int.zero_mul]
      rw [pq_0 (fun i => co (24 * (11 + t) + (11 + i)) * (ro (24 * (11 + t) + (11 + i)) - ro0 (24 * (11 + t) + (11 + i)))) 12 (fun j hj => by rw [ri_cz hc (by omega) (by omega) (by omega) (by omega), Int.zero_mul])]
      rw [Int.add_zero, Int.add_zero, Int.zero_add]
      refine zs_cg (fun j hj => ?_)
      rw [ri_c21 hc (by omega) ⟨a1, a2⟩, ri_sz hs (u := 11 + t) (v := 1 + (j : Int)) (by omega) (by omega) (by omega) (by omega) (by omega), Int.sub_zero]
    rw [zs24 (fun i => zs (fun j => co (24 * i + j) * (ro (24 * i + j) - ro0 (24 * i + j))) 24), hzero 0 (by omega) (by omega) (by omega), hzero 23 (by omega) (by omega) (by omega)] at i4
    rw [zs_cg (p := fun i => zs (fun j => co (24 * (1 + i) + j) * (ro (24 * (1 + i) + j) - ro0 (24 * (1 + i) + j))) 24) (q := fun l => zs (fun t => wt l t * ro (24 * (11 + t) + (1 + l))) 12) (fun i hi => hl i (by omega) (by omega))] at i4
    rw [zs_cg (p := fun i => zs (fun j => co (24 * (11 + i) + j) * (ro (24 * (11 + i) + j) - ro0 (24 * (11 + i) + j))) 24) (q := fun t => zs (fun l => wt l t * ro (24 * (11 + t) + (1 + l))) 10) (fun i hi => ht i (by omega) (by omega))] at i4
    have e : zs (fun l => zs (fun t => wt l t * ro (24 * (11 + t) + (1 + l))) 12) 10 = zs (fun t => zs (fun l => wt l t * ro (24 * (11 + t) + (1 + l))) 10) 12 := pq_D_sw (fun l t => wt l t * ro (24 * (11 + t) + (1 + l))) 12 10
    show zs (fun l => zs (fun t => wt l t * ro (24 * (11 + t) + (1 + l))) 12) 10 = K
    omega
end
