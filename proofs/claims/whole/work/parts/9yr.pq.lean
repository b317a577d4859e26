set_option maxRecDepth 20000
/-! the reference's ways, one by one -/
theorem pq_cs {g X Y c : Int} (hX : 0 ≤ X ∧ X ≤ c) (hY : 0 ≤ Y ∧ Y ≤ c) (h1 : X < c → g ≤ 0) (h2 : 0 < X → 0 ≤ g) : g * (Y - X) ≤ 0 := by
  by_cases e1 : X < c
  · have := h1 e1
    by_cases e2 : 0 < X
    · have := h2 e2
      rw [show g = 0 by omega, Int.zero_mul]; exact Int.le_refl _
    · rw [Int.mul_comm]; exact pq_np (by omega) (by omega)
  · by_cases e2 : 0 < X
    · exact pq_np (h2 e2) (by omega)
    · rw [show Y - X = 0 by omega, Int.mul_zero]; exact Int.le_refl _
theorem pq_F_nn {cn y : Int → Int → Int} {a b : Int → Int} (h : pq_F cn a b y) : (∀ l : Nat, l < 10 → 0 ≤ zs (fun t => y l t) 12) ∧ (∀ t : Nat, t < 12 → 0 ≤ zs (fun l => y l t) 10) := by
  refine ⟨fun l hl => ?_, fun t ht => ?_⟩
  · exact (zs_bd2 (f := fun t => y l t) (b := 1) (n := 12) (fun i hi => by have := h.1 l i hl hi; omega)).1
  · exact (zs_bd2 (f := fun l => y l t) (b := 1) (n := 10) (fun i hi => by have := h.1 i t hi ht; omega)).1
section
variable {cn wt : Int → Int → Int} {ra cb co ro f : Int → Int} {P K : Int}
theorem ri_F_nn (h : ri_F cn wt ra cb ro P K) : (∀ l : Int, 0 ≤ l → l < 10 → 0 ≤ zs (fun t => ro (24 * (11 + t) + (1 + l))) 12) ∧ (∀ t : Int, 0 ≤ t → t < 12 → 0 ≤ zs (fun l => ro (24 * (11 + t) + (1 + l))) 10) := by
  refine ⟨fun l a b => ?_, fun t a b => ?_⟩
  · exact (zs_bd2 (f := fun t => ro (24 * (11 + t) + (1 + l))) (b := 1) (n := 12) (fun i hi => by have := (h.1 l i a b (by omega) (by omega)).2; omega)).1
  · exact (zs_bd2 (f := fun l => ro (24 * (11 + t) + (1 + l))) (b := 1) (n := 10) (fun i hi => by have := (h.1 i t (by omega) (by omega) a b).2; omega)).1
theorem rf_bd (h : ri_F cn wt ra cb ro P K) (hw : ∀ l t : Int, 0 ≤ l → l < 10 → 0 ≤ t → t < 12 → 0 ≤ wt l t ∧ wt l t ≤ 1) : P ≤ 120 ∧ 0 ≤ K ∧ K ≤ 120 := by
  have hx : ∀ l t : Nat, l < 10 → t < 12 → (ro (24 * (11 + (t : Int)) + (1 + (l : Int))) = 0 ∨ ro (24 * (11 + (t : Int)) + (1 + (l : Int))) = 1) := fun l t a b => by
    have := (h.1 l t (by omega) (by omega) (by omega) (by omega)).2; omega
  have h1 := pq_D_le (F := fun l t => ro (24 * (11 + t) + (1 + l))) (G := fun _ _ => 1) (n := 10) (m := 12) (fun l t a b => by
    have := hx l t a b
    show ro (24 * (11 + (t : Int)) + (1 + (l : Int))) ≤ 1
    omega)
  have h2 := pq_D_le (F := fun l t => wt l t * ro (24 * (11 + t) + (1 + l))) (G := fun _ _ => 1) (n := 10) (m := 12) (fun l t a b => by
    have q := hw l t (by omega) (by omega) (by omega) (by omega)
    show wt l t * ro (24 * (11 + (t : Int)) + (1 + (l : Int))) ≤ 1
    rcases hx l t a b with e | e
    · rw [e, Int.mul_zero]; decide
    · rw [e, Int.mul_one]; exact q.2)
  have h3 := pq_D_le (F := fun _ _ => 0) (G := fun l t => wt l t * ro (24 * (11 + t) + (1 + l))) (n := 10) (m := 12) (fun l t a b => by
    have q := hw l t (by omega) (by omega) (by omega) (by omega)
    show 0 ≤ wt l t * ro (24 * (11 + (t : Int)) + (1 + (l : Int)))
    rcases hx l t a b with e | e
    · rw [e, Int.mul_zero]; decide
    · rw [e, Int.mul_one]; exact q.1)
  rw [h.2.2.2.1] at h1
  rw [h.2.2.2.2] at h2 h3
  have e1 : pq_D (fun _ _ => 1) 10 12 = 120 := rfl
  have e2 : pq_D (fun _ _ => 0) 10 12 = 0 := rfl
  omega
theorem rf_opt (h : ri_F cn wt ra cb ro P K) (hN : pb_N 24 (rn_A ro) (rn_w co) rn_S f) (hc : ri_cs wt co) (hmax : ∀ y, pq_F cn ra cb y → pq_D y 10 12 ≤ P) : pq_O cn wt ra cb P K := by
  have hnn := ri_F_nn h
  obtain ⟨i1, i2, i3, i4, i5⟩ := h
  have har : ∀ u v : Int, 0 ≤ u → u < 24 → 0 ≤ v → v < 24 → 0 < ro (24 * u + v) → f u - co (24 * u + v) ≤ f v := fun u v a1 a2 b1 b2 hp => by
    have := (hN.1 u v ⟨a1, a2, b1, b2, hp⟩).2.2.2.2.2
    unfold rn_w at this; omega
  have f0 : f 0 = 0 := (hN.2.1 0 rfl).2.2
  refine ⟨⟨fun l t => ro (24 * (11 + t) + (1 + l)), ⟨fun l t a b => (i1 l t (by omega) (by omega) (by omega) (by omega)).2, fun l a => (i2 l (by omega) (by omega)).2.2, fun t a => (i3 t (by omega) (by omega)).2.2⟩, i4, i5⟩, fun y hy => ⟨hmax y hy, fun hP => ?_⟩⟩
  have hyn := pq_F_nn hy
  have := pq_DL (w := wt) (x := fun l t => ro (24 * (11 + t) + (1 + l))) (y := y) (P := fun l => -f (1 + l)) (R := fun t => f (11 + t) - f 23) (la := f 23) (n := 10) (m := 12) (fun l t h1 h2 => ?_) (fun l h1 => ?_) (fun t h1 => ?_)
  · rw [i5, i4, hP, Int.sub_self, Int.mul_zero] at this; omega
  · have q1 := i1 l t (by omega) (by omega) (by omega) (by omega)
    have q2 := hy.1 l t h1 h2
    have q3 := har (1 + l) (11 + t) (by omega) (by omega) (by omega) (by omega)
    have q4 := har (11 + t) (1 + l) (by omega) (by omega) (by omega) (by omega)
    rw [ri_c12 hc (by omega) (by omega)] at q3
    rw [ri_c21 hc (by omega) (by omega)] at q4
    show wt l t * (y l t - ro (24 * (11 + t) + (1 + l))) ≤ (-f (1 + l) + (f (11 + t) - f 23) + f 23) * (y l t - ro (24 * (11 + t) + (1 + l)))
    rcases q1.2 with q5 | ⟨q5, q6⟩
    · rcases q2 with q2 | ⟨q2, q7⟩
      · rw [q5, q2, Int.sub_self, Int.mul_zero, Int.mul_zero]; exact Int.le_refl _
      · have := q3 (by rw [q1.1, q7, q5]; decide)
        rw [q5, q2, Int.sub_zero, Int.mul_one, Int.mul_one]; omega
    · have := q4 (by rw [q5]; decide)
      rcases q2 with q2 | ⟨q2, q7⟩
      · rw [q5, q2, show (0 : Int) - 1 = -1 from rfl, Int.mul_neg, Int.mul_neg, Int.mul_one, Int.mul_one]; omega
      · rw [q5, q2, Int.sub_self, Int.mul_zero, Int.mul_zero]; exact Int.le_refl _
  · have q1 := i2 l (by omega) (by omega)
    have q2 := hnn.1 l (by omega) (by omega)
    have q3 := har 0 (1 + l) (by omega) (by omega) (by omega) (by omega)
    have q4 := har (1 + l) 0 (by omega) (by omega) (by omega) (by omega)
    rw [ri_cz hc (by omega) (by omega) (by omega) (by omega)] at q3 q4
    exact pq_cs ⟨q2, q1.2.2⟩ ⟨hyn.1 l h1, hy.2.1 l h1⟩ (fun z => by have := q3 (by omega); omega) (fun z => by have := q4 (by omega); omega)
  · have q1 := i3 t (by omega) (by omega)
    have q2 := hnn.2 t (by omega) (by omega)
    have q3 := har (11 + t) 23 (by omega) (by omega) (by omega) (by omega)
    have q4 := har 23 (11 + t) (by omega) (by omega) (by omega) (by omega)
    rw [ri_cz hc (by omega) (by omega) (by omega) (by omega)] at q3 q4
    exact pq_cs ⟨q2, q1.2.2⟩ ⟨hyn.2 t h1, hy.2.2 t h1⟩ (fun z => by have := q3 (by omega); omega) (fun z => by have := q4 (by omega); omega)
/-- no way is left -/
theorem rf_max {F q : Int → Int} {r : Int → Nat} (h : ri_F cn wt ra cb ro P K) (hN : pb_N 24 (rn_A ro) (rn_w co) rn_S f) (hB : pb_B 24 (-100000) (rn_A ro) (rn_w co) rn_S f (rn_G F) q r) (hX : pb_X (-100000) (rn_A ro) (rn_w co) (rn_G F)) (h23 : rn_G F 23 = -100000) : ∀ y, pq_F cn ra cb y → pq_D y 10 12 ≤ P := by
  intro y hy
  have hnn := ri_F_nn h
  obtain ⟨i1, i2, i3, i4, i5⟩ := h
  have hrc : ∀ u v : Int, 0 ≤ u → u < 24 → 0 ≤ v → v < 24 → 0 < ro (24 * u + v) → rn_G F u ≠ -100000 → rn_G F v ≠ -100000 := by
    intro u v a1 a2 b1 b2 hp hu z
    have hA : rn_A ro u v := ⟨a1, a2, b1, b2, hp⟩
    have z1 := hN.1 u v hA
    have z2 := hX u v hA hu
    have z3 := (hB u z1.1 z1.2.1).1
    have z4 := pb_c_bd 24 (-100000) (rn_G F)
    omega
  have h0 : rn_G F 0 ≠ -100000 := by
    have := (hB 0 (by decide) (by decide)).2.1 rfl
    omega
  have := pq_DL (w := fun _ _ => 1) (x := fun l t => ro (24 * (11 + t) + (1 + l))) (y := y) (P := fun l => if rn_G F (1 + l) = -100000 then 1 else 0) (R := fun t => if rn_G F (11 + t) = -100000 then 0 else 1) (la := 0) (n := 10) (m := 12) (fun l t h1 h2 => ?_) (fun l h1 => ?_) (fun t h1 => ?_)
  · rw [pq_D_1, pq_D_1, i4, Int.zero_mul] at this; omega
  · have q1 := i1 l t (by omega) (by omega) (by omega) (by omega)
    have q2 := hy.1 l t h1 h2
    have q3 := hrc (1 + l) (11 + t) (by omega) (by omega) (by omega) (by omega)
    have q4 := hrc (11 + t) (1 + l) (by omega) (by omega) (by omega) (by omega)
    show 1 * (y l t - ro (24 * (11 + t) + (1 + l))) ≤ ((if rn_G F (1 + l) = -100000 then 1 else 0) + (if rn_G F (11 + t) = -100000 then 0 else 1) + 0) * (y l t - ro (24 * (11 + t) + (1 + l)))
    rcases q1.2 with q5 | ⟨q5, q6⟩
    · rcases q2 with q2 | ⟨q2, q7⟩
      · rw [q5, q2, Int.sub_self, Int.mul_zero, Int.mul_zero]; exact Int.le_refl _
      · have hh := q3 (by rw [q1.1, q7, q5]; decide)
        rw [q5, q2, Int.sub_zero, Int.mul_one, Int.mul_one]
        split
        · split <;> omega
        · split
          · next z1 z2 => exact absurd z2 (hh z1)
          · omega
    · have hh := q4 (by rw [q5]; decide)
      rcases q2 with q2 | ⟨q2, q7⟩
      · rw [q5, q2, show (0 : Int) - 1 = -1 from rfl, Int.mul_neg, Int.mul_neg, Int.mul_one, Int.mul_one]
        split
        · split
          · omega
          · next z1 z2 => exact absurd z1 (hh z2)
        · split <;> omega
      · rw [q5, q2, Int.sub_self, Int.mul_zero, Int.mul_zero]; exact Int.le_refl _
  · have q1 := i2 l (by omega) (by omega)
    have q2 := hy.2.1 l h1
    have q3 := hrc 0 (1 + l) (by omega) (by omega) (by omega) (by omega)
    show (if rn_G F (1 + l) = -100000 then 1 else 0) * (zs (fun t => y l t) 12 - zs (fun t => ro (24 * (11 + t) + (1 + l))) 12) ≤ 0
    by_cases e : rn_G F (1 + l) = -100000
    · rw [if_pos e, Int.one_mul]
      have : ¬ 0 < ro (24 * 0 + (1 + l)) := fun z => q3 z h0 e
      omega
    · rw [if_neg e, Int.zero_mul]; exact Int.le_refl _
  · have q1 := i3 t (by omega) (by omega)
    have q2 := hy.2.2 t h1
    have q3 := hrc (11 + t) 23 (by omega) (by omega) (by omega) (by omega)
    show (if rn_G F (11 + t) = -100000 then 0 else 1) * (zs (fun l => y l t) 10 - zs (fun l => ro (24 * (11 + t) + (1 + l))) 10) ≤ 0
    by_cases e : rn_G F (11 + t) = -100000
    · rw [if_pos e, Int.zero_mul]; exact Int.le_refl _
    · rw [if_neg e, Int.one_mul]
      have : ¬ 0 < ro (24 * (11 + t) + 23) := fun z => q3 z e h23
      omega
end
