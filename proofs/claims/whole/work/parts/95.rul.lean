set_option maxRecDepth 20000
theorem nxf_flt {b f : Int → Int} (h : ¬ f 2 = 0) : nxf b f = f := if_neg h
theorem nxg_flt {t g : Int → Int} (h : ¬ g 10 = 0) : nxg t g = g := if_neg h
theorem rnf_flt {b f : Int → Int} {lo hi : Int} (h : ¬ f 2 = 0) : rnf b f lo hi = f := by
  unfold rnf
  rw [nxf_flt h, flf_flt (f := f) h, flf_flt h]
theorem rsf_flt {b f : Int → Int} {p q : Int} (h : ¬ f 2 = 0) : rsf b f p q = f := by
  unfold rsf
  rw [nxf_flt h, flf_flt h]
theorem nmg_flt {g : Int → Int} {lo hi : Int} (h : ¬ g 10 = 0) : nmg g lo hi = g := by
  unfold nmg
  rw [wtg_f (g := g) h, wtg_f h]
noncomputable def sgn (g : Int → Int) (k : Int) : Int → Int := wtg g (if g 8 = 3 ∧ g 9 = k then 1 else 0) 2
theorem RT_sgn {F g : Int → Int} (h : RT F g) (k : Int) (hk : k = 59 ∨ k = 44) : RT (flf F (F 6 = k ∨ F 6 = k) 2) (sgn g k) := by
  have h0 := h
  obtain ⟨_, _, _, _, hd⟩ := h0
  refine RT_want h _ (fun q => ?_) (by decide)
  rcases hd with ⟨_, _, _, _, hk⟩ | ⟨a1, _⟩
  · unfold TKR at hk
    split <;> omega
  · exact absurd q a1
noncomputable def rF1 (z : Nat) (ρ : mj_M) (f : Int → Int) : Int → Int := flf (rnf (ρ 3) f 0 11) (ρ (z + 3) (rnf (ρ 3) f 0 11 8) = -4) 4
noncomputable def rF2 (z : Nat) (ρ : mj_M) (f : Int → Int) : Int → Int := rnf (ρ 3) (rF1 z ρ f) 0 999
noncomputable def rF3 (z : Nat) (ρ : mj_M) (f : Int → Int) : Int → Int := rnf (ρ 3) (rF2 z ρ f) (rF2 z ρ f 8) 999
theorem rrt_2 (z : Nat) (ρ : mj_M) (f : Int → Int) : (rrt z ρ f).2 = rsf (ρ 3) (rF3 z ρ f) 59 59 ∧ ((rrt z ρ f).2 2 = 0 → rF3 z ρ f 2 = 0 ∧ rF2 z ρ f 2 = 0 ∧ rnf (ρ 3) f 0 11 2 = 0 ∧ rF1 z ρ f = rnf (ρ 3) f 0 11 ∧ (rrt z ρ f).1 = mj_up (mj_up ρ (z + 3) (rnf (ρ 3) f 0 11 8) (rF2 z ρ f 8)) (z + 4) (rnf (ρ 3) f 0 11 8) (rF3 z ρ f 8)) := by
  unfold rrt rF3 rF2 rF1
  generalize hF1 : rnf (ρ 3) f 0 11 = F1
  by_cases q1 : F1 2 = 0
  · rw [if_pos q1]
    by_cases q2 : ρ (z + 3) (F1 8) = -4
    · rw [if_pos q2, flf_ok q2]
      generalize hF2 : rnf (ρ 3) F1 0 999 = F2
      by_cases q3 : F2 2 = 0
      · rw [if_pos q3]
        generalize hF3 : rnf (ρ 3) F2 (F2 8) 999 = F3
        by_cases q4 : F3 2 = 0
        · rw [if_pos q4]
          exact ⟨rfl, fun _ => ⟨q4, q3, q1, rfl, rfl⟩⟩
        · rw [if_neg q4]
          exact ⟨(rsf_flt q4).symm, fun q => absurd q q4⟩
      · rw [if_neg q3, rnf_flt q3, rsf_flt q3]
        exact ⟨rfl, fun q => absurd q q3⟩
    · have e : ¬ mj_pt F1 2 4 2 = 0 := by rw [g_ps]; decide
      rw [if_neg q2, flf_bad q1 q2, rnf_flt e, rnf_flt e, rsf_flt e]
      exact ⟨rfl, fun q => absurd q e⟩
  · rw [if_neg q1, flf_flt q1, rnf_flt q1, rnf_flt q1, rsf_flt q1]
    exact ⟨rfl, fun q => absurd q q1⟩
theorem RT_9 {F g : Int → Int} (h : RT F g) (h2 : F 2 = 0) (h6 : F 6 = 2) : g 9 = F 8 := by
  obtain ⟨_, _, _, _, hd⟩ := h
  rcases hd with ⟨_, _, _, _, hk⟩ | ⟨a1, _⟩
  · unfold TKR at hk; omega
  · exact absurd h2 a1
theorem rnf_8 {b f : Int → Int} {lo hi : Int} : rnf b f lo hi 8 = nxf b f 8 := by
  unfold rnf
  rw [flf_o _ _ _ (by decide), flf_o _ _ _ (by decide)]
theorem nmg_9 (g : Int → Int) (lo hi : Int) : nmg g lo hi 9 = g 9 := by unfold nmg; rw [wtg_9, wtg_9]
theorem s_right {z : Nat} {ρ ν : mj_M} {f g : Int → Int} (hb : TB (ρ 3) (ν 71)) (h : RT (nxf (ρ 3) f) g) (hr : ∀ i, 0 ≤ i → i < 12 → ν 69 (11 + i) = ρ (z + 3) i) :
    (nmg g 0 11 10 = 0 → 0 ≤ g 9 ∧ g 9 ≤ 11) ∧ PG (rg2 ν g) ∧ PG (rg5 ν g) ∧ PG (rg7 ν g) ∧ RT (nxf (ρ 3) (rF3 z ρ f)) (nxg (ν 71) (rg7 ν g)) ∧
    (nxg (ν 71) (rg7 ν g) 10 = 0 → g 9 = rnf (ρ 3) f 0 11 8 ∧ (0 ≤ g 9 ∧ g 9 ≤ 11) ∧ rga ν g = rF2 z ρ f 8 ∧ rgb ν g = rF3 z ρ f 8 ∧ (0 ≤ rF2 z ρ f 8 ∧ rF2 z ρ f 8 ≤ rF3 z ρ f 8 ∧ rF3 z ρ f 8 ≤ 999)) := by
  have h1 : RT (rnf (ρ 3) f 0 11) (nmg g 0 11) := RT_num h
  have hok : rnf (ρ 3) f 0 11 2 = 0 → g 9 = rnf (ρ 3) f 0 11 8 ∧ 0 ≤ g 9 ∧ g 9 ≤ 11 := fun q => by
    obtain ⟨o1, o2, o3, o4, o5⟩ := rnf_ok q
    have := RT_9 h o2 o3
    rw [o1]; omega
  have he1 : nmg g 0 11 10 = rnf (ρ 3) f 0 11 2 := h1.2.2.1
  have h2 : RT (rF1 z ρ f) (rg2 ν g) := by
    unfold rF1 rg2
    by_cases q : rnf (ρ 3) f 0 11 2 = 0
    · rw [if_pos (by rw [he1]; exact q)]
      have hq := hok q
      refine RT_want h1 _ (fun _ => ?_) (by decide)
      rw [hr _ hq.2.1 (by omega), hq.1]
      split <;> omega
    · rw [if_neg (by rw [he1]; exact q), flf_flt q]
      exact h1
  have h4 : RT (nxf (ρ 3) (rF1 z ρ f)) (nxg (ν 71) (rg2 ν g)) := RT_next hb h2
  have e5 : rg5 ν g = nmg (nxg (ν 71) (rg2 ν g)) 0 999 := by
    unfold rg5
    by_cases q : nxg (ν 71) (rg2 ν g) 10 = 0
    · rw [if_pos q]
    · rw [if_neg q, nmg_flt q]
  have h5 : RT (rF2 z ρ f) (rg5 ν g) := by rw [e5]; exact RT_num h4
  have h6 : RT (nxf (ρ 3) (rF2 z ρ f)) (nxg (ν 71) (rg5 ν g)) := RT_next hb h5
  have ha : rF2 z ρ f 2 = 0 → rga ν g = rF2 z ρ f 8 := fun q => by
    obtain ⟨o1, o2, o3, o4, o5⟩ := rnf_ok (show rnf (ρ 3) (rF1 z ρ f) 0 999 2 = 0 from q)
    have e : nxg (ν 71) (rg2 ν g) 10 = 0 := by rw [h4.2.2.1]; exact o2
    have := RT_9 h4 o2 o3
    unfold rga rF2
    rw [if_pos e, this, rnf_8]
  have h7 : RT (rF3 z ρ f) (rg7 ν g) := by
    unfold rF3 rg7
    by_cases q : rF2 z ρ f 2 = 0
    · rw [← ha q]
      by_cases q2 : nxg (ν 71) (rg5 ν g) 10 = 0
      · rw [if_pos q2]; exact RT_num h6
      · rw [if_neg q2, ← nmg_flt (lo := rga ν g) (hi := 999) q2]; exact RT_num h6
    · have q' : ¬ rg5 ν g 10 = 0 := by rw [h5.2.2.1]; exact q
      rw [nxg_flt q', if_neg q', rnf_flt q]; exact h5
  have h8 : RT (nxf (ρ 3) (rF3 z ρ f)) (nxg (ν 71) (rg7 ν g)) := RT_next hb h7
  refine ⟨fun q => (hok (by rw [← he1]; exact q)).2, RT_PG h2, RT_PG h5, RT_PG h7, h8, fun q => ?_⟩
  have c3 : rF3 z ρ f 2 = 0 := by
    by_cases a : rF3 z ρ f 2 = 0
    · exact a
    · rw [h8.2.2.1, nxf_flt a] at q; exact absurd q a
  obtain ⟨o1, o2, o3, o4, o5⟩ := rnf_ok (show rnf (ρ 3) (rF2 z ρ f) (rF2 z ρ f 8) 999 2 = 0 from c3)
  have c2 : rF2 z ρ f 2 = 0 := by
    by_cases a : rF2 z ρ f 2 = 0
    · exact a
    · rw [nxf_flt a] at o2; exact absurd o2 a
  obtain ⟨u1, u2, u3, u4, u5⟩ := rnf_ok (show rnf (ρ 3) (rF1 z ρ f) 0 999 2 = 0 from c2)
  have c1 : rF1 z ρ f 2 = 0 := by
    by_cases a : rF1 z ρ f 2 = 0
    · exact a
    · rw [nxf_flt a] at u2; exact absurd u2 a
  have c0 : rnf (ρ 3) f 0 11 2 = 0 := by
    by_cases a : rnf (ρ 3) f 0 11 2 = 0
    · exact a
    · unfold rF1 at c1; rw [flf_flt a] at c1; exact absurd c1 a
  have hq := hok c0
  have e6 : nxg (ν 71) (rg5 ν g) 10 = 0 := by rw [h6.2.2.1]; exact o2
  have e9 := RT_9 h6 o2 o3
  have eB : rgb ν g = rF3 z ρ f 8 := by
    unfold rgb rF3
    rw [if_pos e6, e9, rnf_8]
  have r2 : rF2 z ρ f 8 = nxf (ρ 3) (rF1 z ρ f) 8 := rnf_8
  have r3 : rF3 z ρ f 8 = nxf (ρ 3) (rF2 z ρ f) 8 := rnf_8
  exact ⟨hq.1, hq.2, ha c2, eB, by omega⟩
