/-- a bound for all choices is one for the best -/
theorem mf_opt {w m v r : Int → Int} {R k : Nat} {a b X : Int} (hs : SR w m v 12 R r) (hk : k ≤ 12) (ha : 0 ≤ a) (hb : 0 ≤ b)
    (h : ∀ cc : Int → Int, (∀ j : Nat, j < R → (cc (r j) = 0 ∨ cc (r j) = 1) ∧ (cc (r j) = 1 → 12 - (k : Int) ≤ r j)) → zs (fun j => cc (r j) * m (r j)) R ≤ a + b → zs (fun j => cc (r j) * wo w m (r j)) R ≤ X) : opt w m v k a b ≤ X := by
  obtain ⟨f, hf, hw⟩ := opt_att (w := w) (m := m) (v := v) k a b hk
  have hv := pf_v k a b hk hf
  have h1 := h (fun t => if 12 - (k : Int) ≤ t ∧ 0 < f t then 1 else 0) (fun j hj => ⟨by split <;> omega, fun q => by
    by_cases e : 12 - (k : Int) ≤ r j ∧ 0 < f (r j)
    · exact e.1
    · rw [if_neg e] at q; omega⟩)
  have tr : ∀ φ : Int → Int, zs (fun j => (if 12 - (k : Int) ≤ r j ∧ 0 < f (r j) then 1 else 0) * φ (r j)) R = smr (fun t => if 0 < f t then φ t else 0) k := fun φ => by
    rw [hs.2.2.2 (fun t => (if 12 - (k : Int) ≤ t ∧ 0 < f t then 1 else 0) * φ t), ← smr_zs _ k hk]
    refine zs_cg fun t ht => ?_
    by_cases e1 : 12 - (k : Int) ≤ t
    · by_cases e2 : 0 < f t
      · rw [if_pos (hv t e1 (by omega) e2), if_pos ⟨e1, e2⟩, if_pos e1, if_pos e2, Int.one_mul]
      · rw [if_neg (show ¬ (12 - (k : Int) ≤ t ∧ 0 < f t) from fun q => e2 q.2), if_pos e1, if_neg e2, Int.zero_mul]
        split <;> rfl
    · rw [if_neg (show ¬ (12 - (k : Int) ≤ t ∧ 0 < f t) from fun q => e1 q.1), if_neg e1, Int.zero_mul]
      split <;> rfl
  rw [tr m, tr (wo w m), ← pw_smr, hw] at h1
  exact h1 (pf_m k a b ha hb hf)
