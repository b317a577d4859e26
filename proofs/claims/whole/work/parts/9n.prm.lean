/-! the program: what is best, and a bound -/
theorem zs_add2 (f g : Int → Int) : ∀ n, zs (fun i => f i + g i) n = zs f n + zs g n
  | 0 => rfl
  | n + 1 => by
    have := zs_add2 f g n
    show zs (fun i => f i + g i) n + (f n + g n) = zs f n + f n + (zs g n + g n)
    omega
theorem zs_mul2 (a : Int) (f : Int → Int) : ∀ n, zs (fun i => a * f i) n = a * zs f n
  | 0 => by show (0 : Int) = a * 0; rw [Int.mul_zero]
  | n + 1 => by
    have := zs_mul2 a f n
    show zs (fun i => a * f i) n + a * f n = a * (zs f n + f n)
    rw [this, Int.mul_add]
theorem zs_le2 {f g : Int → Int} : ∀ {n : Nat}, (∀ i : Nat, i < n → f i ≤ g i) → zs f n ≤ zs g n
  | 0, _ => Int.le_refl _
  | n + 1, h => by
    have h1 := zs_le2 (n := n) (fun i hi => h i (by omega))
    have h2 := h n (by omega)
    show zs f n + f n ≤ zs g n + g n
    omega
theorem zs_cut (g : Int → Int) (k : Nat) : ∀ n, k ≤ n → zs (fun i => if i < k then g i else 0) n = zs g k
  | 0, h => by
    have : k = 0 := by omega
    subst this; rfl
  | n + 1, h => by
    by_cases e : k = n + 1
    · subst e
      exact zs_cg (fun i hi => by rw [if_pos (by omega)])
    · show zs (fun i => if i < k then g i else 0) n + (if (n : Int) < k then g n else 0) = _
      rw [zs_cut g k n (by omega), if_neg (by omega), Int.add_zero]
noncomputable def wo (w m : Int → Int) (t : Int) : Int := w t * 10000 - m t
/-- denser or as dense -/
def dns (w m : Int → Int) (a b : Int) : Prop := w b * m a ≤ w a * m b
theorem dns_tr {w m : Int → Int} {a b c : Int} (hb : 0 < w b) (hma : 0 ≤ m a) (hmb : 0 ≤ m b) (hmc : 0 ≤ m c) (hwa : 0 ≤ w a) (hwc : 0 ≤ w c) (h1 : dns w m a b) (h2 : dns w m b c) : dns w m a c := by
  unfold dns at *
  by_cases e : m b = 0
  · rw [e, Int.mul_zero] at h1
    have h3 : m a = 0 := by
      by_cases q : m a = 0
      · exact q
      · have : 0 < w b * m a := Int.mul_pos hb (by omega)
        omega
    rw [h3, Int.mul_zero]
    exact Int.mul_nonneg hwa hmc
  · have hp : 0 < m b := by omega
    have q1 : w b * m a * m c ≤ w a * m b * m c := Int.mul_le_mul_of_nonneg_right h1 hmc
    have q2 : w c * m b * m a ≤ w b * m c * m a := Int.mul_le_mul_of_nonneg_right h2 hma
    have q3 : (w c * m a) * m b ≤ (w a * m c) * m b := by
      have e1 : w c * m b * m a = (w c * m a) * m b := by rw [Int.mul_assoc, Int.mul_comm (m b), ← Int.mul_assoc]
      have e2 : w b * m c * m a = w b * m a * m c := by rw [Int.mul_assoc, Int.mul_comm (m c), ← Int.mul_assoc]
      have e3 : w a * m b * m c = (w a * m c) * m b := by rw [Int.mul_assoc, Int.mul_comm (m b), ← Int.mul_assoc]
      omega
    exact Int.le_of_mul_le_mul_right q3 hp
theorem dns_wo {w m : Int → Int} {a b : Int} (h : dns w m a b) : wo w m b * m a ≤ wo w m a * m b := by
  unfold dns at h
  unfold wo
  rw [Int.sub_mul, Int.sub_mul, Int.mul_comm (m b) (m a)]
  have e1 : w b * 10000 * m a = w b * m a * 10000 := by rw [Int.mul_assoc, Int.mul_comm 10000, ← Int.mul_assoc]
  have e2 : w a * 10000 * m b = w a * m b * 10000 := by rw [Int.mul_assoc, Int.mul_comm 10000, ← Int.mul_assoc]
  omega
/-- the bound at the first one that has no room -/
theorem mf_crit {w m r c : Int → Int} {fr room : Int} {k R : Nat} (hk : k < R) (hfr : fr ≤ k) (hM : 0 < m (r k)) (hW : 0 ≤ wo w m (r k))
    (h1 : ∀ j : Nat, j < k → dns w m (r j) (r k)) (h2 : ∀ j : Nat, k ≤ j → j < R → dns w m (r k) (r j))
    (hc : ∀ j : Nat, j < R → (c j = 0 ∨ c j = 1) ∧ (c j = 1 → fr ≤ j)) (hs : zs (fun j => c j * m (r j)) R ≤ room) :
    zs (fun j => c j * wo w m (r j)) R ≤ zs (fun j => if fr ≤ j then wo w m (r j) else 0) k + (wo w m (r k) * (room - zs (fun j => if fr ≤ j then m (r j) else 0) k)) / m (r k) := by
  generalize hMM : m (r k) = M at *
  generalize hWW : wo w m (r k) = W at *
  have hpt : zs (fun j => M * (c j * wo w m (r j))) R ≤ zs (fun j => W * (c j * m (r j)) + (if j < k then (if fr ≤ j then M * wo w m (r j) - W * m (r j) else 0) else 0)) R := by
    refine zs_le2 fun j hj => ?_
    obtain ⟨c01, cfr⟩ := hc j hj
    by_cases e : j < k
    · have d := dns_wo (h1 j e)
      rw [hMM, hWW] at d
      rw [if_pos (by omega)]
      rcases c01 with c0 | c1
      · rw [c0, Int.zero_mul, Int.zero_mul, Int.mul_zero, Int.mul_zero]
        split
        · have : wo w m (r j) * M = M * wo w m (r j) := Int.mul_comm _ _
          omega
        · omega
      · rw [c1, Int.one_mul, Int.one_mul, if_pos (cfr c1)]
        omega
    · have d := dns_wo (h2 j (by omega) hj)
      rw [hMM, hWW] at d
      rw [if_neg (by omega)]
      rcases c01 with c0 | c1
      · rw [c0, Int.zero_mul, Int.zero_mul, Int.mul_zero, Int.mul_zero]; omega
      · rw [c1, Int.one_mul, Int.one_mul]
        have : wo w m (r j) * M = M * wo w m (r j) := Int.mul_comm _ _
        omega
  rw [zs_mul2 M, zs_add2, zs_mul2 W, zs_cut _ k R (by omega)] at hpt
  have hAB : zs (fun j => if fr ≤ j then M * wo w m (r j) - W * m (r j) else 0) k = M * zs (fun j => if fr ≤ j then wo w m (r j) else 0) k - W * zs (fun j => if fr ≤ j then m (r j) else 0) k := by
    have e1 : zs (fun j => if fr ≤ j then M * wo w m (r j) - W * m (r j) else 0) k = zs (fun j => M * (if fr ≤ j then wo w m (r j) else 0) + (-W) * (if fr ≤ j then m (r j) else 0)) k := by
      refine zs_cg fun j hj => ?_
      split
      · rw [Int.neg_mul]; omega
      · rw [Int.mul_zero, Int.mul_zero]; rfl
    rw [e1, zs_add2, zs_mul2, zs_mul2, Int.neg_mul]
    omega
  rw [hAB] at hpt
  generalize zs (fun j => c j * wo w m (r j)) R = S at *
  generalize zs (fun j => if fr ≤ j then wo w m (r j) else 0) k = A at *
  generalize zs (fun j => if fr ≤ j then m (r j) else 0) k = B at *
  generalize zs (fun j => c j * m (r j)) R = T at *
  have hWT : W * T ≤ W * room := Int.mul_le_mul_of_nonneg_left hs hW
  have hfin : (S - A) * M ≤ W * (room - B) := by
    rw [Int.sub_mul, Int.mul_sub, Int.mul_comm S, Int.mul_comm A]
    omega
  have := Int.le_ediv_of_mul_le hM hfin
  omega
/-- the bound where all have room -/
theorem mf_all {w m r c : Int → Int} {fr : Int} {R : Nat} (hw : ∀ j : Nat, j < R → 0 ≤ wo w m (r j)) (hc : ∀ j : Nat, j < R → (c j = 0 ∨ c j = 1) ∧ (c j = 1 → fr ≤ j)) :
    zs (fun j => c j * wo w m (r j)) R ≤ zs (fun j => if fr ≤ j then wo w m (r j) else 0) R := by
  refine zs_le2 fun j hj => ?_
  obtain ⟨c01, cfr⟩ := hc j hj
  have := hw j hj
  rcases c01 with c0 | c1
  · rw [c0, Int.zero_mul]
    split <;> omega
  · rw [c1, Int.one_mul, if_pos (cfr c1)]; omega
theorem pw_s (w m f : Int → Int) (k : Nat) : pw w m f (k + 1) = (if 0 < f (11 - k) then wo w m (11 - k) else 0) + pw w m f k := rfl
/-- rows agree behind -/
theorem pf_cg {m v f g : Int → Int} : ∀ (k : Nat) (a b : Int), k ≤ 12 → (∀ i : Int, 12 - k ≤ i → i < 12 → f i = g i) → pf m v f k a b → pf m v g k a b
  | 0, _, _, _, _, _ => trivial
  | k + 1, a, b, hk, e, h => by
    have e0 := e (11 - k) (by omega) (by omega)
    have er : ∀ i : Int, 12 - k ≤ i → i < 12 → f i = g i := fun i p q => e i (by omega) q
    rcases h with ⟨h0, h⟩ | ⟨h0, hv, hm, h⟩ | ⟨h0, hv, hm, h⟩
    · exact Or.inl ⟨by omega, pf_cg k a b (by omega) er h⟩
    · exact Or.inr (Or.inl ⟨by omega, hv, hm, pf_cg k _ b (by omega) er h⟩)
    · exact Or.inr (Or.inr ⟨by omega, hv, hm, pf_cg k a _ (by omega) er h⟩)
theorem pw_cg {w m f g : Int → Int} : ∀ (k : Nat), k ≤ 12 → (∀ i : Int, 12 - k ≤ i → i < 12 → f i = g i) → pw w m f k = pw w m g k
  | 0, _, _ => rfl
  | k + 1, hk, e => by
    have e0 := e (11 - k) (by omega) (by omega)
    rw [pw_s, pw_s, pw_cg k (by omega) (fun i p q => e i (by omega) q), e0]
theorem plt_tri {f g : Int → Int} : ∀ k : Nat, (∀ i : Int, 12 - k ≤ i → i < 12 → f i = g i) ∨ plt f g k ∨ plt g f k ∨ 12 < k
  | 0 => Or.inl (fun i a b => by omega)
  | k + 1 => by
    by_cases hk : 12 < k + 1
    · exact Or.inr (Or.inr (Or.inr hk))
    · rcases Int.lt_trichotomy (f (11 - k)) (g (11 - k)) with h | h | h
      · exact Or.inr (Or.inl (Or.inl h))
      · rcases plt_tri (f := f) (g := g) k with q | q | q | q
        · refine Or.inl (fun i a b => ?_)
          by_cases e : i = 11 - k
          · rw [e, h]
          · exact q i (by omega) b
        · exact Or.inr (Or.inl (Or.inr ⟨h, q⟩))
        · exact Or.inr (Or.inr (Or.inl (Or.inr ⟨h.symm, q⟩)))
        · omega
      · exact Or.inr (Or.inr (Or.inl (Or.inl h)))
theorem popt_uniq {w m v f g : Int → Int} {a b : Int} (hf : popt w m v a b f) (hg : popt w m v a b g) : ∀ i : Int, 0 ≤ i → i < 12 → f i = g i := by
  have h1 := hf.2 g hg.1
  have h2 := hg.2 f hf.1
  have hn : ¬ plt g f 12 ∧ ¬ plt f g 12 := by
    constructor
    · rcases h1 with h | ⟨_, h⟩
      · rcases h2 with q | ⟨q, _⟩ <;> omega
      · exact h
    · rcases h2 with h | ⟨_, h⟩
      · rcases h1 with q | ⟨q, _⟩ <;> omega
      · exact h
  rcases plt_tri (f := f) (g := g) 12 with q | q | q | q
  · exact fun i a b => q i (by omega) b
  · exact absurd q hn.2
  · exact absurd q hn.1
  · omega
theorem zs_one (h : Int → Int) (q : Nat) : ∀ n : Nat, zs (fun t => if t = q then h t else 0) n = if q < n then h q else 0
  | 0 => by rw [if_neg (by omega)]; rfl
  | n + 1 => by
    show zs (fun t => if t = q then h t else 0) n + (if (n : Int) = q then h n else 0) = _
    rw [zs_one h q n]
    by_cases e : q = n
    · subst e
      rw [if_neg (by omega), if_pos rfl, if_pos (by omega)]
      omega
    · rw [if_neg (show ¬ (n : Int) = q by omega)]
      by_cases e2 : q < n
      · rw [if_pos e2, if_pos (by omega)]; omega
      · rw [if_neg e2, if_neg (by omega)]; omega
noncomputable def smr (h : Int → Int) : Nat → Int
  | 0 => 0
  | k + 1 => h (11 - k) + smr h k
theorem smr_zs (h : Int → Int) : ∀ k : Nat, k ≤ 12 → zs (fun t => if 12 - (k : Int) ≤ t then h t else 0) 12 = smr h k
  | 0, _ => by
    have : zs (fun t => if 12 - ((0 : Nat) : Int) ≤ t then h t else 0) 12 = zs (fun _ => 0) 12 := zs_cg (fun i hi => by rw [if_neg (by omega)])
    rw [this]; rfl
  | k + 1, hk => by
    have ih := smr_zs h k (by omega)
    have e : zs (fun t => if 12 - ((k + 1 : Nat) : Int) ≤ t then h t else 0) 12 = zs (fun t => (if t = ((11 - k : Nat) : Int) then h t else 0) + (if 12 - (k : Int) ≤ t then h t else 0)) 12 := zs_cg (fun i hi => by
      by_cases e1 : (i : Int) = ((11 - k : Nat) : Int)
      · rw [if_pos e1, if_pos (by omega), if_neg (by omega)]; omega
      · rw [if_neg e1]
        by_cases e2 : 12 - (k : Int) ≤ i
        · rw [if_pos e2, if_pos (by omega)]; omega
        · rw [if_neg e2, if_neg (by omega)]; omega)
    rw [e, zs_add2, ih, zs_one, if_pos (by omega), show ((11 - k : Nat) : Int) = 11 - k by omega]
    rfl
theorem pf_m {m v f : Int → Int} : ∀ (k : Nat) (a b : Int), 0 ≤ a → 0 ≤ b → pf m v f k a b → smr (fun t => if 0 < f t then m t else 0) k ≤ a + b
  | 0, a, b, ha, hb, _ => by show (0 : Int) ≤ a + b; omega
  | k + 1, a, b, ha, hb, h => by
    show (if 0 < f (11 - k) then m (11 - k) else 0) + smr (fun t => if 0 < f t then m t else 0) k ≤ a + b
    rcases h with ⟨h0, h⟩ | ⟨h0, hv, hm, h⟩ | ⟨h0, hv, hm, h⟩
    · have := pf_m k a b ha hb h
      rw [if_neg (by omega)]; omega
    · have := pf_m k _ b (by omega) hb h
      rw [if_pos (by omega)]; omega
    · have := pf_m k a _ ha (by omega) h
      rw [if_pos (by omega)]; omega
theorem pw_smr {w m f : Int → Int} : ∀ k : Nat, pw w m f k = smr (fun t => if 0 < f t then wo w m t else 0) k
  | 0 => rfl
  | k + 1 => by
    rw [pw_s, pw_smr k]; rfl
theorem pf_v {m v f : Int → Int} : ∀ (k : Nat) (a b : Int), k ≤ 12 → pf m v f k a b → ∀ t : Int, 12 - k ≤ t → t < 12 → 0 < f t → v t ≠ 0
  | 0, _, _, _, _, t, h1, h2, _ => by omega
  | k + 1, a, b, hk, h, t, h1, h2, h3 => by
    by_cases e : t = 11 - k
    · subst e
      rcases h with ⟨h0, h⟩ | ⟨h0, hv, hm, h⟩ | ⟨h0, hv, hm, h⟩ <;> omega
    · rcases h with ⟨h0, h⟩ | ⟨h0, hv, hm, h⟩ | ⟨h0, hv, hm, h⟩
      · exact pf_v k _ _ (by omega) h t (by omega) h2 h3
      · exact pf_v k _ _ (by omega) h t (by omega) h2 h3
      · exact pf_v k _ _ (by omega) h t (by omega) h2 h3
