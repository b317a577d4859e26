/-! the queue: an order by keys, ranks, insertion -/
noncomputable def mj_ua (μ : mj_M) (k : Nat) (f : Int → Int) : mj_M := fun q => if q = k then f else μ q
theorem g_as {μ : mj_M} {k : Nat} {f : Int → Int} : mj_ua μ k f k = f := if_pos rfl
theorem g_an {μ : mj_M} {k r : Nat} {f : Int → Int} (h : r ≠ k) : mj_ua μ k f r = μ r := if_neg h
theorem g_au {μ : mj_M} {k : Nat} {f : Int → Int} {i v : Int} : mj_up (mj_ua μ k f) k i v = mj_ua μ k (mj_pt f i v) := by
  funext q
  unfold mj_up mj_ua
  split
  · rw [if_pos rfl]
  · rfl
theorem g_aid {μ : mj_M} {k : Nat} : mj_ua μ k (μ k) = μ := by
  funext q
  unfold mj_ua
  split
  · next h => rw [h]
  · rfl
theorem g_uua {μ : mj_M} {k : Nat} {i v : Int} : mj_up μ k i v = mj_ua μ k (mj_pt (μ k) i v) := rfl
theorem zc_s (p : Int → Bool) (n : Nat) : zc p (n + 1) = zc p n + if p n then 1 else 0 := rfl
theorem zc_le {p q : Int → Bool} : ∀ {n : Nat}, (∀ i : Nat, i < n → p i = true → q i = true) → zc p n ≤ zc q n
  | 0, _ => Int.le_refl _
  | n + 1, h => by
    have h1 := zc_le (n := n) (fun i hi => h i (by omega))
    have h2 := h n (by omega)
    unfold zc
    by_cases e : p n = true
    · simp only [e, h2 e, if_true]; omega
    · rw [show p n = false by simpa using e]
      simp only [Bool.false_eq_true, if_false]
      split <;> omega
theorem zc_ltw {p q : Int → Bool} {k : Nat} (hp : p k = false) (hq : q k = true) : ∀ {n : Nat}, k < n → (∀ i : Nat, i < n → p i = true → q i = true) → zc p n < zc q n
  | 0, h, _ => by omega
  | n + 1, hk, h => by
    by_cases e : k = n
    · subst e
      have h1 := zc_le (n := k) (p := p) (q := q) (fun i hi => h i (by omega))
      unfold zc
      simp only [hp, hq, if_true]
      simp
      omega
    · have h1 := zc_ltw hp hq (n := n) (by omega) (fun i hi => h i (by omega))
      have h2 := h n (by omega)
      unfold zc
      by_cases e : p n = true
      · simp only [e, h2 e, if_true]; omega
      · rw [show p n = false by simpa using e]
        simp only [Bool.false_eq_true, if_false]
        split <;> omega
noncomputable def vahr (f : Int → Int → Int) (ke : Int → Int) : Nat → Int → Int → Int → Bool
  | 0, _, r, q => decide (r < q)
  | n + 1, s, r, q => if f ((ke s).tmod 10) r = f ((ke s).tmod 10) q then vahr f ke n (s + 1) r q else if ke s < 10 then decide (f ((ke s).tmod 10) q < f ((ke s).tmod 10) r) else decide (f ((ke s).tmod 10) r < f ((ke s).tmod 10) q)
theorem vahr_as (f : Int → Int → Int) (ke : Int → Int) : ∀ n s p q, p ≠ q → vahr f ke n s p q = !vahr f ke n s q p
  | 0, s, p, q, h => by
    unfold vahr
    rw [Bool.eq_iff_iff]
    simp only [decide_eq_true_eq, Bool.not_eq_true', decide_eq_false_iff_not]
    omega
  | n + 1, s, p, q, h => by
    have ih := vahr_as f ke n (s + 1) p q h
    unfold vahr
    by_cases e : f ((ke s).tmod 10) p = f ((ke s).tmod 10) q
    · rw [if_pos e, if_pos e.symm, ih]
    · rw [if_neg e, if_neg (show ¬ f ((ke s).tmod 10) q = f ((ke s).tmod 10) p from fun h => e h.symm)]
      split
      all_goals (
        rw [Bool.eq_iff_iff]
        simp only [decide_eq_true_eq, Bool.not_eq_true', decide_eq_false_iff_not]
        omega)
theorem vahr_tr (f : Int → Int → Int) (ke : Int → Int) : ∀ n s p q r, vahr f ke n s p q = true → vahr f ke n s q r = true → vahr f ke n s p r = true
  | 0, s, p, q, r, h1, h2 => by
    unfold vahr at *
    simp only [decide_eq_true_eq] at *
    omega
  | n + 1, s, p, q, r, h1, h2 => by
    unfold vahr at *
    generalize f ((ke s).tmod 10) p = a at *
    generalize f ((ke s).tmod 10) q = b at *
    generalize f ((ke s).tmod 10) r = e at *
    by_cases e1 : a = b
    · subst e1
      by_cases e2 : a = e
      · subst e2
        simp only [if_true] at *
        exact vahr_tr f ke n (s + 1) p q r h1 h2
      · rw [if_neg e2] at *; exact h2
    · rw [if_neg e1] at h1
      by_cases e2 : b = e
      · subst e2; rw [if_neg e1]; exact h1
      · rw [if_neg e2] at h2
        split at h1
        · next e3 =>
          rw [if_pos e3] at h2
          simp only [decide_eq_true_eq] at *
          rw [if_neg (by omega), if_pos e3]
          simp only [decide_eq_true_eq]; omega
        · next e3 =>
          rw [if_neg e3] at h2
          simp only [decide_eq_true_eq] at *
          rw [if_neg (by omega), if_neg e3]
          simp only [decide_eq_true_eq]; omega
theorem vahr_cg {f g : Int → Int → Int} {ke le : Int → Int} {p q : Int} (hp : ∀ k, f k p = g k p) (hq : ∀ k, f k q = g k q) : ∀ (n : Nat) (s : Int), (∀ i, s ≤ i → i < s + (n : Int) → ke i = le i) → vahr f ke n s p q = vahr g le n s p q
  | 0, s, _ => rfl
  | n + 1, s, h => by
    have ih := vahr_cg hp hq n (s + 1) (fun i a b => h i (by omega) (by omega))
    have h0 := h s (by omega) (by omega)
    unfold vahr
    rw [ih, h0, hp, hq]
noncomputable def zr (s : Int → Bool) (w : Int → Int → Bool) (q : Int) (n : Nat) : Int := zc (fun p => !decide (p = q) && (s p && w p q)) n
theorem zr_bd (s : Int → Bool) (w : Int → Int → Bool) (q : Int) (n : Nat) : 0 ≤ zr s w q n ∧ zr s w q n ≤ n := zc_bd _ _
theorem zr_le (s : Int → Bool) (w : Int → Int → Bool) (q : Int) (n : Nat) : zr s w q n ≤ zc s n := by
  refine zc_le fun i hi h => ?_
  simp only [Bool.and_eq_true] at h
  exact h.2.1
theorem zr_s (s : Int → Bool) (w : Int → Int → Bool) (q : Int) (n : Nat) : zr s w q (n + 1) = zr s w q n + if !decide ((n : Int) = q) && (s n && w n q) then 1 else 0 := rfl
theorem zr_a {s : Int → Bool} {w : Int → Int → Bool} (hA : ∀ p q, p ≠ q → w p q = !w q p) (hT : ∀ p q r, w p q = true → w q r = true → w p r = true) {q r : Int} {n : Nat} (h0 : 0 ≤ q) (hn : q < n) (hs : s q = true) (he : q ≠ r) (hw : w q r = true) : zr s w q n < zr s w r n := by
  obtain ⟨k, rfl⟩ : ∃ k : Nat, q = k := ⟨q.toNat, by omega⟩
  have hb := hA k r he
  refine zc_ltw (k := k) (by simp) (by simp [he, hs, hw]) (by omega) fun i hi h => ?_
  simp only [Bool.and_eq_true, Bool.not_eq_true', decide_eq_false_iff_not] at h ⊢
  refine ⟨fun e => ?_, h.2.1, hT _ _ _ h.2.2 hw⟩
  have h3 := h.2.2
  rw [e] at h3
  rw [hw, h3] at hb
  exact Bool.noConfusion hb
theorem zr_b {s : Int → Bool} {w : Int → Int → Bool} (hA : ∀ p q, p ≠ q → w p q = !w q p) (hT : ∀ p q r, w p q = true → w q r = true → w p r = true) {q r : Int} {n : Nat} (he : q ≠ r) (hw : w r q = true) : zr s w r n ≤ zr s w q n := by
  have hb := hA q r he
  refine zc_le fun i hi h => ?_
  simp only [Bool.and_eq_true, Bool.not_eq_true', decide_eq_false_iff_not] at h ⊢
  refine ⟨fun e => ?_, h.2.1, hT _ _ _ h.2.2 hw⟩
  have h3 := h.2.2
  rw [e] at h3
  rw [hw, h3] at hb
  exact Bool.noConfusion hb
def zi (s : Int → Bool) (w : Int → Int → Bool) (n : Nat) (len : Int) (f : Int → Int) : Prop := len = zc s n ∧ (∀ i, 0 ≤ i → i < len → (0 ≤ f i ∧ f i < n) ∧ s (f i) = true ∧ zr s w (f i) n = i) ∧ (∀ q : Int, 0 ≤ q → q < n → s q = true → zr s w q n < len ∧ f (zr s w q n) = q)
theorem zi_0 (s : Int → Bool) (w : Int → Int → Bool) (f : Int → Int) : zi s w 0 0 f := ⟨rfl, fun i a b => by omega, fun q a b => by omega⟩
noncomputable def zsh (f : Int → Int) (m len : Int) : Int → Int := fun k => if m < k ∧ k ≤ len then f (k - 1) else f k
theorem zsh_top {f : Int → Int} {len : Int} : zsh f len len = f := by
  funext k
  unfold zsh
  rw [if_neg (by omega)]
theorem zsh_at {f : Int → Int} {m len : Int} : zsh f m len (m - 1) = f (m - 1) := by
  unfold zsh
  rw [if_neg (by omega)]
theorem zsh_step {f : Int → Int} {m len : Int} (h : m ≤ len) : mj_pt (zsh f m len) m (f (m - 1)) = zsh f (m - 1) len := by
  funext k
  simp only [g_pe, zsh]
  by_cases e : k = m
  · subst e; rw [if_pos rfl, if_pos (by omega)]
  · rw [if_neg e]
    by_cases e2 : m < k ∧ k ≤ len
    · rw [if_pos e2, if_pos (by omega)]
    · rw [if_neg e2, if_neg (by omega)]
theorem zi_test {s : Int → Bool} {w : Int → Int → Bool} (hA : ∀ p q, p ≠ q → w p q = !w q p) (hT : ∀ p q r, w p q = true → w q r = true → w p r = true) {n : Nat} {len : Int} {f : Int → Int} (h : zi s w n len f) {i : Int} (h0 : 0 ≤ i) (hi : i < len) : w n (f i) = decide (zr s w n n ≤ i) := by
  obtain ⟨⟨a1, a2⟩, a3, a4⟩ := h.2.1 i h0 hi
  have hne : f i ≠ n := by omega
  have hb := hA (f i) n hne
  rw [Bool.eq_iff_iff, decide_eq_true_eq]
  constructor
  · intro hw
    have := zr_b (s := s) hA hT (n := n) hne hw
    omega
  · intro hle
    by_cases hw : w (f i) n = true
    · have := zr_a hA hT a1 a2 a3 hne hw
      omega
    · simp only [Bool.not_eq_true] at hw
      rw [hw] at hb
      simpa using hb.symm
theorem zi_skip {s : Int → Bool} {w : Int → Int → Bool} {n : Nat} {len : Int} {f : Int → Int} (h : zi s w n len f) (hs : s n = false) : zi s w (n + 1) len f := by
  have e : ∀ q, zr s w q (n + 1) = zr s w q n := fun q => by rw [zr_s, hs]; simp
  refine ⟨by rw [h.1, zc_s, hs]; simp, fun i a b => ?_, fun q a b c => ?_⟩
  · obtain ⟨a1, a2, a3⟩ := h.2.1 i a b
    exact ⟨by omega, a2, by rw [e]; exact a3⟩
  · have hq : q ≠ n := fun e => by rw [e, hs] at c; exact Bool.noConfusion c
    rw [e]
    exact h.2.2 q a (by omega) c
theorem zi_ins {s : Int → Bool} {w : Int → Int → Bool} (hA : ∀ p q, p ≠ q → w p q = !w q p) (hT : ∀ p q r, w p q = true → w q r = true → w p r = true) {n : Nat} {len : Int} {f : Int → Int} (h : zi s w n len f) (hs : s n = true) : zi s w (n + 1) (len + 1) (mj_pt (zsh f (zr s w n n) len) (zr s w n n) n) := by
  have hb := zr_bd s w n n
  have hl := zr_le s w n n
  rw [← h.1] at hl
  have e1 : zr s w n (n + 1) = zr s w n n := by rw [zr_s]; simp
  have e2 : ∀ q : Int, q ≠ n → zr s w q (n + 1) = zr s w q n + if w n q then 1 else 0 := fun q hq => by
    rw [zr_s, hs]; simp [show ¬ (n : Int) = q from fun e => hq e.symm]
  refine ⟨by rw [h.1, zc_s, hs]; simp, fun i a b => ?_, fun q a b c => ?_⟩
  · simp only [g_pe, zsh]
    by_cases i1 : i = zr s w n n
    · rw [if_pos i1]
      exact ⟨by omega, hs, by rw [e1, i1]⟩
    · rw [if_neg i1]
      by_cases i2 : zr s w n n < i ∧ i ≤ len
      · rw [if_pos i2]
        obtain ⟨a1, a2, a3⟩ := h.2.1 (i - 1) (by omega) (by omega)
        have ht := zi_test hA hT h (i := i - 1) (by omega) (by omega)
        refine ⟨by omega, a2, ?_⟩
        rw [e2 _ (by omega), ht, a3]
        simp [show zr s w n n ≤ i - 1 by omega]
      · rw [if_neg i2]
        obtain ⟨a1, a2, a3⟩ := h.2.1 i (by omega) (by omega)
        have ht := zi_test hA hT h (i := i) (by omega) (by omega)
        refine ⟨by omega, a2, ?_⟩
        rw [e2 _ (by omega), ht, a3]
        simp [show ¬ zr s w n n ≤ i by omega]
  · by_cases hq : q = n
    · subst hq
      rw [e1]
      exact ⟨by omega, by simp [g_pe]⟩
    · obtain ⟨a1, a2⟩ := h.2.2 q a (by omega) c
      have hz := zr_bd s w q n
      have ht := zi_test hA hT h (i := zr s w q n) (by omega) a1
      rw [a2] at ht
      rw [e2 q hq, ht]
      simp only [g_pe, zsh]
      by_cases e3 : zr s w n n ≤ zr s w q n
      · simp only [e3, decide_true, if_true]
        refine ⟨by omega, ?_⟩
        rw [if_neg (by omega), if_pos (by omega), Int.add_sub_cancel, a2]
      · simp only [e3, decide_false]
        simp
        refine ⟨by omega, ?_⟩
        rw [if_neg (by omega), if_neg (by omega), a2]
noncomputable def zfst (p : Int → Bool) : Nat → Int
  | 0 => -4
  | n + 1 => if zfst p n = -4 then (if p n then (n : Int) else -4) else zfst p n
theorem zfst_none {p : Int → Bool} : ∀ {n : Nat}, (∀ i : Nat, i < n → p i = false) → zfst p n = -4
  | 0, _ => rfl
  | n + 1, h => by
    unfold zfst
    rw [zfst_none (n := n) (fun i hi => h i (by omega)), h n (by omega)]
    rfl
theorem zfst_at {p : Int → Bool} {j : Nat} (hj : zfst p j = -4) (hp : p j = true) : ∀ {n : Nat}, j < n → zfst p n = j
  | 0, h => by omega
  | n + 1, h => by
    unfold zfst
    by_cases e : j = n
    · subst e; rw [if_pos hj, if_pos hp]
    · rw [zfst_at hj hp (n := n) (by omega), if_neg (by omega)]
theorem zfst_bd (p : Int → Bool) : ∀ n : Nat, zfst p n = -4 ∨ (0 ≤ zfst p n ∧ zfst p n < n ∧ p (zfst p n) = true)
  | 0 => Or.inl rfl
  | n + 1 => by
    have ih := zfst_bd p n
    unfold zfst
    by_cases e : zfst p n = -4
    · rw [if_pos e]
      by_cases h : p n = true
      · rw [if_pos h]; exact Or.inr ⟨by omega, by omega, h⟩
      · rw [if_neg h]; exact Or.inl rfl
    · rw [if_neg e]
      rcases ih with h | h
      · exact absurd h e
      · exact Or.inr ⟨h.1, by omega, h.2.2⟩
theorem zfst_no {p : Int → Bool} : ∀ {n : Nat}, zfst p n = -4 → ∀ i : Nat, i < n → p i = false
  | 0, _, i, hi => by omega
  | n + 1, h, i, hi => by
    unfold zfst at h
    by_cases e : zfst p n = -4
    · rw [if_pos e] at h
      by_cases e2 : i = n
      · subst e2
        by_cases hp : p i = true
        · rw [if_pos hp] at h; omega
        · simpa using hp
      · exact zfst_no e i (by omega)
    · rw [if_neg e] at h; exact absurd h e
/-- what stands at a place of the row is what the reference finds by rank -/
noncomputable def zq (s : Int → Bool) (w : Int → Int → Bool) (n : Nat) (i : Int) : Int := zfst (fun r => s r && decide (zr s w r n = i)) n
theorem zi_zq {s : Int → Bool} {w : Int → Int → Bool} {n : Nat} {len : Int} {f : Int → Int} (h : zi s w n len f) {i : Int} (h0 : 0 ≤ i) : zq s w n i = if i < len then f i else -4 := by
  rcases zfst_bd (fun r => s r && decide (zr s w r n = i)) n with hz | ⟨z1, z2, z3⟩
  · have hn := zfst_no hz
    unfold zq
    rw [hz]
    split
    · next hi =>
      obtain ⟨⟨a1, a2⟩, a3, a4⟩ := h.2.1 i h0 hi
      have := hn (f i).toNat (by omega)
      rw [Int.toNat_of_nonneg a1, a3, a4] at this
      simp at this
    · rfl
  · change 0 ≤ zq s w n i at z1
    change zq s w n i < n at z2
    change (s (zq s w n i) && decide (zr s w (zq s w n i) n = i)) = true at z3
    simp only [Bool.and_eq_true, decide_eq_true_eq] at z3
    obtain ⟨b1, b2⟩ := h.2.2 _ z1 z2 z3.1
    rw [z3.2] at b1 b2
    rw [if_pos b1, b2]
theorem zfst_cg {p q : Int → Bool} : ∀ {n : Nat}, (∀ i : Nat, i < n → p i = q i) → zfst p n = zfst q n
  | 0, _ => rfl
  | n + 1, h => by
    unfold zfst
    rw [zfst_cg (n := n) (fun i hi => h i (by omega)), h n (by omega)]
theorem zq_cg {s s' : Int → Bool} {w w' : Int → Int → Bool} {n : Nat} {i : Int} (h1 : ∀ r : Int, 0 ≤ r → r < n → s r = s' r) (h2 : ∀ r q : Int, 0 ≤ r → r < n → 0 ≤ q → q < n → w r q = w' r q) : zq s w n i = zq s' w' n i := by
  refine zfst_cg fun r hr => ?_
  have e : zr s w r n = zr s' w' r n := zc_cg fun p hp => by rw [h1 p (by omega) (by omega), h2 p r (by omega) (by omega) (by omega) (by omega)]
  rw [h1 r (by omega) (by omega), e]
