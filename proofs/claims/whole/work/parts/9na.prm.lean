/-! the program, the reference's search: maths -/
/-- of all rows of S and the old one, the new one is best, an earlier one at a tie -/
def Bs (w m : Int → Int) (S : (Int → Int) → Prop) (f f' : Int → Int) : Prop := (f' = f ∧ ∀ g, S g → pw w m g 12 ≤ pw w m f 12) ∨ (S f' ∧ pw w m f 12 < pw w m f' 12 ∧ ∀ g, S g → pw w m g 12 < pw w m f' 12 ∨ (pw w m g 12 = pw w m f' 12 ∧ ¬ plt g f' 12))
theorem Bs_le {w m : Int → Int} {S : (Int → Int) → Prop} {f f' : Int → Int} (h : Bs w m S f f') : pw w m f 12 ≤ pw w m f' 12 ∧ ∀ g, S g → pw w m g 12 ≤ pw w m f' 12 := by
  rcases h with ⟨e, h⟩ | ⟨_, h1, h2⟩
  · subst e; exact ⟨Int.le_refl _, h⟩
  · refine ⟨by omega, fun g hg => ?_⟩
    rcases h2 g hg with q | ⟨q, _⟩ <;> omega
theorem Bs_cg {w m : Int → Int} {S T : (Int → Int) → Prop} {f f' : Int → Int} (h : ∀ g, S g ↔ T g) (hb : Bs w m S f f') : Bs w m T f f' := by
  rcases hb with ⟨e, h1⟩ | ⟨h0, h1, h2⟩
  · exact Or.inl ⟨e, fun g hg => h1 g ((h g).mpr hg)⟩
  · exact Or.inr ⟨(h _).mp h0, h1, fun g hg => h2 g ((h g).mpr hg)⟩
theorem Bs_cmp {w m : Int → Int} {S T U : (Int → Int) → Prop} {f f1 f2 : Int → Int} (h1 : Bs w m S f f1) (h2 : Bs w m T f1 f2) (hl : ∀ g g', S g → T g' → ¬ plt g' g 12) (hu : ∀ g, U g ↔ S g ∨ T g) : Bs w m U f f2 := by
  have b1 := Bs_le h1
  have b2 := Bs_le h2
  rcases h2 with ⟨e, h2⟩ | ⟨t0, t1, t2⟩
  · subst e
    rcases h1 with ⟨e, h1⟩ | ⟨s0, s1, s2⟩
    · subst e
      refine Or.inl ⟨rfl, fun g hg => ?_⟩
      rcases (hu g).mp hg with q | q
      · exact h1 g q
      · exact h2 g q
    · refine Or.inr ⟨(hu _).mpr (Or.inl s0), s1, fun g hg => ?_⟩
      rcases (hu g).mp hg with q | q
      · exact s2 g q
      · have := h2 g q
        by_cases e : pw w m g 12 = pw w m f2 12
        · exact Or.inr ⟨e, hl _ _ s0 q⟩
        · exact Or.inl (by omega)
  · refine Or.inr ⟨(hu _).mpr (Or.inr t0), by omega, fun g hg => ?_⟩
    rcases (hu g).mp hg with q | q
    · have := b1.2 g q
      exact Or.inl (by omega)
    · exact t2 g q
theorem plt_as {f g : Int → Int} : ∀ k : Nat, plt f g k → ¬ plt g f k
  | 0, h => fun _ => h
  | k + 1, h => fun q => by
    rcases h with h | ⟨h1, h2⟩
    · rcases q with q | ⟨q1, q2⟩ <;> omega
    · rcases q with q | ⟨q1, q2⟩
      · omega
      · exact plt_as k h2 q2
theorem plt_eq {f g : Int → Int} : ∀ k : Nat, k ≤ 12 → (∀ i : Int, 12 - k ≤ i → i < 12 → f i = g i) → ¬ plt f g k
  | 0, _, _ => fun h => h
  | k + 1, hk, h => fun q => by
    have h0 := h (11 - k) (by omega) (by omega)
    rcases q with q | ⟨_, q⟩
    · omega
    · exact plt_eq k (by omega) (fun i a b => h i (by omega) b) q
/-- the same up to title 12 - k, then less at it -/
theorem plt_at {f g : Int → Int} {k : Nat} (hk : k + 1 ≤ 12) (h : f (11 - k) < g (11 - k)) : ∀ j : Nat, k + j + 1 ≤ 12 → (∀ i : Int, 12 - (k + j + 1 : Nat) ≤ i → i < 11 - k → f i = g i) → plt f g (k + j + 1)
  | 0, _, _ => Or.inl h
  | j + 1, hj, he => by
    have e : ((k + (j + 1) : Nat) : Int) = k + j + 1 := by omega
    refine Or.inr ⟨he (11 - ((k + (j + 1) : Nat) : Int)) (by omega) (by omega), ?_⟩
    exact plt_at hk h j (by omega) (fun i a b => he i (by omega) b)
theorem plt_12 {f g : Int → Int} {k : Nat} (hk : k + 1 ≤ 12) (h : f (11 - k) < g (11 - k)) (he : ∀ i : Int, 0 ≤ i → i < 11 - k → f i = g i) : plt f g 12 := by
  have := plt_at hk h (11 - k) (by omega) (fun i a b => he i (by omega) b)
  rw [show k + (11 - k) + 1 = 12 by omega] at this
  exact this
/-- rows that go on from the first 12 - k of c -/
def SS (m v c : Int → Int) (k : Nat) (a b : Int) (g : Int → Int) : Prop := (∀ i : Int, 0 ≤ i → i < 12 - k → g i = c i) ∧ pf m v g k a b
def TT (m v c : Int → Int) (k : Nat) (x a b : Int) (g : Int → Int) : Prop := (∀ i : Int, 0 ≤ i → i < 11 - k → g i = c i) ∧ x ≤ g (11 - k) ∧ pf m v g (k + 1) a b
/-- voice x may read title t in the rooms a and b -/
def fe (m v : Int → Int) (t x a b : Int) : Prop := x = 0 ∨ (x = 1 ∧ (v t = 1 ∨ v t = 3) ∧ m t ≤ a) ∨ (x = 2 ∧ (v t = 2 ∨ v t = 3) ∧ m t ≤ b)
theorem SS_TT {m v c : Int → Int} {k : Nat} {a b : Int} (hk : k + 1 ≤ 12) (g : Int → Int) : TT m v c k 0 a b g ↔ SS m v c (k + 1) a b g := by
  unfold TT SS
  have e : (12 : Int) - (k + 1 : Nat) = 11 - k := by omega
  rw [e]
  constructor
  · intro h; exact ⟨h.1, h.2.2⟩
  · intro h
    refine ⟨h.1, ?_, h.2⟩
    rcases h.2 with ⟨h0, _⟩ | ⟨h0, _⟩ | ⟨h0, _⟩ <;> omega
theorem TT_3 {m v c : Int → Int} {k : Nat} {a b : Int} (g : Int → Int) : ¬ TT m v c k 3 a b g := by
  intro ⟨_, h1, h2⟩
  rcases h2 with ⟨h0, _⟩ | ⟨h0, _⟩ | ⟨h0, _⟩ <;> omega
theorem TT_no {m v c : Int → Int} {k : Nat} {x a b : Int} (hn : ¬ fe m v (11 - k) x a b) (g : Int → Int) : TT m v c k (x + 1) a b g ↔ TT m v c k x a b g := by
  unfold TT
  constructor
  · intro h; exact ⟨h.1, by omega, h.2.2⟩
  · intro h
    refine ⟨h.1, ?_, h.2.2⟩
    by_cases e : g (11 - k) = x
    · exfalso
      apply hn
      unfold fe
      rcases h.2.2 with ⟨h0, _⟩ | ⟨h0, h3, h4, _⟩ | ⟨h0, h3, h4, _⟩
      · exact Or.inl (by omega)
      · exact Or.inr (Or.inl ⟨by omega, h3, h4⟩)
      · exact Or.inr (Or.inr ⟨by omega, h3, h4⟩)
    · have := h.2.1; omega
theorem TT_yes {m v c : Int → Int} {k : Nat} {x a b : Int} (hk : k + 1 ≤ 12) (hf : fe m v (11 - k) x a b) (g : Int → Int) : TT m v c k x a b g ↔ SS m v (mj_pt c (11 - k) x) k (a - if x = 1 then m (11 - k) else 0) (b - if x = 2 then m (11 - k) else 0) g ∨ TT m v c k (x + 1) a b g := by
  unfold TT SS
  constructor
  · intro h
    by_cases e : g (11 - k) = x
    · refine Or.inl ⟨fun i a1 a2 => ?_, ?_⟩
      · by_cases e2 : i = 11 - k
        · rw [e2, g_ps, e]
        · rw [g_pn e2]; exact h.1 i a1 (by omega)
      · rcases h.2.2 with ⟨h0, h1⟩ | ⟨h0, h3, h4, h1⟩ | ⟨h0, h3, h4, h1⟩
        · have : x = 0 := by omega
          subst this
          rw [if_neg (by decide), if_neg (by decide), Int.sub_zero, Int.sub_zero]; exact h1
        · have : x = 1 := by omega
          subst this
          rw [if_pos rfl, if_neg (by decide), Int.sub_zero]; exact h1
        · have : x = 2 := by omega
          subst this
          rw [if_pos rfl, if_neg (by decide), Int.sub_zero]; exact h1
    · exact Or.inr ⟨h.1, by have := h.2.1; omega, h.2.2⟩
  · intro h
    rcases h with ⟨h1, h2⟩ | ⟨h1, h2, h3⟩
    · have e : g (11 - k) = x := by rw [h1 (11 - k) (by omega) (by omega), g_ps]
      refine ⟨fun i a1 a2 => ?_, by omega, ?_⟩
      · rw [h1 i a1 (by omega), g_pn (by omega)]
      · rcases hf with q | ⟨q, q1, q2⟩ | ⟨q, q1, q2⟩
        · subst q
          rw [if_neg (by decide), if_neg (by decide), Int.sub_zero, Int.sub_zero] at h2
          exact Or.inl ⟨e, h2⟩
        · subst q
          rw [if_pos rfl, if_neg (by decide), Int.sub_zero] at h2
          exact Or.inr (Or.inl ⟨e, q1, q2, h2⟩)
        · subst q
          rw [if_pos rfl, if_neg (by decide), Int.sub_zero] at h2
          exact Or.inr (Or.inr ⟨e, q1, q2, h2⟩)
    · exact ⟨h1, by omega, h3⟩
theorem TT_lex {m v c : Int → Int} {k : Nat} {x a b a' b' : Int} (hk : k + 1 ≤ 12) {g g' : Int → Int} (h : SS m v (mj_pt c (11 - k) x) k a' b' g) (h' : TT m v c k (x + 1) a b g') : ¬ plt g' g 12 := by
  apply plt_as 12
  have e : g (11 - k) = x := by rw [h.1 (11 - k) (by omega) (by omega), g_ps]
  refine plt_12 hk (by have := h'.2.1; omega) (fun i a1 a2 => ?_)
  rw [h.1 i a1 (by omega), g_pn (by omega), h'.1 i a1 a2]
/-- what may still be asked for among the last k -/
noncomputable def akk (w v : Int → Int) : Nat → Int
  | 0 => 0
  | k + 1 => akk w v k + if v (11 - k) ≠ 0 then w (11 - k) else 0
theorem akk_s (w v : Int → Int) (k : Nat) : akk w v (k + 1) = akk w v k + if v (11 - k) ≠ 0 then w (11 - k) else 0 := rfl
theorem akk_bd {w v : Int → Int} (hW : ∀ i, 0 ≤ w i ∧ w i ≤ 30) : ∀ k : Nat, 0 ≤ akk w v k ∧ akk w v k ≤ 30 * k
  | 0 => by show (0 : Int) ≤ 0 ∧ (0 : Int) ≤ _; omega
  | k + 1 => by
    have := akk_bd hW k (v := v)
    have h := hW (11 - k)
    rw [akk_s]
    split <;> omega
theorem akk_pw {w m v g : Int → Int} (hW : ∀ i, 0 ≤ w i) (hM : ∀ i, 0 ≤ m i) : ∀ (k : Nat) (a b : Int), pf m v g k a b → pw w m g k ≤ 10000 * akk w v k
  | 0, _, _, _ => by show (0 : Int) ≤ 10000 * 0; omega
  | k + 1, a, b, h => by
    rw [akk_s, pw_s]
    unfold wo
    have h1 := hW (11 - k)
    have h2 := hM (11 - k)
    rcases h with ⟨h0, h⟩ | ⟨h0, hv, hm, h⟩ | ⟨h0, hv, hm, h⟩
    · have := akk_pw hW hM k _ _ h (w := w)
      rw [if_neg (by omega)]
      split <;> omega
    · have := akk_pw hW hM k _ _ h (w := w)
      rw [if_pos (by omega), if_pos (by omega)]
      omega
    · have := akk_pw hW hM k _ _ h (w := w)
      rw [if_pos (by omega), if_pos (by omega)]
      omega
noncomputable def zp (w g : Int → Int) (t : Nat) : Int := zs (fun i => if 0 < g i then w i else 0) t
theorem zp_s (w g : Int → Int) (t : Nat) : zp w g (t + 1) = zp w g t + if 0 < g t then w t else 0 := rfl
theorem zp_cg {w g g' : Int → Int} {t : Nat} (h : ∀ i : Int, 0 ≤ i → i < t → g i = g' i) : zp w g t = zp w g' t := zs_cg (fun i hi => by rw [h i (by omega) (by omega)])
theorem zp_bd {w g : Int → Int} {b : Int} (hW : ∀ i, 0 ≤ w i ∧ w i ≤ b) (t : Nat) : 0 ≤ zp w g t ∧ zp w g t ≤ t * b := zs_bd2 (fun i hi => by have := hW i; split <;> omega)
theorem pw_split (w m g : Int → Int) : ∀ (t k : Nat), t + k = 12 → pw w m g 12 = 10000 * zp w g t - zp m g t + pw w m g k
  | 0, k, h => by
    have : k = 12 := by omega
    subst this
    show _ = 10000 * (0 : Int) - 0 + _
    omega
  | t + 1, k, h => by
    have := pw_split w m g t (k + 1) (by omega)
    rw [this, zp_s, zp_s, pw_s, show (11 : Int) - k = t by omega]
    unfold wo
    split <;> omega
theorem pw_0 {w m g : Int → Int} : ∀ k : Nat, k ≤ 12 → (∀ i : Int, 12 - k ≤ i → i < 12 → g i = 0) → pw w m g k = 0
  | 0, _, _ => rfl
  | k + 1, hk, h => by
    rw [pw_s, pw_0 k (by omega) (fun i a b => h i (by omega) b), h (11 - k) (by omega) (by omega), if_neg (by omega)]
    rfl
theorem pf_z {m v g : Int → Int} : ∀ (k : Nat) (a b : Int), k ≤ 12 → (∀ i : Int, 12 - k ≤ i → i < 12 → v i = 0) → pf m v g k a b → ∀ i : Int, 12 - k ≤ i → i < 12 → g i = 0
  | 0, _, _, _, _, _, i, a, b => by omega
  | k + 1, a, b, hk, hv, h, i, a1, a2 => by
    have h0 := hv (11 - k) (by omega) (by omega)
    rcases h with ⟨h1, h⟩ | ⟨h1, h2, _⟩ | ⟨h1, h2, _⟩
    · by_cases e : i = 11 - k
      · rw [e, h1]
      · exact pf_z k a b (by omega) (fun j b1 b2 => hv j (by omega) b2) h i (by omega) a2
    · omega
    · omega
theorem pf_0 {m v g : Int → Int} : ∀ (k : Nat) (a b : Int), k ≤ 12 → (∀ i : Int, 12 - k ≤ i → i < 12 → g i = 0) → pf m v g k a b
  | 0, _, _, _, _ => trivial
  | k + 1, a, b, hk, h => Or.inl ⟨h (11 - k) (by omega) (by omega), pf_0 k a b (by omega) (fun i b1 b2 => h i (by omega) b2)⟩
theorem pf_nn {m v g : Int → Int} : ∀ (k : Nat) (a b : Int), k ≤ 12 → pf m v g k a b → ∀ i : Int, 12 - k ≤ i → i < 12 → 0 ≤ g i
  | 0, _, _, _, _, i, a, b => by omega
  | k + 1, a, b, hk, h, i, a1, a2 => by
    by_cases e : i = 11 - k
    · subst e
      rcases h with ⟨h1, h⟩ | ⟨h1, h2, _, h⟩ | ⟨h1, h2, _, h⟩ <;> omega
    · rcases h with ⟨h1, h⟩ | ⟨h1, h2, _, h⟩ | ⟨h1, h2, _, h⟩ <;> exact pf_nn k _ _ (by omega) h i (by omega) a2
theorem plt_z {f g : Int → Int} : ∀ k : Nat, k ≤ 12 → (∀ i : Int, 12 - k ≤ i → i < 12 → 0 ≤ g i) → (∀ i : Int, 12 - k ≤ i → i < 12 → f i = 0) → ¬ plt g f k
  | 0, _, _, _ => fun h => h
  | k + 1, hk, h1, h2 => fun q => by
    have a := h1 (11 - k) (by omega) (by omega)
    have b := h2 (11 - k) (by omega) (by omega)
    rcases q with q | ⟨_, q⟩
    · omega
    · exact plt_z k (by omega) (fun i c d => h1 i (by omega) d) (fun i c d => h2 i (by omega) d) q
/-- a leaf -/
theorem Bs_leaf {w m v c f f' : Int → Int} {t k : Nat} {a b : Int} (htk : t + k = 12) (hv : ∀ i : Int, t ≤ i → i < 12 → v i = 0) (h1 : ∀ i : Int, 0 ≤ i → i < t → f' i = c i) (h2 : ∀ i : Int, t ≤ i → i < 12 → f' i = 0) (hl : pw w m f 12 < pw w m f' 12) : Bs w m (SS m v c k a b) f f' := by
  refine Or.inr ⟨⟨fun i a1 a2 => h1 i a1 (by omega), pf_0 k a b (by omega) (fun i a1 a2 => h2 i (by omega) a2)⟩, hl, fun g hg => Or.inr ?_⟩
  have hz := pf_z k a b (by omega) (fun i a1 a2 => hv i (by omega) a2) hg.2
  have he : ∀ i : Int, 0 ≤ i → i < 12 → g i = f' i := fun i a1 a2 => by
    by_cases q : i < t
    · rw [hg.1 i a1 (by omega), h1 i a1 q]
    · rw [hz i (by omega) a2, h2 i (by omega) a2]
  exact ⟨pw_cg 12 (by omega) (fun i a1 a2 => he i (by omega) a2), plt_eq 12 (by omega) (fun i a1 a2 => he i (by omega) a2)⟩
/-- cut off -/
theorem Bs_no {w m v c f : Int → Int} {t k : Nat} {a b A U bA bM : Int} (htk : t + k = 12) (hW : ∀ i, 0 ≤ w i) (hM : ∀ i, 0 ≤ m i) (hA : A = zp w c t) (hU : U = zp m c t) (hU0 : 0 ≤ U) (hf : pw w m f 12 = 10000 * bA - bM) (hb : bM ≤ 10000) (hno : A + akk w v k < bA ∨ (A + akk w v k = bA ∧ bM ≤ U)) : Bs w m (SS m v c k a b) f f := by
  refine Or.inl ⟨rfl, fun g hg => ?_⟩
  have h1 := akk_pw hW hM k _ _ hg.2
  have h2 := pw_split w m g t k htk
  rw [zp_cg (g' := c) (fun i a1 a2 => hg.1 i a1 (by omega)), zp_cg (w := m) (g' := c) (fun i a1 a2 => hg.1 i a1 (by omega)), ← hA, ← hU] at h2
  omega
/-- at the end -/
theorem Bs_popt {w m v c f f' : Int → Int} {a b : Int} (hf : ∀ i : Int, 0 ≤ i → i < 12 → f i = 0) (h : Bs w m (SS m v c 12 a b) f f') : popt w m v a b f' := by
  have hS : ∀ g, pf m v g 12 a b → SS m v c 12 a b g := fun g hg => ⟨fun i a1 a2 => by omega, hg⟩
  rcases h with ⟨e, h⟩ | ⟨h0, h1, h2⟩
  · subst e
    refine ⟨pf_0 12 a b (by omega) (fun i a1 a2 => hf i (by omega) a2), fun g hg => ?_⟩
    have := h g (hS g hg)
    by_cases q : pw w m g 12 = pw w m f' 12
    · exact Or.inr ⟨q, plt_z 12 (by omega) (fun i a1 a2 => pf_nn 12 a b (by omega) hg i a1 a2) (fun i a1 a2 => hf i (by omega) a2)⟩
    · exact Or.inl (by omega)
  · exact ⟨h0.2, fun g hg => h2 g (hS g hg)⟩
