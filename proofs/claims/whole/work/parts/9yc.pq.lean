set_option maxRecDepth 20000
/-! sums, double sums, weak duality: what the most pairs, and then the most liked ones, are -/
theorem pq_ch {f g : Int → Int} {k : Int} (hk : 0 ≤ k) : ∀ {n : Nat}, (∀ i : Nat, i < n → (i : Int) ≠ k → g i = f i) → zs g n = zs f n + if k < n then g k - f k else 0
  | 0, _ => by
    simp only [zs]
    rw [if_neg (by omega)]; rfl
  | n + 1, h => by
    have ih := pq_ch (f := f) (g := g) (k := k) hk (n := n) (fun i hi => h i (by omega))
    rw [zs_s, zs_s, ih]
    by_cases e : (n : Int) = k
    · rw [if_neg (by omega), if_pos (by omega), e]; omega
    · rw [h n (by omega) e]
      by_cases q : k < n
      · rw [if_pos q, if_pos (by omega)]; omega
      · rw [if_neg q, if_neg (by omega)]; omega
theorem pq_ch1 {f g : Int → Int} {k : Int} {n : Nat} (hk : 0 ≤ k) (hn : k < n) (h : ∀ i : Nat, i < n → (i : Int) ≠ k → g i = f i) : zs g n = zs f n + (g k - f k) := by
  rw [pq_ch hk h, if_pos hn]
/-- a double sum -/
noncomputable def pq_D (F : Int → Int → Int) (n m : Nat) : Int := zs (fun i => zs (fun j => F i j) m) n
theorem pq_D_cg {F G : Int → Int → Int} {n m : Nat} (h : ∀ i j : Nat, i < n → j < m → F i j = G i j) : pq_D F n m = pq_D G n m :=
  zs_cg (fun i hi => zs_cg (fun j hj => h i j hi hj))
theorem pq_D_ch {F G : Int → Int → Int} {n m : Nat} {a b : Int} (ha : 0 ≤ a ∧ a < n) (hb : 0 ≤ b ∧ b < m) (h : ∀ i j : Nat, i < n → j < m → ((i : Int) ≠ a ∨ (j : Int) ≠ b) → G i j = F i j) : pq_D G n m = pq_D F n m + (G a b - F a b) := by
  obtain ⟨a', rfl⟩ : ∃ a' : Nat, a = a' := ⟨a.toNat, by omega⟩
  unfold pq_D
  rw [pq_ch1 (k := (a' : Int)) (f := fun i => zs (fun j => F i j) m) ha.1 ha.2 (fun i hi q => zs_cg (fun j hj => h i j hi hj (Or.inl q)))]
  have e := pq_ch1 (f := fun j => F a' j) (g := fun j => G a' j) hb.1 hb.2 (fun j hj q => h a' j (by omega) hj (Or.inr q))
  show _ + (zs (fun j => G a' j) m - zs (fun j => F a' j) m) = _
  rw [e]; omega
theorem pq_D_add (F G : Int → Int → Int) (n m : Nat) : pq_D (fun i j => F i j + G i j) n m = pq_D F n m + pq_D G n m := by
  unfold pq_D
  rw [← zs_add2]
  exact zs_cg (fun i _ => zs_add2 _ _ _)
theorem pq_D_mul (a : Int) (F : Int → Int → Int) (n m : Nat) : pq_D (fun i j => a * F i j) n m = a * pq_D F n m := by
  unfold pq_D
  rw [← zs_mul2]
  exact zs_cg (fun i _ => zs_mul2 _ _ _)
theorem pq_D_le {F G : Int → Int → Int} {n m : Nat} (h : ∀ i j : Nat, i < n → j < m → F i j ≤ G i j) : pq_D F n m ≤ pq_D G n m :=
  zs_le2 (fun i hi => zs_le2 (fun j hj => h i j hi hj))
theorem pq_0 (f : Int → Int) : ∀ n, (∀ i : Nat, i < n → f i = 0) → zs f n = 0
  | 0, _ => rfl
  | n + 1, h => by rw [zs_s, pq_0 f n (fun i hi => h i (by omega)), h n (by omega)]; rfl
/-- the sums' order may be changed -/
theorem pq_D_sw (F : Int → Int → Int) (m : Nat) : ∀ n, pq_D F n m = pq_D (fun j i => F i j) m n
  | 0 => by
    unfold pq_D
    exact (pq_0 _ _ (fun i _ => rfl)).symm
  | n + 1 => by
    have ih := pq_D_sw F m n
    unfold pq_D at ih ⊢
    rw [zs_s, ih, ← zs_add2]
    exact zs_cg (fun j _ => rfl)
theorem pq_D_row (P : Int → Int) (F : Int → Int → Int) (n m : Nat) : pq_D (fun i j => P i * F i j) n m = zs (fun i => P i * zs (fun j => F i j) m) n :=
  zs_cg (fun i _ => zs_mul2 _ _ _)
theorem pq_D_col (P : Int → Int) (F : Int → Int → Int) (n m : Nat) : pq_D (fun i j => P j * F i j) n m = zs (fun j => P j * zs (fun i => F i j) n) m := by
  rw [pq_D_sw]; exact pq_D_row P (fun j i => F i j) m n
theorem pq_le0 {f : Int → Int} : ∀ {n : Nat}, (∀ i : Nat, i < n → f i ≤ 0) → zs f n ≤ 0
  | 0, _ => Int.le_refl _
  | n + 1, h => by
    have := pq_le0 (f := f) (n := n) (fun i hi => h i (by omega))
    have := h n (by omega)
    rw [zs_s]; omega
/-- weak duality -/
theorem pq_DL {w x y : Int → Int → Int} {P R : Int → Int} {la : Int} {n m : Nat}
    (ht : ∀ i j : Nat, i < n → j < m → w i j * (y i j - x i j) ≤ (P i + R j + la) * (y i j - x i j))
    (hr : ∀ i : Nat, i < n → P i * (zs (fun j => y i j) m - zs (fun j => x i j) m) ≤ 0)
    (hc : ∀ j : Nat, j < m → R j * (zs (fun i => y i j) n - zs (fun i => x i j) n) ≤ 0) :
    pq_D (fun i j => w i j * y i j) n m - pq_D (fun i j => w i j * x i j) n m ≤ la * (pq_D y n m - pq_D x n m) := by
  have h1 := pq_D_le (F := fun i j => w i j * (y i j - x i j)) (G := fun i j => (P i + R j + la) * (y i j - x i j)) ht
  have e1 : pq_D (fun i j => w i j * (y i j - x i j)) n m = pq_D (fun i j => w i j * y i j) n m - pq_D (fun i j => w i j * x i j) n m := by
    have := pq_D_add (fun i j => w i j * (y i j - x i j)) (fun i j => w i j * x i j) n m
    rw [pq_D_cg (G := fun i j => w i j * y i j) (fun i j _ _ => by rw [Int.mul_sub]; omega)] at this
    omega
  have e2 : pq_D (fun i j => (P i + R j + la) * (y i j - x i j)) n m = (pq_D (fun i j => P i * (y i j - x i j)) n m + pq_D (fun i j => R j * (y i j - x i j)) n m) + la * pq_D (fun i j => y i j - x i j) n m := by
    rw [← pq_D_mul, ← pq_D_add, ← pq_D_add]
    exact pq_D_cg (fun i j _ _ => by rw [Int.add_mul, Int.add_mul])
  have e3 : pq_D (fun i j => y i j - x i j) n m = pq_D y n m - pq_D x n m := by
    have := pq_D_add (fun i j => y i j - x i j) x n m
    rw [pq_D_cg (G := y) (fun i j _ _ => by omega)] at this
    omega
  have zsub : ∀ (f g : Int → Int) (k : Nat), zs (fun i => f i - g i) k = zs f k - zs g k := by
    intro f g k
    have := zs_add2 (fun i => f i - g i) g k
    rw [zs_cg (q := f) (fun i _ => by omega)] at this
    omega
  have h2 : pq_D (fun i j => P i * (y i j - x i j)) n m ≤ 0 := by
    rw [pq_D_row P (fun i j => y i j - x i j)]
    exact pq_le0 (fun i hi => by rw [zsub]; exact hr i hi)
  have h3 : pq_D (fun i j => R j * (y i j - x i j)) n m ≤ 0 := by
    rw [pq_D_col R (fun i j => y i j - x i j)]
    exact pq_le0 (fun j hj => by
      show R j * zs (fun i => y i j - x i j) n ≤ 0
      rw [zsub (fun i => y i j) (fun i => x i j)]; exact hc j hj)
  rw [e1, e2, e3] at h1
  omega
/-- a selection of pairs within the bounds of rows and columns -/
def pq_F (can : Int → Int → Int) (a b : Int → Int) (x : Int → Int → Int) : Prop :=
  (∀ l t : Nat, l < 10 → t < 12 → (x l t = 0 ∨ (x l t = 1 ∧ can l t = 1))) ∧
  (∀ l : Nat, l < 10 → zs (fun t => x l t) 12 ≤ a l) ∧ (∀ t : Nat, t < 12 → zs (fun l => x l t) 10 ≤ b t)
/-- p pairs are the most, k liked ones the most among p pairs -/
def pq_O (can w : Int → Int → Int) (a b : Int → Int) (p k : Int) : Prop :=
  (∃ x, pq_F can a b x ∧ pq_D x 10 12 = p ∧ pq_D (fun l t => w l t * x l t) 10 12 = k) ∧
  ∀ y, pq_F can a b y → pq_D y 10 12 ≤ p ∧ (pq_D y 10 12 = p → pq_D (fun l t => w l t * y l t) 10 12 ≤ k)
theorem pq_O_uniq {can w : Int → Int → Int} {a b : Int → Int} {p k p' k' : Int} (h : pq_O can w a b p k) (h' : pq_O can w a b p' k') : p = p' ∧ k = k' := by
  obtain ⟨⟨x, hx, x1, x2⟩, hm⟩ := h
  obtain ⟨⟨y, hy, y1, y2⟩, hm'⟩ := h'
  have q1 := hm y hy
  have q2 := hm' x hx
  have e : p = p' := by omega
  have q3 := q1.2 (by omega)
  have q4 := q2.2 (by omega)
  omega
theorem pq_F_cg {can can' : Int → Int → Int} {a a' b b' : Int → Int} {x : Int → Int → Int} (hc : ∀ l t : Nat, l < 10 → t < 12 → can l t = can' l t) (ha : ∀ l : Nat, l < 10 → a l = a' l) (hb : ∀ t : Nat, t < 12 → b t = b' t) (h : pq_F can a b x) : pq_F can' a' b' x := by
  refine ⟨fun l t h1 h2 => ?_, fun l h1 => ?_, fun t h1 => ?_⟩
  · rw [← hc l t h1 h2]; exact h.1 l t h1 h2
  · rw [← ha l h1]; exact h.2.1 l h1
  · rw [← hb t h1]; exact h.2.2 t h1
/-- liked ones count where a pair can be, so they may be told otherwise elsewhere -/
theorem pq_O_cg {can can' w w' : Int → Int → Int} {a a' b b' : Int → Int} {p k : Int} (hc : ∀ l t : Nat, l < 10 → t < 12 → can l t = can' l t) (hw : ∀ l t : Nat, l < 10 → t < 12 → can l t = 1 → w l t = w' l t) (ha : ∀ l : Nat, l < 10 → a l = a' l) (hb : ∀ t : Nat, t < 12 → b t = b' t) (h : pq_O can w a b p k) : pq_O can' w' a' b' p k := by
  obtain ⟨⟨x, hx, x1, x2⟩, hm⟩ := h
  have e : ∀ y, pq_F can a b y → pq_D (fun l t => w l t * y l t) 10 12 = pq_D (fun l t => w' l t * y l t) 10 12 := by
    intro y hy
    refine pq_D_cg (fun l t h1 h2 => ?_)
    rcases hy.1 l t h1 h2 with q | q
    · rw [q, Int.mul_zero, Int.mul_zero]
    · rw [hw l t h1 h2 q.2]
  refine ⟨⟨x, pq_F_cg hc ha hb hx, x1, by rw [← e x hx]; exact x2⟩, fun y hy => ?_⟩
  have hy' : pq_F can a b y := pq_F_cg (fun l t h1 h2 => (hc l t h1 h2).symm) (fun l h1 => (ha l h1).symm) (fun t h1 => (hb t h1).symm) hy
  rw [← e y hy']
  exact hm y hy'
