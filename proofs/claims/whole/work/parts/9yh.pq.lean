set_option maxRecDepth 20000
/-! what holds while pairs are taken one by one (the class) -/
theorem pq_np {a b : Int} (ha : 0 ≤ a) (hb : b ≤ 0) : a * b ≤ 0 := by
  have := Int.mul_nonneg ha (show 0 ≤ -b by omega)
  rw [Int.mul_neg] at this; omega
def cs_x (can x : Int → Int) : Prop := ∀ k : Int, 0 ≤ k → k < 120 → (x k = 0 ∨ x k = 1) ∧ (x k = 1 → can k = 1)
def cs_c (can wt : Int → Int) : Prop := ∀ k : Int, 0 ≤ k → k < 120 → (can k = 0 ∨ can k = 1) ∧ (0 ≤ wt k ∧ wt k ≤ 1)
def cs_f (can wt x f : Int → Int) : Prop := ∀ l t : Int, 0 ≤ l → l < 10 → 0 ≤ t → t < 12 → can (l * 12 + t) = 1 → (x (l * 12 + t) = 0 → f t + wt (l * 12 + t) ≤ f (12 + l)) ∧ (x (l * 12 + t) = 1 → f (12 + l) - wt (l * 12 + t) ≤ f t)
def cs_I (can wt ra cb f : Int → Int) (la : Int) (a b x : Int → Int) (P K : Int) : Prop :=
  cs_c can wt ∧ cs_x can x ∧
  (∀ l : Int, 0 ≤ l → l < 10 → max (a l) 0 + zs (fun t => x (l * 12 + t)) 12 = ra l) ∧
  (∀ t : Int, 0 ≤ t → t < 12 → 0 ≤ b t ∧ b t + zs (fun l => x (l * 12 + t)) 10 = cb t) ∧
  cs_f can wt x f ∧ (∀ t : Int, cn_S b t → f t = 0) ∧
  (∀ t : Int, 0 ≤ t → t < 12 → f t ≤ 0) ∧ (∀ l : Int, 0 ≤ l → l < 10 → (la ≤ f (12 + l) ∧ f (12 + l) ≤ 1) ∧ (0 < a l → f (12 + l) = la)) ∧
  pq_D (fun l t => x (l * 12 + t)) 10 12 = P ∧ pq_D (fun l t => wt (l * 12 + t) * x (l * 12 + t)) 10 12 = K
theorem cs_N {can wt f b x : Int → Int} (hc : cs_c can wt) (hf : cs_f can wt x f) (hs : ∀ t : Int, cn_S b t → f t = 0) (h1 : ∀ t : Int, 0 ≤ t → t < 12 → f t ≤ 1) (h2 : ∀ l : Int, 0 ≤ l → l < 10 → f (12 + l) ≤ 1) : pb_N 22 (cn_A can x) (cn_w wt) (cn_S b) f := by
  refine ⟨fun u v hA => ?_, fun v s => ⟨s.1, by have := s.2.1; omega, hs v s⟩, fun v a b' => ?_⟩
  · obtain ⟨l, t, hl, ht, z1, z2⟩ := cn_A_cs hA
    have e := hf l t hl.1 hl.2 ht.1 ht.2 z1
    have e2 := (hc (l * 12 + t) (by omega) (by omega)).2
    rcases z2 with ⟨rfl, rfl, z⟩ | ⟨rfl, rfl, z⟩
    · rw [cn_w1 ht.2]
      have := e.1 z
      refine ⟨ht.1, by omega, by omega, by omega, by omega, by omega⟩
    · rw [cn_w2 hl.1]
      have := e.2 z
      refine ⟨by omega, by omega, ht.1, by omega, by omega, by omega⟩
  · by_cases e : v < 12
    · exact h1 v a e
    · have := h2 (v - 12) (by omega) (by omega)
      rw [show 12 + (v - 12) = v by omega] at this
      exact this
theorem cs_f_of {can wt f b x : Int → Int} (hN : pb_N 22 (cn_A can x) (cn_w wt) (cn_S b) f) : cs_f can wt x f := by
  intro l t a1 a2 a3 a4 h
  refine ⟨fun z => ?_, fun z => ?_⟩
  · have := (hN.1 _ _ (cn_A1 ⟨a1, a2⟩ ⟨a3, a4⟩ h z)).2.2.2.2.2
    rw [cn_w1 a4] at this; exact this
  · have := (hN.1 _ _ (cn_A2 ⟨a1, a2⟩ ⟨a3, a4⟩ h z)).2.2.2.2.2
    rw [cn_w2 a1] at this; omega
theorem cs_I_N {can wt ra cb f a b x : Int → Int} {la P K : Int} (h : cs_I can wt ra cb f la a b x P K) : pb_N 22 (cn_A can x) (cn_w wt) (cn_S b) f :=
  cs_N h.1 h.2.2.2.2.1 h.2.2.2.2.2.1 (fun t a1 a2 => by have := h.2.2.2.2.2.2.1 t a1 a2; omega) (fun l a1 a2 => (h.2.2.2.2.2.2.2.1 l a1 a2).1.2)
section
variable {x wt : Int → Int} {l t v : Int}
theorem cs_row (hl : 0 ≤ l ∧ l < 10) (ht : 0 ≤ t ∧ t < 12) (l' : Int) : zs (fun j => mj_pt x (l * 12 + t) v (l' * 12 + j)) 12 = zs (fun j => x (l' * 12 + j)) 12 + if l' = l then v - x (l * 12 + t) else 0 := by
  by_cases e : l' = l
  · subst e
    rw [if_pos rfl, pq_ch1 (k := t) (f := fun j => x (l' * 12 + j)) ht.1 (by omega) (fun i _ q => by rw [g_pn (by omega)]), g_ps]
  · rw [if_neg e, zs_cg (q := fun j => x (l' * 12 + j)) (fun i _ => g_pn (by omega))]; omega
theorem cs_col (hl : 0 ≤ l ∧ l < 10) (ht : 0 ≤ t ∧ t < 12) (t' : Int) (ht' : 0 ≤ t' ∧ t' < 12) : zs (fun j => mj_pt x (l * 12 + t) v (j * 12 + t')) 10 = zs (fun j => x (j * 12 + t')) 10 + if t' = t then v - x (l * 12 + t) else 0 := by
  by_cases e : t' = t
  · subst e
    rw [if_pos rfl, pq_ch1 (k := l) (f := fun j => x (j * 12 + t')) hl.1 (by omega) (fun i _ q => by rw [g_pn (by omega)]), g_ps]
  · rw [if_neg e, zs_cg (q := fun j => x (j * 12 + t')) (fun i _ => g_pn (by omega))]; omega
theorem cs_D (hl : 0 ≤ l ∧ l < 10) (ht : 0 ≤ t ∧ t < 12) : pq_D (fun i j => mj_pt x (l * 12 + t) v (i * 12 + j)) 10 12 = pq_D (fun i j => x (i * 12 + j)) 10 12 + (v - x (l * 12 + t)) := by
  rw [pq_D_ch (a := l) (b := t) (F := fun i j => x (i * 12 + j)) (by omega) (by omega) (fun i j _ _ q => by rw [g_pn (by omega)]), g_ps]
theorem cs_Dw (hl : 0 ≤ l ∧ l < 10) (ht : 0 ≤ t ∧ t < 12) : pq_D (fun i j => wt (i * 12 + j) * mj_pt x (l * 12 + t) v (i * 12 + j)) 10 12 = pq_D (fun i j => wt (i * 12 + j) * x (i * 12 + j)) 10 12 + (wt (l * 12 + t) * v - wt (l * 12 + t) * x (l * 12 + t)) := by
  rw [pq_D_ch (a := l) (b := t) (F := fun i j => wt (i * 12 + j) * x (i * 12 + j)) (by omega) (by omega) (fun i j _ _ q => by rw [g_pn (by omega)]), g_ps]
theorem cs_x_up {can : Int → Int} (h : cs_x can x) (hv : v = 0 ∨ (v = 1 ∧ can (l * 12 + t) = 1)) : cs_x can (mj_pt x (l * 12 + t) v) := by
  intro k a b
  by_cases e : k = l * 12 + t
  · subst e
    rw [g_ps]
    refine ⟨by omega, fun z => ?_⟩
    rcases hv with q | q
    · omega
    · exact q.2
  · rw [g_pn e]; exact h k a b
theorem cs_f_up {can f : Int → Int} (hl : 0 ≤ l ∧ l < 10) (ht : 0 ≤ t ∧ t < 12) (h : cs_f can wt x f) (he : f t + wt (l * 12 + t) = f (12 + l)) : cs_f can wt (mj_pt x (l * 12 + t) v) f := by
  intro l' t' a1 a2 a3 a4 hc
  by_cases e : l' * 12 + t' = l * 12 + t
  · have e1 : l' = l := by omega
    have e2 : t' = t := by omega
    subst e1; subst e2
    exact ⟨fun _ => by omega, fun _ => by omega⟩
  · rw [g_pn e]; exact h l' t' a1 a2 a3 a4 hc
end
/-- while a chain is turned: l is one short -/
def tu_I (can wt ra cb fn a b x0 h : Int → Int) (r : Int → Nat) (P K hl : Int) (l : Int) (x : Int → Int) : Prop :=
  (0 ≤ l ∧ l < 10) ∧ (∀ l' t' : Int, 0 ≤ l' → l' < 10 → 0 ≤ t' → t' < 12 → r t' < r (12 + l) → x (l' * 12 + t') = x0 (l' * 12 + t')) ∧
  cs_x can x ∧ cs_f can wt x fn ∧
  (∀ l' : Int, 0 ≤ l' → l' < 10 → max (a l') 0 + zs (fun t => x (l' * 12 + t)) 12 = ra l' - if l' = l then 1 else 0) ∧
  (∀ t : Int, 0 ≤ t → t < 12 → b t + zs (fun l => x (l * 12 + t)) 10 = cb t) ∧
  pq_D (fun l t => x (l * 12 + t)) 10 12 = P ∧ pq_D (fun l t => wt (l * 12 + t) * x (l * 12 + t)) 10 12 = K + hl - h l
/-- the chain's next pair -/
theorem tu_par {can wt f b x0 g h p q : Int → Int} {r : Int → Nat} {E l : Int} (hN : pb_N 22 (cn_A can x0) (cn_w wt) (cn_S b) f) (hB : pb_B 22 (-1000) (cn_A can x0) (cn_w wt) (cn_S b) f (cn_G g h) (cn_p p q) r) (hX : pb_X (-1000) (cn_A can x0) (cn_w wt) (cn_G g h)) (hl : 0 ≤ l ∧ l < 10) (hu : h l ≠ -1000) (ho : f (12 + l) - E ≤ h l) :
    (0 ≤ q l ∧ q l < 12) ∧ can (l * 12 + q l) = 1 ∧ x0 (l * 12 + q l) = 0 ∧ g (q l) ≠ -1000 ∧ h l = g (q l) + wt (l * 12 + q l) ∧ r (q l) < r (12 + l) ∧ f (q l) - E ≤ g (q l) := by
  have ep : cn_p p q (12 + l) = q l := cn_p_l hl.1
  have eG : cn_G g h (12 + l) = h l := cn_G_l hl.1
  have hp : cn_p p q (12 + l) ≠ -4 := by
    intro z
    rcases (hB (12 + l) (by omega) (by omega)).2.2 with ⟨_, y⟩ | y
    · rcases y with y | y
      · rw [eG] at y; exact hu y
      · have := y.2.1; omega
    · omega
  obtain ⟨c1, c2, c3, c4, c5, c6⟩ := pb_par hB hX (by omega) (by omega) hp
  have c7 := pb_on_par (E := E) hN hB hX (by omega) (by omega) hp (by rw [eG]; exact ho)
  rw [ep] at c1 c2 c3 c5 c6 c7
  obtain ⟨l', t', hl', ht', z1, z2⟩ := cn_A_cs c2
  rcases z2 with ⟨y1, y2, y3⟩ | ⟨y1, y2, y3⟩
  · have e1 : l' = l := by omega
    subst e1
    rw [y1] at c3 c5 c6 c7 ⊢
    rw [cn_G_t ht'.2] at c3 c5 c7
    rw [eG, cn_w1 ht'.2] at c5
    exact ⟨ht', z1, y3, c3, c5, c6, c7⟩
  · omega
theorem tu_par2 {can wt f b x0 g h p q : Int → Int} {r : Int → Nat} {E t : Int} (hN : pb_N 22 (cn_A can x0) (cn_w wt) (cn_S b) f) (hB : pb_B 22 (-1000) (cn_A can x0) (cn_w wt) (cn_S b) f (cn_G g h) (cn_p p q) r) (hX : pb_X (-1000) (cn_A can x0) (cn_w wt) (cn_G g h)) (ht : 0 ≤ t ∧ t < 12) (hu : g t ≠ -1000) (ho : f t - E ≤ g t) :
    (p t < 0 ∧ 0 < b t ∧ g t = 0) ∨ ((0 ≤ p t ∧ p t < 10) ∧ can (p t * 12 + t) = 1 ∧ x0 (p t * 12 + t) = 1 ∧ h (p t) ≠ -1000 ∧ g t + wt (p t * 12 + t) = h (p t) ∧ r (12 + p t) < r t ∧ f (12 + p t) - E ≤ h (p t)) := by
  have eG : cn_G g h t = g t := cn_G_t ht.2
  by_cases e : p t < 0
  · left
    have ep : cn_p p q t = -4 := by unfold cn_p; rw [if_pos ht.2, if_pos e]
    have hb := hB t ht.1 (by omega)
    rcases hb.2.2 with ⟨_, y⟩ | y
    · rcases y with y | y
      · rw [eG] at y; exact absurd y hu
      · have s := hN.2.1 t y
        have s2 := hb.2.1 y
        have s3 := hb.1
        rw [eG] at s2 s3
        have := y.2.2
        refine ⟨by omega, this, by omega⟩
    · omega
  · right
    have ep : cn_p p q t = 12 + p t := by unfold cn_p; rw [if_pos ht.2, if_neg e]
    have hp : cn_p p q t ≠ -4 := by rw [ep]; omega
    obtain ⟨c1, c2, c3, c4, c5, c6⟩ := pb_par hB hX ht.1 (by omega) hp
    have c7 := pb_on_par (E := E) hN hB hX ht.1 (by omega) hp (by rw [eG]; exact ho)
    rw [ep] at c1 c2 c3 c5 c6 c7
    obtain ⟨l', t', hl', ht', z1, z2⟩ := cn_A_cs c2
    rcases z2 with ⟨y1, y2, y3⟩ | ⟨y1, y2, y3⟩
    · omega
    · have e1 : l' = p t := by omega
      subst e1
      have e2 : t' = t := by omega
      subst e2
      rw [cn_G_l hl'.1] at c3 c5 c7
      rw [eG, cn_w2 hl'.1] at c5
      exact ⟨hl', z1, y3, c3, by omega, c6, c7⟩
