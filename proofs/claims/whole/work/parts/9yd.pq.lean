set_option maxRecDepth 20000
/-! the best chains in a net: N nodes, arcs A with gains w, starts S, potentials f -/
def pb_N (N : Nat) (A : Int → Int → Prop) (w : Int → Int → Int) (S : Int → Prop) (f : Int → Int) : Prop :=
  (∀ u v : Int, A u v → 0 ≤ u ∧ u < N ∧ 0 ≤ v ∧ v < N ∧ -1 ≤ w u v ∧ f u + w u v ≤ f v) ∧ (∀ v : Int, S v → 0 ≤ v ∧ v < N ∧ f v = 0) ∧ (∀ v : Int, 0 ≤ v → v < N → f v ≤ 1)
/-- how many are reached -/
noncomputable def pb_c (N : Nat) (U : Int) (G : Int → Int) : Int := zc (fun v => !decide (G v = U)) N
theorem pb_c_bd (N : Nat) (U : Int) (G : Int → Int) : 0 ≤ pb_c N U G ∧ pb_c N U G ≤ N := zc_bd _ N
def pb_B (N : Nat) (U : Int) (A : Int → Int → Prop) (w : Int → Int → Int) (S : Int → Prop) (f G p : Int → Int) (r : Int → Nat) : Prop :=
  ∀ v : Int, 0 ≤ v → v < N → (G v = U ∨ (-(pb_c N U G) ≤ G v ∧ G v ≤ f v)) ∧ (S v → 0 ≤ G v) ∧
    ((p v = -4 ∧ (G v = U ∨ S v)) ∨ (0 ≤ p v ∧ p v < N ∧ A (p v) v ∧ G (p v) ≠ U ∧ G v ≠ U ∧ G v ≤ G (p v) + w (p v) v ∧ (G v = G (p v) + w (p v) v → r (p v) < r v)))
noncomputable def pb_r (r : Int → Nat) (v : Int) (k : Nat) : Int → Nat := fun u => if u = v then k else r u
theorem pb_c_up {N : Nat} {U : Int} {G : Int → Int} {v x : Int} (hv : 0 ≤ v ∧ v < N) (hx : x ≠ U) : pb_c N U (mj_pt G v x) = pb_c N U G + if G v = U then 1 else 0 := by
  unfold pb_c
  rw [← zs_zc, ← zs_zc]
  rw [pq_ch1 (k := v) (f := fun i => if (!decide (G i = U)) = true then 1 else 0) hv.1 hv.2 (fun i _ q => by rw [g_pn q])]
  rw [g_ps]
  by_cases e : G v = U
  · simp [e, hx]
  · simp [e, hx]
theorem pb_relax {N : Nat} {U : Int} {A : Int → Int → Prop} {w : Int → Int → Int} {S : Int → Prop} {f G p : Int → Int} {r : Int → Nat} (hU : U < -(N : Int)) (hN : pb_N N A w S f) (hB : pb_B N U A w S f G p r) {u v : Int} (hA : A u v) (hu : G u ≠ U) (hg : G v < G u + w u v) : pb_B N U A w S f (mj_pt G v (G u + w u v)) (mj_pt p v u) (pb_r r v (r u + 1)) ∧ G u + w u v ≠ U := by
  obtain ⟨a1, a2, a3, a4, a5, a6⟩ := hN.1 u v hA
  have hBu := hB u a1 a2
  have hBv := hB v a3 a4
  have hc := pb_c_bd N U G
  have huv : u ≠ v := by
    intro e; subst e
    omega
  have gu : -(pb_c N U G) ≤ G u ∧ G u ≤ f u := by
    rcases hBu.1 with q | q
    · exact absurd q hu
    · exact q
  have hlow : -(pb_c N U G + if G v = U then 1 else 0) ≤ G u + w u v := by
    by_cases e : G v = U
    · rw [if_pos e]; omega
    · rw [if_neg e]
      rcases hBv.1 with q | q
      · exact absurd q e
      · omega
  have hx : G u + w u v ≠ U := by
    by_cases e : G v = U
    · omega
    · rw [if_neg e] at hlow; omega
  have hc' := pb_c_up (N := N) (G := G) (v := v) ⟨a3, a4⟩ hx
  have hcm : pb_c N U G ≤ pb_c N U (mj_pt G v (G u + w u v)) := by rw [hc']; split <;> omega
  refine ⟨fun c c1 c2 => ?_, hx⟩
  by_cases e : c = v
  · subst e
    rw [g_ps, g_ps, g_pn huv]
    refine ⟨Or.inr ⟨by rw [hc']; exact hlow, by omega⟩, fun s => by have := hBv.2.1 s; omega, Or.inr ⟨a1, a2, hA, hu, hx, Int.le_refl _, fun _ => ?_⟩⟩
    unfold pb_r
    rw [if_neg huv, if_pos rfl]; omega
  · have hBc := hB c c1 c2
    rw [g_pn e, g_pn e]
    refine ⟨?_, hBc.2.1, ?_⟩
    · rcases hBc.1 with q | q
      · exact Or.inl q
      · exact Or.inr ⟨by omega, q.2⟩
    · rcases hBc.2.2 with q | ⟨q1, q2, q3, q4, q5, q6, q7⟩
      · exact Or.inl q
      · refine Or.inr ⟨q1, q2, q3, ?_, q5, ?_, ?_⟩
        · by_cases z : p c = v
          · rw [z, g_ps]; exact hx
          · rw [g_pn z]; exact q4
        · by_cases z : p c = v
          · rw [z, g_ps]; rw [z] at q6; omega
          · rw [g_pn z]; exact q6
        · by_cases z : p c = v
          · rw [z, g_ps]; rw [z] at q6; intro; omega
          · rw [g_pn z]
            intro h
            have := q7 h
            unfold pb_r
            rw [if_neg z, if_neg e]; exact this
/-- nothing more can be gained -/
def pb_X (U : Int) (A : Int → Int → Prop) (w : Int → Int → Int) (G : Int → Int) : Prop := ∀ u v : Int, A u v → G u ≠ U → G u + w u v ≤ G v
theorem pb_sum {n : Nat} {G : Int → Int} (h : ∀ v : Int, 0 ≤ v → v < n → G v ≤ 1) : zs G n ≤ n := by
  have := zs_le2 (f := G) (g := fun _ => 1) (n := n) (fun i hi => h i (by omega) (by omega))
  have e : ∀ k : Nat, zs (fun _ => (1 : Int)) k = k := by
    intro k
    induction k with
    | zero => rfl
    | succ k ih => rw [zs_s, ih]; omega
  rw [e] at this; exact this
theorem pb_le1 {N : Nat} {U : Int} {A : Int → Int → Prop} {w : Int → Int → Int} {S : Int → Prop} {f G p : Int → Int} {r : Int → Nat} (hU : U < -(N : Int)) (hN : pb_N N A w S f) (hB : pb_B N U A w S f G p r) (v : Int) (h1 : 0 ≤ v) (h2 : v < N) : U ≤ G v ∧ G v ≤ 1 := by
  have := (hB v h1 h2).1
  have := hN.2.2 v h1 h2
  have := pb_c_bd N U G
  omega
/-- going on as long as there is something to gain -/
theorem pb_fix {N : Nat} {U : Int} {A : Int → Int → Prop} {w : Int → Int → Int} {S : Int → Prop} {f : Int → Int} (hU : U < -(N : Int)) (hN : pb_N N A w S f) : ∀ (k : Nat) (G p : Int → Int) (r : Int → Nat), pb_B N U A w S f G p r → (N : Int) - zs G N < k → ∃ (G' p' : Int → Int) (r' : Int → Nat), pb_B N U A w S f G' p' r' ∧ pb_X U A w G' ∧ ∀ v : Int, 0 ≤ v → v < N → G v ≤ G' v := by
  intro k
  induction k with
  | zero =>
    intro G p r hB hk
    have := pb_sum (fun v a b => (pb_le1 hU hN hB v a b).2)
    omega
  | succ k ih =>
    intro G p r hB hk
    by_cases hX : pb_X U A w G
    · exact ⟨G, p, r, hB, hX, fun _ _ _ => Int.le_refl _⟩
    · unfold pb_X at hX
      have : ∃ u v, A u v ∧ G u ≠ U ∧ G v < G u + w u v := by
        refine Classical.byContradiction (fun hn => hX (fun u v a b => ?_))
        refine Classical.byContradiction (fun hc => hn ⟨u, v, a, b, by omega⟩)
      obtain ⟨u, v, hA, hu, hg⟩ := this
      obtain ⟨a1, a2, a3, a4, a5, a6⟩ := hN.1 u v hA
      have hB' := (pb_relax hU hN hB hA hu hg).1
      have hs : zs (mj_pt G v (G u + w u v)) N = zs G N + (mj_pt G v (G u + w u v) v - G v) := pq_ch1 a3 a4 (fun i _ q => g_pn q)
      rw [g_ps] at hs
      obtain ⟨G', p', r', b1, b2, b3⟩ := ih _ _ _ hB' (by omega)
      refine ⟨G', p', r', b1, b2, fun c c1 c2 => ?_⟩
      have := b3 c c1 c2
      by_cases e : c = v
      · subst e; rw [g_ps] at this; omega
      · rw [g_pn e] at this; exact this
/-- one pass over all arcs -/
def pb_P (N : Nat) (U : Int) (A : Int → Int → Prop) (w : Int → Int → Int) (G G' : Int → Int) : Prop := (∀ v : Int, 0 ≤ v → v < N → G v ≤ G' v) ∧ ∀ u v : Int, A u v → G u ≠ U → G u + w u v ≤ G' v
def pb_C (N : Nat) (U : Int) (A : Int → Int → Prop) (w : Int → Int → Int) (G0 : Int → Int) : Nat → (Int → Int) → Prop
  | 0, G => G = G0
  | k + 1, G => ∃ H, pb_C N U A w G0 k H ∧ pb_P N U A w H G
noncomputable def pb_k (N : Nat) (r : Int → Nat) (v : Int) : Int := zc (fun u => decide (r u < r v)) N
theorem pb_k_lt {N : Nat} {r : Int → Nat} {u v : Int} (hu : 0 ≤ u ∧ u < N) (h : r u < r v) : pb_k N r u < pb_k N r v := by
  obtain ⟨u', rfl⟩ : ∃ u' : Nat, u = u' := ⟨u.toNat, by omega⟩
  unfold pb_k
  refine zc_ltw (k := u') ?_ ?_ (by omega) (fun i _ q => ?_)
  · simp
  · simp [h]
  · have := of_decide_eq_true q
    exact decide_eq_true (by omega)
theorem pb_k_bd {N : Nat} {r : Int → Nat} {v : Int} (hv : 0 ≤ v ∧ v < N) : 0 ≤ pb_k N r v ∧ pb_k N r v < N := by
  obtain ⟨v', rfl⟩ : ∃ v' : Nat, v = v' := ⟨v.toNat, by omega⟩
  refine ⟨(zc_bd _ N).1, ?_⟩
  have h := zc_ltw (p := fun u => decide (r u < r v')) (q := fun _ => true) (k := v') (by simp) rfl (n := N) (by omega) (fun _ _ _ => rfl)
  have := (zc_bd (fun _ => true) N).2
  unfold pb_k
  omega
/-- where nothing can be gained, a parent is exact -/
theorem pb_par {N : Nat} {U : Int} {A : Int → Int → Prop} {w : Int → Int → Int} {S : Int → Prop} {f G p : Int → Int} {r : Int → Nat} (hB : pb_B N U A w S f G p r) (hX : pb_X U A w G) {v : Int} (h1 : 0 ≤ v) (h2 : v < N) (hp : p v ≠ -4) : (0 ≤ p v ∧ p v < N) ∧ A (p v) v ∧ G (p v) ≠ U ∧ G v ≠ U ∧ G v = G (p v) + w (p v) v ∧ r (p v) < r v := by
  rcases (hB v h1 h2).2.2 with q | ⟨q1, q2, q3, q4, q5, q6, q7⟩
  · exact absurd q.1 hp
  · have := hX _ _ q3 q4
    have e : G v = G (p v) + w (p v) v := by omega
    exact ⟨⟨q1, q2⟩, q3, q4, q5, e, q7 e⟩
/-- enough passes -/
theorem pb_enough {N : Nat} {U : Int} {A : Int → Int → Prop} {w : Int → Int → Int} {S : Int → Prop} {f G0 G p : Int → Int} {r : Int → Nat} {k : Nat} (hU : U < -(N : Int)) (hN : pb_N N A w S f) (hB : pb_B N U A w S f G p r) (h0 : ∀ v : Int, 0 ≤ v → v < N → U ≤ G0 v) (hS : ∀ v : Int, S v → 0 ≤ G0 v) (hk : N ≤ k + 1) (hC : pb_C N U A w G0 k G) : pb_X U A w G := by
  obtain ⟨Gs, ps, rs, bs, xs, ls⟩ := pb_fix hU hN ((N : Int) - zs G N + 1).toNat G p r hB (by omega)
  have key : ∀ (j : Nat) (H : Int → Int), pb_C N U A w G0 j H → (∀ v : Int, 0 ≤ v → v < N → H v ≤ Gs v) → (∀ v : Int, 0 ≤ v → v < N → U ≤ H v) ∧ (∀ v : Int, S v → 0 ≤ H v) ∧ ∀ v : Int, 0 ≤ v → v < N → pb_k N rs v ≤ j → Gs v ≤ H v := by
    intro j
    induction j with
    | zero =>
      intro H hH hle
      have hH : H = G0 := hH
      subst hH
      refine ⟨h0, hS, fun v v1 v2 hr => ?_⟩
      by_cases e : ps v = -4
      · rcases (bs v v1 v2).2.2 with q | q
        · rcases q.2 with z | z
          · rw [z]; exact h0 v v1 v2
          · have := hS v z
            have := (hN.2.1 v z).2.2
            have := (bs v v1 v2).1
            have := pb_c_bd N U Gs
            omega
        · omega
      · obtain ⟨c1, c2, c3, c4, c5, c6⟩ := pb_par bs xs v1 v2 e
        have := pb_k_lt (N := N) c1 c6
        have := (pb_k_bd (r := rs) c1).1
        omega
    | succ j ih =>
      intro H hH hle
      obtain ⟨H1, hH1, hP⟩ := hH
      obtain ⟨i1, i2, i3⟩ := ih H1 hH1 (fun v a b => Int.le_trans (hP.1 v a b) (hle v a b))
      refine ⟨fun v a b => Int.le_trans (i1 v a b) (hP.1 v a b), fun v s => ?_, fun v v1 v2 hr => ?_⟩
      · have z := hN.2.1 v s
        exact Int.le_trans (i2 v s) (hP.1 v z.1 z.2.1)
      · by_cases e : ps v = -4
        · rcases (bs v v1 v2).2.2 with q | q
          · rcases q.2 with z | z
            · rw [z]; exact Int.le_trans (i1 v v1 v2) (hP.1 v v1 v2)
            · have := Int.le_trans (i2 v z) (hP.1 v v1 v2)
              have := (hN.2.1 v z).2.2
              have := (bs v v1 v2).1
              have := pb_c_bd N U Gs
              omega
          · omega
        · obtain ⟨c1, c2, c3, c4, c5, c6⟩ := pb_par bs xs v1 v2 e
          have := pb_k_lt (N := N) c1 c6
          have l1 := i3 (ps v) c1.1 c1.2 (by omega)
          have l2 := hP.1 (ps v) c1.1 c1.2
          have l3 := hle (ps v) c1.1 c1.2
          have l4 := hP.2 (ps v) v c2 (by omega)
          omega
  obtain ⟨_, _, k3⟩ := key k G hC ls
  have e : ∀ v : Int, 0 ≤ v → v < N → G v = Gs v := by
    intro v a b
    have := k3 v a b (by have := (pb_k_bd (r := rs) ⟨a, b⟩).2; omega)
    have := ls v a b
    omega
  intro u v hA hu
  obtain ⟨a1, a2, a3, a4, _⟩ := hN.1 u v hA
  rw [e u a1 a2] at hu ⊢
  rw [e v a3 a4]
  exact xs u v hA hu
/-- new potentials -/
noncomputable def pb_f (U E : Int) (f G : Int → Int) : Int → Int := fun v => if G v = U then f v - E else max (G v) (f v - E)
theorem pb_f_bd {N : Nat} {U E : Int} {A : Int → Int → Prop} {w : Int → Int → Int} {S : Int → Prop} {f G p : Int → Int} {r : Int → Nat} (hE : 0 ≤ E) (hB : pb_B N U A w S f G p r) {v : Int} (h1 : 0 ≤ v) (h2 : v < N) : pb_f U E f G v ≤ f v ∧ f v - E ≤ pb_f U E f G v := by
  have := (hB v h1 h2).1
  unfold pb_f
  split <;> omega
theorem pb_f_N {N : Nat} {U E : Int} {A : Int → Int → Prop} {w : Int → Int → Int} {S : Int → Prop} {f G p : Int → Int} {r : Int → Nat} (hU : U < -(N : Int)) (hE : 0 ≤ E) (hN : pb_N N A w S f) (hB : pb_B N U A w S f G p r) (hX : pb_X U A w G) : pb_N N A w S (pb_f U E f G) := by
  refine ⟨fun u v hA => ?_, fun v hs => ?_, fun v h1 h2 => ?_⟩
  · obtain ⟨a1, a2, a3, a4, a5, a6⟩ := hN.1 u v hA
    refine ⟨a1, a2, a3, a4, a5, ?_⟩
    have bu := (hB u a1 a2).1
    have bv := (hB v a3 a4).1
    have hc := pb_c_bd N U G
    have x1 := hX u v hA
    have bv' := pb_f_bd (E := E) hE hB a3 a4
    by_cases e : G u = U
    · have : pb_f U E f G u = f u - E := by unfold pb_f; rw [if_pos e]
      omega
    · have x2 := x1 e
      have ev : G v ≠ U := by
        intro z
        have s2 := hB v a3 a4
        rcases bu with q | q
        · exact e q
        · -- a reached node's gain is above U less 1
          have : pb_c N U G ≤ N - 1 := by
            have := zc_ltw (p := fun v => !decide (G v = U)) (q := fun _ => true) (k := v.toNat) (by simp [show ((v.toNat : Nat) : Int) = v by omega, z]) rfl (n := N) (by omega) (fun _ _ _ => rfl)
            have := (zc_bd (fun _ => true) N).2
            unfold pb_c; omega
          omega
      have e1 : pb_f U E f G u = max (G u) (f u - E) := by unfold pb_f; rw [if_neg e]
      have e2 : pb_f U E f G v = max (G v) (f v - E) := by unfold pb_f; rw [if_neg ev]
      omega
  · obtain ⟨a1, a2, a3⟩ := hN.2.1 v hs
    refine ⟨a1, a2, ?_⟩
    have b := hB v a1 a2
    have := b.2.1 hs
    have hc := pb_c_bd N U G
    unfold pb_f
    split <;> omega
  · have := (pb_f_bd (E := E) hE hB h1 h2).1
    have := hN.2.2 v h1 h2
    omega
/-- on the chain the new potential is the gain -/
theorem pb_on {U E : Int} {f G : Int → Int} {v : Int} (h : G v ≠ U) (h1 : f v - E ≤ G v) : pb_f U E f G v = G v := by
  unfold pb_f
  rw [if_neg h]; omega
theorem pb_on_par {N : Nat} {U E : Int} {A : Int → Int → Prop} {w : Int → Int → Int} {S : Int → Prop} {f G p : Int → Int} {r : Int → Nat} (hN : pb_N N A w S f) (hB : pb_B N U A w S f G p r) (hX : pb_X U A w G) {v : Int} (h1 : 0 ≤ v) (h2 : v < N) (hp : p v ≠ -4) (ho : f v - E ≤ G v) : f (p v) - E ≤ G (p v) := by
  obtain ⟨c1, c2, c3, c4, c5, c6⟩ := pb_par hB hX h1 h2 hp
  have := (hN.1 _ _ c2).2.2.2.2.2
  omega
