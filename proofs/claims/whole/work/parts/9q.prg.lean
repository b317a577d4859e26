set_option maxRecDepth 20000
/-! the class's search for a program: the choices of titles behind a rank, what they are worth -/
theorem zs_nn {f : Int → Int} : ∀ {n : Nat}, (∀ i : Nat, i < n → 0 ≤ f i) → 0 ≤ zs f n
  | 0, _ => Int.le_refl _
  | n + 1, h => by
    have h1 := zs_nn (n := n) (fun i hi => h i (by omega))
    have h2 := h n (by omega)
    show 0 ≤ zs f n + f n
    omega
theorem pw_zs (w m g : Int → Int) : pw w m g 12 = zs (fun i => if 0 < g i then wo w m i else 0) 12 := by
  rw [pw_smr, ← smr_zs _ 12 (Nat.le_refl _)]
  exact zs_cg (fun i hi => by rw [if_pos (by omega)])
theorem pm_zs {m v g : Int → Int} {a b : Int} (ha : 0 ≤ a) (hb : 0 ≤ b) (h : pf m v g 12 a b) : zs (fun i => if 0 < g i then m i else 0) 12 ≤ a + b := by
  have h1 := pf_m 12 a b ha hb h
  rw [← smr_zs _ 12 (Nat.le_refl _)] at h1
  have e : zs (fun t => if 12 - ((12 : Nat) : Int) ≤ t then (if 0 < g t then m t else 0) else 0) 12 = zs (fun i => if 0 < g i then m i else 0) 12 := zs_cg (fun i hi => by rw [if_pos (by omega)])
  rw [← e]
  exact h1
/-- rows that read of the first q ranks just the chosen ones -/
def XT (m v r ch : Int → Int) (q : Nat) (a b : Int) (g : Int → Int) : Prop := pf m v g 12 a b ∧ ∀ j : Nat, j < q → (0 < g (r j) ↔ ch (r j) = 1)
def CH (v r ch : Int → Int) (q R : Nat) : Prop := (∀ i, ch i = 0 ∨ ch i = 1) ∧ (∀ j : Nat, q ≤ j → j < R → ch (r j) = 0) ∧ ∀ i : Int, v i = 0 → ch i = 0
theorem xt_split {w m v r ch g : Int → Int} {R q : Nat} {a b : Int} (φ : Int → Int) (hs : SR w m v 12 R r) (hc : CH v r ch q R) (hg : XT m v r ch q a b g) :
    zs (fun i => if 0 < g i then φ i else 0) 12 = zs (fun i => ch i * φ i) 12 + zs (fun j => (if (q : Int) ≤ j ∧ 0 < g (r j) then 1 else 0) * φ (r j)) R := by
  have hv := pf_v 12 a b (Nat.le_refl _) hg.1
  have e1 : zs (fun i => if 0 < g i then φ i else 0) 12 = zs (fun j => if 0 < g (r j) then φ (r j) else 0) R := by
    rw [hs.2.2.2.1 (fun i => if 0 < g i then φ i else 0)]
    refine zs_cg fun t ht => ?_
    by_cases e : v t ≠ 0
    · rw [if_pos e]
    · rw [if_neg e, if_neg (fun q => e (hv t (by omega) (by omega) q))]
  have e2 : zs (fun i => ch i * φ i) 12 = zs (fun j => ch (r j) * φ (r j)) R := by
    rw [hs.2.2.2.1 (fun i => ch i * φ i)]
    refine zs_cg fun t ht => ?_
    by_cases e : v t ≠ 0
    · rw [if_pos e]
    · rw [if_neg e, hc.2.2 t (by omega), Int.zero_mul]
  rw [e1, e2, ← zs_add2]
  refine zs_cg fun j hj => ?_
  by_cases e : j < q
  · rw [if_neg (show ¬ ((q : Int) ≤ j ∧ 0 < g (r j)) by omega), Int.zero_mul, Int.add_zero]
    by_cases e3 : 0 < g (r j)
    · rw [if_pos e3, (hg.2 j e).mp e3, Int.one_mul]
    · rw [if_neg e3]
      rcases hc.1 (r j) with q0 | q1
      · rw [q0, Int.zero_mul]
      · exact absurd ((hg.2 j e).mpr q1) e3
  · rw [hc.2.1 j (by omega) hj, Int.zero_mul, Int.zero_add]
    by_cases e3 : 0 < g (r j)
    · rw [if_pos e3, if_pos ⟨by omega, e3⟩, Int.one_mul]
    · rw [if_neg e3, if_neg (fun q => e3 q.2), Int.zero_mul]
theorem xt_le {w m v r ch g : Int → Int} {R q : Nat} {a b X sum room : Int} (hs : SR w m v 12 R r) (hc : CH v r ch q R) (hg : XT m v r ch q a b g) (ha : 0 ≤ a) (hb : 0 ≤ b)
    (hsum : sum = zs (fun i => ch i * wo w m i) 12) (hroom : room = a + b - zs (fun i => ch i * m i) 12)
    (hX : ∀ cc : Int → Int, (∀ j : Nat, j < R → (cc j = 0 ∨ cc j = 1) ∧ (cc j = 1 → (q : Int) ≤ j)) → zs (fun j => cc j * m (r j)) R ≤ room → zs (fun j => cc j * wo w m (r j)) R ≤ X) : pw w m g 12 ≤ sum + X := by
  have h1 := xt_split (wo w m) hs hc hg
  have h2 := xt_split m hs hc hg
  have h3 := pm_zs ha hb hg.1
  have h4 := hX (fun j => if (q : Int) ≤ j ∧ 0 < g (r j) then 1 else 0) (fun j hj => ⟨by split <;> omega, fun e => by
    by_cases e1 : (q : Int) ≤ j ∧ 0 < g (r j)
    · exact e1.1
    · rw [if_neg e1] at e; omega⟩) (by
    show zs (fun j => (if (q : Int) ≤ j ∧ 0 < g (r j) then 1 else 0) * m (r j)) R ≤ room
    omega)
  have h5 : zs (fun j => (if (q : Int) ≤ j ∧ 0 < g (r j) then 1 else 0) * wo w m (r j)) R ≤ X := h4
  rw [pw_zs, h1]
  omega
theorem zs_pt {ch φ : Int → Int} {t : Int} (h1 : 0 ≤ t) (h2 : t < 12) (h0 : ch t = 0) : zs (fun i => mj_pt ch t 1 i * φ i) 12 = zs (fun i => ch i * φ i) 12 + φ t := by
  have e : zs (fun i => mj_pt ch t 1 i * φ i) 12 = zs (fun i => ch i * φ i + (if i = ((t.toNat : Nat) : Int) then φ i else 0)) 12 := zs_cg (fun i hi => by
    by_cases q : (i : Int) = t
    · rw [if_pos (by omega), q, g_ps, h0, Int.one_mul, Int.zero_mul, Int.zero_add]
    · rw [if_neg (by omega), g_pn q, Int.add_zero])
  rw [e, zs_add2, zs_one φ t.toNat 12, if_pos (by omega), show ((t.toNat : Nat) : Int) = t by omega]
theorem CH_no {v r ch : Int → Int} {q R : Nat} (h : CH v r ch q R) : CH v r ch (q + 1) R := ⟨h.1, fun j a b => h.2.1 j (by omega) b, h.2.2⟩
theorem CH_yes {w m v r ch : Int → Int} {q R : Nat} (hs : SR w m v 12 R r) (h : CH v r ch q R) (hq : q < R) : CH v r (mj_pt ch (r q) 1) (q + 1) R := by
  refine ⟨fun i => ?_, fun j a b => ?_, fun i hi => ?_⟩
  · by_cases e : i = r q
    · rw [e, g_ps]; exact Or.inr rfl
    · rw [g_pn e]; exact h.1 i
  · rw [g_pn (fun e => hs.2.2.2.2.1 q j (by omega) b e.symm)]; exact h.2.1 j (by omega) b
  · rw [g_pn (fun e => (hs.2.1 q hq).2 (by rw [← e]; exact hi))]; exact h.2.2 i hi
theorem XT_s {w m v r ch g : Int → Int} {q R : Nat} {a b : Int} (hs : SR w m v 12 R r) (hc : CH v r ch q R) (hq : q < R) (hg : XT m v r ch q a b g) : (0 < g (r q) ∧ XT m v r (mj_pt ch (r q) 1) (q + 1) a b g) ∨ XT m v r ch (q + 1) a b g := by
  by_cases e : 0 < g (r q)
  · refine Or.inl ⟨e, hg.1, fun j hj => ?_⟩
    by_cases e2 : j = q
    · rw [e2, g_ps]; exact ⟨fun _ => rfl, fun _ => e⟩
    · rw [g_pn (hs.2.2.2.2.1 j q (by omega) hq)]; exact hg.2 j (by omega)
  · refine Or.inr ⟨hg.1, fun j hj => ?_⟩
    by_cases e2 : j = q
    · rw [e2, hc.2.1 q (Nat.le_refl _) hq]
      exact ⟨fun z => absurd z e, fun z => by omega⟩
    · exact hg.2 j (by omega)
/-- a chosen title has room -/
theorem XT_room {w m v r ch g : Int → Int} {q R : Nat} {a b room : Int} (hM : ∀ i, 0 ≤ m i) (hs : SR w m v 12 R r) (hc : CH v r ch q R) (hq : q < R) (ha : 0 ≤ a) (hb : 0 ≤ b) (hroom : room = a + b - zs (fun i => ch i * m i) 12) (hg : XT m v r (mj_pt ch (r q) 1) (q + 1) a b g) : m (r q) ≤ room := by
  have h1 := xt_split m hs (CH_yes hs hc hq) hg
  have h2 := pm_zs ha hb hg.1
  have hb2 := (hs.2.1 q hq).1
  have h3 := zs_pt (ch := ch) (φ := m) hb2.1 (by omega) (hc.2.1 q (Nat.le_refl _) hq)
  have h4 : 0 ≤ zs (fun j => (if ((q + 1 : Nat) : Int) ≤ j ∧ 0 < g (r j) then 1 else 0) * m (r j)) R := zs_nn (fun i hi => by
    split
    · rw [Int.one_mul]; exact hM _
    · rw [Int.zero_mul]; exact Int.le_refl _)
  omega
/-- the row reads just the chosen ones, from title 12 - k on -/
def SU (ch g : Int → Int) (k : Nat) : Prop := ∀ i : Int, 12 - k ≤ i → i < 12 → (0 < g i ↔ ch i = 1)
theorem XT_leaf {w m v r ch g : Int → Int} {R : Nat} {a b : Int} (hs : SR w m v 12 R r) (hc : CH v r ch R R) (hg : XT m v r ch R a b g) : SU ch g 12 := by
  intro i h1 h2
  by_cases e : v i = 0
  · have := hc.2.2 i e
    refine ⟨fun q => absurd e (pf_v 12 a b (Nat.le_refl _) hg.1 i h1 h2 q), fun q => by omega⟩
  · obtain ⟨j, j1, j2⟩ := hs.2.2.2.2.2 i (by omega) (by omega) e
    have := hg.2 j j1
    rw [j2] at this
    exact this
theorem SU_pw {w m ch g : Int → Int} (h01 : ∀ i, ch i = 0 ∨ ch i = 1) (h : SU ch g 12) : pw w m g 12 = zs (fun i => ch i * wo w m i) 12 := by
  rw [pw_zs]
  refine zs_cg fun i hi => ?_
  have := h i (by omega) (by omega)
  rcases h01 i with q | q
  · rw [if_neg (fun z => by have := this.mp z; omega), q, Int.zero_mul]
  · rw [if_pos (this.mpr q), q, Int.one_mul]
/-- what was found so far -/
def OKs (w m v : Int → Int) (a b be : Int) (wh : Int → Int) : Prop := be = -1 ∨ (0 ≤ be ∧ pf m v wh 12 a b ∧ pw w m wh 12 = be)
def DM (w m : Int → Int) (be : Int) (wh g : Int → Int) : Prop := pw w m g 12 < be ∨ (pw w m g 12 = be ∧ ¬ plt g wh 12)
def MO (be : Int) (wh : Int → Int) (be' : Int) (wh' : Int → Int) : Prop := be < be' ∨ (be = be' ∧ (wh' = wh ∨ plt wh' wh 12))
theorem plt_trans {f g h : Int → Int} : ∀ k : Nat, plt f g k → plt g h k → plt f h k
  | 0, a, _ => a
  | k + 1, a, b => by
    rcases a with a | ⟨a1, a2⟩
    · rcases b with b | ⟨b1, b2⟩
      · exact Or.inl (by omega)
      · exact Or.inl (by omega)
    · rcases b with b | ⟨b1, b2⟩
      · exact Or.inl (by omega)
      · exact Or.inr ⟨by omega, plt_trans k a2 b2⟩
theorem plt_cg {f g f' g' : Int → Int} : ∀ k : Nat, k ≤ 12 → (∀ i : Int, 12 - k ≤ i → i < 12 → f i = f' i) → (∀ i : Int, 12 - k ≤ i → i < 12 → g i = g' i) → plt f g k → plt f' g' k
  | 0, _, _, _, h => h
  | k + 1, hk, e1, e2, h => by
    have a := e1 (11 - k) (by omega) (by omega)
    have b := e2 (11 - k) (by omega) (by omega)
    rcases h with h | ⟨h1, h2⟩
    · exact Or.inl (by omega)
    · exact Or.inr ⟨by omega, plt_cg k (by omega) (fun i c d => e1 i (by omega) d) (fun i c d => e2 i (by omega) d) h2⟩
theorem MO_refl (be : Int) (wh : Int → Int) : MO be wh be wh := Or.inr ⟨rfl, Or.inl rfl⟩
theorem MO_le {be be' : Int} {wh wh' : Int → Int} (h : MO be wh be' wh') : be ≤ be' := by
  rcases h with h | ⟨h, _⟩ <;> omega
theorem MO_tr {b0 b1 b2 : Int} {w0 w1 w2 : Int → Int} (h1 : MO b0 w0 b1 w1) (h2 : MO b1 w1 b2 w2) : MO b0 w0 b2 w2 := by
  have l1 := MO_le h1
  have l2 := MO_le h2
  rcases h1 with h1 | ⟨e1, q1⟩
  · exact Or.inl (by omega)
  · rcases h2 with h2 | ⟨e2, q2⟩
    · exact Or.inl (by omega)
    · refine Or.inr ⟨by omega, ?_⟩
      rcases q2 with q2 | q2
      · rw [q2]; exact q1
      · rcases q1 with q1 | q1
        · rw [← q1]; exact Or.inr q2
        · exact Or.inr (plt_trans 12 q2 q1)
theorem DM_mo {w m : Int → Int} {be be' : Int} {wh wh' g : Int → Int} (h : DM w m be wh g) (hm : MO be wh be' wh') : DM w m be' wh' g := by
  rcases h with h | ⟨e, h⟩
  · exact Or.inl (by have := MO_le hm; omega)
  · rcases hm with q | ⟨q, q2⟩
    · exact Or.inl (by omega)
    · refine Or.inr ⟨by omega, ?_⟩
      rcases q2 with q2 | q2
      · rw [q2]; exact h
      · exact fun z => h (plt_trans 12 z q2)
theorem OKs_popt {w m v wh : Int → Int} {a b be : Int} (h : OKs w m v a b be wh) (hd : ∀ g, pf m v g 12 a b → DM w m be wh g) (h0 : 0 ≤ be) : popt w m v a b wh := by
  rcases h with h | ⟨h1, h2, h3⟩
  · omega
  · refine ⟨h2, fun g hg => ?_⟩
    rw [h3]
    exact hd g hg
