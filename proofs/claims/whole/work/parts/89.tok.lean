set_option maxRecDepth 20000
/-! both read the same token -/
def TKR (k v s m : Int) : Prop := (k = 0 ∧ s = 0) ∨ (k = 1 ∧ s = 1 ∧ ((0 ≤ v ∧ v ≤ 6 ∧ m = v) ∨ (7 ≤ v ∧ v ≤ 11 ∧ m = v + 3))) ∨ (k = 2 ∧ s = 2 ∧ m = v ∧ 0 ≤ v ∧ v ≤ 999) ∨ ((k = 43 ∨ k = 45 ∨ k = 44 ∨ k = 59) ∧ s = 3 ∧ m = k)
def RP (f g : Int → Int) : Prop := f 2 = 0 ∧ g 10 = 0 ∧ g 5 = f 1 ∧ f 1 ≤ 200 ∧ f 5 = g 6 ∧ 0 ≤ f 5 ∧ f 5 ≤ f 1
def RT (f g : Int → Int) : Prop := g 5 = f 1 ∧ f 1 ≤ 200 ∧ g 10 = f 2 ∧ (0 ≤ f 2 ∧ f 2 ≤ 4) ∧ ((f 2 = 0 ∧ f 5 = g 6 ∧ (0 ≤ f 5 ∧ f 5 ≤ f 1) ∧ f 7 = g 7 ∧ TKR (f 6) (f 8) (g 8) (g 9)) ∨ (f 2 ≠ 0 ∧ f 7 = g 11))
def TB (b t : Int → Int) : Prop := ∀ i, b i = mj_b (t i) ∧ 0 ≤ t i ∧ t i ≤ 255
theorem TB_lo {b t : Int → Int} (h : TB b t) (i : Int) : (0 ≤ b i → b i = t i) ∧ (t i ≤ 127 → b i = t i) := by
  have := h i
  unfold mj_b at this
  omega
theorem TB_sp {b t : Int → Int} (h : TB b t) : tsp b = tsp t := by
  funext i
  have h1 := TB_lo h i
  have h2 := h i
  rw [Bool.eq_iff_iff, tsp_i, tsp_i]
  omega
theorem TB_le {b t : Int → Int} (h : TB b t) : tle b = tle t := by
  funext i
  have h1 := TB_lo h i
  have h2 := h i
  rw [Bool.eq_iff_iff, tle_i, tle_i]
  omega
theorem TB_fi {b t : Int → Int} (h : TB b t) : tfi b = tfi t := by
  funext i
  have h1 := TB_lo h i
  have h2 := h i
  rw [Bool.eq_iff_iff, tfi_i, tfi_i]
  omega
theorem vn_cg {b t : Int → Int} {s : Int} : ∀ j : Nat, (∀ i : Int, 0 ≤ i → i < j → b (s + i) = t (s + i)) → vn b s j = vn t s j
  | 0, _ => rfl
  | j + 1, h => by
    rw [vn_s, vn_s, vn_cg j (fun i a c => h i a (by omega)), h j (by omega) (by omega)]
theorem RT_next0 {b t f g : Int → Int} (hb : TB b t) (h : RP f g) : RT (nxf b f) (nxg t g) ∧ f 5 ≤ nxf b f 5 ∧ (nxf b f 2 = 0 → nxf b f 6 ≠ 0 → f 5 < nxf b f 5) := by
  obtain ⟨f2, g10, g5, hn, h5, h50, h51⟩ := h
  unfold nxf nxg
  rw [if_pos f2, if_pos g10, TB_sp hb, g5, ← h5]
  have hz := zadv_bd (tsp t) (f 1) 200 (f 5)
  generalize zadv (tsp t) (f 1) 200 (f 5) = s at *
  have hlo := TB_lo hb s
  have hbs := hb s
  unfold nx1 ng1
  simp only [g_ps, g_pn, ne_eq, Int.reduceEq, not_false_eq_true, g5]
  by_cases q1 : f 1 ≤ s
  · simp only [q1, if_true]
    unfold RT TKR
    try simp only [g_ps, g_pn, ne_eq, Int.reduceEq, not_false_eq_true, g5, f2, g10, true_and, and_true, true_or, or_true, and_self, not_true_eq_false, false_and, and_false, false_or, or_false, not_false_eq_true, false_implies, implies_true]
    all_goals (first | omega | grind)
  · simp only [q1, if_false]
    by_cases q2 : 97 ≤ t s ∧ t s ≤ 122
    · have q2' : 97 ≤ b s ∧ b s ≤ 122 := by omega
      rw [if_pos q2, if_pos q2']
      unfold wdf ngw wtg
      simp only [g_ps, g_pn, ne_eq, Int.reduceEq, not_false_eq_true, g5, g10, TB_le hb]
      have hz2 := zadv_bd (tle t) (f 1) 200 s
      have h1 : s < zadv (tle t) (f 1) 200 s := zadv_1 ⟨by omega, by rw [tle_i]; exact q2⟩
      have hall := zadv_all (tle t) (f 1) 200 s
      generalize zadv (tle t) (f 1) 200 s = e at *
      have hl := w_link (b := b) (t := t) (s := s) (len := e - s) (by omega) (fun i a c => by
        have := hall (s + i) (by omega) (by omega)
        rw [tle_i] at this
        have := TB_lo hb (s + i)
        omega) (fun i a c => by
        have := hall (s + i) (by omega) (by omega)
        rw [tle_i] at this
        have := TB_lo hb (s + i)
        omega)
      generalize wdv b s (e - s) = W at *
      generalize nmM t s (e - s) = M at *
      unfold RT TKR
      rcases hl with ⟨p1, p2⟩ | ⟨p1, p2⟩ | ⟨p1, p2⟩
      · simp only [p1, p2, if_true, and_self, g_ps, g_pn, ne_eq, Int.reduceEq, not_false_eq_true, g5, f2, g10, true_and, and_true, true_or, or_true, and_self, not_true_eq_false, false_and, and_false, false_or, or_false, not_false_eq_true, false_implies, implies_true]
        all_goals (first | omega | grind)
      · have n1 : ¬ W = -4 := by omega
        simp only [p2, n1, if_false, false_and, g_ps, g_pn, ne_eq, Int.reduceEq, not_false_eq_true, g5, f2, g10, true_and, and_true, true_or, or_true, and_self, not_true_eq_false, false_and, and_false, false_or, or_false, not_false_eq_true, false_implies, implies_true]
        all_goals (first | omega | grind)
      · have n1 : ¬ W = -4 := by omega
        have n2 : ¬ W + 3 = -4 := by omega
        simp only [p2, n1, n2, if_false, false_and, g_ps, g_pn, ne_eq, Int.reduceEq, not_false_eq_true, g5, f2, g10, true_and, and_true, true_or, or_true, and_self, not_true_eq_false, false_and, and_false, false_or, or_false, not_false_eq_true, false_implies, implies_true]
        all_goals (first | omega | grind)
    · have q2' : ¬ (97 ≤ b s ∧ b s ≤ 122) := by omega
      rw [if_neg q2, if_neg q2']
      by_cases q3 : 48 ≤ t s ∧ t s ≤ 57
      · have q3' : 48 ≤ b s ∧ b s ≤ 57 := by omega
        rw [if_pos q3, if_pos q3']
        unfold nmf ngn wtg
        simp only [g_ps, g_pn, ne_eq, Int.reduceEq, not_false_eq_true, g5, g10, TB_fi hb]
        have hz2 := zadv_bd (tfi t) (f 1) 200 s
        have h1 : s < zadv (tfi t) (f 1) 200 s := zadv_1 ⟨by omega, by rw [tfi_i]; exact q3⟩
        have hall := zadv_all (tfi t) (f 1) 200 s
        generalize zadv (tfi t) (f 1) 200 s = e at *
        have hv : vn b s (e - s).toNat = vn t s (e - s).toNat := vn_cg _ (fun i a c => by
          have := hall (s + i) (by omega) (by omega)
          rw [tfi_i] at this
          have := TB_lo hb (s + i)
          omega)
        have hvb := vnb_all (b := t) (s := s) (e - s).toNat (fun i a c => by
          have := hall i (by omega) (by omega)
          rw [tfi_i] at this
          exact this)
        rw [hv]
        unfold vnb at hvb
        generalize vn t s (e - s).toNat = V at *
        unfold RT TKR
        by_cases q5 : 3 < e - s
        · simp only [q5, if_true, and_self, g_ps, g_pn, ne_eq, Int.reduceEq, not_false_eq_true, g5, f2, g10, true_and, and_true, true_or, or_true, and_self, not_true_eq_false, false_and, and_false, false_or, or_false, not_false_eq_true, false_implies, implies_true]
          all_goals (first | omega | grind)
        · simp only [q5, if_false, false_and, g_ps, g_pn, ne_eq, Int.reduceEq, not_false_eq_true, g5, f2, g10, true_and, and_true, true_or, or_true, and_self, not_true_eq_false, false_and, and_false, false_or, or_false, not_false_eq_true, false_implies, implies_true]
          all_goals (first | omega | grind)
      · have q3' : ¬ (48 ≤ b s ∧ b s ≤ 57) := by omega
        rw [if_neg q3, if_neg q3']
        unfold ngs wtg
        unfold RT TKR
        by_cases q4 : t s = 43 ∨ t s = 45 ∨ t s = 44 ∨ t s = 59
        · have q4' : b s = 43 ∨ b s = 45 ∨ b s = 44 ∨ b s = 59 := by omega
          simp only [q4, q4', if_true, if_false, false_and, true_and, and_self, g_ps, g_pn, ne_eq, Int.reduceEq, not_false_eq_true, g5, f2, g10, true_and, and_true, true_or, or_true, and_self, not_true_eq_false, false_and, and_false, false_or, or_false, not_false_eq_true, false_implies, implies_true]
          all_goals (first | omega | grind)
        · have q4' : ¬ (b s = 43 ∨ b s = 45 ∨ b s = 44 ∨ b s = 59) := by omega
          simp only [q4, q4', if_true, if_false, false_and, true_and, and_self, g_ps, g_pn, ne_eq, Int.reduceEq, not_false_eq_true, g5, f2, g10, true_and, and_true, true_or, or_true, and_self, not_true_eq_false, false_and, and_false, false_or, or_false, not_false_eq_true, false_implies, implies_true]
          all_goals (first | omega | grind)
theorem RT_RP {f g : Int → Int} (h : RT f g) (h2 : f 2 = 0) : RP f g := by
  unfold RT at h
  unfold RP
  omega
theorem RT_next {b t f g : Int → Int} (hb : TB b t) (h : RT f g) : RT (nxf b f) (nxg t g) := by
  by_cases h2 : f 2 = 0
  · exact (RT_next0 hb (RT_RP h h2)).1
  · have h3 := h
    unfold RT at h3
    unfold nxf nxg
    rw [if_neg h2, if_neg (by omega)]
    exact h
theorem nxf_o (b f : Int → Int) {i : Int} (h : i ≠ 2 ∧ i ≠ 5 ∧ i ≠ 6 ∧ i ≠ 7 ∧ i ≠ 8) : nxf b f i = f i := by
  unfold nxf nx1 wdf nmf
  split
  · split
    · simp (disch := omega) only [g_pn]
    · split
      · simp (disch := omega) only [g_pn]
      · split
        · split <;> simp (disch := omega) only [g_pn]
        · split <;> simp (disch := omega) only [g_pn]
  · rfl
theorem wtg_o (g : Int → Int) (a b : Int) {i : Int} (h : i ≠ 10 ∧ i ≠ 11) : wtg g a b i = g i := by
  unfold wtg
  split
  · simp (disch := omega) only [g_pn]
  · rfl
theorem nxg_o (b f : Int → Int) {i : Int} (h : ¬ (6 ≤ i ∧ i ≤ 11)) : nxg b f i = f i := by
  unfold nxg ng1 ngw ngn ngs
  split
  · split
    · simp (disch := omega) only [g_pn]
    · split
      · rw [wtg_o _ _ _ (by omega)]; simp (disch := omega) only [g_pn]
      · split
        · rw [wtg_o _ _ _ (by omega)]; simp (disch := omega) only [g_pn]
        · rw [g_pn (by omega), wtg_o _ _ _ (by omega)]; simp (disch := omega) only [g_pn]
  · rfl
/-- a wish refused on both sides -/
noncomputable def flf (f : Int → Int) (good : Prop) [Decidable good] (code : Int) : Int → Int := if f 2 = 0 ∧ ¬ good then mj_pt f 2 code else f
theorem RT_want {f g : Int → Int} (h : RT f g) (good : Prop) [Decidable good] {v code : Int} (hv : f 2 = 0 → (v = 0 ↔ ¬ good)) (hc : 1 ≤ code ∧ code ≤ 4) : RT (flf f good code) (wtg g v code) := by
  unfold flf wtg
  have h0 := h
  unfold RT at h0
  by_cases q : f 2 = 0
  · have hv := hv q
    by_cases p : good
    · rw [if_neg (fun e => e.2 p), if_neg (fun e => (hv.mp e.1) p)]; exact h
    · rw [if_pos ⟨q, p⟩, if_pos ⟨hv.mpr p, by omega⟩]
      obtain ⟨b1, b2, b3, b4, hd⟩ := h0
      have h7 : f 7 = g 7 := by
        rcases hd with ⟨a1, a2, a3, a4, _⟩ | ⟨a1, _⟩
        · exact a4
        · exact absurd q a1
      unfold RT
      simp only [g_ps, g_pn, ne_eq, Int.reduceEq, not_false_eq_true]
      exact ⟨b1, b2, trivial, by omega, Or.inr ⟨by omega, h7⟩⟩
  · rw [if_neg (fun e => q e.1), if_neg (fun e => q (by omega))]; exact h
