/-! what M's state says of the machine's: hz + 1 is the heap's size at the law's start, the cell k of M is the cell hz + mj_ix k; ad k: where what was there before lies -/
noncomputable def sd_r (hz : Nat) (ad : Nat → Nat) (k : Nat) : Nat := if 1000 ≤ k then ad k else hz + mj_ix k
noncomputable def sd_v (hz : Nat) (ad : Nat → Nat) : mj_V → Value
  | .inl x => .int (Int32.ofInt x)
  | .inr (.inl x) => .long (Int64.ofInt x)
  | .inr (.inr k) => if k = 0 then .null else .ref (sd_r hz ad k)
def sd_okR (c k : Nat) : Prop := mj_ix k < c ∨ (1000 ≤ k ∧ k ≤ 1004)
def sd_okV (c : Nat) : mj_V → Prop
  | .inl x => sd_32 x
  | .inr (.inl x) => sd_64 x
  | .inr (.inr k) => sd_okR c k
noncomputable def sd_tab (i : Nat) (j : Int) : Int := if i = 1001 then ([1, 1, 0, 1, 0] : List Int).getD j.toNat 0 else if i = 1002 then ([6, 60, 9, 99, 99] : List Int).getD j.toNat 0 else ([2, 14, 2, 20, 0] : List Int).getD j.toNat 0
def sd_okS (L : Nat) (xs : Nat → Int32) (c : Nat) (π : mj_P) (μ : mj_M) : Prop := 1 ≤ c ∧ c ≤ 1000 ∧ (∀ k j, sd_32 (μ k j)) ∧ (∀ k j, sd_okR c (π k j)) ∧ (∀ j : Nat, j < L → μ 1000 (j : Int) = (xs j).toInt) ∧ (∀ i, 1001 ≤ i → i ≤ 1003 → ∀ j : Nat, j < 5 → μ i (j : Int) = sd_tab i j)
noncomputable def sd_fv (hz : Nat) (ad : Nat → Nat) (ci j p : Nat) (v : Int) : Value := if mj_isr ci j then sd_v hz ad (.inr (.inr p)) else .int (Int32.ofInt v)
noncomputable def sd_cell (hz : Nat) (ad : Nat → Nat) (dA : Nat → ClassId) (D : va_G) (k : Nat) (π : mj_P) (μ : mj_M) (H : Heap) : Prop :=
  if (mj_lay 0 k).1 ≤ 3 then H[hz + mj_ix k]? = some (arrV (dA (mj_lay 0 k).1) (mj_lay 0 k).2 (fun j => .int (Int32.ofInt (μ k (j : Int)))))
  else t_OB (hz + mj_ix k) (D.1 ((mj_lay 0 k).1 - 10)) (mj_nf ((mj_lay 0 k).1 - 10)) (D.2 ((mj_lay 0 k).1 - 10)) H (fun j => sd_fv hz ad ((mj_lay 0 k).1 - 10) j (π k j) (μ k (j : Int)))
def sd_H (hz : Nat) (ad : Nat → Nat) (dA : Nat → ClassId) (D : va_G) (c : Nat) (π : mj_P) (μ : mj_M) (H : Heap) : Prop := H.size = hz + c ∧ ∀ k, 1 ≤ k → mj_ix k < c → sd_cell hz ad dA D k π μ H
/-- the locals -/
def sd_L (hz : Nat) (ad : Nat → Nat) (n : Nat) (ls : List mj_V) (mls : Array Slot) : Prop := mls.size = n ∧ lv_wf mls ∧ ∀ (i : Nat) (v : mj_V), ls[i]? = some v → v ≠ mj_nul → mls[i]? = some (Slot.val (sd_v hz ad v))
noncomputable def sd_lv (hz : Nat) (ad : Nat → Nat) (ls : List mj_V) : List (Nat × Value) := (List.range ls.length).filterMap (fun i => if ls.getD i mj_nul = mj_nul then none else some (i, sd_v hz ad (ls.getD i mj_nul)))
theorem sd_lv_mem {hz : Nat} {ad : Nat → Nat} {ls : List mj_V} {i : Nat} {w : Value} : (i, w) ∈ sd_lv hz ad ls ↔ ∃ v, ls[i]? = some v ∧ v ≠ mj_nul ∧ w = sd_v hz ad v := by
  unfold sd_lv
  rw [List.mem_filterMap]
  constructor
  · rintro ⟨j, hj, h⟩
    rw [List.mem_range] at hj
    obtain ⟨hn, e⟩ := mj_ifn h
    cases e
    refine ⟨ls.getD i mj_nul, ?_, hn, rfl⟩
    rw [List.getD_eq_getElem?_getD, List.getElem?_eq_getElem hj]
    rfl
  · rintro ⟨v, h, hn, rfl⟩
    have hi : i < ls.length := (List.getElem?_eq_some_iff.mp h).1
    have e : ls.getD i mj_nul = v := by rw [List.getD_eq_getElem?_getD, h]; rfl
    refine ⟨i, List.mem_range.mpr hi, ?_⟩
    rw [e, if_neg hn]
theorem sd_L_has {hz : Nat} {ad : Nat → Nat} {n : Nat} {ls : List mj_V} {mls : Array Slot} : sd_L hz ad n ls mls ↔ lv_has mls n (sd_lv hz ad ls) := by
  constructor
  · rintro ⟨h1, h2, h3⟩
    refine ⟨h1, h2, fun q hq => ?_⟩
    obtain ⟨i, w⟩ := q
    obtain ⟨v, e, hn, rfl⟩ := sd_lv_mem.mp hq
    exact h3 i v e hn
  · rintro ⟨h1, h2, h3⟩
    exact ⟨h1, h2, fun i v e hn => h3 (i, sd_v hz ad v) (sd_lv_mem.mpr ⟨v, e, hn, rfl⟩)⟩
theorem sd_cat {hz : Nat} {ad : Nat → Nat} : ∀ v : mj_V, (sd_v hz ad v).category = 2 ↔ ∃ x, v = .inr (.inl x)
  | .inl x => by simp [sd_v, Value.category]
  | .inr (.inl x) => by simp [sd_v, Value.category]
  | .inr (.inr k) => by
    by_cases h : k = 0 <;> simp [sd_v, h, Value.category]
theorem sd_clr_nul : ∀ v : mj_V, mj_clr v ≠ mj_nul → mj_clr v = v ∧ ¬ ∃ x, v = .inr (.inl x)
  | .inl x, _ => ⟨rfl, fun ⟨_, h⟩ => by cases h⟩
  | .inr (.inl x), h => absurd rfl h
  | .inr (.inr k), _ => ⟨rfl, fun ⟨_, h⟩ => by cases h⟩
/-- a stored value, and what stays -/
theorem sd_sto_get : ∀ (ls : List mj_V) (i : Nat) (v : mj_V) (j : Nat) (w : mj_V), i < ls.length → (mj_sto ls i v)[j]? = some w → w ≠ mj_nul → (j = i ∧ w = v) ∨ (j ≠ i ∧ ls[j]? = some w ∧ ¬ (j + 1 = i ∧ ∃ x, w = .inr (.inl x)))
  | [], i, v, j, w, hi, h, hn => by simp at hi
  | x :: l, 0, v, j, w, hi, h, hn => by
    cases j with
    | zero => simp [mj_sto] at h; exact Or.inl ⟨rfl, h.symm⟩
    | succ j => simp [mj_sto] at h; exact Or.inr ⟨by omega, by simpa using h, by omega⟩
  | [x], 1, v, j, w, hi, h, hn => by simp at hi
  | x :: y :: l, 1, v, j, w, hi, h, hn => by
    cases j with
    | zero =>
      simp [mj_sto] at h
      subst h
      obtain ⟨e, h2⟩ := sd_clr_nul x hn
      exact Or.inr ⟨by omega, by simp [e], fun q => h2 (by rw [e] at q; exact q.2)⟩
    | succ j =>
      cases j with
      | zero => simp [mj_sto] at h; exact Or.inl ⟨rfl, h.symm⟩
      | succ j => simp [mj_sto] at h; exact Or.inr ⟨by omega, by simpa using h, by omega⟩
  | x :: l, n + 2, v, j, w, hi, h, hn => by
    cases j with
    | zero => simp [mj_sto] at h; exact Or.inr ⟨by omega, by simpa using h, by omega⟩
    | succ j =>
      have h' : (mj_sto l (n + 1) v)[j]? = some w := by simpa [mj_sto] using h
      rcases sd_sto_get l (n + 1) v j w (by simp at hi; omega) h' hn with ⟨a, b⟩ | ⟨a, b, c⟩
      · exact Or.inl ⟨by omega, b⟩
      · exact Or.inr ⟨by omega, by simpa using b, fun q => c ⟨by omega, q.2⟩⟩
theorem sd_sto_len : ∀ (ls : List mj_V) (i : Nat) (v : mj_V), (mj_sto ls i v).length = ls.length
  | [], i, v => rfl
  | x :: l, 0, v => rfl
  | [x], 1, v => rfl
  | x :: y :: l, 1, v => rfl
  | x :: l, n + 2, v => by
    have := sd_sto_len l (n + 1) v
    simp [mj_sto, this]
theorem sd_sto_mem : ∀ (ls : List mj_V) (i : Nat) (v w : mj_V), w ∈ mj_sto ls i v → w = v ∨ w = mj_nul ∨ w ∈ ls
  | [], i, v, w, h => by simp [mj_sto] at h
  | x :: l, 0, v, w, h => by
    simp [mj_sto] at h
    rcases h with h | h
    · exact Or.inl h
    · exact Or.inr (Or.inr (by simp [h]))
  | [x], 1, v, w, h => by
    have h2 : w ∈ [x] := h
    exact Or.inr (Or.inr h2)
  | x :: y :: l, 1, v, w, h => by
    simp [mj_sto] at h
    rcases h with h | h | h
    · subst h
      cases x with
      | inl x => exact Or.inr (Or.inr (by simp [mj_clr]))
      | inr x =>
        cases x with
        | inl x => exact Or.inr (Or.inl rfl)
        | inr k => exact Or.inr (Or.inr (by simp [mj_clr]))
    · exact Or.inl h
    · exact Or.inr (Or.inr (by simp [h]))
  | x :: l, n + 2, v, w, h => by
    have h' : w = x ∨ w ∈ mj_sto l (n + 1) v := by simpa [mj_sto] using h
    rcases h' with h | h
    · exact Or.inr (Or.inr (by simp [h]))
    · rcases sd_sto_mem l (n + 1) v w h with h | h | h
      · exact Or.inl h
      · exact Or.inr (Or.inl h)
      · exact Or.inr (Or.inr (by simp [h]))
/-- behind a store of one word -/
theorem sd_L_sto {hz : Nat} {ad : Nat → Nat} {n i : Nat} {ls : List mj_V} {v : mj_V} {mls : Array Slot} (hi : i < ls.length)
    (h : lv_has mls n ((i, sd_v hz ad v) :: (sd_lv hz ad ls).filter (fun q => !(q.1 == i) && !(q.1 + 1 == i && q.2.category == 2)))) : sd_L hz ad n (mj_sto ls i v) mls := by
  refine ⟨h.1, h.2.1, fun j w e hn => ?_⟩
  rcases sd_sto_get ls i v j w hi e hn with ⟨rfl, rfl⟩ | ⟨a, b, c⟩
  · exact h.2.2 (j, sd_v hz ad w) List.mem_cons_self
  · refine h.2.2 (j, sd_v hz ad w) (List.mem_cons_of_mem _ (List.mem_filter.mpr ⟨sd_lv_mem.mpr ⟨w, b, hn, rfl⟩, ?_⟩))
    simp only [Bool.and_eq_true, Bool.not_eq_true', beq_eq_false_iff_ne, ne_eq, Bool.and_eq_false_iff]
    refine ⟨a, ?_⟩
    by_cases q : j + 1 = i
    · exact Or.inr (fun z => c ⟨q, (sd_cat w).mp z⟩)
    · exact Or.inl q
theorem sd_L_sto2 {hz : Nat} {ad : Nat → Nat} {n i : Nat} {ls : List mj_V} {v : mj_V} {mls : Array Slot} (hi : i < ls.length)
    (h : lv_has mls n ((i, sd_v hz ad v) :: (sd_lv hz ad ls).filter (fun q => !(q.1 == i) && (!(q.1 == i + 1) && !(q.1 + 1 == i && q.2.category == 2))))) : sd_L hz ad n (mj_sto2 ls i v) mls := by
  refine ⟨h.1, h.2.1, fun j w e hn => ?_⟩
  unfold mj_sto2 at e
  by_cases hj : j = i + 1
  · subst hj
    by_cases hl : i + 1 < (mj_sto ls i v).length
    · rw [List.getElem?_set_self hl] at e
      exact absurd (Option.some.inj e).symm hn
    · rw [List.getElem?_eq_none (by simp; omega)] at e
      cases e
  · rw [List.getElem?_set_ne (by omega)] at e
    rcases sd_sto_get ls i v j w hi e hn with ⟨rfl, rfl⟩ | ⟨a, b, c⟩
    · exact h.2.2 (j, sd_v hz ad w) List.mem_cons_self
    · refine h.2.2 (j, sd_v hz ad w) (List.mem_cons_of_mem _ (List.mem_filter.mpr ⟨sd_lv_mem.mpr ⟨w, b, hn, rfl⟩, ?_⟩))
      simp only [Bool.and_eq_true, Bool.not_eq_true', beq_eq_false_iff_ne, ne_eq, Bool.and_eq_false_iff]
      refine ⟨a, hj, ?_⟩
      by_cases q : j + 1 = i
      · exact Or.inr (fun z => c ⟨q, (sd_cat w).mp z⟩)
      · exact Or.inl q
/-- a method's first locals -/
theorem sd_exp_sl {hz : Nat} {ad : Nat → Nat} : ∀ (as : List mj_V), (lg_sl (as.map (sd_v hz ad))).length = (mj_exp as).length
  | [] => rfl
  | .inl x :: l => by have := sd_exp_sl (hz := hz) (ad := ad) l; simp [lg_sl, sd_v, Value.category, mj_exp] at this ⊢; exact this
  | .inr (.inl x) :: l => by have := sd_exp_sl (hz := hz) (ad := ad) l; simp [lg_sl, sd_v, Value.category, mj_exp] at this ⊢; exact this
  | .inr (.inr k) :: l => by
    have := sd_exp_sl (hz := hz) (ad := ad) l
    by_cases h : k = 0 <;> simp [lg_sl, sd_v, Value.category, mj_exp, h] at this ⊢ <;> exact this
theorem sd_exp_get {hz : Nat} {ad : Nat → Nat} : ∀ (as : List mj_V) (o i : Nat) (v : mj_V), (mj_exp as)[i]? = some v → v ≠ mj_nul → (o + i, sd_v hz ad v) ∈ lv_args o (as.map (sd_v hz ad))
  | [], o, i, v, h, hn => by simp [mj_exp] at h
  | .inl x :: l, o, i, v, h, hn => by
    cases i with
    | zero => simp [mj_exp] at h; subst h; simp [lv_args, sd_v]
    | succ i =>
      have h' : (mj_exp l)[i]? = some v := by simpa [mj_exp] using h
      have := sd_exp_get (hz := hz) (ad := ad) l (o + 1) i v h' hn
      rw [show o + (i + 1) = o + 1 + i by omega]
      simp only [List.map_cons, lv_args]
      refine List.mem_cons_of_mem _ ?_
      rw [if_neg (by simp [sd_v, Value.category])]
      exact this
  | .inr (.inl x) :: l, o, i, v, h, hn => by
    cases i with
    | zero => simp [mj_exp] at h; subst h; simp [lv_args, sd_v]
    | succ i =>
      cases i with
      | zero => simp [mj_exp] at h; exact absurd h.symm hn
      | succ i =>
        have h' : (mj_exp l)[i]? = some v := by simpa [mj_exp] using h
        have := sd_exp_get (hz := hz) (ad := ad) l (o + 2) i v h' hn
        rw [show o + (i + 1 + 1) = o + 2 + i by omega]
        simp only [List.map_cons, lv_args]
        refine List.mem_cons_of_mem _ ?_
        rw [if_pos (by simp [sd_v, Value.category])]
        exact this
  | .inr (.inr k) :: l, o, i, v, h, hn => by
    cases i with
    | zero => simp [mj_exp] at h; subst h; simp [lv_args, sd_v]
    | succ i =>
      have h' : (mj_exp l)[i]? = some v := by simpa [mj_exp] using h
      have := sd_exp_get (hz := hz) (ad := ad) l (o + 1) i v h' hn
      rw [show o + (i + 1) = o + 1 + i by omega]
      simp only [List.map_cons, lv_args]
      refine List.mem_cons_of_mem _ ?_
      rw [if_neg (by by_cases h : k = 0 <;> simp [sd_v, h, Value.category])]
      exact this
theorem sd_L_entry {hz : Nat} {ad : Nat → Nat} {m : Nat} {as : List mj_V} (hl : (mj_exp as).length ≤ mj_maxl m) : sd_L hz ad (mj_maxl m) (mj_pad m as) ((lg_sl (as.map (sd_v hz ad)) ++ List.replicate (mj_maxl m - (lg_sl (as.map (sd_v hz ad))).length) Slot.unset).toArray) := by
  have h1 := lv_entry (as.map (sd_v hz ad)) (n := mj_maxl m) (by rw [sd_exp_sl]; exact hl)
  refine ⟨h1.1, h1.2.1, fun i v e hn => ?_⟩
  unfold mj_pad at e
  by_cases hi : i < (mj_exp as).length
  · rw [List.getElem?_append_left hi] at e
    have := sd_exp_get (hz := hz) (ad := ad) as 0 i v e hn
    rw [Nat.zero_add] at this
    exact h1.2.2 _ this
  · rw [List.getElem?_append_right (by omega)] at e
    exact absurd (List.eq_of_mem_replicate (List.mem_of_getElem? e)) hn
theorem sd_pad_len {m : Nat} {as : List mj_V} (hl : (mj_exp as).length ≤ mj_maxl m) : (mj_pad m as).length = mj_maxl m := by
  unfold mj_pad
  simp
  omega
theorem sd_exp_mem : ∀ (as : List mj_V) (v : mj_V), v ∈ mj_exp as → v ∈ as ∨ v = mj_nul
  | [], v, h => by simp [mj_exp] at h
  | .inl x :: l, v, h => by
    simp only [mj_exp, List.mem_cons] at h
    rcases h with h | h
    · exact Or.inl (by simp [h])
    · rcases sd_exp_mem l v h with h | h
      · exact Or.inl (by simp [h])
      · exact Or.inr h
  | .inr (.inl x) :: l, v, h => by
    simp only [mj_exp, List.mem_cons] at h
    rcases h with h | h | h
    · exact Or.inl (by simp [h])
    · exact Or.inr h
    · rcases sd_exp_mem l v h with h | h
      · exact Or.inl (by simp [h])
      · exact Or.inr h
  | .inr (.inr k) :: l, v, h => by
    simp only [mj_exp, List.mem_cons] at h
    rcases h with h | h
    · exact Or.inl (by simp [h])
    · rcases sd_exp_mem l v h with h | h
      · exact Or.inl (by simp [h])
      · exact Or.inr h
theorem sd_pad_mem {m : Nat} {as : List mj_V} {v : mj_V} (h : v ∈ mj_pad m as) : v ∈ as ∨ v = mj_nul := by
  unfold mj_pad at h
  rcases List.mem_append.mp h with h | h
  · exact sd_exp_mem as v h
  · exact Or.inr (List.eq_of_mem_replicate h)
