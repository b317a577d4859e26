theorem sd_ref {hz : Nat} {ad : Nat → Nat} {k : Nat} (h1 : 1 ≤ k) (h2 : k < 1000) : sd_v hz ad (.inr (.inr k)) = .ref (hz + mj_ix k) := by
  show (if k = 0 then Value.null else .ref (sd_r hz ad k)) = _
  rw [if_neg (by omega), sd_r, if_neg (by omega)]
theorem sd_refx {hz : Nat} {ad : Nat → Nat} {k : Nat} (h1 : k ≠ 0) : sd_v hz ad (.inr (.inr k)) = .ref (sd_r hz ad k) := if_neg h1
theorem sd_okV_nul {c : Nat} (h : 1 ≤ c) : sd_okV c mj_nul := Or.inl (show mj_ix 0 < c by have := mj_ix_cs 0; omega)
theorem sd_cell_kept {hz : Nat} {ad : Nat → Nat} {dA : Nat → ClassId} {D : va_G} {k : Nat} {π π' : mj_P} {μ μ' : mj_M} {H H' : Heap} (h : sd_cell hz ad dA D k π μ H) (hH : H'[hz + mj_ix k]? = H[hz + mj_ix k]?) (hp : ∀ j, π' k j = π k j) (hm : ∀ j, μ' k j = μ k j) : sd_cell hz ad dA D k π' μ' H' := by
  unfold sd_cell at h ⊢
  split
  · rw [if_pos ‹_›] at h
    rw [hH, h]
    congr 2
    funext j
    rw [hm]
  · rw [if_neg ‹_›] at h
    refine (h.kept hH).to (fun j _ => ?_)
    rw [hp, hm]
/-- the array of a reference: its cell -/
theorem sd_arr {hz : Nat} {ad : Nat → Nat} {dA : Nat → ClassId} {D : va_G} {L : Nat} {xs : Nat → Int32} {s : State} {H : Heap} {locs : List Loc} {c : Nat} {π : mj_P} {μ : mj_M} {k : Nat} (hL : L ≤ 3584) (hK : sd_K dA D s) (hE : sd_E hz ad L xs s) (hH : sd_H hz ad dA D c π μ H) (hS : va_S (sd_A hz) s.heap H locs) (hok : sd_okS L xs c π μ) (hr : sd_okR c k) (hk : (mj_lay L k).1 = 1) :
    sd_v hz ad (.inr (.inr k)) = .ref (sd_r hz ad k) ∧ (mj_lay L k).2 < 2147483648 ∧ ∃ cell : Cell, H[sd_r hz ad k]? = some cell ∧ s.isArrayOf cell .int ∧ cell.vm ≠ .unknown ∧ (mj_lay L k).2 ≤ cell.slots.size ∧ cell.slots.size.toInt32 = Int32.ofNat (mj_lay L k).2 ∧ (k < 1000 → cell = arrV (dA 1) (mj_lay L k).2 (fun j => .int (Int32.ofInt (μ k (j : Int))))) ∧ ∀ j : Nat, j < (mj_lay L k).2 → cell.slots[j]? = some (.int (Int32.ofInt (μ k (j : Int)))) := by
  obtain ⟨⟨hb, hX⟩, hT, -⟩ := hE
  have hk0 : k ≠ 0 := by rintro rfl; simp [mj_lay, mj_layT] at hk
  refine ⟨if_neg hk0, ?_⟩
  by_cases h1 : k < 1000
  · have e := sd_lay_eq (L := L) h1
    have hkc : mj_ix k < c := by rcases hr with q | q <;> omega
    have hc := hH.2 k (by omega) hkc
    have hk' : (mj_lay 0 k).1 = 1 := by rw [← e]; exact hk
    unfold sd_cell at hc
    rw [if_pos (by omega), hk'] at hc
    have hsz : (mj_lay L k).2 < 2147483648 := by
      rw [e]
      have hall : mj_layT.all (fun q => decide (q.2 < 2147483648)) = true := by decide +kernel
      unfold mj_lay
      rw [if_neg (by omega), if_neg (by omega)]
      rcases Nat.lt_or_ge k mj_layT.length with q | q
      · rw [List.getD_eq_getElem?_getD, List.getElem?_eq_getElem q]
        have := List.all_eq_true.mp hall _ (List.getElem_mem q)
        simpa using this
      · rw [List.getD_eq_getElem?_getD, List.getElem?_eq_none q]
        decide
    refine ⟨hsz, arrV (dA 1) (mj_lay 0 k).2 (fun j => .int (Int32.ofInt (μ k (j : Int)))), by rw [sd_r, if_neg (by omega)]; exact hc, (hK.2 0 (dA 1, .int) rfl).1 _ _, (fun q => by cases q), by rw [arrV_size, e] <;> exact Nat.le_refl _, by rw [arrV_size, e] <;> rfl, fun _ => by rw [e], fun j hj => ?_⟩
    rw [arrV_read _ _ (by rw [← e]; exact hj)]
  · have hr' : 1000 ≤ k ∧ k ≤ 1004 := by
      rcases hr with q | q
      · have := hok.2.1; have := mj_ix_cs k; omega
      · exact q
    have er : sd_r hz ad k = ad k := if_pos hr'.1
    rw [er]
    by_cases h0 : k = 1000
    · subst h0
      obtain ⟨scr, a1, a2, a3, a4, a5⟩ := hX
      have hlt := (Array.getElem?_eq_some_iff.mp a1).1
      have e : (mj_lay L 1000).2 = L := rfl
      refine ⟨by rw [e]; omega, scr, by rw [hS.2.1 _ hlt (by unfold sd_A; omega)]; exact a1, a2, a3, by rw [e]; omega, by rw [a4, e] <;> rfl, fun q => absurd q (by omega), fun j hj => ?_⟩
      rw [a5 j (by rw [e] at hj; exact hj), hok.2.2.2.2.1 j (by rw [e] at hj; exact hj), Int32.ofInt_toInt]
    · have h13 : 1001 ≤ k ∧ k ≤ 1003 := by
        rcases (show k = 1004 ∨ k ≤ 1003 by omega) with q | q
        · subst q; simp [mj_lay, mj_layT] at hk
        · omega
      obtain ⟨-, cell, a1, a2, a3, a4, a5, a6, a7⟩ := hT k h13.1 h13.2
      have hlt := (Array.getElem?_eq_some_iff.mp a1).1
      have e : (mj_lay L k).2 = 5 := by
        unfold mj_lay
        rw [if_neg h0, if_pos (by omega)]
      refine ⟨by omega, cell, by rw [hS.2.1 _ hlt a7]; exact a1, a2, a3, by rw [e]; exact a4, by rw [a5, e], fun q => absurd q (by omega), fun j hj => ?_⟩
      rw [e] at hj
      rw [a6 j hj, hok.2.2.2.2.2 k h13.1 h13.2 j hj]
/-- a cell of bytes or booleans -/
theorem sd_arrb {hz : Nat} {ad : Nat → Nat} {dA : Nat → ClassId} {D : va_G} {L : Nat} {xs : Nat → Int32} {H : Heap} {c : Nat} {π : mj_P} {μ : mj_M} {k : Nat} (hH : sd_H hz ad dA D c π μ H) (hok : sd_okS L xs c π μ) (hr : sd_okR c k) (hk : (mj_lay L k).1 = 2 ∨ (mj_lay L k).1 = 3) :
    sd_v hz ad (.inr (.inr k)) = .ref (hz + mj_ix k) ∧ mj_ix k < c ∧ 1 ≤ k ∧ k < 1000 ∧ (mj_lay L k).2 < 2147483648 ∧ H[hz + mj_ix k]? = some (arrV (dA (mj_lay L k).1) (mj_lay L k).2 (fun j => .int (Int32.ofInt (μ k (j : Int))))) := by
  have hk0 : k ≠ 0 := by rintro rfl; simp [mj_lay, mj_layT] at hk
  have h1 : k < 1000 := by
    rcases Nat.lt_or_ge k 1000 with q | q
    · exact q
    · have hr' : 1000 ≤ k ∧ k ≤ 1004 := by
        rcases hr with q | q
        · have := hok.2.1; have := mj_ix_cs k; omega
        · exact q
      exfalso
      rcases (show k = 1000 ∨ (k = 1001 ∨ k = 1002 ∨ k = 1003) ∨ k = 1004 by omega) with q | q | q
      · subst q; simp [mj_lay] at hk
      · unfold mj_lay at hk; rw [if_neg (by omega), if_pos q] at hk; simp at hk
      · subst q; simp [mj_lay, mj_layT] at hk
  have e := sd_lay_eq (L := L) h1
  have hkc : mj_ix k < c := by rcases hr with q | q <;> omega
  have hc := hH.2 k (by omega) hkc
  unfold sd_cell at hc
  rw [if_pos (by rw [← e]; omega)] at hc
  have hsz : (mj_lay L k).2 < 2147483648 := by
    rw [e]
    have hall : mj_layT.all (fun q => decide (q.2 < 2147483648)) = true := by decide +kernel
    unfold mj_lay
    rw [if_neg (by omega), if_neg (by omega)]
    rcases Nat.lt_or_ge k mj_layT.length with q | q
    · rw [List.getD_eq_getElem?_getD, List.getElem?_eq_getElem q]
      have := List.all_eq_true.mp hall _ (List.getElem_mem q)
      simpa using this
    · rw [List.getD_eq_getElem?_getD, List.getElem?_eq_none q]
      decide
  exact ⟨sd_ref (by omega) h1, hkc, by omega, h1, hsz, by rw [e]; exact hc⟩
/-- behind a store into an array of M -/
theorem sd_H_ast {hz : Nat} {ad : Nat → Nat} {dA : Nat → ClassId} {D : va_G} {H H' : Heap} {c : Nat} {π : mj_P} {μ : mj_M} {k : Nat} {i v : Int} (hH : sd_H hz ad dA D c π μ H) (hk1 : 1 ≤ k) (hkc : mj_ix k < c) (ht : (mj_lay 0 k).1 ≤ 3) (hi : 0 ≤ i ∧ i < (mj_lay 0 k).2)
    (h1 : H'[hz + mj_ix k]? = some ((arrV (dA (mj_lay 0 k).1) (mj_lay 0 k).2 (fun j => .int (Int32.ofInt (μ k (j : Int))))).setSlot i.toNat (.int (Int32.ofInt v)))) (h2 : H'.size = H.size) (h3 : ∀ q, q ≠ hz + mj_ix k → H'[q]? = H[q]?) : sd_H hz ad dA D c π (mj_up μ k i v) H' := by
  refine ⟨h2.trans hH.1, fun k' a1 a2 => ?_⟩
  by_cases e : k' = k
  · subst e
    unfold sd_cell
    rw [if_pos ht, h1, arrV_store]
    congr 2
    funext j
    rw [g_us]
    unfold updV mj_pt
    by_cases q : j = i.toNat
    · rw [if_pos q, if_pos (by omega)]
    · rw [if_neg q, if_neg (by omega)]
  · exact sd_cell_kept (hH.2 k' a1 a2) (h3 _ (by have := mj_ix_in e; omega)) (fun _ => rfl) (fun j => by rw [g_un e])
theorem sd_okS_up {L : Nat} {xs : Nat → Int32} {c : Nat} {π : mj_P} {μ : mj_M} {k : Nat} {i v : Int} (h : sd_okS L xs c π μ) (hk : k < 1000) (hv : sd_32 v) : sd_okS L xs c π (mj_up μ k i v) := by
  obtain ⟨a1, a2, a3, a4, a5, a6⟩ := h
  refine ⟨a1, a2, fun k' j => ?_, a4, fun j hj => by rw [g_un (by omega)]; exact a5 j hj, fun i' b1 b2 j hj => by rw [g_un (by omega)]; exact a6 i' b1 b2 j hj⟩
  by_cases e : k' = k
  · subst e
    rw [g_us]
    unfold mj_pt
    split
    · exact hv
    · exact a3 _ _
  · rw [g_un e]; exact a3 _ _
theorem sd_okS_pp {L : Nat} {xs : Nat → Int32} {c : Nat} {π : mj_P} {μ : mj_M} {k n r : Nat} (h : sd_okS L xs c π μ) (hr : sd_okR c r) : sd_okS L xs c (mj_pp π k n r) μ := by
  obtain ⟨a1, a2, a3, a4, a5, a6⟩ := h
  refine ⟨a1, a2, a3, fun k' j => ?_, a5, a6⟩
  unfold mj_pp
  split
  · exact hr
  · exact a4 _ _
theorem sd_okV_mono {c c' : Nat} (h : c ≤ c') : ∀ {v : mj_V}, sd_okV c v → sd_okV c' v
  | .inl _, q => q
  | .inr (.inl _), q => q
  | .inr (.inr _), q => Or.elim q (fun z => Or.inl (Nat.lt_of_lt_of_le z h)) Or.inr

