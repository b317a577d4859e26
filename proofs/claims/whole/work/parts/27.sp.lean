noncomputable def sd_S : Nat → Nat
  | 0 => 0
  | c + 1 => sd_S c + (mj_lay 0 (mj_nm c)).2
theorem sd_S_mono : ∀ {b a : Nat}, a ≤ b → sd_S a ≤ sd_S b
  | 0, a, h => by rw [show a = 0 by omega]; exact Nat.le_refl _
  | b + 1, a, h => by
    by_cases e : a = b + 1
    · rw [e]; exact Nat.le_refl _
    · exact Nat.le_trans (sd_S_mono (by omega : a ≤ b)) (Nat.le_add_right _ _)
theorem sd_wt {hz : Nat} {ad : Nat → Nat} : ∀ {st : List mj_V}, mj_wok st = true → ((st.map (sd_v hz ad)).map fun v => v.category).sum ≤ 8 := by
  have c2 : ∀ v : mj_V, (sd_v hz ad v).category ≤ 2 := fun v => by
    rcases lv_cat (sd_v hz ad v) with h | h <;> omega
  intro st h
  match st, h with
  | [], _ => simp
  | [a], _ => have := c2 a; simp; omega
  | [a, b], _ => have := c2 a; have := c2 b; simp; omega
  | [a, b, d], _ => have := c2 a; have := c2 b; have := c2 d; simp; omega
  | [a, b, d, e], _ => have := c2 a; have := c2 b; have := c2 d; have := c2 e; simp; omega
  | a :: b :: d :: e :: f :: l, h => simp [mj_wok] at h
set_option maxRecDepth 100000 in
theorem sd_layOK : mj_layT.all (fun q => decide (q.2 ≤ 1000) && (decide (q.1 ≤ 3) || (decide (10 ≤ q.1) && decide (q.1 < 23) && decide (q.2 = mj_nf (q.1 - 10))))) = true := by decide +kernel
theorem sd_lay1 {c : Nat} (hc : c < 1000) : (mj_lay 0 c).2 ≤ 1000 ∧ ((mj_lay 0 c).1 ≤ 3 ∨ (10 ≤ (mj_lay 0 c).1 ∧ (mj_lay 0 c).1 < 23 ∧ (mj_lay 0 c).2 = mj_nf ((mj_lay 0 c).1 - 10))) := by
  have e : mj_lay 0 c = mj_layT.getD c (0, 0) := by
    unfold mj_lay
    rw [if_neg (by omega), if_neg (by omega)]
  rw [e]
  rcases Nat.lt_or_ge c mj_layT.length with q | q
  · rw [List.getD_eq_getElem?_getD, List.getElem?_eq_getElem q]
    have := List.all_eq_true.mp sd_layOK _ (List.getElem_mem q)
    simp only [Bool.and_eq_true, Bool.or_eq_true, decide_eq_true_eq] at this
    simpa [and_assoc] using this
  · rw [List.getD_eq_getElem?_getD, List.getElem?_eq_none q]
    simp
/-- a new cell of M beside the old ones -/
theorem sd_H_new {hz : Nat} {ad : Nat → Nat} {dA : Nat → ClassId} {D : va_G} {H H' : Heap} {c : Nat} {π : mj_P} {μ : mj_M} (hH : sd_H hz ad dA D c π μ H) (h1 : H'.size = hz + c + 1) (h2 : ∀ q, q < hz + c → H'[q]? = H[q]?) (h3 : sd_cell hz ad dA D (mj_nm c) π μ H') : sd_H hz ad dA D (c + 1) π μ H' := by
  refine ⟨by omega, fun k a1 a2 => ?_⟩
  by_cases e : k = mj_nm c
  · subst e; exact h3
  · have i1 := mj_ix_in e
    rw [mj_ix_nm] at i1
    exact sd_cell_kept (hH.2 k a1 (by omega)) (h2 _ (by omega)) (fun _ => rfl) (fun _ => rfl)
theorem sd_okS_new {L : Nat} {xs : Nat → Int32} {c : Nat} {π : mj_P} {μ : mj_M} (h : sd_okS L xs c π μ) (hc : c < 1000) : sd_okS L xs (c + 1) π μ := by
  obtain ⟨a1, a2, a3, a4, a5, a6⟩ := h
  exact ⟨by omega, by omega, a3, fun k j => (a4 k j).imp (fun z => by omega) id, a5, a6⟩
section
variable {hz : Nat} {ad : Nat → Nat} {dA : Nat → ClassId} {D : va_G} {L : Nat} {xs : Nat → Int32} {p : Program} {l : Launch} {e : Env} {R : Room} {s : State} {mid : MethodId} {args : Array Value} {below : List Frame} {meth : Method} {cd : Code} {H : Heap} {locs : List Loc} {Z : State → Prop} {mls : Array Slot} {m pc npc len : Nat} {a b : Int} {ls st : List mj_V} {c c0 c1 : Nat} {π : mj_P} {μ : mj_M}
set_option maxHeartbeats 2000000 in
theorem s_new {v : Nat} (hFE : sd_FE hz ad dA D L xs p s mid args meth cd m) (hd : decode (mj_byt m) pc = .ok (.new v, len)) (htr : mj_tr m pc (.new v) len = some (68, a, b, npc)) (hnew : mj_new L c π μ (10 + a.toNat) (mj_lay L (mj_nm c)).2) (hRB : sd_RB hz ad dA D L xs s.heap (mj_maxl m) ls st c π μ H locs mls)
    (hc0 : c0 ≤ c) (hc1 : c + 1 ≤ c1) (hRc : c1 - c0 ≤ R.cells) (hRs : sd_S c1 - sd_S c0 ≤ R.slots)
    (hk : ∀ H locs mls, sd_RB hz ad dA D L xs s.heap (mj_maxl m) ls (.inr (.inr (mj_nm c)) :: st) (c + 1) π μ H locs mls → W p l e R s mid args below meth cd H locs (c + 1 - c0) (sd_S (c + 1) - sd_S c0) Z (F0 mid npc mls ((.inr (.inr (mj_nm c)) :: st).map (sd_v hz ad)))) :
    W p l e R s mid args below meth cd H locs (c - c0) (sd_S c - sd_S c0) Z (F0 mid pc mls (st.map (sd_v hz ad))) := by
  obtain ⟨hx, hb, hml, hown, hgw, hlocks, hret, hini, hK, hN, hE, hL35⟩ := hFE
  obtain ⟨hH, hS, hL, hLn, hls, hst, hok⟩ := hRB
  obtain ⟨rfl, q⟩ := mj_ifm (show (if len = 3 then (mj_clT.lookup (mj_cno m, v)).map (fun q => (68, (q.1 : Int), 0, pc + len)) else none) = some (68, a, b, npc) from htr)
  obtain ⟨⟨ci, pos⟩, hw, q⟩ := mj_map_some q
  cases q
  have hci := List.all_eq_true.mp wf_clb _ (mj_lookup_mem hw)
  simp only [decide_eq_true_eq] at hci
  obtain ⟨hl1, hl2, hl3, hl4⟩ := hnew
  rw [Int.toNat_natCast] at hl1
  have hl5 : mj_nm c < 1000 := by have := mj_nm_cs c; omega
  have hl6 : 1 ≤ mj_nm c := by have := mj_nm_cs c; have := hok.1; omega
  rw [sd_lay_eq hl5] at hl1
  have hkd : (mj_lay 0 (mj_nm c)).1 = 10 + ci := by rw [hl1]
  obtain ⟨-, h5⟩ := sd_lay1 hl5
  have hnf : (mj_lay 0 (mj_nm c)).2 = mj_nf ci := by
    rcases h5 with h5 | ⟨-, -, h5⟩
    · omega
    · rw [h5, hkd, Nat.add_sub_cancel_left]
  have hKn := sd_obj hK hci
  have hS1 : sd_S (c + 1) = sd_S c + mj_nf ci := by show sd_S c + (mj_lay 0 (mj_nm c)).2 = _; rw [hnf]
  have hm1 := sd_S_mono hc1
  have hm0 := sd_S_mono hc0
  have hxw := sd_words _ _ wf_xw wf_xwg
  have hx1 : Cond.instantiable (mj_cn ci) (mj_nf ci) ∈ sd_G := hxw _ (List.mem_flatMap.mpr ⟨ci, List.mem_range.mpr hci, List.mem_cons_self⟩)
  have hx2 : Cond.initialized (mj_cn ci) ∈ sd_G := hxw _ (List.mem_flatMap.mpr ⟨ci, List.mem_range.mpr hci, List.mem_cons_of_mem _ List.mem_cons_self⟩)
  refine W.newcK hx hb hown (hgw _ (sd_w_cl (mj_lookup_mem hw))) (hgw _ hx1) (hgw _ hx2) rfl hd (by omega) (by omega) hKn.2.1 hH.1 fun H' kC hkC e1 z1 o1 => ?_
  have hob := u_born (mj_ty ci) hgw (sd_lays hci) hKn hkC e1 (fun k hk => (sd_fld hci hk).1)
  have hcell : sd_cell hz ad dA D (mj_nm c) π μ H' := by
    unfold sd_cell
    rw [mj_ix_nm]
    rw [if_neg (by omega), hkd, Nat.add_sub_cancel_left]
    refine hob.to (fun j hj => ?_)
    rw [hl3, hl4]
    obtain ⟨-, -, -, h6⟩ := sd_fld hci hj
    unfold sd_fv
    by_cases hr : mj_isr ci j = true
    · rw [if_pos hr] at h6 ⊢
      rw [show sd_v hz ad (.inr (.inr 0)) = Value.null from rfl]
      cases hty : mj_ty ci j <;> rw [hty] at h6 <;> first | (cases h6; done) | rfl
    · rw [if_neg hr] at h6 ⊢
      by_cases hzz : mj_isz ci j = true
      · rw [if_pos hzz, decide_eq_true_eq] at h6; rw [h6]; rfl
      · rw [if_neg hzz, decide_eq_true_eq] at h6; rw [h6]; rfl
  have h := hk H' locs mls ⟨sd_H_new hH z1 o1 hcell, ⟨Nat.le_trans hS.1 (by rw [z1, hH.1]; omega), fun q a1 a2 => by rw [o1 q (by have := hS.1; rw [hH.1] at this; omega)]; exact hS.2.1 q a1 a2, hS.2.2⟩, hL, hLn, fun v hv => sd_okV_mono (Nat.le_succ c) (hls v hv), List.forall_mem_cons.mpr ⟨Or.inl (show mj_ix (mj_nm c) < c + 1 by rw [mj_ix_nm]; exact Nat.lt_succ_self c), fun v hv => sd_okV_mono (Nat.le_succ c) (hst v hv)⟩, sd_okS_new hok hl2⟩
  rw [List.map_cons, sd_ref hl6 hl5, mj_ix_nm] at h
  rw [show c - c0 + 1 = c + 1 - c0 by omega, show sd_S c - sd_S c0 + mj_nf ci = sd_S (c + 1) - sd_S c0 by omega]
  exact h
set_option maxHeartbeats 2000000 in
theorem s_newa {ty : ArrayType} {n : Int} {kd : Nat} (hFE : sd_FE hz ad dA D L xs p s mid args meth cd m) (hd : decode (mj_byt m) pc = .ok (.newarray ty, 2)) (hkd : (ty = .int ∧ kd = 1) ∨ (ty = .byte ∧ kd = 2) ∨ (ty = .boolean ∧ kd = 3)) (hn0 : 0 ≤ n) (hnew : mj_new L c π μ kd n.toNat) (hRB : sd_RB hz ad dA D L xs s.heap (mj_maxl m) ls (.inl n :: st) c π μ H locs mls)
    (hc0 : c0 ≤ c) (hc1 : c + 1 ≤ c1) (hRc : c1 - c0 ≤ R.cells) (hRs : sd_S c1 - sd_S c0 ≤ R.slots)
    (hk : ∀ H locs mls, sd_RB hz ad dA D L xs s.heap (mj_maxl m) ls (.inr (.inr (mj_nm c)) :: st) (c + 1) π μ H locs mls → W p l e R s mid args below meth cd H locs (c + 1 - c0) (sd_S (c + 1) - sd_S c0) Z (F0 mid (pc + 2) mls ((.inr (.inr (mj_nm c)) :: st).map (sd_v hz ad)))) :
    W p l e R s mid args below meth cd H locs (c - c0) (sd_S c - sd_S c0) Z (F0 mid pc mls ((.inl n :: st).map (sd_v hz ad))) := by
  obtain ⟨hx, hb, hml, hown, hgw, hlocks, hret, hini, hK, hN, hE, hL35⟩ := hFE
  obtain ⟨hH, hS, hL, hLn, hls, hst, hok⟩ := hRB
  obtain ⟨hl1, hl2, hl3, hl4⟩ := hnew
  have hl5 : mj_nm c < 1000 := by have := mj_nm_cs c; omega
  have hl6 : 1 ≤ mj_nm c := by have := mj_nm_cs c; have := hok.1; omega
  rw [sd_lay_eq hl5] at hl1
  have hsz := (sd_lay1 hl5).1
  rw [hl1] at hsz
  have hS1 : sd_S (c + 1) = sd_S c + n.toNat := by show sd_S c + (mj_lay 0 (mj_nm c)).2 = _; rw [hl1]
  have hm1 := sd_S_mono hc1
  have hm0 := sd_S_mono hc0
  obtain ⟨hvn, hst2⟩ := List.forall_mem_cons.mp hst
  obtain ⟨b1, b2⟩ := o_in (i := n) (n := n.toNat + 1) ⟨hn0, by omega⟩ (by omega)
  have hnn : ¬ Int32.ofInt n < 0 := fun z => b1 (Or.inl z)
  have harr : (Cond.arrayClass (newarray.typeOf ty)).before args s = true := by
    rcases hkd with ⟨rfl, -⟩ | ⟨rfl, -⟩ | ⟨rfl, -⟩
    · exact hgw _ (sd_w_5 (by simp [newarray.typeOf]))
    · exact hgw _ (sd_w_5 (by simp [newarray.typeOf]))
    · exact hgw _ (sd_w_5 (by simp [newarray.typeOf]))
  have hby : n.toNat * componentBytes (newarray.typeOf ty) ≤ 536870912 := by
    have : componentBytes (newarray.typeOf ty) ≤ 8 := by
      rcases hkd with ⟨rfl, -⟩ | ⟨rfl, -⟩ | ⟨rfl, -⟩ <;> decide
    exact Nat.le_trans (Nat.mul_le_mul hsz this) (by decide)
  rw [List.map_cons]
  refine va_newaK hx hb harr rfl hd rfl hnn b2 hby (by omega) (by omega) hH.1 fun H' cA e1 z1 o1 hAr hNm => ?_
  have hcA : cA = dA kd := by
    rcases hkd with ⟨rfl, rfl⟩ | ⟨rfl, rfl⟩ | ⟨rfl, rfl⟩
    · exact Option.some.inj (hNm.symm.trans (hK.2 0 _ rfl).2)
    · exact Option.some.inj (hNm.symm.trans (hK.2 1 _ rfl).2)
    · exact Option.some.inj (hNm.symm.trans (hK.2 2 _ rfl).2)
  have hcell : sd_cell hz ad dA D (mj_nm c) π μ H' := by
    unfold sd_cell
    rw [mj_ix_nm]
    rw [hl1, if_pos (show kd ≤ 3 by omega), e1, hcA]
    congr 2
    funext j
    rw [hl4]
    rcases hkd with ⟨rfl, -⟩ | ⟨rfl, -⟩ | ⟨rfl, -⟩ <;> rfl
  have h := hk H' locs mls ⟨sd_H_new hH z1 o1 hcell, ⟨Nat.le_trans hS.1 (by rw [z1, hH.1]; omega), fun q a1 a2 => by rw [o1 q (by have := hS.1; rw [hH.1] at this; omega)]; exact hS.2.1 q a1 a2, hS.2.2⟩, hL, hLn, fun v hv => sd_okV_mono (Nat.le_succ c) (hls v hv), List.forall_mem_cons.mpr ⟨Or.inl (show mj_ix (mj_nm c) < c + 1 by rw [mj_ix_nm]; exact Nat.lt_succ_self c), fun v hv => sd_okV_mono (Nat.le_succ c) (hst2 v hv)⟩, sd_okS_new hok hl2⟩
  rw [List.map_cons, sd_ref hl6 hl5, mj_ix_nm] at h
  rw [show c - c0 + 1 = c + 1 - c0 by omega, show sd_S c - sd_S c0 + n.toNat = sd_S (c + 1) - sd_S c0 by omega]
  exact h
set_option maxHeartbeats 2000000 in
theorem s_oi {v k d : Nat} (hFE : sd_FE hz ad dA D L xs p s mid args meth cd m) (hd : decode (mj_byt m) pc = .ok (.invokespecial v, 3)) {q0 : Nat} (hw : mj_oiT.lookup (mj_cno m, v) = some q0) (hwk : mj_wok st = true) (hRf : d + 1 ≤ R.frames) (hRl : 64 * (d + 1) ≤ R.locals) (hRB : sd_RB hz ad dA D L xs s.heap (mj_maxl m) ls (.inr (.inr (k + 1)) :: st) c π μ H locs mls) {cells slots : Nat}
    (hk : ∀ H locs mls, sd_RB hz ad dA D L xs s.heap (mj_maxl m) ls st c π μ H locs mls → W p l e R s mid args below meth cd H locs cells slots Z (F0 mid (pc + 3) mls (st.map (sd_v hz ad)))) :
    W p l e R s mid args below meth cd H locs cells slots Z (F0 mid pc mls ((.inr (.inr (k + 1)) :: st).map (sd_v hz ad))) := by
  obtain ⟨hx, hb, hml, hown, hgw, hlocks, hret, hini, hK, hN, hE, hL35⟩ := hFE
  obtain ⟨hH, hS, hL, hLn, hls, hst, hok⟩ := hRB
  obtain ⟨hv, hst2⟩ := List.forall_mem_cons.mp hst
  rw [List.map_cons, sd_refx (by omega)]
  have hwt := sd_wt (hz := hz) (ad := ad) hwk
  refine W.objInit hx hb hown (hgw _ (sd_w_oi (mj_lookup_mem hw))) (hgw _ (sd_w_5 (by simp))) (hgw _ (sd_w_5 (by simp))) rfl (hL.1.trans hml.symm) rfl hd (by omega) ?_ (hk H locs mls ⟨hH, hS, hL, hLn, hls, hst2, hok⟩)
  show 2 * 0 + _ + 12 ≤ _
  omega
end
