theorem sd_nar_ref {hz : Nat} {ad : Nat → Nat} {ty : FieldType} {r : Nat} (h : ty.isReference = true) : narrow ty (sd_v hz ad (.inr (.inr r))) = sd_v hz ad (.inr (.inr r)) := by
  cases ty <;> first | (cases h; done) | rfl
theorem sd_fit_ref {hz : Nat} {ad : Nat → Nat} {ty : FieldType} {r : Nat} (h : ty.isReference = true) : fits ty (sd_v hz ad (.inr (.inr r))) = true := by
  by_cases q : r = 0
  · rw [show sd_v hz ad (.inr (.inr r)) = Value.null from if_pos q]
    cases ty <;> first | (cases h; done) | rfl
  · rw [sd_refx q]
    cases ty <;> first | (cases h; done) | rfl
theorem sd_bool {hz : Nat} {ad : Nat → Nat} {v : Int} (h : 0 ≤ v ∧ v ≤ 1) : narrow .boolean (sd_v hz ad (.inl v)) = sd_v hz ad (.inl v) := by
  rcases (show v = 0 ∨ v = 1 by omega) with rfl | rfl <;> rfl
theorem sd_boolf {hz : Nat} {ad : Nat → Nat} {v : Int} (h : 0 ≤ v ∧ v ≤ 1) : fits .boolean (sd_v hz ad (.inl v)) = true := by
  rcases (show v = 0 ∨ v = 1 by omega) with rfl | rfl <;> rfl
theorem sd_objc {hz : Nat} {ad : Nat → Nat} {dA : Nat → ClassId} {D : va_G} {L : Nat} {xs : Nat → Int32} {H : Heap} {c : Nat} {π : mj_P} {μ : mj_M} {k ci : Nat} (hH : sd_H hz ad dA D c π μ H) (hok : sd_okS L xs c π μ) (hr : sd_okR c k) (h : ((mj_lay L k).1 : Int) = 10 + (ci : Int)) :
    sd_v hz ad (.inr (.inr k)) = .ref (hz + mj_ix k) ∧ 1 ≤ k ∧ mj_ix k < c ∧ k < 1000 ∧ (¬ (mj_lay 0 k).1 ≤ 3) ∧ (mj_lay 0 k).1 - 10 = ci ∧ t_OB (hz + mj_ix k) (D.1 ci) (mj_nf ci) (D.2 ci) H (fun j => sd_fv hz ad ci j (π k j) (μ k (j : Int))) := by
  obtain ⟨h1, h2, h3, h4⟩ := sd_kind h (by omega)
  rw [Int.toNat_natCast] at h4
  have hk0 : k ≠ 0 := by rintro rfl; simp [mj_lay, mj_layT] at h3
  have hkc : mj_ix k < c := by rcases hr with q | q <;> omega
  have hc := hH.2 k (by omega) hkc
  unfold sd_cell at hc
  rw [if_neg h3, h4] at hc
  exact ⟨sd_ref (by omega) h1, by omega, hkc, h1, h3, h4, hc⟩
theorem sd_H_put {hz : Nat} {ad : Nat → Nat} {dA : Nat → ClassId} {D : va_G} {H H' : Heap} {c : Nat} {π π' : mj_P} {μ μ' : mj_M} {k ci slot : Nat} {v : Value} {cell : Cell} (hH : sd_H hz ad dA D c π μ H) (h3 : ¬ (mj_lay 0 k).1 ≤ 3) (h4 : (mj_lay 0 k).1 - 10 = ci) (hslot : slot < mj_nf ci)
    (hap : ∀ x y, x < mj_nf ci → y < mj_nf ci → x ≠ y → D.2 ci x ≠ D.2 ci y) (q2 : cell.cls = D.1 ci) (q3 : cell.vm = .none) (q4 : ∀ j, j < mj_nf ci → cell.slots[D.2 ci j]? = some (sd_fv hz ad ci j (π k j) (μ k (j : Int))))
    (e1 : H'[hz + mj_ix k]? = some (cell.setSlot (D.2 ci slot) v)) (e2 : H'.size = H.size) (e3 : ∀ q, q ≠ hz + mj_ix k → H'[q]? = H[q]?) (hp : ∀ k', k' ≠ k → π' k' = π k') (hm : ∀ k', k' ≠ k → μ' k' = μ k')
    (hfv : ∀ j, j < mj_nf ci → sd_fv hz ad ci j (π' k j) (μ' k (j : Int)) = updV (fun j => sd_fv hz ad ci j (π k j) (μ k (j : Int))) slot v j) : sd_H hz ad dA D c π' μ' H' := by
  refine ⟨e2.trans hH.1, fun k' a1 a2 => ?_⟩
  by_cases e : k' = k
  · subst e
    unfold sd_cell
    rw [if_neg h3, h4]
    refine t_OB.to (V := updV (fun j => sd_fv hz ad ci j (π k' j) (μ k' (j : Int))) slot v) ⟨_, e1, q2, q3, t_set q4 hap hslot v⟩ (fun j hj => (hfv j hj).symm)
  · exact sd_cell_kept (hH.2 k' a1 a2) (e3 _ (by have := mj_ix_in e; omega)) (fun j => by rw [hp _ e]) (fun j => by rw [hm _ e])
set_option maxRecDepth 100000 in
theorem sd_nofin : (List.range 13).all (fun ci => (List.range (mj_nf ci)).all (fun k => mj_isr ci k || !mj_fin ci k)) = true := by decide +kernel
theorem sd_nofin' {ci k : Nat} (hc : ci < 13) (hk : k < mj_nf ci) (h : ¬ mj_isr ci k = true) : mj_fin ci k = false := by
  have h1 := List.all_eq_true.mp (List.all_eq_true.mp sd_nofin ci (List.mem_range.mpr hc)) k (List.mem_range.mpr hk)
  simp only [Bool.or_eq_true, Bool.not_eq_true'] at h1
  rcases h1 with q | q
  · exact absurd q h
  · exact q
theorem mj_sel_out (pc : Nat) (d : Nat) (x : Int) : ∀ (l : List Int) (lo : Int), (x < lo ∨ lo + l.length ≤ x) → mj_sel (mj_tsw pc lo l) d x = d
  | [], lo, h => rfl
  | o :: l, lo, h => by
    simp only [mj_tsw, mj_sel]
    rw [if_neg (by simp at h; omega)]
    exact mj_sel_out pc d x l (lo + 1) (by simp at h; omega)
theorem mj_sel_in (pc : Nat) (d : Nat) (x : Int) : ∀ (l : List Int) (lo : Int) (off : Int), ¬ x < lo → l[(x - lo).toNat]? = some off → mj_sel (mj_tsw pc lo l) d x = ((pc : Int) + off).toNat
  | [], lo, off, h, q => by simp at q
  | o :: l, lo, off, h, q => by
    simp only [mj_tsw, mj_sel]
    by_cases e : x = lo
    · subst e
      rw [if_pos rfl]
      simp at q
      rw [q]
    · rw [if_neg e]
      refine mj_sel_in pc d x l (lo + 1) off (by omega) ?_
      rw [show (x - lo).toNat = (x - (lo + 1)).toNat + 1 by omega] at q
      simpa using q
theorem mj_sel_look (pc : Nat) (df x : Int) : ∀ (l : List (Int × Int)), mj_sel (l.map (fun z => (z.1, ((pc : Int) + z.2).toNat))) ((pc : Int) + df).toNat x = ((pc : Int) + Op.lookupswitch.offset l df x).toNat
  | [] => rfl
  | (w, o) :: l => by
    rw [Op.lookupswitch.offset_cons]
    simp only [List.map_cons, mj_sel]
    by_cases e : x = w
    · rw [if_pos e, if_pos e.symm]
    · rw [if_neg e, if_neg (fun q => e q.symm)]
      exact mj_sel_look pc df x l
theorem mj_look_nn (pc : Nat) (df x : Int) (hd : 0 ≤ (pc : Int) + df) : ∀ (l : List (Int × Int)), l.all (fun z => decide (0 ≤ (pc : Int) + z.2)) = true → 0 ≤ (pc : Int) + Op.lookupswitch.offset l df x
  | [], _ => hd
  | (w, o) :: l, h => by
    rw [Op.lookupswitch.offset_cons]
    simp only [List.all_cons, Bool.and_eq_true, decide_eq_true_eq] at h
    split
    · exact h.1
    · exact mj_look_nn pc df x hd l h.2
section
variable {hz : Nat} {ad : Nat → Nat} {dA : Nat → ClassId} {D : va_G} {L : Nat} {xs : Nat → Int32} {p : Program} {l : Launch} {e : Env} {R : Room} {s : State} {mid : MethodId} {args : Array Value} {below : List Frame} {meth : Method} {cd : Code} {H : Heap} {locs : List Loc} {cells slots : Nat} {Z : State → Prop} {mls : Array Slot} {m pc npc op len : Nat} {a b : Int} {ls st ls' st' : List mj_V} {c pc' : Nat} {π π' : mj_P} {μ μ' : mj_M}

set_option maxHeartbeats 2000000 in
theorem s_getfield {v : Nat} (hFE : sd_FE hz ad dA D L xs p s mid args meth cd m) (hd : decode (mj_byt m) pc = .ok (.getfield v, len)) (htr : mj_tr m pc (.getfield v) len = some (op, a, b, npc)) (hnx : mj_nx L m pc npc op a b ls st c π μ = some (pc', ls', st', π', μ')) (hRB : sd_RB hz ad dA D L xs s.heap (mj_maxl m) ls st c π μ H locs mls) (hk : ∀ H locs mls, sd_RB hz ad dA D L xs s.heap (mj_maxl m) ls' st' c π' μ' H locs mls → W p l e R s mid args below meth cd H locs cells slots Z (F0 mid pc' mls (st'.map (sd_v hz ad)))) : W p l e R s mid args below meth cd H locs cells slots Z (F0 mid pc mls (st.map (sd_v hz ad))) := by
  obtain ⟨hx, hb, hml, hown, hgw, hlocks, hret, hini, hK, hN, hE, hL35⟩ := hFE
  obtain ⟨hH, hS, hL, hLn, hls, hst, hok⟩ := hRB
  obtain ⟨rfl, q⟩ := mj_ifm (show (if len = 3 then (mj_flT.lookup (mj_cno m, v)).map (fun q => ((if mj_isr q.1 q.2.1 then 61 else 60), (q.2.1 : Int), (q.1 : Int), pc + len)) else none) = some (op, a, b, npc) from htr)
  obtain ⟨⟨ci, slot, pos⟩, hw, q⟩ := mj_map_some q
  have hf := List.all_eq_true.mp wf_flb _ (mj_lookup_mem hw)
  simp only [Bool.and_eq_true, decide_eq_true_eq] at hf
  obtain ⟨hci, hslot⟩ := hf
  have hf1 : Cond.fieldLink (mj_cn (mj_cno m)) v (mj_T ci slot).1 (mj_T ci slot).2.1 (mj_T ci slot).2.2.1 ∈ sd_G := sd_words _ _ wf_flw wf_flg _ (List.mem_map.mpr ⟨_, mj_lookup_mem hw, rfl⟩)
  obtain ⟨hS', hfc, kC, hkC, hkind⟩ := sd_obj hK hci
  obtain ⟨cf, kf, fi, f, hi, hsl⟩ := hS' slot hslot
  have hlays := u_lays hgw (sd_lays hci) hslot
  have hst' := (u_facts hfc hkC hlays hi).1
  by_cases hr : mj_isr ci slot = true
  · simp only [hr, if_true] at q
    cases q
    obtain ⟨k, st2, rfl, hc, q⟩ := n_61 hnx
    cases q
    obtain ⟨hv, hst2⟩ := List.forall_mem_cons.mp hst
    obtain ⟨ev, hk1, hkc, hk9, hk3, hk4, cell, q1, q2, q3, q4⟩ := sd_objc hH hok hv hc
    have h := hk H locs mls ⟨hH, hS, hL, hLn, hls, List.forall_mem_cons.mpr ⟨hok.2.2.2.1 _ _, hst2⟩, hok⟩
    rw [List.map_cons, ev]
    have e2 : sd_fv hz ad ci slot (π k slot) (μ k (slot : Int)) = sd_v hz ad (.inr (.inr (π k slot))) := if_pos hr
    refine W.getf hx hb hown (hgw _ hf1) hi hst' q1 (by rw [q3]; exact fun h => by cases h) (v := sd_v hz ad (.inr (.inr (π k slot)))) (by rw [hsl, q4 slot hslot]; exact congrArg some e2) rfl rfl hd ?_
    exact h
  · simp only [hr, if_false] at q
    cases q
    obtain ⟨k, st2, rfl, hc, q⟩ := n_60 hnx
    cases q
    obtain ⟨hv, hst2⟩ := List.forall_mem_cons.mp hst
    obtain ⟨ev, hk1, hkc, hk9, hk3, hk4, cell, q1, q2, q3, q4⟩ := sd_objc hH hok hv hc
    have h := hk H locs mls ⟨hH, hS, hL, hLn, hls, List.forall_mem_cons.mpr ⟨hok.2.2.1 _ _, hst2⟩, hok⟩
    rw [List.map_cons, ev]
    have e2 : sd_fv hz ad ci slot (π k slot) (μ k (slot : Int)) = sd_v hz ad (.inl (μ k slot)) := if_neg hr
    refine W.getf hx hb hown (hgw _ hf1) hi hst' q1 (by rw [q3]; exact fun h => by cases h) (v := sd_v hz ad (.inl (μ k slot))) (by rw [hsl, q4 slot hslot]; exact congrArg some e2) rfl rfl hd ?_
    exact h
set_option maxHeartbeats 2000000 in
theorem s_putfield {v : Nat} (h58 : op = 58 → mj_mk m = 2 ∧ b = (mj_cno m : Int)) (hFE : sd_FE hz ad dA D L xs p s mid args meth cd m) (hd : decode (mj_byt m) pc = .ok (.putfield v, len)) (htr : mj_tr m pc (.putfield v) len = some (op, a, b, npc)) (hnx : mj_nx L m pc npc op a b ls st c π μ = some (pc', ls', st', π', μ')) (hRB : sd_RB hz ad dA D L xs s.heap (mj_maxl m) ls st c π μ H locs mls) (hk : ∀ H locs mls, sd_RB hz ad dA D L xs s.heap (mj_maxl m) ls' st' c π' μ' H locs mls → W p l e R s mid args below meth cd H locs cells slots Z (F0 mid pc' mls (st'.map (sd_v hz ad)))) : W p l e R s mid args below meth cd H locs cells slots Z (F0 mid pc mls (st.map (sd_v hz ad))) := by
  obtain ⟨hx, hb, hml, hown, hgw, hlocks, hret, hini, hK, hN, hE, hL35⟩ := hFE
  obtain ⟨hH, hS, hL, hLn, hls, hst, hok⟩ := hRB
  obtain ⟨rfl, q⟩ := mj_ifm (show (if len = 3 then (mj_flT.lookup (mj_cno m, v)).map (fun q => ((if mj_isr q.1 q.2.1 then (if mj_fin q.1 q.2.1 then 58 else 63) else if mj_isz q.1 q.2.1 then 59 else 62), (q.2.1 : Int), (q.1 : Int), pc + len)) else none) = some (op, a, b, npc) from htr)
  obtain ⟨⟨ci, slot, pos⟩, hw, q⟩ := mj_map_some q
  have hf := List.all_eq_true.mp wf_flb _ (mj_lookup_mem hw)
  simp only [Bool.and_eq_true, decide_eq_true_eq] at hf
  obtain ⟨hci, hslot⟩ := hf
  have hf1 : Cond.fieldLink (mj_cn (mj_cno m)) v (mj_T ci slot).1 (mj_T ci slot).2.1 (mj_T ci slot).2.2.1 ∈ sd_G := sd_words _ _ wf_flw wf_flg _ (List.mem_map.mpr ⟨_, mj_lookup_mem hw, rfl⟩)
  obtain ⟨hS', hfc, kC, hkC, hkind⟩ := sd_obj hK hci
  obtain ⟨cf, kf, fi, f, hi, hsl⟩ := hS' slot hslot
  have hlays := u_lays hgw (sd_lays hci) hslot
  have hst' := (u_facts hfc hkC hlays hi).1
  obtain ⟨hd1, hd2, hd3, hd4⟩ := sd_fld hci hslot
  have hap := va_apart (own := mj_cn (mj_cno m)) hgw (sd_lays hci) (mj_ty ci) (fun k hk => (sd_fld hci hk).1) (sd_nm hci) hK (wf_vw ci hci)
  by_cases hr : mj_isr ci slot = true
  · by_cases hfin : mj_fin ci slot = true
    · simp only [hr, hfin, if_true] at q
      cases q
      obtain ⟨r, k, st2, rfl, hc, q⟩ := n_58 hnx
      cases q
      obtain ⟨hv0, hst1⟩ := List.forall_mem_cons.mp hst
      obtain ⟨hv, hst2⟩ := List.forall_mem_cons.mp hst1
      obtain ⟨ev, hk1, hkc, hk9, hk3, hk4, cell, q1, q2, q3, q4⟩ := sd_objc hH hok hv hc
      have hnar : narrow (mj_ty ci slot) (sd_v hz ad (.inr (.inr r))) = sd_v hz ad (.inr (.inr r)) := by rw [if_pos hr] at hd4; exact sd_nar_ref hd4
      have hfit : fits (mj_ty ci slot) (sd_v hz ad (.inr (.inr r))) = true := by rw [if_pos hr] at hd4; exact sd_fit_ref hd4
      rw [List.map_cons, List.map_cons, ev]
      have hlay := hgw _ (sd_lays hci _ (u_in_lay hslot))
      unfold u_lay at hlay
      rw [if_pos (by rw [hd3, hfin])] at hlay
      obtain ⟨h58a, h58b⟩ := h58 rfl
      have h58c : ci = mj_cno m := by omega
      have hcf : mid.cls = cf := by
        obtain ⟨_, _, c2, _, _, _, -, -, hf', -, -, -, hown2, -⟩ := Cond.laysFinal_spec hlay
        have e1 : c2 = cf := by have := hi.symm.trans hf'; simp at this; exact this.1.symm
        rw [hd2, h58c] at hown2
        rw [← e1]; exact Option.some.inj (hown.symm.trans hown2)
      have h6 := u_fits hfc hkC hkind (Or.inr hlay) hi hd1 hnar hfit
      refine W.putFinK hx hb hown (hgw _ hf1) hi hst' hcf (hini h58a) (by rw [q2]; exact h6) q1 q3 (by rw [hsl]; exact k2_hasslot (q4 slot hslot)) rfl rfl hd fun H' e1 e2 e3 => ?_
      rw [hsl] at e1 ⊢
      refine hk H' _ mls ⟨sd_H_put hH hk3 hk4 hslot hap q2 q3 q4 e1 e2 e3 (fun k' hk' => ?_) (fun _ _ => rfl) (fun j hj => ?_), hS.put e2 e3 (show hz < hz + mj_ix k by have := mj_ix_cs k; omega), hL, hLn, hls, hst2, sd_okS_pp hok hv0⟩
      · funext j; exact g_ppn (by omega)
      · rw [Int.toNat_natCast]
        by_cases e : j = slot
        · subst e; rw [g_pps]; unfold updV; rw [if_pos rfl]; exact if_pos hr
        · rw [g_ppn (by omega)]; unfold updV; rw [if_neg e]
    · have hfin : mj_fin ci slot = false := by simpa using hfin
      simp only [hr, hfin, if_true, Bool.false_eq_true, if_false] at q
      cases q
      obtain ⟨r, k, st2, rfl, hc, q⟩ := n_63 hnx
      cases q
      obtain ⟨hv0, hst1⟩ := List.forall_mem_cons.mp hst
      obtain ⟨hv, hst2⟩ := List.forall_mem_cons.mp hst1
      obtain ⟨ev, hk1, hkc, hk9, hk3, hk4, cell, q1, q2, q3, q4⟩ := sd_objc hH hok hv hc
      have hnar : narrow (mj_ty ci slot) (sd_v hz ad (.inr (.inr r))) = sd_v hz ad (.inr (.inr r)) := by rw [if_pos hr] at hd4; exact sd_nar_ref hd4
      have hfit : fits (mj_ty ci slot) (sd_v hz ad (.inr (.inr r))) = true := by rw [if_pos hr] at hd4; exact sd_fit_ref hd4
      rw [List.map_cons, List.map_cons, ev]
      have hlay := hgw _ (sd_lays hci _ (u_in_lay hslot))
      unfold u_lay at hlay
      rw [if_neg (by rw [hd3, hfin]; decide)] at hlay
      have h6 := u_store hfc hkC hkind hlay hi hd1 hnar hfit
      refine W.putK hx hb (f := f) ⟨hown, hgw _ hf1, ⟨_, _, _, hi⟩, hst'⟩ (by rw [q2]; exact h6) q1 q3 (by rw [hsl]; exact k2_hasslot (q4 slot hslot)) rfl rfl hd fun H' e1 e2 e3 => ?_
      rw [hsl] at e1 ⊢
      refine hk H' _ mls ⟨sd_H_put hH hk3 hk4 hslot hap q2 q3 q4 e1 e2 e3 (fun k' hk' => ?_) (fun _ _ => rfl) (fun j hj => ?_), hS.put e2 e3 (show hz < hz + mj_ix k by have := mj_ix_cs k; omega), hL, hLn, hls, hst2, sd_okS_pp hok hv0⟩
      · funext j; exact g_ppn (by omega)
      · rw [Int.toNat_natCast]
        by_cases e : j = slot
        · subst e; rw [g_pps]; unfold updV; rw [if_pos rfl]; exact if_pos hr
        · rw [g_ppn (by omega)]; unfold updV; rw [if_neg e]
  · have hfin := sd_nofin' hci hslot hr
    by_cases hzz : mj_isz ci slot = true
    · simp only [hr, hzz, if_true, if_false] at q
      cases q
      obtain ⟨v0, k, st2, rfl, hc, q⟩ := n_59 hnx
      cases q
      obtain ⟨hv0, hst1⟩ := List.forall_mem_cons.mp hst
      obtain ⟨hv, hst2⟩ := List.forall_mem_cons.mp hst1
      obtain ⟨ev, hk1, hkc, hk9, hk3, hk4, cell, q1, q2, q3, q4⟩ := sd_objc hH hok hv hc.1
      have hnar : narrow (mj_ty ci slot) (sd_v hz ad (.inl v0)) = sd_v hz ad (.inl v0) := by rw [if_neg hr, if_pos hzz, decide_eq_true_eq] at hd4; rw [hd4]; exact sd_bool hc.2
      have hfit : fits (mj_ty ci slot) (sd_v hz ad (.inl v0)) = true := by rw [if_neg hr, if_pos hzz, decide_eq_true_eq] at hd4; rw [hd4]; exact sd_boolf hc.2
      rw [List.map_cons, List.map_cons, ev]
      have hlay := hgw _ (sd_lays hci _ (u_in_lay hslot))
      unfold u_lay at hlay
      rw [if_neg (by rw [hd3, hfin]; decide)] at hlay
      have h6 := u_store hfc hkC hkind hlay hi hd1 hnar hfit
      refine W.putK hx hb (f := f) ⟨hown, hgw _ hf1, ⟨_, _, _, hi⟩, hst'⟩ (by rw [q2]; exact h6) q1 q3 (by rw [hsl]; exact k2_hasslot (q4 slot hslot)) rfl rfl hd fun H' e1 e2 e3 => ?_
      rw [hsl] at e1 ⊢
      refine hk H' _ mls ⟨sd_H_put hH hk3 hk4 hslot hap q2 q3 q4 e1 e2 e3 (fun _ _ => rfl) (fun k' hk' => g_un hk') (fun j hj => ?_), hS.put e2 e3 (show hz < hz + mj_ix k by have := mj_ix_cs k; omega), hL, hLn, hls, hst2, sd_okS_up hok hk9 hv0⟩
      rw [g_us]
      by_cases e : j = slot
      · subst e; rw [g_ps]; unfold updV; rw [if_pos rfl]; exact if_neg hr
      · rw [g_pn (by omega)]; unfold updV; rw [if_neg e]
    · simp only [hr, hzz, if_false] at q
      cases q
      obtain ⟨v0, k, st2, rfl, hc, q⟩ := n_62 hnx
      cases q
      obtain ⟨hv0, hst1⟩ := List.forall_mem_cons.mp hst
      obtain ⟨hv, hst2⟩ := List.forall_mem_cons.mp hst1
      obtain ⟨ev, hk1, hkc, hk9, hk3, hk4, cell, q1, q2, q3, q4⟩ := sd_objc hH hok hv hc
      have hnar : narrow (mj_ty ci slot) (sd_v hz ad (.inl v0)) = sd_v hz ad (.inl v0) := by rw [if_neg hr, if_neg hzz, decide_eq_true_eq] at hd4; rw [hd4]; rfl
      have hfit : fits (mj_ty ci slot) (sd_v hz ad (.inl v0)) = true := by rw [if_neg hr, if_neg hzz, decide_eq_true_eq] at hd4; rw [hd4]; rfl
      rw [List.map_cons, List.map_cons, ev]
      have hlay := hgw _ (sd_lays hci _ (u_in_lay hslot))
      unfold u_lay at hlay
      rw [if_neg (by rw [hd3, hfin]; decide)] at hlay
      have h6 := u_store hfc hkC hkind hlay hi hd1 hnar hfit
      refine W.putK hx hb (f := f) ⟨hown, hgw _ hf1, ⟨_, _, _, hi⟩, hst'⟩ (by rw [q2]; exact h6) q1 q3 (by rw [hsl]; exact k2_hasslot (q4 slot hslot)) rfl rfl hd fun H' e1 e2 e3 => ?_
      rw [hsl] at e1 ⊢
      refine hk H' _ mls ⟨sd_H_put hH hk3 hk4 hslot hap q2 q3 q4 e1 e2 e3 (fun _ _ => rfl) (fun k' hk' => g_un hk') (fun j hj => ?_), hS.put e2 e3 (show hz < hz + mj_ix k by have := mj_ix_cs k; omega), hL, hLn, hls, hst2, sd_okS_up hok hk9 hv0⟩
      rw [g_us]
      by_cases e : j = slot
      · subst e; rw [g_ps]; unfold updV; rw [if_pos rfl]; exact if_neg hr
      · rw [g_pn (by omega)]; unfold updV; rw [if_neg e]
set_option maxHeartbeats 2000000 in
theorem s_arraylength (hFE : sd_FE hz ad dA D L xs p s mid args meth cd m) (hd : decode (mj_byt m) pc = .ok (.arraylength, len)) (htr : mj_tr m pc (.arraylength) len = some (op, a, b, npc)) (hnx : mj_nx L m pc npc op a b ls st c π μ = some (pc', ls', st', π', μ')) (hRB : sd_RB hz ad dA D L xs s.heap (mj_maxl m) ls st c π μ H locs mls) (hk : ∀ H locs mls, sd_RB hz ad dA D L xs s.heap (mj_maxl m) ls' st' c π' μ' H locs mls → W p l e R s mid args below meth cd H locs cells slots Z (F0 mid pc' mls (st'.map (sd_v hz ad)))) : W p l e R s mid args below meth cd H locs cells slots Z (F0 mid pc mls (st.map (sd_v hz ad))) := by
  obtain ⟨hx, hb, hml, hown, hgw, hlocks, hret, hini, hK, hN, hE, hL35⟩ := hFE
  obtain ⟨hH, hS, hL, hLn, hls, hst, hok⟩ := hRB
  obtain ⟨rfl, q⟩ := mj_if (show (if len = 1 then some (57, 0, 0, pc + len) else none) = some (op, a, b, npc) from htr)
  cases q
  obtain ⟨k, st2, rfl, hc, q⟩ := n_57 hnx
  cases q
  obtain ⟨hv, hst2⟩ := List.forall_mem_cons.mp hst
  obtain ⟨ev, hn, cell, a1, a2, a3, a4, a5, a6, a7⟩ := sd_arr hL35 hK hE hH hS hok hv hc
  have h := hk H locs mls ⟨hH, hS, hL, hLn, hls, List.forall_mem_cons.mpr ⟨⟨by omega, by omega⟩, hst2⟩, hok⟩
  rw [List.map_cons, ev]
  refine W.alen hx hb a1 a2 (n := Int32.ofInt ((mj_lay L k).2 : Int)) (by rw [a5, o_n]) rfl rfl hd ?_
  exact h
set_option maxHeartbeats 2000000 in
theorem s_iaload (hFE : sd_FE hz ad dA D L xs p s mid args meth cd m) (hd : decode (mj_byt m) pc = .ok (.iaload, len)) (htr : mj_tr m pc (.iaload) len = some (op, a, b, npc)) (hnx : mj_nx L m pc npc op a b ls st c π μ = some (pc', ls', st', π', μ')) (hRB : sd_RB hz ad dA D L xs s.heap (mj_maxl m) ls st c π μ H locs mls) (hk : ∀ H locs mls, sd_RB hz ad dA D L xs s.heap (mj_maxl m) ls' st' c π' μ' H locs mls → W p l e R s mid args below meth cd H locs cells slots Z (F0 mid pc' mls (st'.map (sd_v hz ad)))) : W p l e R s mid args below meth cd H locs cells slots Z (F0 mid pc mls (st.map (sd_v hz ad))) := by
  obtain ⟨hx, hb, hml, hown, hgw, hlocks, hret, hini, hK, hN, hE, hL35⟩ := hFE
  obtain ⟨hH, hS, hL, hLn, hls, hst, hok⟩ := hRB
  obtain ⟨rfl, q⟩ := mj_if (show (if len = 1 then some (64, 0, 0, pc + len) else none) = some (op, a, b, npc) from htr)
  cases q
  obtain ⟨i, k, st2, rfl, hc, q⟩ := n_64 hnx
  cases q
  obtain ⟨hvi, hst1⟩ := List.forall_mem_cons.mp hst
  obtain ⟨hv, hst2⟩ := List.forall_mem_cons.mp hst1
  obtain ⟨ev, hn, cell, a1, a2, a3, a4, a5, a6, a7⟩ := sd_arr hL35 hK hE hH hS hok hv hc.1
  have h := hk H locs mls ⟨hH, hS, hL, hLn, hls, List.forall_mem_cons.mpr ⟨hok.2.2.1 _ _, hst2⟩, hok⟩
  obtain ⟨b1, b2⟩ := o_in hc.2 hn
  rw [List.map_cons, List.map_cons, ev]
  have e3 : ((i.toNat : Nat) : Int) = i := by omega
  refine W.iald hx hb a1 a2 a3 (v := .int (Int32.ofInt (μ k i))) (fun z => b1 (z.imp id (fun z => by omega))) (by rw [b2, a7 _ (by omega), e3]) rfl rfl hd ?_
  exact h
set_option maxHeartbeats 2000000 in
theorem s_iastore (hFE : sd_FE hz ad dA D L xs p s mid args meth cd m) (hd : decode (mj_byt m) pc = .ok (.iastore, len)) (htr : mj_tr m pc (.iastore) len = some (op, a, b, npc)) (hnx : mj_nx L m pc npc op a b ls st c π μ = some (pc', ls', st', π', μ')) (hRB : sd_RB hz ad dA D L xs s.heap (mj_maxl m) ls st c π μ H locs mls) (hk : ∀ H locs mls, sd_RB hz ad dA D L xs s.heap (mj_maxl m) ls' st' c π' μ' H locs mls → W p l e R s mid args below meth cd H locs cells slots Z (F0 mid pc' mls (st'.map (sd_v hz ad)))) : W p l e R s mid args below meth cd H locs cells slots Z (F0 mid pc mls (st.map (sd_v hz ad))) := by
  obtain ⟨hx, hb, hml, hown, hgw, hlocks, hret, hini, hK, hN, hE, hL35⟩ := hFE
  obtain ⟨hH, hS, hL, hLn, hls, hst, hok⟩ := hRB
  obtain ⟨rfl, q⟩ := mj_if (show (if len = 1 then some (65, 0, 0, pc + len) else none) = some (op, a, b, npc) from htr)
  cases q
  obtain ⟨v0, i, k, st2, rfl, hc, q⟩ := n_65 hnx
  cases q
  obtain ⟨hv0, hst0⟩ := List.forall_mem_cons.mp hst
  obtain ⟨hvi, hst1⟩ := List.forall_mem_cons.mp hst0
  obtain ⟨hv, hst2⟩ := List.forall_mem_cons.mp hst1
  obtain ⟨ev, hn, cell, a1, a2, a3, a4, a5, a6, a7⟩ := sd_arr hL35 hK hE hH hS hok hv hc.1
  have hkc : mj_ix k < c := by rcases hv with z | z <;> omega
  have hk0 : k ≠ 0 := by rintro rfl; have := hc.1; simp [mj_lay, mj_layT] at this
  have er : sd_r hz ad k = hz + mj_ix k := if_neg (by omega)
  have el := sd_lay_eq (L := L) hc.2.1
  obtain ⟨b1, b2⟩ := o_in hc.2.2 hn
  rw [List.map_cons, List.map_cons, List.map_cons, ev]
  refine W.iast hx hb a1 a2 a3 (fun z => b1 (z.imp id (fun z => by omega))) rfl rfl hd fun H' e1 e2 e3 => ?_
  rw [er] at e1 e3 ⊢
  rw [b2, a6 hc.2.1] at e1
  rw [el] at e1 hc
  refine hk H' _ mls ⟨sd_H_ast (v := v0) hH (by omega) hkc (by omega) hc.2.2 (by rw [hc.1]; exact e1) e2 e3, hS.put e2 e3 (show hz < hz + mj_ix k by have := mj_ix_cs k; omega), hL, hLn, hls, hst2, sd_okS_up hok hc.2.1 hv0⟩
set_option maxHeartbeats 2000000 in
theorem s_baload (hFE : sd_FE hz ad dA D L xs p s mid args meth cd m) (hd : decode (mj_byt m) pc = .ok (.baload, len)) (htr : mj_tr m pc (.baload) len = some (op, a, b, npc)) (hnx : mj_nx L m pc npc op a b ls st c π μ = some (pc', ls', st', π', μ')) (hRB : sd_RB hz ad dA D L xs s.heap (mj_maxl m) ls st c π μ H locs mls) (hk : ∀ H locs mls, sd_RB hz ad dA D L xs s.heap (mj_maxl m) ls' st' c π' μ' H locs mls → W p l e R s mid args below meth cd H locs cells slots Z (F0 mid pc' mls (st'.map (sd_v hz ad)))) : W p l e R s mid args below meth cd H locs cells slots Z (F0 mid pc mls (st.map (sd_v hz ad))) := by
  obtain ⟨hx, hb, hml, hown, hgw, hlocks, hret, hini, hK, hN, hE, hL35⟩ := hFE
  obtain ⟨hH, hS, hL, hLn, hls, hst, hok⟩ := hRB
  obtain ⟨rfl, q⟩ := mj_if (show (if len = 1 then some (66, 0, 0, pc + len) else none) = some (op, a, b, npc) from htr)
  cases q
  obtain ⟨i, k, st2, rfl, hc, q⟩ := n_66 hnx
  cases q
  obtain ⟨hvi, hst1⟩ := List.forall_mem_cons.mp hst
  obtain ⟨hv, hst2⟩ := List.forall_mem_cons.mp hst1
  obtain ⟨ev, hkc, hk1, hk9, hn, a1⟩ := sd_arrb hH hok hv hc.1
  have h := hk H locs mls ⟨hH, hS, hL, hLn, hls, List.forall_mem_cons.mpr ⟨hok.2.2.1 _ _, hst2⟩, hok⟩
  obtain ⟨b1, b2⟩ := o_in hc.2 hn
  rw [List.map_cons, List.map_cons, ev]
  have e3 : ((i.toNat : Nat) : Int) = i := by omega
  rcases hc.1 with hk2 | hk2
  · rw [hk2] at a1
    refine W.bald hx hb a1 ((hK.2 1 _ rfl).1 _ _) (fun q => by cases q) (v := .int (Int32.ofInt (μ k i))) (by rw [arrV_size]; exact b1) (by rw [b2, arrV_read _ _ (by omega), e3]) rfl rfl hd ?_
    exact h
  · rw [hk2] at a1
    refine W.zald hx hb a1 ((hK.2 2 _ rfl).1 _ _) (fun q => by cases q) (v := .int (Int32.ofInt (μ k i))) (by rw [arrV_size]; exact b1) (by rw [b2, arrV_read _ _ (by omega), e3]) rfl rfl hd ?_
    exact h
set_option maxHeartbeats 2000000 in
theorem s_bastore (hFE : sd_FE hz ad dA D L xs p s mid args meth cd m) (hd : decode (mj_byt m) pc = .ok (.bastore, len)) (htr : mj_tr m pc (.bastore) len = some (op, a, b, npc)) (hnx : mj_nx L m pc npc op a b ls st c π μ = some (pc', ls', st', π', μ')) (hRB : sd_RB hz ad dA D L xs s.heap (mj_maxl m) ls st c π μ H locs mls) (hk : ∀ H locs mls, sd_RB hz ad dA D L xs s.heap (mj_maxl m) ls' st' c π' μ' H locs mls → W p l e R s mid args below meth cd H locs cells slots Z (F0 mid pc' mls (st'.map (sd_v hz ad)))) : W p l e R s mid args below meth cd H locs cells slots Z (F0 mid pc mls (st.map (sd_v hz ad))) := by
  obtain ⟨hx, hb, hml, hown, hgw, hlocks, hret, hini, hK, hN, hE, hL35⟩ := hFE
  obtain ⟨hH, hS, hL, hLn, hls, hst, hok⟩ := hRB
  obtain ⟨rfl, q⟩ := mj_if (show (if len = 1 then some (67, 0, 0, pc + len) else none) = some (op, a, b, npc) from htr)
  cases q
  obtain ⟨v0, i, k, st2, rfl, hcc⟩ := n_67 hnx
  obtain ⟨hv0, hst0⟩ := List.forall_mem_cons.mp hst
  obtain ⟨hvi, hst1⟩ := List.forall_mem_cons.mp hst0
  obtain ⟨hv, hst2⟩ := List.forall_mem_cons.mp hst1
  rcases hcc with ⟨hk2, hi0, hi1, q⟩ | ⟨hk2, hb0, hb1, hi0, hi1, q⟩
  · cases q
    obtain ⟨ev, hkc, hk1, hk9, hn, a1⟩ := sd_arrb hH hok hv (Or.inl hk2)
    have el := sd_lay_eq (L := L) hk9
    obtain ⟨b1, b2⟩ := o_in ⟨hi0, hi1⟩ hn
    rw [List.map_cons, List.map_cons, List.map_cons, ev]
    have a1' := a1
    rw [hk2] at a1'
    refine W.bast hx hb a1' ((hK.2 1 _ rfl).1 _ _) (fun q => by cases q) (by rw [arrV_size]; exact b1) rfl rfl hd fun H' e1 e2 e3 => ?_
    rw [b2, narrow_byte, (o_i2b hv0).1] at e1
    rw [el] at e1 hi1 hk2
    refine hk H' _ mls ⟨sd_H_ast (v := mj_b v0) hH hk1 hkc (by omega) ⟨hi0, hi1⟩ (by rw [hk2]; exact e1) e2 e3, hS.put e2 e3 (show hz < hz + mj_ix k by have := mj_ix_cs k; omega), hL, hLn, hls, hst2, sd_okS_up hok hk9 (o_i2b hv0).2⟩
  · cases q
    obtain ⟨ev, hkc, hk1, hk9, hn, a1⟩ := sd_arrb hH hok hv (Or.inr hk2)
    have el := sd_lay_eq (L := L) hk9
    obtain ⟨b1, b2⟩ := o_in ⟨hi0, hi1⟩ hn
    rw [List.map_cons, List.map_cons, List.map_cons, ev]
    have a1' := a1
    rw [hk2] at a1'
    refine W.zast hx hb a1' ((hK.2 2 _ rfl).1 _ _) (fun q => by cases q) (by rw [arrV_size]; exact b1) rfl rfl hd fun H' e1 e2 e3 => ?_
    have eb : narrow .boolean (.int (Int32.ofInt v0)) = .int (Int32.ofInt v0) := sd_bool (hz := hz) (ad := ad) ⟨hb0, hb1⟩
    rw [b2, eb] at e1
    rw [el] at e1 hi1 hk2
    refine hk H' _ mls ⟨sd_H_ast (v := v0) hH hk1 hkc (by omega) ⟨hi0, hi1⟩ (by rw [hk2]; exact e1) e2 e3, hS.put e2 e3 (show hz < hz + mj_ix k by have := mj_ix_cs k; omega), hL, hLn, hls, hst2, sd_okS_up hok hk9 hv0⟩
set_option maxHeartbeats 2000000 in
theorem s_getstatic {v : Nat} (hFE : sd_FE hz ad dA D L xs p s mid args meth cd m) (hd : decode (mj_byt m) pc = .ok (.getstatic v, len)) (htr : mj_tr m pc (.getstatic v) len = some (op, a, b, npc)) (hnx : mj_nx L m pc npc op a b ls st c π μ = some (pc', ls', st', π', μ')) (hRB : sd_RB hz ad dA D L xs s.heap (mj_maxl m) ls st c π μ H locs mls) (hk : ∀ H locs mls, sd_RB hz ad dA D L xs s.heap (mj_maxl m) ls' st' c π' μ' H locs mls → W p l e R s mid args below meth cd H locs cells slots Z (F0 mid pc' mls (st'.map (sd_v hz ad)))) : W p l e R s mid args below meth cd H locs cells slots Z (F0 mid pc mls (st.map (sd_v hz ad))) := by
  obtain ⟨hx, hb, hml, hown, hgw, hlocks, hret, hini, hK, hN, hE, hL35⟩ := hFE
  obtain ⟨hH, hS, hL, hLn, hls, hst, hok⟩ := hRB
  obtain ⟨rfl, q⟩ := mj_ifm (show (if len = 3 then (mj_slT.lookup (mj_cno m, v)).map (fun q => (70, (q.1 : Int), 0, pc + len)) else none) = some (op, a, b, npc) from htr)
  obtain ⟨⟨i, pos⟩, hw, q⟩ := mj_map_some q
  cases q
  have hf := List.all_eq_true.mp wf_slb _ (mj_lookup_mem hw)
  simp only [Bool.and_eq_true, decide_eq_true_eq] at hf
  obtain ⟨h1, h3⟩ := hf
  have hf1 : Cond.fieldLinkNest (mj_cn (mj_cno m)) v "SpokenBooks" (mj_stn i) "[I" "SpokenBooks" ∈ lw_tbl := sd_nwords _ _ wf_slw _ (List.mem_map.mpr ⟨_, mj_lookup_mem hw, rfl⟩)
  cases (Option.some.inj (show some (pc + 3, ls, Sum.inr (Sum.inr ((i : Int)).toNat) :: st, π, μ) = some (pc', ls', st', π', μ') from hnx))
  rw [Int.toNat_natCast] at hk
  have h := hk H locs mls ⟨hH, hS, hL, hLn, hls, List.forall_mem_cons.mpr ⟨Or.inr ⟨by omega, by omega⟩, hst⟩, hok⟩
  rw [List.map_cons, sd_refx (by omega), show sd_r hz ad i = ad i from if_pos (by omega)] at h
  exact va_getsN hx hb (hE.2.1 i h1 h3).1 hS hown (va_Nw.use rfl (hN _ hf1 rfl)) (fun x hx => hx) hd h
set_option maxHeartbeats 2000000 in
theorem s_tableswitch {df lo hi : Int} {offs : Array Int} (hFE : sd_FE hz ad dA D L xs p s mid args meth cd m) (hd : decode (mj_byt m) pc = .ok (.tableswitch df lo hi offs, len)) (htr : mj_tr m pc (.tableswitch df lo hi offs) len = some (op, a, b, npc)) (hnx : mj_nx L m pc npc op a b ls st c π μ = some (pc', ls', st', π', μ')) (hRB : sd_RB hz ad dA D L xs s.heap (mj_maxl m) ls st c π μ H locs mls) (hk : ∀ H locs mls, sd_RB hz ad dA D L xs s.heap (mj_maxl m) ls' st' c π' μ' H locs mls → W p l e R s mid args below meth cd H locs cells slots Z (F0 mid pc' mls (st'.map (sd_v hz ad)))) : W p l e R s mid args below meth cd H locs cells slots Z (F0 mid pc mls (st.map (sd_v hz ad))) := by
  obtain ⟨hx, hb, hml, hown, hgw, hlocks, hret, hini, hK, hN, hE, hL35⟩ := hFE
  obtain ⟨hH, hS, hL, hLn, hls, hst, hok⟩ := hRB
  obtain ⟨⟨h1, h2, h3, h4⟩, q⟩ := mj_if (show (if hi - lo + 1 = offs.size ∧ 0 ≤ (pc : Int) + df ∧ offs.toList.all (fun z => decide (0 ≤ (pc : Int) + z)) ∧ mj_sw m pc = (mj_tsw pc lo offs.toList, ((pc : Int) + df).toNat) then some (53, 0, 0, pc + len) else none) = some (op, a, b, npc) from htr)
  cases q
  obtain ⟨x, st2, rfl, q⟩ := n_53 hnx
  obtain ⟨hxx, hst2⟩ := List.forall_mem_cons.mp hst
  rw [h4] at q
  by_cases hc : x < lo ∨ hi < x
  · have e1 := mj_sel_out pc ((pc : Int) + df).toNat x offs.toList lo (by rw [Array.length_toList]; omega)
    simp only [e1] at q
    cases q
    exact lv_tableOut (tgt := ((pc : Int) + df).toNat) hx hb hd (by rw [o_ti hxx]; exact hc) (by omega) (hk H locs mls ⟨hH, hS, hL, hLn, hls, hst2, hok⟩)
  · have hlt : (x - lo).toNat < offs.size := by omega
    have ho : offs[(x - lo).toNat]? = some offs[(x - lo).toNat] := Array.getElem?_eq_getElem hlt
    have hnn : 0 ≤ (pc : Int) + offs[(x - lo).toNat] := by
      have := List.all_eq_true.mp h3 offs[(x - lo).toNat] (by rw [Array.mem_toList_iff]; exact Array.getElem_mem hlt)
      simpa using this
    have e1 := mj_sel_in pc ((pc : Int) + df).toNat x offs.toList lo offs[(x - lo).toNat] (by omega) (by rw [Array.getElem?_toList]; exact ho)
    simp only [e1] at q
    cases q
    exact lv_tableIn (tgt := ((pc : Int) + offs[(x - lo).toNat]).toNat) hx hb hd (by rw [o_ti hxx]; omega) (by rw [o_ti hxx]; omega) (by rw [o_ti hxx]; exact ho) (by omega) (hk H locs mls ⟨hH, hS, hL, hLn, hls, hst2, hok⟩)
set_option maxHeartbeats 2000000 in
theorem s_lookupswitch {df : Int} {ps : Array (Int × Int)} (hFE : sd_FE hz ad dA D L xs p s mid args meth cd m) (hd : decode (mj_byt m) pc = .ok (.lookupswitch df ps, len)) (htr : mj_tr m pc (.lookupswitch df ps) len = some (op, a, b, npc)) (hnx : mj_nx L m pc npc op a b ls st c π μ = some (pc', ls', st', π', μ')) (hRB : sd_RB hz ad dA D L xs s.heap (mj_maxl m) ls st c π μ H locs mls) (hk : ∀ H locs mls, sd_RB hz ad dA D L xs s.heap (mj_maxl m) ls' st' c π' μ' H locs mls → W p l e R s mid args below meth cd H locs cells slots Z (F0 mid pc' mls (st'.map (sd_v hz ad)))) : W p l e R s mid args below meth cd H locs cells slots Z (F0 mid pc mls (st.map (sd_v hz ad))) := by
  obtain ⟨hx, hb, hml, hown, hgw, hlocks, hret, hini, hK, hN, hE, hL35⟩ := hFE
  obtain ⟨hH, hS, hL, hLn, hls, hst, hok⟩ := hRB
  obtain ⟨⟨h1, h2, h3, h4⟩, q⟩ := mj_if (show (if 0 ≤ (pc : Int) + df ∧ ps.toList.all (fun z => decide (0 ≤ (pc : Int) + z.2)) ∧ (ps.toList.zip (ps.toList.drop 1)).all (fun (a, next) => a.1 < next.1) = true ∧ mj_sw m pc = (ps.toList.map (fun z => (z.1, ((pc : Int) + z.2).toNat)), ((pc : Int) + df).toNat) then some (53, 0, 0, pc + len) else none) = some (op, a, b, npc) from htr)
  cases q
  obtain ⟨x, st2, rfl, q⟩ := n_53 hnx
  obtain ⟨hxx, hst2⟩ := List.forall_mem_cons.mp hst
  rw [h4] at q
  have e1 := mj_sel_look pc df x ps.toList
  simp only [e1] at q
  cases q
  have hnn := mj_look_nn pc df x h1 ps.toList h2
  exact lv_lookup (tgt := ((pc : Int) + Op.lookupswitch.offset ps.toList df x).toNat) (off := Op.lookupswitch.offset ps.toList df x) hx hb hd h3 (by rw [o_ti hxx]) (by omega) (hk H locs mls ⟨hH, hS, hL, hLn, hls, hst2, hok⟩)
end
