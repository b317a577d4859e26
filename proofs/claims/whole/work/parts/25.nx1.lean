theorem sd_w_misc : ∀ w ∈ sd_misc, w ∈ sd_G := sd_words _ _ wf_misc wf_miscg
theorem sd_w_k {q : (Nat × Nat) × (Int × Nat)} (h : q ∈ mj_kT) : Cond.constant (mj_cn q.1.1) q.1.2 (Int32.ofInt q.2.1) ∈ sd_G := sd_w_misc _ (List.mem_append_left _ (List.mem_append_right _ (List.mem_map.mpr ⟨q, h, rfl⟩)))
theorem sd_w_kL {q : (Nat × Nat) × (Int × Nat)} (h : q ∈ mj_kLT) : Cond.constantLong (mj_cn q.1.1) q.1.2 (Int64.ofInt q.2.1) ∈ sd_G := sd_w_misc _ (List.mem_append_right _ (List.mem_map.mpr ⟨q, h, rfl⟩))
theorem sd_w_cl {q : (Nat × Nat) × (Nat × Nat)} (h : q ∈ mj_clT) : Cond.classLink (mj_cn q.1.1) q.1.2 (mj_cn q.2.1) ∈ sd_G := sd_w_misc _ (List.mem_append_left _ (List.mem_append_left _ (List.mem_append_right _ (List.mem_map.mpr ⟨q, h, rfl⟩))))
theorem sd_w_oi {q : (Nat × Nat) × Nat} (h : q ∈ mj_oiT) : Cond.methodLink (mj_cn q.1.1) q.1.2 objectInit ∈ sd_G := sd_w_misc _ (List.mem_append_left _ (List.mem_append_left _ (List.mem_append_left _ (List.mem_append_left _ (List.mem_map.mpr ⟨q, h, rfl⟩)))))
theorem sd_w_5 {w : Cond} (h : w ∈ ([.instanceMethod objectInit, .code objectInit ⟨#[0xb1]⟩ 1 none, .arrayClass .int, .arrayClass .byte, .arrayClass .boolean] : List Cond)) : w ∈ sd_G := sd_w_misc _ (List.mem_append_left _ (List.mem_append_left _ (List.mem_append_left _ (List.mem_append_right _ h))))
theorem mj_ifm {α : Type} {p : Prop} [Decidable p] {x : Option α} {y : α} (h : (if p then x else none) = some y) : p ∧ x = some y := by
  by_cases hp : p
  · rw [if_pos hp] at h; exact ⟨hp, h⟩
  · rw [if_neg hp] at h; cases h
theorem mj_getD_some {ls : List mj_V} {i : Nat} {v : mj_V} (h : ls.getD i mj_nul = v) (hn : v ≠ mj_nul) : ls[i]? = some v := by
  rw [List.getD_eq_getElem?_getD] at h
  cases q : ls[i]? with
  | none => rw [q] at h; exact absurd h.symm hn
  | some w => rw [q] at h; exact congrArg some h
theorem sd_cat1 {hz : Nat} {ad : Nat → Nat} {v : mj_V} (h : (∃ x, v = .inl x) ∨ (∃ k, v = .inr (.inr k))) : (sd_v hz ad v).category = 1 := by
  rcases h with ⟨x, rfl⟩ | ⟨k, rfl⟩
  · rfl
  · by_cases q : k = 0 <;> simp [sd_v, q, Value.category]
section
variable {hz : Nat} {ad : Nat → Nat} {dA : Nat → ClassId} {D : va_G} {L : Nat} {xs : Nat → Int32} {p : Program} {l : Launch} {e : Env} {R : Room} {s : State} {mid : MethodId} {args : Array Value} {below : List Frame} {meth : Method} {cd : Code} {H : Heap} {locs : List Loc} {cells slots : Nat} {Z : State → Prop} {mls : Array Slot} {m pc npc op len : Nat} {a b : Int} {ls st ls' st' : List mj_V} {c pc' : Nat} {π π' : mj_P} {μ μ' : mj_M}

set_option maxHeartbeats 2000000 in
theorem s_iconst {v : Int} (hFE : sd_FE hz ad dA D L xs p s mid args meth cd m) (hd : decode (mj_byt m) pc = .ok (.iconst v, len)) (htr : mj_tr m pc (.iconst v) len = some (op, a, b, npc)) (hnx : mj_nx L m pc npc op a b ls st c π μ = some (pc', ls', st', π', μ')) (hRB : sd_RB hz ad dA D L xs s.heap (mj_maxl m) ls st c π μ H locs mls) (hk : ∀ H locs mls, sd_RB hz ad dA D L xs s.heap (mj_maxl m) ls' st' c π' μ' H locs mls → W p l e R s mid args below meth cd H locs cells slots Z (F0 mid pc' mls (st'.map (sd_v hz ad)))) : W p l e R s mid args below meth cd H locs cells slots Z (F0 mid pc mls (st.map (sd_v hz ad))) := by
  obtain ⟨hx, hb, hml, hown, hgw, hlocks, hret, hini, hK, hN, hE, hL35⟩ := hFE
  obtain ⟨hH, hS, hL, hLn, hls, hst, hok⟩ := hRB
  obtain ⟨⟨rfl, h1, h2⟩, q⟩ := mj_if (show (if len = 1 ∧ -2147483648 ≤ v ∧ v < 2147483648 then some (0, v, 0, pc + len) else none) = some (op, a, b, npc) from htr)
  cases q
  cases (Option.some.inj (show some (pc + 1, ls, Sum.inl a :: st, π, μ) = some (pc', ls', st', π', μ') from hnx))
  exact lv_iconst hx hb hd rfl (hk H locs mls ⟨hH, hS, hL, hLn, hls, List.forall_mem_cons.mpr ⟨⟨h1, h2⟩, hst⟩, hok⟩)
set_option maxHeartbeats 2000000 in
theorem s_bipush {v : Int} (hFE : sd_FE hz ad dA D L xs p s mid args meth cd m) (hd : decode (mj_byt m) pc = .ok (.bipush v, len)) (htr : mj_tr m pc (.bipush v) len = some (op, a, b, npc)) (hnx : mj_nx L m pc npc op a b ls st c π μ = some (pc', ls', st', π', μ')) (hRB : sd_RB hz ad dA D L xs s.heap (mj_maxl m) ls st c π μ H locs mls) (hk : ∀ H locs mls, sd_RB hz ad dA D L xs s.heap (mj_maxl m) ls' st' c π' μ' H locs mls → W p l e R s mid args below meth cd H locs cells slots Z (F0 mid pc' mls (st'.map (sd_v hz ad)))) : W p l e R s mid args below meth cd H locs cells slots Z (F0 mid pc mls (st.map (sd_v hz ad))) := by
  obtain ⟨hx, hb, hml, hown, hgw, hlocks, hret, hini, hK, hN, hE, hL35⟩ := hFE
  obtain ⟨hH, hS, hL, hLn, hls, hst, hok⟩ := hRB
  obtain ⟨⟨rfl, h1, h2⟩, q⟩ := mj_if (show (if len = 2 ∧ -128 ≤ v ∧ v < 128 then some (0, v, 0, pc + len) else none) = some (op, a, b, npc) from htr)
  cases q
  cases (Option.some.inj (show some (pc + 2, ls, Sum.inl a :: st, π, μ) = some (pc', ls', st', π', μ') from hnx))
  exact lv_bipush hx hb hd (o_bip ⟨h1, h2⟩) (hk H locs mls ⟨hH, hS, hL, hLn, hls, List.forall_mem_cons.mpr ⟨⟨by omega, by omega⟩, hst⟩, hok⟩)
set_option maxHeartbeats 2000000 in
theorem s_sipush {v : Int} (hFE : sd_FE hz ad dA D L xs p s mid args meth cd m) (hd : decode (mj_byt m) pc = .ok (.sipush v, len)) (htr : mj_tr m pc (.sipush v) len = some (op, a, b, npc)) (hnx : mj_nx L m pc npc op a b ls st c π μ = some (pc', ls', st', π', μ')) (hRB : sd_RB hz ad dA D L xs s.heap (mj_maxl m) ls st c π μ H locs mls) (hk : ∀ H locs mls, sd_RB hz ad dA D L xs s.heap (mj_maxl m) ls' st' c π' μ' H locs mls → W p l e R s mid args below meth cd H locs cells slots Z (F0 mid pc' mls (st'.map (sd_v hz ad)))) : W p l e R s mid args below meth cd H locs cells slots Z (F0 mid pc mls (st.map (sd_v hz ad))) := by
  obtain ⟨hx, hb, hml, hown, hgw, hlocks, hret, hini, hK, hN, hE, hL35⟩ := hFE
  obtain ⟨hH, hS, hL, hLn, hls, hst, hok⟩ := hRB
  obtain ⟨⟨rfl, h1, h2⟩, q⟩ := mj_if (show (if len = 3 ∧ -32768 ≤ v ∧ v < 32768 then some (0, v, 0, pc + len) else none) = some (op, a, b, npc) from htr)
  cases q
  cases (Option.some.inj (show some (pc + 3, ls, Sum.inl a :: st, π, μ) = some (pc', ls', st', π', μ') from hnx))
  exact lv_sipush hx hb hd (o_sip ⟨h1, h2⟩) (hk H locs mls ⟨hH, hS, hL, hLn, hls, List.forall_mem_cons.mpr ⟨⟨by omega, by omega⟩, hst⟩, hok⟩)
set_option maxHeartbeats 2000000 in
theorem s_ldcw {v : Nat} (hFE : sd_FE hz ad dA D L xs p s mid args meth cd m) (hd : decode (mj_byt m) pc = .ok (.ldc_w v, len)) (htr : mj_tr m pc (.ldc_w v) len = some (op, a, b, npc)) (hnx : mj_nx L m pc npc op a b ls st c π μ = some (pc', ls', st', π', μ')) (hRB : sd_RB hz ad dA D L xs s.heap (mj_maxl m) ls st c π μ H locs mls) (hk : ∀ H locs mls, sd_RB hz ad dA D L xs s.heap (mj_maxl m) ls' st' c π' μ' H locs mls → W p l e R s mid args below meth cd H locs cells slots Z (F0 mid pc' mls (st'.map (sd_v hz ad)))) : W p l e R s mid args below meth cd H locs cells slots Z (F0 mid pc mls (st.map (sd_v hz ad))) := by
  obtain ⟨hx, hb, hml, hown, hgw, hlocks, hret, hini, hK, hN, hE, hL35⟩ := hFE
  obtain ⟨hH, hS, hL, hLn, hls, hst, hok⟩ := hRB
  obtain ⟨rfl, q⟩ := mj_ifm (show (if len = 3 then (mj_kT.lookup (mj_cno m, v)).map (fun q => (0, q.1, 0, pc + len)) else none) = some (op, a, b, npc) from htr)
  obtain ⟨w, hw, q⟩ := mj_map_some q
  cases q
  cases (Option.some.inj (show some (pc + 3, ls, Sum.inl w.1 :: st, π, μ) = some (pc', ls', st', π', μ') from hnx))
  have hk1 := List.all_eq_true.mp wf_kb _ (mj_lookup_mem hw)
  simp only [Bool.and_eq_true, decide_eq_true_eq] at hk1
  exact lv_ldcw hx hb hown (hgw _ (sd_w_k (mj_lookup_mem hw))) hd (hk H locs mls ⟨hH, hS, hL, hLn, hls, List.forall_mem_cons.mpr ⟨hk1, hst⟩, hok⟩)
set_option maxHeartbeats 2000000 in
theorem s_lconst {v : Fin 2} (hFE : sd_FE hz ad dA D L xs p s mid args meth cd m) (hd : decode (mj_byt m) pc = .ok (.lconst v, len)) (htr : mj_tr m pc (.lconst v) len = some (op, a, b, npc)) (hnx : mj_nx L m pc npc op a b ls st c π μ = some (pc', ls', st', π', μ')) (hRB : sd_RB hz ad dA D L xs s.heap (mj_maxl m) ls st c π μ H locs mls) (hk : ∀ H locs mls, sd_RB hz ad dA D L xs s.heap (mj_maxl m) ls' st' c π' μ' H locs mls → W p l e R s mid args below meth cd H locs cells slots Z (F0 mid pc' mls (st'.map (sd_v hz ad)))) : W p l e R s mid args below meth cd H locs cells slots Z (F0 mid pc mls (st.map (sd_v hz ad))) := by
  obtain ⟨hx, hb, hml, hown, hgw, hlocks, hret, hini, hK, hN, hE, hL35⟩ := hFE
  obtain ⟨hH, hS, hL, hLn, hls, hst, hok⟩ := hRB
  obtain ⟨rfl, q⟩ := mj_if (show (if len = 1 then some (1, (v.val : Int), 0, pc + len) else none) = some (op, a, b, npc) from htr)
  cases q
  cases (Option.some.inj (show some (pc + 1, ls, Sum.inr (Sum.inl (v.val : Int)) :: st, π, μ) = some (pc', ls', st', π', μ') from hnx))
  refine lv_lconst hx hb hd (v := Int64.ofInt (v.val : Int)) Int64.ofInt_eq_ofNat.symm (hk H locs mls ⟨hH, hS, hL, hLn, hls, List.forall_mem_cons.mpr ⟨?_, hst⟩, hok⟩)
  have := v.isLt
  exact ⟨by omega, by omega⟩
set_option maxHeartbeats 2000000 in
theorem s_ldc2 {v : Nat} (hFE : sd_FE hz ad dA D L xs p s mid args meth cd m) (hd : decode (mj_byt m) pc = .ok (.ldc2_w v, len)) (htr : mj_tr m pc (.ldc2_w v) len = some (op, a, b, npc)) (hnx : mj_nx L m pc npc op a b ls st c π μ = some (pc', ls', st', π', μ')) (hRB : sd_RB hz ad dA D L xs s.heap (mj_maxl m) ls st c π μ H locs mls) (hk : ∀ H locs mls, sd_RB hz ad dA D L xs s.heap (mj_maxl m) ls' st' c π' μ' H locs mls → W p l e R s mid args below meth cd H locs cells slots Z (F0 mid pc' mls (st'.map (sd_v hz ad)))) : W p l e R s mid args below meth cd H locs cells slots Z (F0 mid pc mls (st.map (sd_v hz ad))) := by
  obtain ⟨hx, hb, hml, hown, hgw, hlocks, hret, hini, hK, hN, hE, hL35⟩ := hFE
  obtain ⟨hH, hS, hL, hLn, hls, hst, hok⟩ := hRB
  obtain ⟨rfl, q⟩ := mj_ifm (show (if len = 3 then (mj_kLT.lookup (mj_cno m, v)).map (fun q => (1, q.1, 0, pc + len)) else none) = some (op, a, b, npc) from htr)
  obtain ⟨w, hw, q⟩ := mj_map_some q
  cases q
  cases (Option.some.inj (show some (pc + 3, ls, Sum.inr (Sum.inl w.1) :: st, π, μ) = some (pc', ls', st', π', μ') from hnx))
  have hk1 := List.all_eq_true.mp wf_kLb _ (mj_lookup_mem hw)
  simp only [Bool.and_eq_true, decide_eq_true_eq] at hk1
  exact lv_ldc2 hx hb hown (hgw _ (sd_w_kL (mj_lookup_mem hw))) hd (hk H locs mls ⟨hH, hS, hL, hLn, hls, List.forall_mem_cons.mpr ⟨hk1, hst⟩, hok⟩)
set_option maxHeartbeats 2000000 in
theorem s_ldc {v : Nat} (hFE : sd_FE hz ad dA D L xs p s mid args meth cd m) (hd : decode (mj_byt m) pc = .ok (.ldc v, len)) (htr : mj_tr m pc (.ldc v) len = some (op, a, b, npc)) (hnx : mj_nx L m pc npc op a b ls st c π μ = some (pc', ls', st', π', μ')) (hRB : sd_RB hz ad dA D L xs s.heap (mj_maxl m) ls st c π μ H locs mls) (hk : ∀ H locs mls, sd_RB hz ad dA D L xs s.heap (mj_maxl m) ls' st' c π' μ' H locs mls → W p l e R s mid args below meth cd H locs cells slots Z (F0 mid pc' mls (st'.map (sd_v hz ad)))) : W p l e R s mid args below meth cd H locs cells slots Z (F0 mid pc mls (st.map (sd_v hz ad))) := by
  obtain ⟨hx, hb, hml, hown, hgw, hlocks, hret, hini, hK, hN, hE, hL35⟩ := hFE
  obtain ⟨hH, hS, hL, hLn, hls, hst, hok⟩ := hRB
  obtain ⟨⟨rfl, h9, rfl⟩, q⟩ := mj_if (show (if len = 2 ∧ mj_cno m = 9 ∧ v = 112 then some (71, 0, 0, pc + len) else none) = some (op, a, b, npc) from htr)
  cases q
  cases (Option.some.inj (show some (pc + 2, ls, Sum.inr (Sum.inr 1004) :: st, π, μ) = some (pc', ls', st', π', μ') from hnx))
  rw [h9] at hown
  have hK2 := hk H locs mls ⟨hH, hS, hL, hLn, hls, List.forall_mem_cons.mpr ⟨Or.inr ⟨by omega, by omega⟩, hst⟩, hok⟩
  exact va_ldcS hx hb (own := "SpokenBooks$Tape") (tx := sd_tx) (q := ad 1004) hown hE.2.2.1 hd hK2
set_option maxHeartbeats 2000000 in
theorem s_iload {v : Nat} (hFE : sd_FE hz ad dA D L xs p s mid args meth cd m) (hd : decode (mj_byt m) pc = .ok (.iload v, len)) (htr : mj_tr m pc (.iload v) len = some (op, a, b, npc)) (hnx : mj_nx L m pc npc op a b ls st c π μ = some (pc', ls', st', π', μ')) (hRB : sd_RB hz ad dA D L xs s.heap (mj_maxl m) ls st c π μ H locs mls) (hk : ∀ H locs mls, sd_RB hz ad dA D L xs s.heap (mj_maxl m) ls' st' c π' μ' H locs mls → W p l e R s mid args below meth cd H locs cells slots Z (F0 mid pc' mls (st'.map (sd_v hz ad)))) : W p l e R s mid args below meth cd H locs cells slots Z (F0 mid pc mls (st.map (sd_v hz ad))) := by
  obtain ⟨hx, hb, hml, hown, hgw, hlocks, hret, hini, hK, hN, hE, hL35⟩ := hFE
  obtain ⟨hH, hS, hL, hLn, hls, hst, hok⟩ := hRB
  obtain ⟨rfl, q⟩ := mj_if (show (if len = 2 then some (2, (v : Int), 0, pc + len) else none) = some (op, a, b, npc) from htr)
  cases q
  obtain ⟨x, h1, q⟩ := n_2 hnx
  cases q
  rw [Int.toNat_natCast] at h1
  have hi : ls[v]? = some (.inl x) := mj_getD_some h1 (by intro q; cases q)
  have hm := hL.2.2 _ _ hi (by intro q; cases q)
  have hv := hls _ (List.mem_of_getElem? hi)
  exact lv_iload hx hb hd hm (hk H locs mls ⟨hH, hS, hL, hLn, hls, List.forall_mem_cons.mpr ⟨hv, hst⟩, hok⟩)
set_option maxHeartbeats 2000000 in
theorem s_iload_n {v : Fin 4} (hFE : sd_FE hz ad dA D L xs p s mid args meth cd m) (hd : decode (mj_byt m) pc = .ok (.iload_n v, len)) (htr : mj_tr m pc (.iload_n v) len = some (op, a, b, npc)) (hnx : mj_nx L m pc npc op a b ls st c π μ = some (pc', ls', st', π', μ')) (hRB : sd_RB hz ad dA D L xs s.heap (mj_maxl m) ls st c π μ H locs mls) (hk : ∀ H locs mls, sd_RB hz ad dA D L xs s.heap (mj_maxl m) ls' st' c π' μ' H locs mls → W p l e R s mid args below meth cd H locs cells slots Z (F0 mid pc' mls (st'.map (sd_v hz ad)))) : W p l e R s mid args below meth cd H locs cells slots Z (F0 mid pc mls (st.map (sd_v hz ad))) := by
  obtain ⟨hx, hb, hml, hown, hgw, hlocks, hret, hini, hK, hN, hE, hL35⟩ := hFE
  obtain ⟨hH, hS, hL, hLn, hls, hst, hok⟩ := hRB
  obtain ⟨rfl, q⟩ := mj_if (show (if len = 1 then some (2, (v.val : Int), 0, pc + len) else none) = some (op, a, b, npc) from htr)
  cases q
  obtain ⟨x, h1, q⟩ := n_2 hnx
  cases q
  rw [Int.toNat_natCast] at h1
  have hi : ls[v.val]? = some (.inl x) := mj_getD_some h1 (by intro q; cases q)
  have hm := hL.2.2 _ _ hi (by intro q; cases q)
  have hv := hls _ (List.mem_of_getElem? hi)
  exact lv_iload_n hx hb hd rfl hm (hk H locs mls ⟨hH, hS, hL, hLn, hls, List.forall_mem_cons.mpr ⟨hv, hst⟩, hok⟩)
set_option maxHeartbeats 2000000 in
theorem s_lload {v : Nat} (hFE : sd_FE hz ad dA D L xs p s mid args meth cd m) (hd : decode (mj_byt m) pc = .ok (.lload v, len)) (htr : mj_tr m pc (.lload v) len = some (op, a, b, npc)) (hnx : mj_nx L m pc npc op a b ls st c π μ = some (pc', ls', st', π', μ')) (hRB : sd_RB hz ad dA D L xs s.heap (mj_maxl m) ls st c π μ H locs mls) (hk : ∀ H locs mls, sd_RB hz ad dA D L xs s.heap (mj_maxl m) ls' st' c π' μ' H locs mls → W p l e R s mid args below meth cd H locs cells slots Z (F0 mid pc' mls (st'.map (sd_v hz ad)))) : W p l e R s mid args below meth cd H locs cells slots Z (F0 mid pc mls (st.map (sd_v hz ad))) := by
  obtain ⟨hx, hb, hml, hown, hgw, hlocks, hret, hini, hK, hN, hE, hL35⟩ := hFE
  obtain ⟨hH, hS, hL, hLn, hls, hst, hok⟩ := hRB
  obtain ⟨rfl, q⟩ := mj_if (show (if len = 2 then some (7, (v : Int), 0, pc + len) else none) = some (op, a, b, npc) from htr)
  cases q
  obtain ⟨x, h1, q⟩ := n_7 hnx
  cases q
  rw [Int.toNat_natCast] at h1
  have hi : ls[v]? = some (.inr (.inl x)) := mj_getD_some h1 (by intro q; cases q)
  have hm := hL.2.2 _ _ hi (by intro q; cases q)
  have hv := hls _ (List.mem_of_getElem? hi)
  exact lv_lload hx hb hd hm (hk H locs mls ⟨hH, hS, hL, hLn, hls, List.forall_mem_cons.mpr ⟨hv, hst⟩, hok⟩)
set_option maxHeartbeats 2000000 in
theorem s_lload_n {v : Fin 4} (hFE : sd_FE hz ad dA D L xs p s mid args meth cd m) (hd : decode (mj_byt m) pc = .ok (.lload_n v, len)) (htr : mj_tr m pc (.lload_n v) len = some (op, a, b, npc)) (hnx : mj_nx L m pc npc op a b ls st c π μ = some (pc', ls', st', π', μ')) (hRB : sd_RB hz ad dA D L xs s.heap (mj_maxl m) ls st c π μ H locs mls) (hk : ∀ H locs mls, sd_RB hz ad dA D L xs s.heap (mj_maxl m) ls' st' c π' μ' H locs mls → W p l e R s mid args below meth cd H locs cells slots Z (F0 mid pc' mls (st'.map (sd_v hz ad)))) : W p l e R s mid args below meth cd H locs cells slots Z (F0 mid pc mls (st.map (sd_v hz ad))) := by
  obtain ⟨hx, hb, hml, hown, hgw, hlocks, hret, hini, hK, hN, hE, hL35⟩ := hFE
  obtain ⟨hH, hS, hL, hLn, hls, hst, hok⟩ := hRB
  obtain ⟨rfl, q⟩ := mj_if (show (if len = 1 then some (7, (v.val : Int), 0, pc + len) else none) = some (op, a, b, npc) from htr)
  cases q
  obtain ⟨x, h1, q⟩ := n_7 hnx
  cases q
  rw [Int.toNat_natCast] at h1
  have hi : ls[v.val]? = some (.inr (.inl x)) := mj_getD_some h1 (by intro q; cases q)
  have hm := hL.2.2 _ _ hi (by intro q; cases q)
  have hv := hls _ (List.mem_of_getElem? hi)
  exact lv_lload_n hx hb hd rfl hm (hk H locs mls ⟨hH, hS, hL, hLn, hls, List.forall_mem_cons.mpr ⟨hv, hst⟩, hok⟩)
set_option maxHeartbeats 2000000 in
theorem s_aload {v : Nat} (hFE : sd_FE hz ad dA D L xs p s mid args meth cd m) (hd : decode (mj_byt m) pc = .ok (.aload v, len)) (htr : mj_tr m pc (.aload v) len = some (op, a, b, npc)) (hnx : mj_nx L m pc npc op a b ls st c π μ = some (pc', ls', st', π', μ')) (hRB : sd_RB hz ad dA D L xs s.heap (mj_maxl m) ls st c π μ H locs mls) (hk : ∀ H locs mls, sd_RB hz ad dA D L xs s.heap (mj_maxl m) ls' st' c π' μ' H locs mls → W p l e R s mid args below meth cd H locs cells slots Z (F0 mid pc' mls (st'.map (sd_v hz ad)))) : W p l e R s mid args below meth cd H locs cells slots Z (F0 mid pc mls (st.map (sd_v hz ad))) := by
  obtain ⟨hx, hb, hml, hown, hgw, hlocks, hret, hini, hK, hN, hE, hL35⟩ := hFE
  obtain ⟨hH, hS, hL, hLn, hls, hst, hok⟩ := hRB
  obtain ⟨rfl, q⟩ := mj_if (show (if len = 2 then some (6, (v : Int), 0, pc + len) else none) = some (op, a, b, npc) from htr)
  cases q
  obtain ⟨x, h1, q⟩ := n_6 hnx
  cases q
  rw [Int.toNat_natCast] at h1
  have hi : ls[v]? = some (.inr (.inr (x + 1))) := mj_getD_some h1 (by intro q; cases q)
  have hm := hL.2.2 _ _ hi (by intro q; cases q)
  have hv := hls _ (List.mem_of_getElem? hi)
  exact lv_aload hx hb hd hm (hk H locs mls ⟨hH, hS, hL, hLn, hls, List.forall_mem_cons.mpr ⟨hv, hst⟩, hok⟩)
set_option maxHeartbeats 2000000 in
theorem s_aload_n {v : Fin 4} (hFE : sd_FE hz ad dA D L xs p s mid args meth cd m) (hd : decode (mj_byt m) pc = .ok (.aload_n v, len)) (htr : mj_tr m pc (.aload_n v) len = some (op, a, b, npc)) (hnx : mj_nx L m pc npc op a b ls st c π μ = some (pc', ls', st', π', μ')) (hRB : sd_RB hz ad dA D L xs s.heap (mj_maxl m) ls st c π μ H locs mls) (hk : ∀ H locs mls, sd_RB hz ad dA D L xs s.heap (mj_maxl m) ls' st' c π' μ' H locs mls → W p l e R s mid args below meth cd H locs cells slots Z (F0 mid pc' mls (st'.map (sd_v hz ad)))) : W p l e R s mid args below meth cd H locs cells slots Z (F0 mid pc mls (st.map (sd_v hz ad))) := by
  obtain ⟨hx, hb, hml, hown, hgw, hlocks, hret, hini, hK, hN, hE, hL35⟩ := hFE
  obtain ⟨hH, hS, hL, hLn, hls, hst, hok⟩ := hRB
  obtain ⟨rfl, q⟩ := mj_if (show (if len = 1 then some (6, (v.val : Int), 0, pc + len) else none) = some (op, a, b, npc) from htr)
  cases q
  obtain ⟨x, h1, q⟩ := n_6 hnx
  cases q
  rw [Int.toNat_natCast] at h1
  have hi : ls[v.val]? = some (.inr (.inr (x + 1))) := mj_getD_some h1 (by intro q; cases q)
  have hm := hL.2.2 _ _ hi (by intro q; cases q)
  have hv := hls _ (List.mem_of_getElem? hi)
  exact lv_aload_n hx hb hd rfl hm (hk H locs mls ⟨hH, hS, hL, hLn, hls, List.forall_mem_cons.mpr ⟨hv, hst⟩, hok⟩)
set_option maxHeartbeats 2000000 in
theorem s_istore {v : Nat} (hFE : sd_FE hz ad dA D L xs p s mid args meth cd m) (hd : decode (mj_byt m) pc = .ok (.istore v, len)) (htr : mj_tr m pc (.istore v) len = some (op, a, b, npc)) (hnx : mj_nx L m pc npc op a b ls st c π μ = some (pc', ls', st', π', μ')) (hRB : sd_RB hz ad dA D L xs s.heap (mj_maxl m) ls st c π μ H locs mls) (hk : ∀ H locs mls, sd_RB hz ad dA D L xs s.heap (mj_maxl m) ls' st' c π' μ' H locs mls → W p l e R s mid args below meth cd H locs cells slots Z (F0 mid pc' mls (st'.map (sd_v hz ad)))) : W p l e R s mid args below meth cd H locs cells slots Z (F0 mid pc mls (st.map (sd_v hz ad))) := by
  obtain ⟨hx, hb, hml, hown, hgw, hlocks, hret, hini, hK, hN, hE, hL35⟩ := hFE
  obtain ⟨hH, hS, hL, hLn, hls, hst, hok⟩ := hRB
  obtain ⟨⟨rfl, hn⟩, q⟩ := mj_if (show (if len = 2 ∧ v < mj_maxl m then some (3, (v : Int), 0, pc + len) else none) = some (op, a, b, npc) from htr)
  cases q
  obtain ⟨x, st2, rfl, q⟩ := n_3 hnx
  cases q
  rw [Int.toNat_natCast] at hk
  obtain ⟨hv, hst2⟩ := List.forall_mem_cons.mp hst
  refine lv_istore hx hb hd (sd_L_has.mp hL) hn rfl (fun mls2 h2 => hk H locs mls2 ⟨hH, hS, sd_L_sto (v := .inl x) (by omega) h2, by rw [sd_sto_len]; exact hLn, fun w hw => ?_, hst2, hok⟩)
  rcases sd_sto_mem _ _ _ _ hw with rfl | rfl | h
  · exact hv
  · exact sd_okV_nul hok.1
  · exact hls _ h
set_option maxHeartbeats 2000000 in
theorem s_istore_n {v : Fin 4} (hFE : sd_FE hz ad dA D L xs p s mid args meth cd m) (hd : decode (mj_byt m) pc = .ok (.istore_n v, len)) (htr : mj_tr m pc (.istore_n v) len = some (op, a, b, npc)) (hnx : mj_nx L m pc npc op a b ls st c π μ = some (pc', ls', st', π', μ')) (hRB : sd_RB hz ad dA D L xs s.heap (mj_maxl m) ls st c π μ H locs mls) (hk : ∀ H locs mls, sd_RB hz ad dA D L xs s.heap (mj_maxl m) ls' st' c π' μ' H locs mls → W p l e R s mid args below meth cd H locs cells slots Z (F0 mid pc' mls (st'.map (sd_v hz ad)))) : W p l e R s mid args below meth cd H locs cells slots Z (F0 mid pc mls (st.map (sd_v hz ad))) := by
  obtain ⟨hx, hb, hml, hown, hgw, hlocks, hret, hini, hK, hN, hE, hL35⟩ := hFE
  obtain ⟨hH, hS, hL, hLn, hls, hst, hok⟩ := hRB
  obtain ⟨⟨rfl, hn⟩, q⟩ := mj_if (show (if len = 1 ∧ v.val < mj_maxl m then some (3, (v.val : Int), 0, pc + len) else none) = some (op, a, b, npc) from htr)
  cases q
  obtain ⟨x, st2, rfl, q⟩ := n_3 hnx
  cases q
  rw [Int.toNat_natCast] at hk
  obtain ⟨hv, hst2⟩ := List.forall_mem_cons.mp hst
  refine lv_istore_n hx hb hd rfl (sd_L_has.mp hL) hn rfl (fun mls2 h2 => hk H locs mls2 ⟨hH, hS, sd_L_sto (v := .inl x) (by omega) h2, by rw [sd_sto_len]; exact hLn, fun w hw => ?_, hst2, hok⟩)
  rcases sd_sto_mem _ _ _ _ hw with rfl | rfl | h
  · exact hv
  · exact sd_okV_nul hok.1
  · exact hls _ h
set_option maxHeartbeats 2000000 in
theorem s_astore {v : Nat} (hFE : sd_FE hz ad dA D L xs p s mid args meth cd m) (hd : decode (mj_byt m) pc = .ok (.astore v, len)) (htr : mj_tr m pc (.astore v) len = some (op, a, b, npc)) (hnx : mj_nx L m pc npc op a b ls st c π μ = some (pc', ls', st', π', μ')) (hRB : sd_RB hz ad dA D L xs s.heap (mj_maxl m) ls st c π μ H locs mls) (hk : ∀ H locs mls, sd_RB hz ad dA D L xs s.heap (mj_maxl m) ls' st' c π' μ' H locs mls → W p l e R s mid args below meth cd H locs cells slots Z (F0 mid pc' mls (st'.map (sd_v hz ad)))) : W p l e R s mid args below meth cd H locs cells slots Z (F0 mid pc mls (st.map (sd_v hz ad))) := by
  obtain ⟨hx, hb, hml, hown, hgw, hlocks, hret, hini, hK, hN, hE, hL35⟩ := hFE
  obtain ⟨hH, hS, hL, hLn, hls, hst, hok⟩ := hRB
  obtain ⟨⟨rfl, hn⟩, q⟩ := mj_if (show (if len = 2 ∧ v < mj_maxl m then some (8, (v : Int), 0, pc + len) else none) = some (op, a, b, npc) from htr)
  cases q
  obtain ⟨k, st2, rfl, q⟩ := n_8 hnx
  cases q
  rw [Int.toNat_natCast] at hk
  obtain ⟨hv, hst2⟩ := List.forall_mem_cons.mp hst
  refine lv_astore hx hb hd (sd_L_has.mp hL) hn rfl (fun mls2 h2 => hk H locs mls2 ⟨hH, hS, sd_L_sto (v := .inr (.inr (k + 1))) (by omega) h2, by rw [sd_sto_len]; exact hLn, fun w hw => ?_, hst2, hok⟩)
  rcases sd_sto_mem _ _ _ _ hw with rfl | rfl | h
  · exact hv
  · exact sd_okV_nul hok.1
  · exact hls _ h
set_option maxHeartbeats 2000000 in
theorem s_astore_n {v : Fin 4} (hFE : sd_FE hz ad dA D L xs p s mid args meth cd m) (hd : decode (mj_byt m) pc = .ok (.astore_n v, len)) (htr : mj_tr m pc (.astore_n v) len = some (op, a, b, npc)) (hnx : mj_nx L m pc npc op a b ls st c π μ = some (pc', ls', st', π', μ')) (hRB : sd_RB hz ad dA D L xs s.heap (mj_maxl m) ls st c π μ H locs mls) (hk : ∀ H locs mls, sd_RB hz ad dA D L xs s.heap (mj_maxl m) ls' st' c π' μ' H locs mls → W p l e R s mid args below meth cd H locs cells slots Z (F0 mid pc' mls (st'.map (sd_v hz ad)))) : W p l e R s mid args below meth cd H locs cells slots Z (F0 mid pc mls (st.map (sd_v hz ad))) := by
  obtain ⟨hx, hb, hml, hown, hgw, hlocks, hret, hini, hK, hN, hE, hL35⟩ := hFE
  obtain ⟨hH, hS, hL, hLn, hls, hst, hok⟩ := hRB
  obtain ⟨⟨rfl, hn⟩, q⟩ := mj_if (show (if len = 1 ∧ v.val < mj_maxl m then some (8, (v.val : Int), 0, pc + len) else none) = some (op, a, b, npc) from htr)
  cases q
  obtain ⟨k, st2, rfl, q⟩ := n_8 hnx
  cases q
  rw [Int.toNat_natCast] at hk
  obtain ⟨hv, hst2⟩ := List.forall_mem_cons.mp hst
  refine lv_astore_n hx hb hd rfl (sd_L_has.mp hL) hn rfl (fun mls2 h2 => hk H locs mls2 ⟨hH, hS, sd_L_sto (v := .inr (.inr (k + 1))) (by omega) h2, by rw [sd_sto_len]; exact hLn, fun w hw => ?_, hst2, hok⟩)
  rcases sd_sto_mem _ _ _ _ hw with rfl | rfl | h
  · exact hv
  · exact sd_okV_nul hok.1
  · exact hls _ h
set_option maxHeartbeats 2000000 in
theorem s_lstore {v : Nat} (hFE : sd_FE hz ad dA D L xs p s mid args meth cd m) (hd : decode (mj_byt m) pc = .ok (.lstore v, len)) (htr : mj_tr m pc (.lstore v) len = some (op, a, b, npc)) (hnx : mj_nx L m pc npc op a b ls st c π μ = some (pc', ls', st', π', μ')) (hRB : sd_RB hz ad dA D L xs s.heap (mj_maxl m) ls st c π μ H locs mls) (hk : ∀ H locs mls, sd_RB hz ad dA D L xs s.heap (mj_maxl m) ls' st' c π' μ' H locs mls → W p l e R s mid args below meth cd H locs cells slots Z (F0 mid pc' mls (st'.map (sd_v hz ad)))) : W p l e R s mid args below meth cd H locs cells slots Z (F0 mid pc mls (st.map (sd_v hz ad))) := by
  obtain ⟨hx, hb, hml, hown, hgw, hlocks, hret, hini, hK, hN, hE, hL35⟩ := hFE
  obtain ⟨hH, hS, hL, hLn, hls, hst, hok⟩ := hRB
  obtain ⟨⟨rfl, hn⟩, q⟩ := mj_if (show (if len = 2 ∧ v + 1 < mj_maxl m then some (4, (v : Int), 0, pc + len) else none) = some (op, a, b, npc) from htr)
  cases q
  obtain ⟨x, st2, rfl, q⟩ := n_4 hnx
  cases q
  rw [Int.toNat_natCast] at hk
  obtain ⟨hv, hst2⟩ := List.forall_mem_cons.mp hst
  refine lv_lstore hx hb hd (sd_L_has.mp hL) hn rfl (fun mls2 h2 => hk H locs mls2 ⟨hH, hS, sd_L_sto2 (v := .inr (.inl x)) (by omega) h2, by unfold mj_sto2; rw [List.length_set, sd_sto_len]; exact hLn, fun w hw => ?_, hst2, hok⟩)
  unfold mj_sto2 at hw
  rcases List.mem_or_eq_of_mem_set hw with hw | rfl
  · rcases sd_sto_mem _ _ _ _ hw with rfl | rfl | h
    · exact hv
    · exact sd_okV_nul hok.1
    · exact hls _ h
  · exact sd_okV_nul hok.1
set_option maxHeartbeats 2000000 in
theorem s_iinc {v : Nat} {n : Int} (hFE : sd_FE hz ad dA D L xs p s mid args meth cd m) (hd : decode (mj_byt m) pc = .ok (.iinc v n, len)) (htr : mj_tr m pc (.iinc v n) len = some (op, a, b, npc)) (hnx : mj_nx L m pc npc op a b ls st c π μ = some (pc', ls', st', π', μ')) (hRB : sd_RB hz ad dA D L xs s.heap (mj_maxl m) ls st c π μ H locs mls) (hk : ∀ H locs mls, sd_RB hz ad dA D L xs s.heap (mj_maxl m) ls' st' c π' μ' H locs mls → W p l e R s mid args below meth cd H locs cells slots Z (F0 mid pc' mls (st'.map (sd_v hz ad)))) : W p l e R s mid args below meth cd H locs cells slots Z (F0 mid pc mls (st.map (sd_v hz ad))) := by
  obtain ⟨hx, hb, hml, hown, hgw, hlocks, hret, hini, hK, hN, hE, hL35⟩ := hFE
  obtain ⟨hH, hS, hL, hLn, hls, hst, hok⟩ := hRB
  obtain ⟨rfl, q⟩ := mj_if (show (if len = 3 then some (5, (v : Int), n, pc + len) else none) = some (op, a, b, npc) from htr)
  cases q
  obtain ⟨x, h1, q⟩ := n_5 hnx
  cases q
  rw [Int.toNat_natCast] at h1 hk
  have hi : ls[v]? = some (.inl x) := mj_getD_some h1 (by intro q; cases q)
  have hvl : v < ls.length := (List.getElem?_eq_some_iff.mp hi).1
  obtain ⟨k, hk2⟩ := List.getElem?_of_mem (sd_lv_mem (hz := hz) (ad := ad).mpr ⟨_, hi, (by intro q; cases q), rfl⟩)
  refine lv_iinc hx hb hd (sd_L_has.mp hL) hk2 (o_add x b) (by omega) rfl (fun mls2 h2 => hk H locs mls2 ⟨hH, hS, sd_L_sto (v := .inl (mj_w (x + b))) hvl h2, by rw [sd_sto_len]; exact hLn, fun w hw => ?_, hst, hok⟩)
  rcases sd_sto_mem _ _ _ _ hw with rfl | rfl | h
  · exact o_wr _
  · exact sd_okV_nul hok.1
  · exact hls _ h
set_option maxHeartbeats 2000000 in
theorem s_iadd (hFE : sd_FE hz ad dA D L xs p s mid args meth cd m) (hd : decode (mj_byt m) pc = .ok (.iadd, len)) (htr : mj_tr m pc (.iadd) len = some (op, a, b, npc)) (hnx : mj_nx L m pc npc op a b ls st c π μ = some (pc', ls', st', π', μ')) (hRB : sd_RB hz ad dA D L xs s.heap (mj_maxl m) ls st c π μ H locs mls) (hk : ∀ H locs mls, sd_RB hz ad dA D L xs s.heap (mj_maxl m) ls' st' c π' μ' H locs mls → W p l e R s mid args below meth cd H locs cells slots Z (F0 mid pc' mls (st'.map (sd_v hz ad)))) : W p l e R s mid args below meth cd H locs cells slots Z (F0 mid pc mls (st.map (sd_v hz ad))) := by
  obtain ⟨hx, hb, hml, hown, hgw, hlocks, hret, hini, hK, hN, hE, hL35⟩ := hFE
  obtain ⟨hH, hS, hL, hLn, hls, hst, hok⟩ := hRB
  obtain ⟨rfl, q⟩ := mj_if (show (if len = 1 then some (10, 0, 0, pc + len) else none) = some (op, a, b, npc) from htr)
  cases q
  obtain ⟨y, x, st2, rfl, q⟩ := n_10 hnx
  cases q
  obtain ⟨hy, hst1⟩ := List.forall_mem_cons.mp hst
  obtain ⟨hxx, hst2⟩ := List.forall_mem_cons.mp hst1
  have h := (hk H locs mls ⟨hH, hS, hL, hLn, hls, List.forall_mem_cons.mpr ⟨o_wr _, hst2⟩, hok⟩)
  refine lv_iadd hx hb hd ?_
  rw [o_add]
  exact h
set_option maxHeartbeats 2000000 in
theorem s_isub (hFE : sd_FE hz ad dA D L xs p s mid args meth cd m) (hd : decode (mj_byt m) pc = .ok (.isub, len)) (htr : mj_tr m pc (.isub) len = some (op, a, b, npc)) (hnx : mj_nx L m pc npc op a b ls st c π μ = some (pc', ls', st', π', μ')) (hRB : sd_RB hz ad dA D L xs s.heap (mj_maxl m) ls st c π μ H locs mls) (hk : ∀ H locs mls, sd_RB hz ad dA D L xs s.heap (mj_maxl m) ls' st' c π' μ' H locs mls → W p l e R s mid args below meth cd H locs cells slots Z (F0 mid pc' mls (st'.map (sd_v hz ad)))) : W p l e R s mid args below meth cd H locs cells slots Z (F0 mid pc mls (st.map (sd_v hz ad))) := by
  obtain ⟨hx, hb, hml, hown, hgw, hlocks, hret, hini, hK, hN, hE, hL35⟩ := hFE
  obtain ⟨hH, hS, hL, hLn, hls, hst, hok⟩ := hRB
  obtain ⟨rfl, q⟩ := mj_if (show (if len = 1 then some (11, 0, 0, pc + len) else none) = some (op, a, b, npc) from htr)
  cases q
  obtain ⟨y, x, st2, rfl, q⟩ := n_11 hnx
  cases q
  obtain ⟨hy, hst1⟩ := List.forall_mem_cons.mp hst
  obtain ⟨hxx, hst2⟩ := List.forall_mem_cons.mp hst1
  have h := (hk H locs mls ⟨hH, hS, hL, hLn, hls, List.forall_mem_cons.mpr ⟨o_wr _, hst2⟩, hok⟩)
  refine lv_isub hx hb hd ?_
  rw [o_sub]
  exact h
set_option maxHeartbeats 2000000 in
theorem s_imul (hFE : sd_FE hz ad dA D L xs p s mid args meth cd m) (hd : decode (mj_byt m) pc = .ok (.imul, len)) (htr : mj_tr m pc (.imul) len = some (op, a, b, npc)) (hnx : mj_nx L m pc npc op a b ls st c π μ = some (pc', ls', st', π', μ')) (hRB : sd_RB hz ad dA D L xs s.heap (mj_maxl m) ls st c π μ H locs mls) (hk : ∀ H locs mls, sd_RB hz ad dA D L xs s.heap (mj_maxl m) ls' st' c π' μ' H locs mls → W p l e R s mid args below meth cd H locs cells slots Z (F0 mid pc' mls (st'.map (sd_v hz ad)))) : W p l e R s mid args below meth cd H locs cells slots Z (F0 mid pc mls (st.map (sd_v hz ad))) := by
  obtain ⟨hx, hb, hml, hown, hgw, hlocks, hret, hini, hK, hN, hE, hL35⟩ := hFE
  obtain ⟨hH, hS, hL, hLn, hls, hst, hok⟩ := hRB
  obtain ⟨rfl, q⟩ := mj_if (show (if len = 1 then some (12, 0, 0, pc + len) else none) = some (op, a, b, npc) from htr)
  cases q
  obtain ⟨y, x, st2, rfl, q⟩ := n_12 hnx
  cases q
  obtain ⟨hy, hst1⟩ := List.forall_mem_cons.mp hst
  obtain ⟨hxx, hst2⟩ := List.forall_mem_cons.mp hst1
  have h := (hk H locs mls ⟨hH, hS, hL, hLn, hls, List.forall_mem_cons.mpr ⟨o_wr _, hst2⟩, hok⟩)
  refine lv_imul hx hb hd ?_
  rw [o_mul]
  exact h
set_option maxHeartbeats 2000000 in
theorem s_iand (hFE : sd_FE hz ad dA D L xs p s mid args meth cd m) (hd : decode (mj_byt m) pc = .ok (.iand, len)) (htr : mj_tr m pc (.iand) len = some (op, a, b, npc)) (hnx : mj_nx L m pc npc op a b ls st c π μ = some (pc', ls', st', π', μ')) (hRB : sd_RB hz ad dA D L xs s.heap (mj_maxl m) ls st c π μ H locs mls) (hk : ∀ H locs mls, sd_RB hz ad dA D L xs s.heap (mj_maxl m) ls' st' c π' μ' H locs mls → W p l e R s mid args below meth cd H locs cells slots Z (F0 mid pc' mls (st'.map (sd_v hz ad)))) : W p l e R s mid args below meth cd H locs cells slots Z (F0 mid pc mls (st.map (sd_v hz ad))) := by
  obtain ⟨hx, hb, hml, hown, hgw, hlocks, hret, hini, hK, hN, hE, hL35⟩ := hFE
  obtain ⟨hH, hS, hL, hLn, hls, hst, hok⟩ := hRB
  obtain ⟨rfl, q⟩ := mj_if (show (if len = 1 then some (15, 0, 0, pc + len) else none) = some (op, a, b, npc) from htr)
  cases q
  obtain ⟨y, x, st2, rfl, q⟩ := n_15 hnx
  cases q
  obtain ⟨hy, hst1⟩ := List.forall_mem_cons.mp hst
  obtain ⟨hxx, hst2⟩ := List.forall_mem_cons.mp hst1
  have h := (hk H locs mls ⟨hH, hS, hL, hLn, hls, List.forall_mem_cons.mpr ⟨o_r _, hst2⟩, hok⟩)
  refine lv_iand hx hb hd ?_
  have e : Int32.ofInt (mj_and x y) = _ := Int32.ofInt_toInt _
  rw [← e]
  exact h
set_option maxHeartbeats 2000000 in
theorem s_ior (hFE : sd_FE hz ad dA D L xs p s mid args meth cd m) (hd : decode (mj_byt m) pc = .ok (.ior, len)) (htr : mj_tr m pc (.ior) len = some (op, a, b, npc)) (hnx : mj_nx L m pc npc op a b ls st c π μ = some (pc', ls', st', π', μ')) (hRB : sd_RB hz ad dA D L xs s.heap (mj_maxl m) ls st c π μ H locs mls) (hk : ∀ H locs mls, sd_RB hz ad dA D L xs s.heap (mj_maxl m) ls' st' c π' μ' H locs mls → W p l e R s mid args below meth cd H locs cells slots Z (F0 mid pc' mls (st'.map (sd_v hz ad)))) : W p l e R s mid args below meth cd H locs cells slots Z (F0 mid pc mls (st.map (sd_v hz ad))) := by
  obtain ⟨hx, hb, hml, hown, hgw, hlocks, hret, hini, hK, hN, hE, hL35⟩ := hFE
  obtain ⟨hH, hS, hL, hLn, hls, hst, hok⟩ := hRB
  obtain ⟨rfl, q⟩ := mj_if (show (if len = 1 then some (16, 0, 0, pc + len) else none) = some (op, a, b, npc) from htr)
  cases q
  obtain ⟨y, x, st2, rfl, q⟩ := n_16 hnx
  cases q
  obtain ⟨hy, hst1⟩ := List.forall_mem_cons.mp hst
  obtain ⟨hxx, hst2⟩ := List.forall_mem_cons.mp hst1
  have h := (hk H locs mls ⟨hH, hS, hL, hLn, hls, List.forall_mem_cons.mpr ⟨o_r _, hst2⟩, hok⟩)
  refine lv_ior hx hb hd ?_
  have e : Int32.ofInt (mj_or x y) = _ := Int32.ofInt_toInt _
  rw [← e]
  exact h
set_option maxHeartbeats 2000000 in
theorem s_ixor (hFE : sd_FE hz ad dA D L xs p s mid args meth cd m) (hd : decode (mj_byt m) pc = .ok (.ixor, len)) (htr : mj_tr m pc (.ixor) len = some (op, a, b, npc)) (hnx : mj_nx L m pc npc op a b ls st c π μ = some (pc', ls', st', π', μ')) (hRB : sd_RB hz ad dA D L xs s.heap (mj_maxl m) ls st c π μ H locs mls) (hk : ∀ H locs mls, sd_RB hz ad dA D L xs s.heap (mj_maxl m) ls' st' c π' μ' H locs mls → W p l e R s mid args below meth cd H locs cells slots Z (F0 mid pc' mls (st'.map (sd_v hz ad)))) : W p l e R s mid args below meth cd H locs cells slots Z (F0 mid pc mls (st.map (sd_v hz ad))) := by
  obtain ⟨hx, hb, hml, hown, hgw, hlocks, hret, hini, hK, hN, hE, hL35⟩ := hFE
  obtain ⟨hH, hS, hL, hLn, hls, hst, hok⟩ := hRB
  obtain ⟨rfl, q⟩ := mj_if (show (if len = 1 then some (17, 0, 0, pc + len) else none) = some (op, a, b, npc) from htr)
  cases q
  obtain ⟨y, x, st2, rfl, q⟩ := n_17 hnx
  cases q
  obtain ⟨hy, hst1⟩ := List.forall_mem_cons.mp hst
  obtain ⟨hxx, hst2⟩ := List.forall_mem_cons.mp hst1
  have h := (hk H locs mls ⟨hH, hS, hL, hLn, hls, List.forall_mem_cons.mpr ⟨o_r _, hst2⟩, hok⟩)
  refine lv_ixor hx hb hd ?_
  have e : Int32.ofInt (mj_xor x y) = _ := Int32.ofInt_toInt _
  rw [← e]
  exact h
set_option maxHeartbeats 2000000 in
theorem s_ishl (hFE : sd_FE hz ad dA D L xs p s mid args meth cd m) (hd : decode (mj_byt m) pc = .ok (.ishl, len)) (htr : mj_tr m pc (.ishl) len = some (op, a, b, npc)) (hnx : mj_nx L m pc npc op a b ls st c π μ = some (pc', ls', st', π', μ')) (hRB : sd_RB hz ad dA D L xs s.heap (mj_maxl m) ls st c π μ H locs mls) (hk : ∀ H locs mls, sd_RB hz ad dA D L xs s.heap (mj_maxl m) ls' st' c π' μ' H locs mls → W p l e R s mid args below meth cd H locs cells slots Z (F0 mid pc' mls (st'.map (sd_v hz ad)))) : W p l e R s mid args below meth cd H locs cells slots Z (F0 mid pc mls (st.map (sd_v hz ad))) := by
  obtain ⟨hx, hb, hml, hown, hgw, hlocks, hret, hini, hK, hN, hE, hL35⟩ := hFE
  obtain ⟨hH, hS, hL, hLn, hls, hst, hok⟩ := hRB
  obtain ⟨rfl, q⟩ := mj_if (show (if len = 1 then some (18, 0, 0, pc + len) else none) = some (op, a, b, npc) from htr)
  cases q
  obtain ⟨y, x, st2, rfl, q⟩ := n_18 hnx
  cases q
  obtain ⟨hy, hst1⟩ := List.forall_mem_cons.mp hst
  obtain ⟨hxx, hst2⟩ := List.forall_mem_cons.mp hst1
  have h := (hk H locs mls ⟨hH, hS, hL, hLn, hls, List.forall_mem_cons.mpr ⟨o_r _, hst2⟩, hok⟩)
  refine lv_ishl hx hb hd ?_
  have e : Int32.ofInt (mj_shl x y) = _ := Int32.ofInt_toInt _
  rw [← e]
  exact h
set_option maxHeartbeats 2000000 in
theorem s_ishr (hFE : sd_FE hz ad dA D L xs p s mid args meth cd m) (hd : decode (mj_byt m) pc = .ok (.ishr, len)) (htr : mj_tr m pc (.ishr) len = some (op, a, b, npc)) (hnx : mj_nx L m pc npc op a b ls st c π μ = some (pc', ls', st', π', μ')) (hRB : sd_RB hz ad dA D L xs s.heap (mj_maxl m) ls st c π μ H locs mls) (hk : ∀ H locs mls, sd_RB hz ad dA D L xs s.heap (mj_maxl m) ls' st' c π' μ' H locs mls → W p l e R s mid args below meth cd H locs cells slots Z (F0 mid pc' mls (st'.map (sd_v hz ad)))) : W p l e R s mid args below meth cd H locs cells slots Z (F0 mid pc mls (st.map (sd_v hz ad))) := by
  obtain ⟨hx, hb, hml, hown, hgw, hlocks, hret, hini, hK, hN, hE, hL35⟩ := hFE
  obtain ⟨hH, hS, hL, hLn, hls, hst, hok⟩ := hRB
  obtain ⟨rfl, q⟩ := mj_if (show (if len = 1 then some (19, 0, 0, pc + len) else none) = some (op, a, b, npc) from htr)
  cases q
  obtain ⟨y, x, st2, rfl, q⟩ := n_19 hnx
  cases q
  obtain ⟨hy, hst1⟩ := List.forall_mem_cons.mp hst
  obtain ⟨hxx, hst2⟩ := List.forall_mem_cons.mp hst1
  have h := (hk H locs mls ⟨hH, hS, hL, hLn, hls, List.forall_mem_cons.mpr ⟨o_r _, hst2⟩, hok⟩)
  refine lv_ishr hx hb hd ?_
  have e : Int32.ofInt (mj_shr x y) = _ := Int32.ofInt_toInt _
  rw [← e]
  exact h
set_option maxHeartbeats 2000000 in
theorem s_iushr (hFE : sd_FE hz ad dA D L xs p s mid args meth cd m) (hd : decode (mj_byt m) pc = .ok (.iushr, len)) (htr : mj_tr m pc (.iushr) len = some (op, a, b, npc)) (hnx : mj_nx L m pc npc op a b ls st c π μ = some (pc', ls', st', π', μ')) (hRB : sd_RB hz ad dA D L xs s.heap (mj_maxl m) ls st c π μ H locs mls) (hk : ∀ H locs mls, sd_RB hz ad dA D L xs s.heap (mj_maxl m) ls' st' c π' μ' H locs mls → W p l e R s mid args below meth cd H locs cells slots Z (F0 mid pc' mls (st'.map (sd_v hz ad)))) : W p l e R s mid args below meth cd H locs cells slots Z (F0 mid pc mls (st.map (sd_v hz ad))) := by
  obtain ⟨hx, hb, hml, hown, hgw, hlocks, hret, hini, hK, hN, hE, hL35⟩ := hFE
  obtain ⟨hH, hS, hL, hLn, hls, hst, hok⟩ := hRB
  obtain ⟨rfl, q⟩ := mj_if (show (if len = 1 then some (20, 0, 0, pc + len) else none) = some (op, a, b, npc) from htr)
  cases q
  obtain ⟨y, x, st2, rfl, q⟩ := n_20 hnx
  cases q
  obtain ⟨hy, hst1⟩ := List.forall_mem_cons.mp hst
  obtain ⟨hxx, hst2⟩ := List.forall_mem_cons.mp hst1
  have h := (hk H locs mls ⟨hH, hS, hL, hLn, hls, List.forall_mem_cons.mpr ⟨o_r _, hst2⟩, hok⟩)
  have e : Int32.ofInt (mj_ushr x y) = _ := Int32.ofInt_toInt _
  exact lv_iushr hx hb hd e.symm h
set_option maxHeartbeats 2000000 in
theorem s_idiv (hFE : sd_FE hz ad dA D L xs p s mid args meth cd m) (hd : decode (mj_byt m) pc = .ok (.idiv, len)) (htr : mj_tr m pc (.idiv) len = some (op, a, b, npc)) (hnx : mj_nx L m pc npc op a b ls st c π μ = some (pc', ls', st', π', μ')) (hRB : sd_RB hz ad dA D L xs s.heap (mj_maxl m) ls st c π μ H locs mls) (hk : ∀ H locs mls, sd_RB hz ad dA D L xs s.heap (mj_maxl m) ls' st' c π' μ' H locs mls → W p l e R s mid args below meth cd H locs cells slots Z (F0 mid pc' mls (st'.map (sd_v hz ad)))) : W p l e R s mid args below meth cd H locs cells slots Z (F0 mid pc mls (st.map (sd_v hz ad))) := by
  obtain ⟨hx, hb, hml, hown, hgw, hlocks, hret, hini, hK, hN, hE, hL35⟩ := hFE
  obtain ⟨hH, hS, hL, hLn, hls, hst, hok⟩ := hRB
  obtain ⟨rfl, q⟩ := mj_if (show (if len = 1 then some (13, 0, 0, pc + len) else none) = some (op, a, b, npc) from htr)
  cases q
  obtain ⟨y, x, st2, rfl, hne, q⟩ := n_13 hnx
  cases q
  obtain ⟨hy, hst1⟩ := List.forall_mem_cons.mp hst
  obtain ⟨hxx, hst2⟩ := List.forall_mem_cons.mp hst1
  have h := (hk H locs mls ⟨hH, hS, hL, hLn, hls, List.forall_mem_cons.mpr ⟨o_wr _, hst2⟩, hok⟩)
  refine lv_idiv hx hb hd (by rw [o_i0, o_eq hy o_z]; exact hne) ?_
  rw [o_div hxx hy]
  exact h
set_option maxHeartbeats 2000000 in
theorem s_irem (hFE : sd_FE hz ad dA D L xs p s mid args meth cd m) (hd : decode (mj_byt m) pc = .ok (.irem, len)) (htr : mj_tr m pc (.irem) len = some (op, a, b, npc)) (hnx : mj_nx L m pc npc op a b ls st c π μ = some (pc', ls', st', π', μ')) (hRB : sd_RB hz ad dA D L xs s.heap (mj_maxl m) ls st c π μ H locs mls) (hk : ∀ H locs mls, sd_RB hz ad dA D L xs s.heap (mj_maxl m) ls' st' c π' μ' H locs mls → W p l e R s mid args below meth cd H locs cells slots Z (F0 mid pc' mls (st'.map (sd_v hz ad)))) : W p l e R s mid args below meth cd H locs cells slots Z (F0 mid pc mls (st.map (sd_v hz ad))) := by
  obtain ⟨hx, hb, hml, hown, hgw, hlocks, hret, hini, hK, hN, hE, hL35⟩ := hFE
  obtain ⟨hH, hS, hL, hLn, hls, hst, hok⟩ := hRB
  obtain ⟨rfl, q⟩ := mj_if (show (if len = 1 then some (14, 0, 0, pc + len) else none) = some (op, a, b, npc) from htr)
  cases q
  obtain ⟨y, x, st2, rfl, hne, q⟩ := n_14 hnx
  cases q
  obtain ⟨hy, hst1⟩ := List.forall_mem_cons.mp hst
  obtain ⟨hxx, hst2⟩ := List.forall_mem_cons.mp hst1
  have h := (hk H locs mls ⟨hH, hS, hL, hLn, hls, List.forall_mem_cons.mpr ⟨(o_rem hxx hy).2, hst2⟩, hok⟩)
  refine lv_irem hx hb hd (by rw [o_i0, o_eq hy o_z]; exact hne) ?_
  rw [(o_rem hxx hy).1]
  exact h
set_option maxHeartbeats 2000000 in
theorem s_ineg (hFE : sd_FE hz ad dA D L xs p s mid args meth cd m) (hd : decode (mj_byt m) pc = .ok (.ineg, len)) (htr : mj_tr m pc (.ineg) len = some (op, a, b, npc)) (hnx : mj_nx L m pc npc op a b ls st c π μ = some (pc', ls', st', π', μ')) (hRB : sd_RB hz ad dA D L xs s.heap (mj_maxl m) ls st c π μ H locs mls) (hk : ∀ H locs mls, sd_RB hz ad dA D L xs s.heap (mj_maxl m) ls' st' c π' μ' H locs mls → W p l e R s mid args below meth cd H locs cells slots Z (F0 mid pc' mls (st'.map (sd_v hz ad)))) : W p l e R s mid args below meth cd H locs cells slots Z (F0 mid pc mls (st.map (sd_v hz ad))) := by
  obtain ⟨hx, hb, hml, hown, hgw, hlocks, hret, hini, hK, hN, hE, hL35⟩ := hFE
  obtain ⟨hH, hS, hL, hLn, hls, hst, hok⟩ := hRB
  obtain ⟨rfl, q⟩ := mj_if (show (if len = 1 then some (21, 0, 0, pc + len) else none) = some (op, a, b, npc) from htr)
  cases q
  obtain ⟨x, st2, rfl, q⟩ := n_21 hnx
  cases q
  obtain ⟨hxx, hst2⟩ := List.forall_mem_cons.mp hst
  have h := (hk H locs mls ⟨hH, hS, hL, hLn, hls, List.forall_mem_cons.mpr ⟨o_wr _, hst2⟩, hok⟩)
  refine lv_ineg hx hb hd ?_
  rw [o_neg]
  exact h
set_option maxHeartbeats 2000000 in
theorem s_i2l (hFE : sd_FE hz ad dA D L xs p s mid args meth cd m) (hd : decode (mj_byt m) pc = .ok (.i2l, len)) (htr : mj_tr m pc (.i2l) len = some (op, a, b, npc)) (hnx : mj_nx L m pc npc op a b ls st c π μ = some (pc', ls', st', π', μ')) (hRB : sd_RB hz ad dA D L xs s.heap (mj_maxl m) ls st c π μ H locs mls) (hk : ∀ H locs mls, sd_RB hz ad dA D L xs s.heap (mj_maxl m) ls' st' c π' μ' H locs mls → W p l e R s mid args below meth cd H locs cells slots Z (F0 mid pc' mls (st'.map (sd_v hz ad)))) : W p l e R s mid args below meth cd H locs cells slots Z (F0 mid pc mls (st.map (sd_v hz ad))) := by
  obtain ⟨hx, hb, hml, hown, hgw, hlocks, hret, hini, hK, hN, hE, hL35⟩ := hFE
  obtain ⟨hH, hS, hL, hLn, hls, hst, hok⟩ := hRB
  obtain ⟨rfl, q⟩ := mj_if (show (if len = 1 then some (22, 0, 0, pc + len) else none) = some (op, a, b, npc) from htr)
  cases q
  obtain ⟨x, st2, rfl, q⟩ := n_22 hnx
  cases q
  obtain ⟨hxx, hst2⟩ := List.forall_mem_cons.mp hst
  have h := (hk H locs mls ⟨hH, hS, hL, hLn, hls, List.forall_mem_cons.mpr ⟨⟨by have := hxx.1; omega, by have := hxx.2; omega⟩, hst2⟩, hok⟩)
  exact lv_i2l hx hb hd (o_i2l hxx) h
set_option maxHeartbeats 2000000 in
theorem s_l2i (hFE : sd_FE hz ad dA D L xs p s mid args meth cd m) (hd : decode (mj_byt m) pc = .ok (.l2i, len)) (htr : mj_tr m pc (.l2i) len = some (op, a, b, npc)) (hnx : mj_nx L m pc npc op a b ls st c π μ = some (pc', ls', st', π', μ')) (hRB : sd_RB hz ad dA D L xs s.heap (mj_maxl m) ls st c π μ H locs mls) (hk : ∀ H locs mls, sd_RB hz ad dA D L xs s.heap (mj_maxl m) ls' st' c π' μ' H locs mls → W p l e R s mid args below meth cd H locs cells slots Z (F0 mid pc' mls (st'.map (sd_v hz ad)))) : W p l e R s mid args below meth cd H locs cells slots Z (F0 mid pc mls (st.map (sd_v hz ad))) := by
  obtain ⟨hx, hb, hml, hown, hgw, hlocks, hret, hini, hK, hN, hE, hL35⟩ := hFE
  obtain ⟨hH, hS, hL, hLn, hls, hst, hok⟩ := hRB
  obtain ⟨rfl, q⟩ := mj_if (show (if len = 1 then some (23, 0, 0, pc + len) else none) = some (op, a, b, npc) from htr)
  cases q
  obtain ⟨x, st2, rfl, q⟩ := n_23 hnx
  cases q
  obtain ⟨hxx, hst2⟩ := List.forall_mem_cons.mp hst
  have h := (hk H locs mls ⟨hH, hS, hL, hLn, hls, List.forall_mem_cons.mpr ⟨o_wr _, hst2⟩, hok⟩)
  exact lv_l2i hx hb hd (o_l2i x) h
set_option maxHeartbeats 2000000 in
theorem s_i2b (hFE : sd_FE hz ad dA D L xs p s mid args meth cd m) (hd : decode (mj_byt m) pc = .ok (.i2b, len)) (htr : mj_tr m pc (.i2b) len = some (op, a, b, npc)) (hnx : mj_nx L m pc npc op a b ls st c π μ = some (pc', ls', st', π', μ')) (hRB : sd_RB hz ad dA D L xs s.heap (mj_maxl m) ls st c π μ H locs mls) (hk : ∀ H locs mls, sd_RB hz ad dA D L xs s.heap (mj_maxl m) ls' st' c π' μ' H locs mls → W p l e R s mid args below meth cd H locs cells slots Z (F0 mid pc' mls (st'.map (sd_v hz ad)))) : W p l e R s mid args below meth cd H locs cells slots Z (F0 mid pc mls (st.map (sd_v hz ad))) := by
  obtain ⟨hx, hb, hml, hown, hgw, hlocks, hret, hini, hK, hN, hE, hL35⟩ := hFE
  obtain ⟨hH, hS, hL, hLn, hls, hst, hok⟩ := hRB
  obtain ⟨rfl, q⟩ := mj_if (show (if len = 1 then some (24, 0, 0, pc + len) else none) = some (op, a, b, npc) from htr)
  cases q
  obtain ⟨x, st2, rfl, q⟩ := n_24 hnx
  cases q
  obtain ⟨hxx, hst2⟩ := List.forall_mem_cons.mp hst
  have h := (hk H locs mls ⟨hH, hS, hL, hLn, hls, List.forall_mem_cons.mpr ⟨(o_i2b hxx).2, hst2⟩, hok⟩)
  exact lv_i2b hx hb hd (o_i2b hxx).1 h
set_option maxHeartbeats 2000000 in
theorem s_i2s (hFE : sd_FE hz ad dA D L xs p s mid args meth cd m) (hd : decode (mj_byt m) pc = .ok (.i2s, len)) (htr : mj_tr m pc (.i2s) len = some (op, a, b, npc)) (hnx : mj_nx L m pc npc op a b ls st c π μ = some (pc', ls', st', π', μ')) (hRB : sd_RB hz ad dA D L xs s.heap (mj_maxl m) ls st c π μ H locs mls) (hk : ∀ H locs mls, sd_RB hz ad dA D L xs s.heap (mj_maxl m) ls' st' c π' μ' H locs mls → W p l e R s mid args below meth cd H locs cells slots Z (F0 mid pc' mls (st'.map (sd_v hz ad)))) : W p l e R s mid args below meth cd H locs cells slots Z (F0 mid pc mls (st.map (sd_v hz ad))) := by
  obtain ⟨hx, hb, hml, hown, hgw, hlocks, hret, hini, hK, hN, hE, hL35⟩ := hFE
  obtain ⟨hH, hS, hL, hLn, hls, hst, hok⟩ := hRB
  obtain ⟨rfl, q⟩ := mj_if (show (if len = 1 then some (25, 0, 0, pc + len) else none) = some (op, a, b, npc) from htr)
  cases q
  obtain ⟨x, st2, rfl, q⟩ := n_25 hnx
  cases q
  obtain ⟨hxx, hst2⟩ := List.forall_mem_cons.mp hst
  have h := (hk H locs mls ⟨hH, hS, hL, hLn, hls, List.forall_mem_cons.mpr ⟨(o_i2s hxx).2, hst2⟩, hok⟩)
  exact lv_i2s hx hb hd (o_i2s hxx).1 h
set_option maxHeartbeats 2000000 in
theorem s_ladd (hFE : sd_FE hz ad dA D L xs p s mid args meth cd m) (hd : decode (mj_byt m) pc = .ok (.ladd, len)) (htr : mj_tr m pc (.ladd) len = some (op, a, b, npc)) (hnx : mj_nx L m pc npc op a b ls st c π μ = some (pc', ls', st', π', μ')) (hRB : sd_RB hz ad dA D L xs s.heap (mj_maxl m) ls st c π μ H locs mls) (hk : ∀ H locs mls, sd_RB hz ad dA D L xs s.heap (mj_maxl m) ls' st' c π' μ' H locs mls → W p l e R s mid args below meth cd H locs cells slots Z (F0 mid pc' mls (st'.map (sd_v hz ad)))) : W p l e R s mid args below meth cd H locs cells slots Z (F0 mid pc mls (st.map (sd_v hz ad))) := by
  obtain ⟨hx, hb, hml, hown, hgw, hlocks, hret, hini, hK, hN, hE, hL35⟩ := hFE
  obtain ⟨hH, hS, hL, hLn, hls, hst, hok⟩ := hRB
  obtain ⟨rfl, q⟩ := mj_if (show (if len = 1 then some (26, 0, 0, pc + len) else none) = some (op, a, b, npc) from htr)
  cases q
  obtain ⟨y, x, st2, rfl, q⟩ := n_26 hnx
  cases q
  obtain ⟨hy, hst1⟩ := List.forall_mem_cons.mp hst
  obtain ⟨hxx, hst2⟩ := List.forall_mem_cons.mp hst1
  have h := (hk H locs mls ⟨hH, hS, hL, hLn, hls, List.forall_mem_cons.mpr ⟨o_wlr _, hst2⟩, hok⟩)
  refine lv_ladd hx hb hd ?_
  rw [o_addl]
  exact h
set_option maxHeartbeats 2000000 in
theorem s_lmul (hFE : sd_FE hz ad dA D L xs p s mid args meth cd m) (hd : decode (mj_byt m) pc = .ok (.lmul, len)) (htr : mj_tr m pc (.lmul) len = some (op, a, b, npc)) (hnx : mj_nx L m pc npc op a b ls st c π μ = some (pc', ls', st', π', μ')) (hRB : sd_RB hz ad dA D L xs s.heap (mj_maxl m) ls st c π μ H locs mls) (hk : ∀ H locs mls, sd_RB hz ad dA D L xs s.heap (mj_maxl m) ls' st' c π' μ' H locs mls → W p l e R s mid args below meth cd H locs cells slots Z (F0 mid pc' mls (st'.map (sd_v hz ad)))) : W p l e R s mid args below meth cd H locs cells slots Z (F0 mid pc mls (st.map (sd_v hz ad))) := by
  obtain ⟨hx, hb, hml, hown, hgw, hlocks, hret, hini, hK, hN, hE, hL35⟩ := hFE
  obtain ⟨hH, hS, hL, hLn, hls, hst, hok⟩ := hRB
  obtain ⟨rfl, q⟩ := mj_if (show (if len = 1 then some (27, 0, 0, pc + len) else none) = some (op, a, b, npc) from htr)
  cases q
  obtain ⟨y, x, st2, rfl, q⟩ := n_27 hnx
  cases q
  obtain ⟨hy, hst1⟩ := List.forall_mem_cons.mp hst
  obtain ⟨hxx, hst2⟩ := List.forall_mem_cons.mp hst1
  have h := (hk H locs mls ⟨hH, hS, hL, hLn, hls, List.forall_mem_cons.mpr ⟨o_wlr _, hst2⟩, hok⟩)
  refine lv_lmul hx hb hd ?_
  rw [o_mull]
  exact h
set_option maxHeartbeats 2000000 in
theorem s_ldiv (hFE : sd_FE hz ad dA D L xs p s mid args meth cd m) (hd : decode (mj_byt m) pc = .ok (.ldiv, len)) (htr : mj_tr m pc (.ldiv) len = some (op, a, b, npc)) (hnx : mj_nx L m pc npc op a b ls st c π μ = some (pc', ls', st', π', μ')) (hRB : sd_RB hz ad dA D L xs s.heap (mj_maxl m) ls st c π μ H locs mls) (hk : ∀ H locs mls, sd_RB hz ad dA D L xs s.heap (mj_maxl m) ls' st' c π' μ' H locs mls → W p l e R s mid args below meth cd H locs cells slots Z (F0 mid pc' mls (st'.map (sd_v hz ad)))) : W p l e R s mid args below meth cd H locs cells slots Z (F0 mid pc mls (st.map (sd_v hz ad))) := by
  obtain ⟨hx, hb, hml, hown, hgw, hlocks, hret, hini, hK, hN, hE, hL35⟩ := hFE
  obtain ⟨hH, hS, hL, hLn, hls, hst, hok⟩ := hRB
  obtain ⟨rfl, q⟩ := mj_if (show (if len = 1 then some (28, 0, 0, pc + len) else none) = some (op, a, b, npc) from htr)
  cases q
  obtain ⟨y, x, st2, rfl, hne, q⟩ := n_28 hnx
  cases q
  obtain ⟨hy, hst1⟩ := List.forall_mem_cons.mp hst
  obtain ⟨hxx, hst2⟩ := List.forall_mem_cons.mp hst1
  have h := (hk H locs mls ⟨hH, hS, hL, hLn, hls, List.forall_mem_cons.mpr ⟨o_wlr _, hst2⟩, hok⟩)
  refine lv_ldiv hx hb hd (by rw [show (0 : Int64) = Int64.ofInt 0 from rfl, o_eql hy ⟨by omega, by omega⟩]; exact hne) ?_
  rw [o_divl hxx hy]
  exact h
set_option maxHeartbeats 2000000 in
theorem s_land (hFE : sd_FE hz ad dA D L xs p s mid args meth cd m) (hd : decode (mj_byt m) pc = .ok (.land, len)) (htr : mj_tr m pc (.land) len = some (op, a, b, npc)) (hnx : mj_nx L m pc npc op a b ls st c π μ = some (pc', ls', st', π', μ')) (hRB : sd_RB hz ad dA D L xs s.heap (mj_maxl m) ls st c π μ H locs mls) (hk : ∀ H locs mls, sd_RB hz ad dA D L xs s.heap (mj_maxl m) ls' st' c π' μ' H locs mls → W p l e R s mid args below meth cd H locs cells slots Z (F0 mid pc' mls (st'.map (sd_v hz ad)))) : W p l e R s mid args below meth cd H locs cells slots Z (F0 mid pc mls (st.map (sd_v hz ad))) := by
  obtain ⟨hx, hb, hml, hown, hgw, hlocks, hret, hini, hK, hN, hE, hL35⟩ := hFE
  obtain ⟨hH, hS, hL, hLn, hls, hst, hok⟩ := hRB
  obtain ⟨rfl, q⟩ := mj_if (show (if len = 1 then some (29, 0, 0, pc + len) else none) = some (op, a, b, npc) from htr)
  cases q
  obtain ⟨y, x, st2, rfl, q⟩ := n_29 hnx
  cases q
  obtain ⟨hy, hst1⟩ := List.forall_mem_cons.mp hst
  obtain ⟨hxx, hst2⟩ := List.forall_mem_cons.mp hst1
  have h := (hk H locs mls ⟨hH, hS, hL, hLn, hls, List.forall_mem_cons.mpr ⟨o_rl _, hst2⟩, hok⟩)
  refine lv_land hx hb hd ?_
  have e : Int64.ofInt (mj_andl x y) = _ := Int64.ofInt_toInt _
  rw [← e]
  exact h
set_option maxHeartbeats 2000000 in
theorem s_lor (hFE : sd_FE hz ad dA D L xs p s mid args meth cd m) (hd : decode (mj_byt m) pc = .ok (.lor, len)) (htr : mj_tr m pc (.lor) len = some (op, a, b, npc)) (hnx : mj_nx L m pc npc op a b ls st c π μ = some (pc', ls', st', π', μ')) (hRB : sd_RB hz ad dA D L xs s.heap (mj_maxl m) ls st c π μ H locs mls) (hk : ∀ H locs mls, sd_RB hz ad dA D L xs s.heap (mj_maxl m) ls' st' c π' μ' H locs mls → W p l e R s mid args below meth cd H locs cells slots Z (F0 mid pc' mls (st'.map (sd_v hz ad)))) : W p l e R s mid args below meth cd H locs cells slots Z (F0 mid pc mls (st.map (sd_v hz ad))) := by
  obtain ⟨hx, hb, hml, hown, hgw, hlocks, hret, hini, hK, hN, hE, hL35⟩ := hFE
  obtain ⟨hH, hS, hL, hLn, hls, hst, hok⟩ := hRB
  obtain ⟨rfl, q⟩ := mj_if (show (if len = 1 then some (30, 0, 0, pc + len) else none) = some (op, a, b, npc) from htr)
  cases q
  obtain ⟨y, x, st2, rfl, q⟩ := n_30 hnx
  cases q
  obtain ⟨hy, hst1⟩ := List.forall_mem_cons.mp hst
  obtain ⟨hxx, hst2⟩ := List.forall_mem_cons.mp hst1
  have h := (hk H locs mls ⟨hH, hS, hL, hLn, hls, List.forall_mem_cons.mpr ⟨o_rl _, hst2⟩, hok⟩)
  refine lv_lor hx hb hd ?_
  have e : Int64.ofInt (mj_orl x y) = _ := Int64.ofInt_toInt _
  rw [← e]
  exact h
set_option maxHeartbeats 2000000 in
theorem s_lshl (hFE : sd_FE hz ad dA D L xs p s mid args meth cd m) (hd : decode (mj_byt m) pc = .ok (.lshl, len)) (htr : mj_tr m pc (.lshl) len = some (op, a, b, npc)) (hnx : mj_nx L m pc npc op a b ls st c π μ = some (pc', ls', st', π', μ')) (hRB : sd_RB hz ad dA D L xs s.heap (mj_maxl m) ls st c π μ H locs mls) (hk : ∀ H locs mls, sd_RB hz ad dA D L xs s.heap (mj_maxl m) ls' st' c π' μ' H locs mls → W p l e R s mid args below meth cd H locs cells slots Z (F0 mid pc' mls (st'.map (sd_v hz ad)))) : W p l e R s mid args below meth cd H locs cells slots Z (F0 mid pc mls (st.map (sd_v hz ad))) := by
  obtain ⟨hx, hb, hml, hown, hgw, hlocks, hret, hini, hK, hN, hE, hL35⟩ := hFE
  obtain ⟨hH, hS, hL, hLn, hls, hst, hok⟩ := hRB
  obtain ⟨rfl, q⟩ := mj_if (show (if len = 1 then some (31, 0, 0, pc + len) else none) = some (op, a, b, npc) from htr)
  cases q
  obtain ⟨y, x, st2, rfl, q⟩ := n_31 hnx
  cases q
  obtain ⟨hy, hst1⟩ := List.forall_mem_cons.mp hst
  obtain ⟨hxx, hst2⟩ := List.forall_mem_cons.mp hst1
  have h := (hk H locs mls ⟨hH, hS, hL, hLn, hls, List.forall_mem_cons.mpr ⟨o_rl _, hst2⟩, hok⟩)
  have e : Int64.ofInt (mj_shll x y) = _ := Int64.ofInt_toInt _
  exact lv_lshl hx hb hd e.symm h
set_option maxHeartbeats 2000000 in
theorem s_lshr (hFE : sd_FE hz ad dA D L xs p s mid args meth cd m) (hd : decode (mj_byt m) pc = .ok (.lshr, len)) (htr : mj_tr m pc (.lshr) len = some (op, a, b, npc)) (hnx : mj_nx L m pc npc op a b ls st c π μ = some (pc', ls', st', π', μ')) (hRB : sd_RB hz ad dA D L xs s.heap (mj_maxl m) ls st c π μ H locs mls) (hk : ∀ H locs mls, sd_RB hz ad dA D L xs s.heap (mj_maxl m) ls' st' c π' μ' H locs mls → W p l e R s mid args below meth cd H locs cells slots Z (F0 mid pc' mls (st'.map (sd_v hz ad)))) : W p l e R s mid args below meth cd H locs cells slots Z (F0 mid pc mls (st.map (sd_v hz ad))) := by
  obtain ⟨hx, hb, hml, hown, hgw, hlocks, hret, hini, hK, hN, hE, hL35⟩ := hFE
  obtain ⟨hH, hS, hL, hLn, hls, hst, hok⟩ := hRB
  obtain ⟨rfl, q⟩ := mj_if (show (if len = 1 then some (32, 0, 0, pc + len) else none) = some (op, a, b, npc) from htr)
  cases q
  obtain ⟨y, x, st2, rfl, q⟩ := n_32 hnx
  cases q
  obtain ⟨hy, hst1⟩ := List.forall_mem_cons.mp hst
  obtain ⟨hxx, hst2⟩ := List.forall_mem_cons.mp hst1
  have h := (hk H locs mls ⟨hH, hS, hL, hLn, hls, List.forall_mem_cons.mpr ⟨o_rl _, hst2⟩, hok⟩)
  have e : Int64.ofInt (mj_shrl x y) = _ := Int64.ofInt_toInt _
  exact lv_lshr hx hb hd e.symm h
set_option maxHeartbeats 2000000 in
theorem s_lcmp (hFE : sd_FE hz ad dA D L xs p s mid args meth cd m) (hd : decode (mj_byt m) pc = .ok (.lcmp, len)) (htr : mj_tr m pc (.lcmp) len = some (op, a, b, npc)) (hnx : mj_nx L m pc npc op a b ls st c π μ = some (pc', ls', st', π', μ')) (hRB : sd_RB hz ad dA D L xs s.heap (mj_maxl m) ls st c π μ H locs mls) (hk : ∀ H locs mls, sd_RB hz ad dA D L xs s.heap (mj_maxl m) ls' st' c π' μ' H locs mls → W p l e R s mid args below meth cd H locs cells slots Z (F0 mid pc' mls (st'.map (sd_v hz ad)))) : W p l e R s mid args below meth cd H locs cells slots Z (F0 mid pc mls (st.map (sd_v hz ad))) := by
  obtain ⟨hx, hb, hml, hown, hgw, hlocks, hret, hini, hK, hN, hE, hL35⟩ := hFE
  obtain ⟨hH, hS, hL, hLn, hls, hst, hok⟩ := hRB
  obtain ⟨rfl, q⟩ := mj_if (show (if len = 1 then some (33, 0, 0, pc + len) else none) = some (op, a, b, npc) from htr)
  cases q
  obtain ⟨y, x, st2, rfl, q⟩ := n_33 hnx
  cases q
  obtain ⟨hy, hst1⟩ := List.forall_mem_cons.mp hst
  obtain ⟨hxx, hst2⟩ := List.forall_mem_cons.mp hst1
  have h := (hk H locs mls ⟨hH, hS, hL, hLn, hls, List.forall_mem_cons.mpr ⟨by show sd_32 _; split; exact o_z; split; exact ⟨by omega, by omega⟩; exact ⟨by omega, by omega⟩, hst2⟩, hok⟩)
  refine W.lcmp hx hb hd ?_
  have e : lg_cmp (Int64.ofInt x) (Int64.ofInt y) = Int32.ofInt (if x = y then 0 else if x < y then -1 else 1) := by
    unfold lg_cmp
    simp only [gt_iff_lt, o_ltl hy hxx, o_eql hxx hy]
    by_cases q1 : y < x
    · rw [if_pos q1, if_neg (by omega), if_neg (by omega)]; rfl
    · by_cases q2 : x = y
      · rw [if_neg q1, if_pos q2, if_pos q2]; rfl
      · rw [if_neg q1, if_neg q2, if_neg q2, if_pos (by omega)]; rfl
  rw [e]
  exact h
set_option maxHeartbeats 2000000 in
theorem s_ic_eq {off : Int} (hFE : sd_FE hz ad dA D L xs p s mid args meth cd m) (hd : decode (mj_byt m) pc = .ok (.if_icmp .eq off, len)) (htr : mj_tr m pc (.if_icmp .eq off) len = some (op, a, b, npc)) (hnx : mj_nx L m pc npc op a b ls st c π μ = some (pc', ls', st', π', μ')) (hRB : sd_RB hz ad dA D L xs s.heap (mj_maxl m) ls st c π μ H locs mls) (hk : ∀ H locs mls, sd_RB hz ad dA D L xs s.heap (mj_maxl m) ls' st' c π' μ' H locs mls → W p l e R s mid args below meth cd H locs cells slots Z (F0 mid pc' mls (st'.map (sd_v hz ad)))) : W p l e R s mid args below meth cd H locs cells slots Z (F0 mid pc mls (st.map (sd_v hz ad))) := by
  obtain ⟨hx, hb, hml, hown, hgw, hlocks, hret, hini, hK, hN, hE, hL35⟩ := hFE
  obtain ⟨hH, hS, hL, hLn, hls, hst, hok⟩ := hRB
  obtain ⟨⟨rfl, hoff⟩, q⟩ := mj_if (show (if len = 3 ∧ 0 ≤ (pc : Int) + off then some (40, (pc : Int) + off, 0, pc + len) else none) = some (op, a, b, npc) from htr)
  cases q
  obtain ⟨y, x, st2, rfl, q⟩ := n_40 hnx
  obtain ⟨hy, hst1⟩ := List.forall_mem_cons.mp hst
  obtain ⟨hxx, hst2⟩ := List.forall_mem_cons.mp hst1
  refine lv_icmp_eq (tgt := ((pc : Int) + off).toNat) hx hb hd (by omega) (fun hc => ?_) (fun hc => ?_)
  · rw [(o_eq hxx hy)] at hc
    rw [if_pos (by omega)] at q
    cases q
    exact hk H locs mls ⟨hH, hS, hL, hLn, hls, hst2, hok⟩
  · rw [(o_eq hxx hy)] at hc
    rw [if_neg (by omega)] at q
    cases q
    exact hk H locs mls ⟨hH, hS, hL, hLn, hls, hst2, hok⟩
set_option maxHeartbeats 2000000 in
theorem s_if_eq {off : Int} (hFE : sd_FE hz ad dA D L xs p s mid args meth cd m) (hd : decode (mj_byt m) pc = .ok (.ifCond .eq off, len)) (htr : mj_tr m pc (.ifCond .eq off) len = some (op, a, b, npc)) (hnx : mj_nx L m pc npc op a b ls st c π μ = some (pc', ls', st', π', μ')) (hRB : sd_RB hz ad dA D L xs s.heap (mj_maxl m) ls st c π μ H locs mls) (hk : ∀ H locs mls, sd_RB hz ad dA D L xs s.heap (mj_maxl m) ls' st' c π' μ' H locs mls → W p l e R s mid args below meth cd H locs cells slots Z (F0 mid pc' mls (st'.map (sd_v hz ad)))) : W p l e R s mid args below meth cd H locs cells slots Z (F0 mid pc mls (st.map (sd_v hz ad))) := by
  obtain ⟨hx, hb, hml, hown, hgw, hlocks, hret, hini, hK, hN, hE, hL35⟩ := hFE
  obtain ⟨hH, hS, hL, hLn, hls, hst, hok⟩ := hRB
  obtain ⟨⟨rfl, hoff⟩, q⟩ := mj_if (show (if len = 3 ∧ 0 ≤ (pc : Int) + off then some (46, (pc : Int) + off, 0, pc + len) else none) = some (op, a, b, npc) from htr)
  cases q
  obtain ⟨x, st2, rfl, q⟩ := n_46 hnx
  obtain ⟨hxx, hst2⟩ := List.forall_mem_cons.mp hst
  have hy := o_z
  refine lv_if_eq (tgt := ((pc : Int) + off).toNat) hx hb hd (by omega) (fun hc => ?_) (fun hc => ?_)
  · rw [o_i0] at hc
    rw [(o_eq hxx hy)] at hc
    rw [if_pos (by omega)] at q
    cases q
    exact hk H locs mls ⟨hH, hS, hL, hLn, hls, hst2, hok⟩
  · rw [o_i0] at hc
    rw [(o_eq hxx hy)] at hc
    rw [if_neg (by omega)] at q
    cases q
    exact hk H locs mls ⟨hH, hS, hL, hLn, hls, hst2, hok⟩
set_option maxHeartbeats 2000000 in
theorem s_ic_ne {off : Int} (hFE : sd_FE hz ad dA D L xs p s mid args meth cd m) (hd : decode (mj_byt m) pc = .ok (.if_icmp .ne off, len)) (htr : mj_tr m pc (.if_icmp .ne off) len = some (op, a, b, npc)) (hnx : mj_nx L m pc npc op a b ls st c π μ = some (pc', ls', st', π', μ')) (hRB : sd_RB hz ad dA D L xs s.heap (mj_maxl m) ls st c π μ H locs mls) (hk : ∀ H locs mls, sd_RB hz ad dA D L xs s.heap (mj_maxl m) ls' st' c π' μ' H locs mls → W p l e R s mid args below meth cd H locs cells slots Z (F0 mid pc' mls (st'.map (sd_v hz ad)))) : W p l e R s mid args below meth cd H locs cells slots Z (F0 mid pc mls (st.map (sd_v hz ad))) := by
  obtain ⟨hx, hb, hml, hown, hgw, hlocks, hret, hini, hK, hN, hE, hL35⟩ := hFE
  obtain ⟨hH, hS, hL, hLn, hls, hst, hok⟩ := hRB
  obtain ⟨⟨rfl, hoff⟩, q⟩ := mj_if (show (if len = 3 ∧ 0 ≤ (pc : Int) + off then some (41, (pc : Int) + off, 0, pc + len) else none) = some (op, a, b, npc) from htr)
  cases q
  obtain ⟨y, x, st2, rfl, q⟩ := n_41 hnx
  obtain ⟨hy, hst1⟩ := List.forall_mem_cons.mp hst
  obtain ⟨hxx, hst2⟩ := List.forall_mem_cons.mp hst1
  refine lv_icmp_ne (tgt := ((pc : Int) + off).toNat) hx hb hd (by omega) (fun hc => ?_) (fun hc => ?_)
  · rw [(o_eq hxx hy)] at hc
    rw [if_neg (by omega)] at q
    cases q
    exact hk H locs mls ⟨hH, hS, hL, hLn, hls, hst2, hok⟩
  · rw [(o_eq hxx hy)] at hc
    rw [if_pos (by omega)] at q
    cases q
    exact hk H locs mls ⟨hH, hS, hL, hLn, hls, hst2, hok⟩
set_option maxHeartbeats 2000000 in
theorem s_if_ne {off : Int} (hFE : sd_FE hz ad dA D L xs p s mid args meth cd m) (hd : decode (mj_byt m) pc = .ok (.ifCond .ne off, len)) (htr : mj_tr m pc (.ifCond .ne off) len = some (op, a, b, npc)) (hnx : mj_nx L m pc npc op a b ls st c π μ = some (pc', ls', st', π', μ')) (hRB : sd_RB hz ad dA D L xs s.heap (mj_maxl m) ls st c π μ H locs mls) (hk : ∀ H locs mls, sd_RB hz ad dA D L xs s.heap (mj_maxl m) ls' st' c π' μ' H locs mls → W p l e R s mid args below meth cd H locs cells slots Z (F0 mid pc' mls (st'.map (sd_v hz ad)))) : W p l e R s mid args below meth cd H locs cells slots Z (F0 mid pc mls (st.map (sd_v hz ad))) := by
  obtain ⟨hx, hb, hml, hown, hgw, hlocks, hret, hini, hK, hN, hE, hL35⟩ := hFE
  obtain ⟨hH, hS, hL, hLn, hls, hst, hok⟩ := hRB
  obtain ⟨⟨rfl, hoff⟩, q⟩ := mj_if (show (if len = 3 ∧ 0 ≤ (pc : Int) + off then some (47, (pc : Int) + off, 0, pc + len) else none) = some (op, a, b, npc) from htr)
  cases q
  obtain ⟨x, st2, rfl, q⟩ := n_47 hnx
  obtain ⟨hxx, hst2⟩ := List.forall_mem_cons.mp hst
  have hy := o_z
  refine lv_if_ne (tgt := ((pc : Int) + off).toNat) hx hb hd (by omega) (fun hc => ?_) (fun hc => ?_)
  · rw [o_i0] at hc
    rw [(o_eq hxx hy)] at hc
    rw [if_neg (by omega)] at q
    cases q
    exact hk H locs mls ⟨hH, hS, hL, hLn, hls, hst2, hok⟩
  · rw [o_i0] at hc
    rw [(o_eq hxx hy)] at hc
    rw [if_pos (by omega)] at q
    cases q
    exact hk H locs mls ⟨hH, hS, hL, hLn, hls, hst2, hok⟩
set_option maxHeartbeats 2000000 in
theorem s_ic_lt {off : Int} (hFE : sd_FE hz ad dA D L xs p s mid args meth cd m) (hd : decode (mj_byt m) pc = .ok (.if_icmp .lt off, len)) (htr : mj_tr m pc (.if_icmp .lt off) len = some (op, a, b, npc)) (hnx : mj_nx L m pc npc op a b ls st c π μ = some (pc', ls', st', π', μ')) (hRB : sd_RB hz ad dA D L xs s.heap (mj_maxl m) ls st c π μ H locs mls) (hk : ∀ H locs mls, sd_RB hz ad dA D L xs s.heap (mj_maxl m) ls' st' c π' μ' H locs mls → W p l e R s mid args below meth cd H locs cells slots Z (F0 mid pc' mls (st'.map (sd_v hz ad)))) : W p l e R s mid args below meth cd H locs cells slots Z (F0 mid pc mls (st.map (sd_v hz ad))) := by
  obtain ⟨hx, hb, hml, hown, hgw, hlocks, hret, hini, hK, hN, hE, hL35⟩ := hFE
  obtain ⟨hH, hS, hL, hLn, hls, hst, hok⟩ := hRB
  obtain ⟨⟨rfl, hoff⟩, q⟩ := mj_if (show (if len = 3 ∧ 0 ≤ (pc : Int) + off then some (42, (pc : Int) + off, 0, pc + len) else none) = some (op, a, b, npc) from htr)
  cases q
  obtain ⟨y, x, st2, rfl, q⟩ := n_42 hnx
  obtain ⟨hy, hst1⟩ := List.forall_mem_cons.mp hst
  obtain ⟨hxx, hst2⟩ := List.forall_mem_cons.mp hst1
  refine lv_icmp_lt (tgt := ((pc : Int) + off).toNat) hx hb hd (by omega) (fun hc => ?_) (fun hc => ?_)
  · rw [(o_lt hxx hy)] at hc
    rw [if_pos (by omega)] at q
    cases q
    exact hk H locs mls ⟨hH, hS, hL, hLn, hls, hst2, hok⟩
  · rw [(o_lt hxx hy)] at hc
    rw [if_neg (by omega)] at q
    cases q
    exact hk H locs mls ⟨hH, hS, hL, hLn, hls, hst2, hok⟩
set_option maxHeartbeats 2000000 in
theorem s_if_lt {off : Int} (hFE : sd_FE hz ad dA D L xs p s mid args meth cd m) (hd : decode (mj_byt m) pc = .ok (.ifCond .lt off, len)) (htr : mj_tr m pc (.ifCond .lt off) len = some (op, a, b, npc)) (hnx : mj_nx L m pc npc op a b ls st c π μ = some (pc', ls', st', π', μ')) (hRB : sd_RB hz ad dA D L xs s.heap (mj_maxl m) ls st c π μ H locs mls) (hk : ∀ H locs mls, sd_RB hz ad dA D L xs s.heap (mj_maxl m) ls' st' c π' μ' H locs mls → W p l e R s mid args below meth cd H locs cells slots Z (F0 mid pc' mls (st'.map (sd_v hz ad)))) : W p l e R s mid args below meth cd H locs cells slots Z (F0 mid pc mls (st.map (sd_v hz ad))) := by
  obtain ⟨hx, hb, hml, hown, hgw, hlocks, hret, hini, hK, hN, hE, hL35⟩ := hFE
  obtain ⟨hH, hS, hL, hLn, hls, hst, hok⟩ := hRB
  obtain ⟨⟨rfl, hoff⟩, q⟩ := mj_if (show (if len = 3 ∧ 0 ≤ (pc : Int) + off then some (48, (pc : Int) + off, 0, pc + len) else none) = some (op, a, b, npc) from htr)
  cases q
  obtain ⟨x, st2, rfl, q⟩ := n_48 hnx
  obtain ⟨hxx, hst2⟩ := List.forall_mem_cons.mp hst
  have hy := o_z
  refine lv_if_lt (tgt := ((pc : Int) + off).toNat) hx hb hd (by omega) (fun hc => ?_) (fun hc => ?_)
  · rw [o_i0] at hc
    rw [(o_lt hxx hy)] at hc
    rw [if_pos (by omega)] at q
    cases q
    exact hk H locs mls ⟨hH, hS, hL, hLn, hls, hst2, hok⟩
  · rw [o_i0] at hc
    rw [(o_lt hxx hy)] at hc
    rw [if_neg (by omega)] at q
    cases q
    exact hk H locs mls ⟨hH, hS, hL, hLn, hls, hst2, hok⟩
set_option maxHeartbeats 2000000 in
theorem s_ic_ge {off : Int} (hFE : sd_FE hz ad dA D L xs p s mid args meth cd m) (hd : decode (mj_byt m) pc = .ok (.if_icmp .ge off, len)) (htr : mj_tr m pc (.if_icmp .ge off) len = some (op, a, b, npc)) (hnx : mj_nx L m pc npc op a b ls st c π μ = some (pc', ls', st', π', μ')) (hRB : sd_RB hz ad dA D L xs s.heap (mj_maxl m) ls st c π μ H locs mls) (hk : ∀ H locs mls, sd_RB hz ad dA D L xs s.heap (mj_maxl m) ls' st' c π' μ' H locs mls → W p l e R s mid args below meth cd H locs cells slots Z (F0 mid pc' mls (st'.map (sd_v hz ad)))) : W p l e R s mid args below meth cd H locs cells slots Z (F0 mid pc mls (st.map (sd_v hz ad))) := by
  obtain ⟨hx, hb, hml, hown, hgw, hlocks, hret, hini, hK, hN, hE, hL35⟩ := hFE
  obtain ⟨hH, hS, hL, hLn, hls, hst, hok⟩ := hRB
  obtain ⟨⟨rfl, hoff⟩, q⟩ := mj_if (show (if len = 3 ∧ 0 ≤ (pc : Int) + off then some (43, (pc : Int) + off, 0, pc + len) else none) = some (op, a, b, npc) from htr)
  cases q
  obtain ⟨y, x, st2, rfl, q⟩ := n_43 hnx
  obtain ⟨hy, hst1⟩ := List.forall_mem_cons.mp hst
  obtain ⟨hxx, hst2⟩ := List.forall_mem_cons.mp hst1
  refine lv_icmp_ge (tgt := ((pc : Int) + off).toNat) hx hb hd (by omega) (fun hc => ?_) (fun hc => ?_)
  · rw [(o_le hy hxx)] at hc
    rw [if_neg (by omega)] at q
    cases q
    exact hk H locs mls ⟨hH, hS, hL, hLn, hls, hst2, hok⟩
  · rw [(o_le hy hxx)] at hc
    rw [if_pos (by omega)] at q
    cases q
    exact hk H locs mls ⟨hH, hS, hL, hLn, hls, hst2, hok⟩
set_option maxHeartbeats 2000000 in
theorem s_if_ge {off : Int} (hFE : sd_FE hz ad dA D L xs p s mid args meth cd m) (hd : decode (mj_byt m) pc = .ok (.ifCond .ge off, len)) (htr : mj_tr m pc (.ifCond .ge off) len = some (op, a, b, npc)) (hnx : mj_nx L m pc npc op a b ls st c π μ = some (pc', ls', st', π', μ')) (hRB : sd_RB hz ad dA D L xs s.heap (mj_maxl m) ls st c π μ H locs mls) (hk : ∀ H locs mls, sd_RB hz ad dA D L xs s.heap (mj_maxl m) ls' st' c π' μ' H locs mls → W p l e R s mid args below meth cd H locs cells slots Z (F0 mid pc' mls (st'.map (sd_v hz ad)))) : W p l e R s mid args below meth cd H locs cells slots Z (F0 mid pc mls (st.map (sd_v hz ad))) := by
  obtain ⟨hx, hb, hml, hown, hgw, hlocks, hret, hini, hK, hN, hE, hL35⟩ := hFE
  obtain ⟨hH, hS, hL, hLn, hls, hst, hok⟩ := hRB
  obtain ⟨⟨rfl, hoff⟩, q⟩ := mj_if (show (if len = 3 ∧ 0 ≤ (pc : Int) + off then some (49, (pc : Int) + off, 0, pc + len) else none) = some (op, a, b, npc) from htr)
  cases q
  obtain ⟨x, st2, rfl, q⟩ := n_49 hnx
  obtain ⟨hxx, hst2⟩ := List.forall_mem_cons.mp hst
  have hy := o_z
  refine lv_if_ge (tgt := ((pc : Int) + off).toNat) hx hb hd (by omega) (fun hc => ?_) (fun hc => ?_)
  · rw [o_i0] at hc
    rw [(o_le hy hxx)] at hc
    rw [if_neg (by omega)] at q
    cases q
    exact hk H locs mls ⟨hH, hS, hL, hLn, hls, hst2, hok⟩
  · rw [o_i0] at hc
    rw [(o_le hy hxx)] at hc
    rw [if_pos (by omega)] at q
    cases q
    exact hk H locs mls ⟨hH, hS, hL, hLn, hls, hst2, hok⟩
set_option maxHeartbeats 2000000 in
theorem s_ic_gt {off : Int} (hFE : sd_FE hz ad dA D L xs p s mid args meth cd m) (hd : decode (mj_byt m) pc = .ok (.if_icmp .gt off, len)) (htr : mj_tr m pc (.if_icmp .gt off) len = some (op, a, b, npc)) (hnx : mj_nx L m pc npc op a b ls st c π μ = some (pc', ls', st', π', μ')) (hRB : sd_RB hz ad dA D L xs s.heap (mj_maxl m) ls st c π μ H locs mls) (hk : ∀ H locs mls, sd_RB hz ad dA D L xs s.heap (mj_maxl m) ls' st' c π' μ' H locs mls → W p l e R s mid args below meth cd H locs cells slots Z (F0 mid pc' mls (st'.map (sd_v hz ad)))) : W p l e R s mid args below meth cd H locs cells slots Z (F0 mid pc mls (st.map (sd_v hz ad))) := by
  obtain ⟨hx, hb, hml, hown, hgw, hlocks, hret, hini, hK, hN, hE, hL35⟩ := hFE
  obtain ⟨hH, hS, hL, hLn, hls, hst, hok⟩ := hRB
  obtain ⟨⟨rfl, hoff⟩, q⟩ := mj_if (show (if len = 3 ∧ 0 ≤ (pc : Int) + off then some (44, (pc : Int) + off, 0, pc + len) else none) = some (op, a, b, npc) from htr)
  cases q
  obtain ⟨y, x, st2, rfl, q⟩ := n_44 hnx
  obtain ⟨hy, hst1⟩ := List.forall_mem_cons.mp hst
  obtain ⟨hxx, hst2⟩ := List.forall_mem_cons.mp hst1
  refine lv_icmp_gt (tgt := ((pc : Int) + off).toNat) hx hb hd (by omega) (fun hc => ?_) (fun hc => ?_)
  · rw [(o_lt hy hxx)] at hc
    rw [if_pos (by omega)] at q
    cases q
    exact hk H locs mls ⟨hH, hS, hL, hLn, hls, hst2, hok⟩
  · rw [(o_lt hy hxx)] at hc
    rw [if_neg (by omega)] at q
    cases q
    exact hk H locs mls ⟨hH, hS, hL, hLn, hls, hst2, hok⟩
set_option maxHeartbeats 2000000 in
theorem s_if_gt {off : Int} (hFE : sd_FE hz ad dA D L xs p s mid args meth cd m) (hd : decode (mj_byt m) pc = .ok (.ifCond .gt off, len)) (htr : mj_tr m pc (.ifCond .gt off) len = some (op, a, b, npc)) (hnx : mj_nx L m pc npc op a b ls st c π μ = some (pc', ls', st', π', μ')) (hRB : sd_RB hz ad dA D L xs s.heap (mj_maxl m) ls st c π μ H locs mls) (hk : ∀ H locs mls, sd_RB hz ad dA D L xs s.heap (mj_maxl m) ls' st' c π' μ' H locs mls → W p l e R s mid args below meth cd H locs cells slots Z (F0 mid pc' mls (st'.map (sd_v hz ad)))) : W p l e R s mid args below meth cd H locs cells slots Z (F0 mid pc mls (st.map (sd_v hz ad))) := by
  obtain ⟨hx, hb, hml, hown, hgw, hlocks, hret, hini, hK, hN, hE, hL35⟩ := hFE
  obtain ⟨hH, hS, hL, hLn, hls, hst, hok⟩ := hRB
  obtain ⟨⟨rfl, hoff⟩, q⟩ := mj_if (show (if len = 3 ∧ 0 ≤ (pc : Int) + off then some (50, (pc : Int) + off, 0, pc + len) else none) = some (op, a, b, npc) from htr)
  cases q
  obtain ⟨x, st2, rfl, q⟩ := n_50 hnx
  obtain ⟨hxx, hst2⟩ := List.forall_mem_cons.mp hst
  have hy := o_z
  refine lv_if_gt (tgt := ((pc : Int) + off).toNat) hx hb hd (by omega) (fun hc => ?_) (fun hc => ?_)
  · rw [o_i0] at hc
    rw [(o_lt hy hxx)] at hc
    rw [if_pos (by omega)] at q
    cases q
    exact hk H locs mls ⟨hH, hS, hL, hLn, hls, hst2, hok⟩
  · rw [o_i0] at hc
    rw [(o_lt hy hxx)] at hc
    rw [if_neg (by omega)] at q
    cases q
    exact hk H locs mls ⟨hH, hS, hL, hLn, hls, hst2, hok⟩
set_option maxHeartbeats 2000000 in
theorem s_ic_le {off : Int} (hFE : sd_FE hz ad dA D L xs p s mid args meth cd m) (hd : decode (mj_byt m) pc = .ok (.if_icmp .le off, len)) (htr : mj_tr m pc (.if_icmp .le off) len = some (op, a, b, npc)) (hnx : mj_nx L m pc npc op a b ls st c π μ = some (pc', ls', st', π', μ')) (hRB : sd_RB hz ad dA D L xs s.heap (mj_maxl m) ls st c π μ H locs mls) (hk : ∀ H locs mls, sd_RB hz ad dA D L xs s.heap (mj_maxl m) ls' st' c π' μ' H locs mls → W p l e R s mid args below meth cd H locs cells slots Z (F0 mid pc' mls (st'.map (sd_v hz ad)))) : W p l e R s mid args below meth cd H locs cells slots Z (F0 mid pc mls (st.map (sd_v hz ad))) := by
  obtain ⟨hx, hb, hml, hown, hgw, hlocks, hret, hini, hK, hN, hE, hL35⟩ := hFE
  obtain ⟨hH, hS, hL, hLn, hls, hst, hok⟩ := hRB
  obtain ⟨⟨rfl, hoff⟩, q⟩ := mj_if (show (if len = 3 ∧ 0 ≤ (pc : Int) + off then some (45, (pc : Int) + off, 0, pc + len) else none) = some (op, a, b, npc) from htr)
  cases q
  obtain ⟨y, x, st2, rfl, q⟩ := n_45 hnx
  obtain ⟨hy, hst1⟩ := List.forall_mem_cons.mp hst
  obtain ⟨hxx, hst2⟩ := List.forall_mem_cons.mp hst1
  refine lv_icmp_le (tgt := ((pc : Int) + off).toNat) hx hb hd (by omega) (fun hc => ?_) (fun hc => ?_)
  · rw [(o_le hxx hy)] at hc
    rw [if_neg (by omega)] at q
    cases q
    exact hk H locs mls ⟨hH, hS, hL, hLn, hls, hst2, hok⟩
  · rw [(o_le hxx hy)] at hc
    rw [if_pos (by omega)] at q
    cases q
    exact hk H locs mls ⟨hH, hS, hL, hLn, hls, hst2, hok⟩
set_option maxHeartbeats 2000000 in
theorem s_if_le {off : Int} (hFE : sd_FE hz ad dA D L xs p s mid args meth cd m) (hd : decode (mj_byt m) pc = .ok (.ifCond .le off, len)) (htr : mj_tr m pc (.ifCond .le off) len = some (op, a, b, npc)) (hnx : mj_nx L m pc npc op a b ls st c π μ = some (pc', ls', st', π', μ')) (hRB : sd_RB hz ad dA D L xs s.heap (mj_maxl m) ls st c π μ H locs mls) (hk : ∀ H locs mls, sd_RB hz ad dA D L xs s.heap (mj_maxl m) ls' st' c π' μ' H locs mls → W p l e R s mid args below meth cd H locs cells slots Z (F0 mid pc' mls (st'.map (sd_v hz ad)))) : W p l e R s mid args below meth cd H locs cells slots Z (F0 mid pc mls (st.map (sd_v hz ad))) := by
  obtain ⟨hx, hb, hml, hown, hgw, hlocks, hret, hini, hK, hN, hE, hL35⟩ := hFE
  obtain ⟨hH, hS, hL, hLn, hls, hst, hok⟩ := hRB
  obtain ⟨⟨rfl, hoff⟩, q⟩ := mj_if (show (if len = 3 ∧ 0 ≤ (pc : Int) + off then some (51, (pc : Int) + off, 0, pc + len) else none) = some (op, a, b, npc) from htr)
  cases q
  obtain ⟨x, st2, rfl, q⟩ := n_51 hnx
  obtain ⟨hxx, hst2⟩ := List.forall_mem_cons.mp hst
  have hy := o_z
  refine lv_if_le (tgt := ((pc : Int) + off).toNat) hx hb hd (by omega) (fun hc => ?_) (fun hc => ?_)
  · rw [o_i0] at hc
    rw [(o_le hxx hy)] at hc
    rw [if_neg (by omega)] at q
    cases q
    exact hk H locs mls ⟨hH, hS, hL, hLn, hls, hst2, hok⟩
  · rw [o_i0] at hc
    rw [(o_le hxx hy)] at hc
    rw [if_pos (by omega)] at q
    cases q
    exact hk H locs mls ⟨hH, hS, hL, hLn, hls, hst2, hok⟩
set_option maxHeartbeats 2000000 in
theorem s_goto {off : Int} (hFE : sd_FE hz ad dA D L xs p s mid args meth cd m) (hd : decode (mj_byt m) pc = .ok (.goto off, len)) (htr : mj_tr m pc (.goto off) len = some (op, a, b, npc)) (hnx : mj_nx L m pc npc op a b ls st c π μ = some (pc', ls', st', π', μ')) (hRB : sd_RB hz ad dA D L xs s.heap (mj_maxl m) ls st c π μ H locs mls) (hk : ∀ H locs mls, sd_RB hz ad dA D L xs s.heap (mj_maxl m) ls' st' c π' μ' H locs mls → W p l e R s mid args below meth cd H locs cells slots Z (F0 mid pc' mls (st'.map (sd_v hz ad)))) : W p l e R s mid args below meth cd H locs cells slots Z (F0 mid pc mls (st.map (sd_v hz ad))) := by
  obtain ⟨hx, hb, hml, hown, hgw, hlocks, hret, hini, hK, hN, hE, hL35⟩ := hFE
  obtain ⟨hH, hS, hL, hLn, hls, hst, hok⟩ := hRB
  obtain ⟨⟨rfl, hoff⟩, q⟩ := mj_if (show (if len = 3 ∧ 0 ≤ (pc : Int) + off then some (52, (pc : Int) + off, 0, pc + len) else none) = some (op, a, b, npc) from htr)
  cases q
  cases (Option.some.inj (show some (((pc : Int) + off).toNat, ls, st, π, μ) = some (pc', ls', st', π', μ') from hnx))
  exact lv_goto (tgt := ((pc : Int) + off).toNat) hx hb hd (by omega) (hk H locs mls ⟨hH, hS, hL, hLn, hls, hst, hok⟩)
set_option maxHeartbeats 2000000 in
theorem s_dup (hFE : sd_FE hz ad dA D L xs p s mid args meth cd m) (hd : decode (mj_byt m) pc = .ok (.dup, len)) (htr : mj_tr m pc (.dup) len = some (op, a, b, npc)) (hnx : mj_nx L m pc npc op a b ls st c π μ = some (pc', ls', st', π', μ')) (hRB : sd_RB hz ad dA D L xs s.heap (mj_maxl m) ls st c π μ H locs mls) (hk : ∀ H locs mls, sd_RB hz ad dA D L xs s.heap (mj_maxl m) ls' st' c π' μ' H locs mls → W p l e R s mid args below meth cd H locs cells slots Z (F0 mid pc' mls (st'.map (sd_v hz ad)))) : W p l e R s mid args below meth cd H locs cells slots Z (F0 mid pc mls (st.map (sd_v hz ad))) := by
  obtain ⟨hx, hb, hml, hown, hgw, hlocks, hret, hini, hK, hN, hE, hL35⟩ := hFE
  obtain ⟨hH, hS, hL, hLn, hls, hst, hok⟩ := hRB
  obtain ⟨rfl, q⟩ := mj_if (show (if len = 1 then some (78, 0, 0, pc + len) else none) = some (op, a, b, npc) from htr)
  cases q
  obtain ⟨v, st2, hv, rfl, q⟩ := n_78 hnx
  cases q
  obtain ⟨hv1, hst2⟩ := List.forall_mem_cons.mp hst
  refine lv_dup hx hb hd (sd_cat1 hv) (hk H locs mls ⟨hH, hS, hL, hLn, hls, List.forall_mem_cons.mpr ⟨hv1, List.forall_mem_cons.mpr ⟨hv1, hst2⟩⟩, hok⟩)
set_option maxHeartbeats 2000000 in
theorem s_pop (hFE : sd_FE hz ad dA D L xs p s mid args meth cd m) (hd : decode (mj_byt m) pc = .ok (.pop, len)) (htr : mj_tr m pc (.pop) len = some (op, a, b, npc)) (hnx : mj_nx L m pc npc op a b ls st c π μ = some (pc', ls', st', π', μ')) (hRB : sd_RB hz ad dA D L xs s.heap (mj_maxl m) ls st c π μ H locs mls) (hk : ∀ H locs mls, sd_RB hz ad dA D L xs s.heap (mj_maxl m) ls' st' c π' μ' H locs mls → W p l e R s mid args below meth cd H locs cells slots Z (F0 mid pc' mls (st'.map (sd_v hz ad)))) : W p l e R s mid args below meth cd H locs cells slots Z (F0 mid pc mls (st.map (sd_v hz ad))) := by
  obtain ⟨hx, hb, hml, hown, hgw, hlocks, hret, hini, hK, hN, hE, hL35⟩ := hFE
  obtain ⟨hH, hS, hL, hLn, hls, hst, hok⟩ := hRB
  obtain ⟨rfl, q⟩ := mj_if (show (if len = 1 then some (79, 0, 0, pc + len) else none) = some (op, a, b, npc) from htr)
  cases q
  obtain ⟨x, st2, rfl, q⟩ := n_79 hnx
  cases q
  obtain ⟨hv1, hst2⟩ := List.forall_mem_cons.mp hst
  exact lv_pop (va := .int (Int32.ofInt x)) hx hb hd rfl (hk H locs mls ⟨hH, hS, hL, hLn, hls, hst2, hok⟩)
set_option maxHeartbeats 2000000 in
theorem s_dup2 (hFE : sd_FE hz ad dA D L xs p s mid args meth cd m) (hd : decode (mj_byt m) pc = .ok (.dup2, len)) (htr : mj_tr m pc (.dup2) len = some (op, a, b, npc)) (hnx : mj_nx L m pc npc op a b ls st c π μ = some (pc', ls', st', π', μ')) (hRB : sd_RB hz ad dA D L xs s.heap (mj_maxl m) ls st c π μ H locs mls) (hk : ∀ H locs mls, sd_RB hz ad dA D L xs s.heap (mj_maxl m) ls' st' c π' μ' H locs mls → W p l e R s mid args below meth cd H locs cells slots Z (F0 mid pc' mls (st'.map (sd_v hz ad)))) : W p l e R s mid args below meth cd H locs cells slots Z (F0 mid pc mls (st.map (sd_v hz ad))) := by
  obtain ⟨hx, hb, hml, hown, hgw, hlocks, hret, hini, hK, hN, hE, hL35⟩ := hFE
  obtain ⟨hH, hS, hL, hLn, hls, hst, hok⟩ := hRB
  obtain ⟨rfl, q⟩ := mj_if (show (if len = 1 then some (80, 0, 0, pc + len) else none) = some (op, a, b, npc) from htr)
  cases q
  obtain ⟨y, v, st2, hv, rfl, q⟩ := n_80 hnx
  cases q
  obtain ⟨hv1, hst1⟩ := List.forall_mem_cons.mp hst
  obtain ⟨hv2, hst2⟩ := List.forall_mem_cons.mp hst1
  refine lv_dup2_11 (va := .int (Int32.ofInt y)) (vb := sd_v hz ad v) hx hb hd rfl (sd_cat1 hv) (hk H locs mls ⟨hH, hS, hL, hLn, hls, List.forall_mem_cons.mpr ⟨hv1, List.forall_mem_cons.mpr ⟨hv2, List.forall_mem_cons.mpr ⟨hv1, List.forall_mem_cons.mpr ⟨hv2, hst2⟩⟩⟩⟩, hok⟩)
end
