set_option maxRecDepth 20000 in
theorem sd_called {m : Nat} (h : mj_mk m = 0 ∨ mj_mk m = 1 ∨ mj_mk m = 2) : m ∈ mj_called := by
  refine List.mem_filter.mpr ⟨List.mem_range.mpr ?_, ?_⟩
  · rcases Nat.lt_or_ge m 241 with q | q
    · exact q
    · have e : mj_mk m = 9 := by
        unfold mj_mk
        rw [List.getD_eq_getElem?_getD, List.getElem?_eq_none (by rw [show mj_mkT.length = 241 from rfl]; exact q)]
        rfl
      omega
  · rcases h with h | h | h <;> rw [h] <;> rfl
theorem sd_virt {m : Nat} (h : mj_mk m = 0) : m ∈ mj_virt := by
  have h1 := sd_called (Or.inl h)
  refine List.mem_filter.mpr ⟨(List.mem_filter.mp h1).1, by rw [h]; rfl⟩
theorem sd_init {m : Nat} (h : mj_mk m = 2) : m ∈ mj_inits := by
  have h1 := sd_called (Or.inr (Or.inr h))
  refine List.mem_filter.mpr ⟨(List.mem_filter.mp h1).1, by rw [h]; rfl⟩
theorem sd_mcode {m : Nat} (h : m ∈ mj_called) : mj_cwd m ∈ sd_G := sd_words _ _ wf_cwd wf_cwdg _ (List.mem_map.mpr ⟨m, h, rfl⟩)
theorem sd_minit {m : Nat} (h : m ∈ mj_called) : Cond.initialized (mj_yn m).cls ∈ sd_G := sd_words _ _ wf_iwd wf_iwdg _ (List.mem_map.mpr ⟨m, h, rfl⟩)
theorem sd_mswd {m : Nat} (h : m ∈ mj_called) : mj_swd m ∈ sd_G := sd_words _ _ wf_swd wf_swdg _ (List.mem_map.mpr ⟨m, h, rfl⟩)
theorem sd_mvwd {m : Nat} (h : m ∈ mj_virt) : mj_vwd m ∈ sd_G := sd_words _ _ wf_vwd wf_vwdg _ (List.mem_map.mpr ⟨m, h, rfl⟩)
theorem sd_mcls {m : Nat} (h : m ∈ mj_called) : (mj_yn m).cls = mj_cn (mj_cno m) := List.map_inj_left.mp wf_mc m h
theorem sd_mb {m : Nat} (h : m ∈ mj_called) : (parseMethodDescriptor (mj_yn m).desc).map (fun d => d.parameters.length) = some (mj_na m) ∧ mj_maxl m ≤ 16 ∧ (mj_mk m = 2 → mj_rt m = none) ∧ mj_cno m < 16 := by
  have h1 := List.all_eq_true.mp wf_mb m h
  simp only [mj_mb_ok, Bool.and_eq_true, decide_eq_true_eq] at h1
  refine ⟨h1.1.1.1, h1.1.1.2, fun q => ?_, h1.2⟩
  have h2 := h1.1.2
  rw [if_pos q, decide_eq_true_eq] at h2
  exact h2
theorem sd_mpl {m : Nat} (h : m ∈ mj_called) : plainName (mj_yn m).cls = true ∧ (mj_yn m).cls ≠ "java/lang/invoke/MethodHandle" ∧ (mj_yn m).cls ≠ "java/lang/invoke/VarHandle" := by
  have h1 := (sd_mb h).2.2.2
  have hm : mj_cn (mj_cno m) ∈ mj_cnT := by
    unfold mj_cn
    rw [List.getD_eq_getElem?_getD, List.getElem?_eq_getElem (by rw [show mj_cnT.length = 16 from rfl]; exact h1)]
    exact List.getElem_mem _
  have h2 := List.all_eq_true.mp wf_pl _ hm
  simp only [Bool.and_eq_true, decide_eq_true_eq] at h2
  rw [sd_mcls h]
  exact ⟨h2.1.1, h2.1.2, h2.2⟩
theorem sd_spl : ∀ (n : Nat) (acc st as rest : List mj_V), mj_spl n acc st = some (as, rest) → as = (st.take n).reverse ++ acc ∧ st = st.take n ++ rest ∧ (st.take n).length = n
  | 0, acc, st, as, rest, h => by
    simp only [mj_spl, Option.some.injEq, Prod.mk.injEq] at h
    obtain ⟨rfl, rfl⟩ := h
    simp
  | n + 1, acc, [], as, rest, h => by simp [mj_spl] at h
  | n + 1, acc, v :: st, as, rest, h => by
    obtain ⟨h1, h2, h3⟩ := sd_spl n (v :: acc) st as rest (by simpa [mj_spl] using h)
    refine ⟨by rw [h1]; simp, by rw [List.take_succ_cons, List.cons_append, ← h2], by simp [h3]⟩
theorem sd_spl' {n : Nat} {st as rest : List mj_V} (h : mj_spl n [] st = some (as, rest)) : st = as.reverse ++ rest ∧ as.length = n := by
  obtain ⟨h1, h2, h3⟩ := sd_spl n [] st as rest h
  rw [List.append_nil] at h1
  exact ⟨by rw [h1, List.reverse_reverse]; exact h2, by rw [h1, List.length_reverse, h3]⟩
/-- a call's start and end, as M has them -/
def sd_Pc (hz : Nat) (ad : Nat → Nat) (dA : Nat → ClassId) (D : va_G) (L : Nat) (xs : Nat → Int32) (as : List mj_V) (c : Nat) (π : mj_P) (μ : mj_M) : Array Value → State → Prop := fun a U => a = (as.map (sd_v hz ad)).toArray ∧ sd_K dA D U ∧ sd_N U ∧ sd_E hz ad L xs U ∧ sd_H hz ad dA D c π μ U.heap
def sd_Qc (hz : Nat) (ad : Nat → Nat) (dA : Nat → ClassId) (D : va_G) (L : Nat) (xs : Nat → Int32) (r : List mj_V) (c : Nat) (π : mj_P) (μ : mj_M) : Array Value → State → Outcome → State → Prop := fun _ st o t => o = .returned ((r.map (sd_v hz ad)).head?) ∧ r.length ≤ 1 ∧ sd_H hz ad dA D c π μ t.heap ∧ va_F (sd_A hz) st t ∧ sd_okS L xs c π μ ∧ ∀ v ∈ r, sd_okV c v
theorem sd_blind {hz : Nat} {ad : Nat → Nat} {dA : Nat → ClassId} {D : va_G} {L : Nat} {xs : Nat → Int32} {as : List mj_V} {c : Nat} {π : mj_P} {μ : mj_M} : FrameBlind (sd_Pc hz ad dA D L xs as c π μ) := by
  rintro a U g mk ⟨h1, h2, h3, h4, h5⟩
  exact ⟨h1, va_K.moved (u := U) (U := U.calling g mk a) (Vm.Alike.refl U.vm) h2, sd_N_warm (s := U) (U := U.calling g mk a) (State.WarmedH.refl U) h3, sd_E_move (s := U) (U := U.calling g mk a) (locs := []) h4 va_S.rf (State.WarmedH.refl U) rfl, h5⟩
def sd_RH (hz : Nat) (ad : Nat → Nat) (dA : Nat → ClassId) (D : va_G) (L : Nat) (xs : Nat → Int32) (l : Launch) (p : Program) (e : Env) (R : Room) (s : State) (mid : MethodId) (args : Array Value) (below : List Frame) (meth : Method) (cd : Code) (m : Nat) (r1 : List mj_V) (c1 : Nat) (π1 : mj_P) (μ1 : mj_M) (c0 : Nat) (Z : State → Prop) : Prop :=
  ∀ (H : Heap) (locs : List Loc) (mls : Array Slot) (pc : Nat) (i : Instr), decode (mj_byt m) pc = .ok (i, 1) → ((i = .ireturn ∧ ∃ v, r1 = [.inl v] ∧ (mj_rt m = some .int ∨ (mj_rt m = some .boolean ∧ 0 ≤ v ∧ v ≤ 1))) ∨ (i = .return_ ∧ mj_rt m = none ∧ r1 = [])) →
    sd_H hz ad dA D c1 π1 μ1 H → va_S (sd_A hz) s.heap H locs → sd_okS L xs c1 π1 μ1 → (∀ v ∈ r1, sd_okV c1 v) → W p l e R s mid args below meth cd H locs (c1 - c0) (sd_S c1 - sd_S c0) Z (F0 mid pc mls (r1.map (sd_v hz ad)))
def sd_Goal (hz : Nat) (ad : Nat → Nat) (dA : Nat → ClassId) (D : va_G) (L : Nat) (xs : Nat → Int32) (l : Launch) (d m pc : Nat) (ls st : List mj_V) (c : Nat) (π : mj_P) (μ : mj_M) (r1 : List mj_V) (c1 : Nat) (π1 : mj_P) (μ1 : mj_M) : Prop :=
  ∀ (p : Program) (e : Env) (R : Room) (s : State) (mid : MethodId) (args : Array Value) (below : List Frame) (meth : Method) (cd : Code) (H : Heap) (locs : List Loc) (mls : Array Slot) (c0 : Nat) (Z : State → Prop),
    sd_FE hz ad dA D L xs p s mid args meth cd m → d ≤ R.frames → 64 * d ≤ R.locals → c1 - c0 ≤ R.cells → sd_S c1 - sd_S c0 ≤ R.slots → c0 ≤ c → sd_RB hz ad dA D L xs s.heap (mj_maxl m) ls st c π μ H locs mls → sd_RH hz ad dA D L xs l p e R s mid args below meth cd m r1 c1 π1 μ1 c0 Z →
    W p l e R s mid args below meth cd H locs (c - c0) (sd_S c - sd_S c0) Z (F0 mid pc mls (st.map (sd_v hz ad)))
set_option maxHeartbeats 2000000 in
/-- a method's contract out of M's run -/
theorem sd_met {hz : Nat} {ad : Nat → Nat} {dA : Nat → ClassId} {D : va_G} {L : Nat} {xs : Nat → Int32} {l : Launch} {d m : Nat} {as : List mj_V} {c : Nat} {π : mj_P} {μ : mj_M} {r1 : List mj_V} {c1 : Nat} {π1 : mj_P} {μ1 : mj_M} (hm : m ∈ mj_called) (hao : mj_aok m as = true) (hok : sd_okS L xs c π μ) (has : ∀ v ∈ as, sd_okV c v) (hL35 : L ≤ 3584)
    (hg : sd_Goal hz ad dA D L xs l d m 0 (mj_pad m as) [] c π μ r1 c1 π1 μ1) :
    Met l (mj_yn m) (mj_cwd m :: sd_G) { frames := d, cells := c1 - c, slots := sd_S c1 - sd_S c, locals := 64 * d } (sd_Pc hz ad dA D L xs as c π μ) (sd_Qc hz ad dA D L xs r1 c1 π1 μ1) (c1 - c) (sd_S c1 - sd_S c) (sd_A hz) := by
  have hal : (mj_exp as).length ≤ mj_maxl m := by
    simp only [mj_aok, Bool.and_eq_true, decide_eq_true_eq] at hao
    exact hao.1
  refine Met.ofW (cc := mj_byt m) (maxL := mj_maxl m) (ret := mj_rt m) (sd_mpl hm).1 rfl ?_
  intro p e s mid args below meth cd s₁ B hml hv
  obtain ⟨rfl, hK, hN, hE, hH⟩ := hv
  rw [lg_entry_eq]
  have hts := atoms_spec (ws := mj_cwd m :: sd_G) B.pre
  have hfc : s.vm.findClass (mj_cn (mj_cno m)) = some mid.cls := by rw [← sd_mcls hm]; exact findClass_of_methodNamed B.named
  have h := hg p e (headSpec (mj_cwd m :: sd_G) { frames := d, cells := c1 - c, slots := sd_S c1 - sd_S c, locals := 64 * d }).room s mid _ below meth cd s.heap [] _ c (MQ below (sd_Qc hz ad dA D L xs r1 c1 π1 μ1) (as.map (sd_v hz ad)).toArray s (c1 - c) (sd_S c1 - sd_S c) (sd_A hz))
    ⟨B.exec, B.bytes, hml, hfc, fun w hw => hts w (List.mem_cons_of_mem _ hw), B.notSynchronized, B.returns, fun q => by rw [(name_of_methodNamed B.named B.method).1]; exact List.map_inj_left.mp wf_mi m (sd_init q), hK, hN, hE, hL35⟩
    (Nat.le_refl _) (Nat.le_refl _) (Nat.le_refl _) (Nat.le_refl _) (Nat.le_refl c)
    ⟨hH, va_S.rf, sd_L_entry hal, sd_pad_len hal, fun v hv => by
      rcases sd_pad_mem hv with h | rfl
      · exact has v h
      · exact sd_okV_nul hok.1, (fun v hv => by cases hv), hok⟩ ?_
  · rw [Nat.sub_self, Nat.sub_self] at h
    exact h
  · intro H locs mls pc i hdi hi hH1 hS1 hok1 hv1
    rcases hi with ⟨rfl, v, rfl, hr⟩ | ⟨rfl, hr, rfl⟩
    · rcases hr with hr | ⟨hr, hb⟩
      · exact W.iret B.exec B.bytes (by rw [B.returns]; exact hr) (fun t ht hW => ⟨rfl, by simp, by rw [ht]; exact hH1, hS1.F ht, hok1, hv1⟩) hS1.2.2 hdi B.notSynchronized
      · exact W.zret (ty := .boolean) B.exec B.bytes (by rw [B.returns]; exact hr) (sd_bool (hz := hz) (ad := ad) hb) (fun t ht hW => ⟨rfl, by simp, by rw [ht]; exact hH1, hS1.F ht, hok1, hv1⟩) hS1.2.2 hdi B.notSynchronized
    · exact W.vret B.exec B.bytes (by rw [B.returns]; exact hr) (fun t ht hW => ⟨rfl, by simp, by rw [ht]; exact hH1, hS1.F ht, hok1, hv1⟩) hS1.2.2 hdi B.notSynchronized
theorem sd_hd {α : Type} : ∀ {l : List α}, l.length ≤ 1 → l.head?.toList = l
  | [], _ => rfl
  | [a], _ => rfl
  | a :: b :: l, h => by simp at h
section
variable {hz : Nat} {ad : Nat → Nat} {dA : Nat → ClassId} {D : va_G} {L : Nat} {xs : Nat → Int32} {p : Program} {l : Launch} {e : Env} {R : Room} {s : State} {mid : MethodId} {args : Array Value} {below : List Frame} {meth : Method} {cd : Code} {H : Heap} {locs : List Loc} {Z : State → Prop} {mls : Array Slot} {m pc : Nat} {ls st rest as : List mj_V} {c c2 : Nat} {π π2 : mj_P} {μ μ2 : mj_M} {r2 : List mj_V} {cells slots mc ms : Nat}
theorem sd_cont {st0 rst : List Value} {a : Array Value} (hr : va_Run p l e R s mid args below meth cd H locs cells slots mc ms (F0 mid pc mls st0) rst (sd_Qc hz ad dA D L xs r2 c2 π2 μ2 a) (sd_A hz)) (hS : va_S (sd_A hz) s.heap H locs)
    (kk : ∀ H1 locs1, sd_H hz ad dA D c2 π2 μ2 H1 → va_S (sd_A hz) s.heap H1 locs1 → sd_okS L xs c2 π2 μ2 → (∀ v ∈ r2, sd_okV c2 v) → W p l e R s mid args below meth cd H1 locs1 (cells + mc) (slots + ms) Z (F0 mid (pc + 3) mls (r2.map (sd_v hz ad) ++ rst))) :
    W p l e R s mid args below meth cd H locs cells slots Z (F0 mid pc mls st0) := by
  intro T hT X
  obtain ⟨v, st₀, t, T', L', h0, X', hL, e1, e2, ⟨hv, hlen, hH2, ⟨hz1, hk1⟩, hok, hvs⟩, stp⟩ := hr T hT X
  have hv' : v = (r2.map (sd_v hz ad)).head? := Outcome.returned.inj hv
  rw [h0] at hz1 hk1
  obtain ⟨t2, a1, b1⟩ := kk T'.heap (locs ++ L') (by rw [e1]; exact hH2) ⟨Nat.le_trans hS.1 (by rw [e1]; exact hz1), fun q h1 h2 => by rw [e1, hk1 q (Nat.lt_of_lt_of_le h1 hS.1) h2]; exact hS.2.1 q h1 h2, fun q hq => by
      rcases List.mem_append.mp hq with h | h
      · exact hS.2.2 q h
      · exact hL q h⟩ hok hvs T' rfl X'
  refine ⟨t2, stp t2 ?_, b1⟩
  rw [hv', sd_hd (by rw [List.length_map]; exact hlen)]
  exact a1
theorem sd_pre {U : State} (hK : sd_K dA D s) (hN : sd_N s) (hE : sd_E hz ad L xs s) (hS : va_S (sd_A hz) s.heap H locs) (hH : sd_H hz ad dA D c π μ H) (hU : U.heap = H) (hW : s.WarmedH U.vm) : sd_Pc hz ad dA D L xs as c π μ (as.map (sd_v hz ad)).toArray U :=
  ⟨rfl, va_K.moved hW.alike hK, sd_N_warm hW hN, sd_E_move hE hS hW hU, by rw [hU]; exact hH⟩
theorem sd_good {ws : List Cond} {m' : Nat} (hm : m' ∈ mj_called) (h : ∀ w ∈ ws, w ∈ sd_G) : GoodIn sd_G (ws ++ (mj_cwd m' :: sd_G)) := by
  intro w hw
  have hw' : w ∈ sd_G := by
    rcases List.mem_append.mp hw with q | q
    · exact h w q
    · rcases List.mem_cons.mp q with rfl | q
      · exact sd_mcode hm
      · exact q
  exact ⟨hw', sd_G_good w hw'⟩
set_option maxHeartbeats 2000000 in
theorem s_callV {v k d m' pos : Nat} {as' : List mj_V} (hFE : sd_FE hz ad dA D L xs p s mid args meth cd m) (hd : decode (mj_byt m) pc = .ok (.invokevirtual v, 3)) (hw : mj_mlT.lookup (mj_cno m, v) = some (m', false, pos)) (hmk : mj_mk m' = 0) (hwk : mj_wok rest = true) (hao : mj_aok m' (.inr (.inr k) :: as') = true) (hlen : as'.length = mj_na m')
    (hRf : d + 1 ≤ R.frames) (hRl : 64 * (d + 1) ≤ R.locals) (hRc : cells + (c2 - c) ≤ R.cells) (hRs : slots + (sd_S c2 - sd_S c) ≤ R.slots)
    (hRB : sd_RB hz ad dA D L xs s.heap (mj_maxl m) ls ((.inr (.inr k) :: as').reverse ++ rest) c π μ H locs mls) (hg : sd_Goal hz ad dA D L xs l d m' 0 (mj_pad m' (.inr (.inr k) :: as')) [] c π μ r2 c2 π2 μ2)
    (hk : ∀ H locs mls, sd_RB hz ad dA D L xs s.heap (mj_maxl m) ls (r2 ++ rest) c2 π2 μ2 H locs mls → W p l e R s mid args below meth cd H locs (cells + (c2 - c)) (slots + (sd_S c2 - sd_S c)) Z (F0 mid (pc + 3) mls ((r2 ++ rest).map (sd_v hz ad)))) (hcc : c ≤ c2) :
    W p l e R s mid args below meth cd H locs cells slots Z (F0 mid pc mls (((.inr (.inr k) :: as').reverse ++ rest).map (sd_v hz ad))) := by
  obtain ⟨hx, hb, hml, hown, hgw, hlocks, hret, hini, hK, hN, hE, hL35⟩ := hFE
  obtain ⟨hH, hS, hL, hLn, hls, hst, hok⟩ := hRB
  have hm := sd_called (Or.inl hmk)
  have has : ∀ w ∈ (.inr (.inr k) :: as' : List mj_V), sd_okV c w := fun w hw => hst w (List.mem_append_left _ (List.mem_reverse.mpr hw))
  have hrest : ∀ w ∈ rest, sd_okV c w := fun w hw => hst w (List.mem_append_right _ hw)
  have hM := sd_met hm hao hok has hL35 hg
  obtain ⟨hp1, hp2, hp3⟩ := sd_mpl hm
  obtain ⟨hb1, hb2, -, -⟩ := sd_mb hm
  have hci := List.all_eq_true.mp wf_mv m' (sd_virt hmk)
  simp only [decide_eq_true_eq] at hci
  have hrc : (mj_lay 0 k).1 = 10 + mj_cno m' ∧ k < 1000 := by
    simp only [mj_aok, Bool.and_eq_true] at hao
    have h2 := hao.2
    rw [if_pos (Or.inl hmk)] at h2
    simp only [mj_rcv] at h2
    rw [if_pos hmk] at h2
    simpa using h2
  have hmw : Cond.methodLink (mj_cn (mj_cno m)) v (mj_yn m') ∈ sd_G := sd_words _ _ wf_mlA wf_mlAg _ (List.mem_map.mpr ⟨_, List.mem_filter.mpr ⟨mj_lookup_mem hw, rfl⟩, rfl⟩)
  have hsw : Cond.instanceMethod (mj_yn m') ∈ sd_G := by
    have := sd_mswd hm
    unfold mj_swd at this
    rw [if_neg (by omega)] at this
    exact this
  obtain ⟨ev, hk1, hkc, hk9, hk3, hk4, cell, q1, q2, q3, q4⟩ := sd_objc (ci := mj_cno m') hH hok (has _ List.mem_cons_self) (by rw [sd_lay_eq hrc.2]; omega)
  have hKn := sd_obj hK hci
  have hT : GoodIn sd_G (wsV (mj_cn (mj_cno m)) v (mj_yn m').cls (mj_yn m') (mj_cwd m' :: sd_G)) := by
    refine sd_good hm (ws := [.methodLink (mj_cn (mj_cno m)) v (mj_yn m'), .instanceMethod (mj_yn m'), .selects (mj_yn m').cls (mj_yn m') (mj_yn m'), .initialized (mj_yn m').cls]) (fun w hw => ?_)
    simp only [List.mem_cons, List.not_mem_nil, or_false] at hw
    rcases hw with rfl | rfl | rfl | rfl
    · exact hmw
    · exact hsw
    · exact sd_mvwd (sd_virt hmk)
    · exact sd_minit hm
  have hPre : ∀ U : State, U.heap = H → s.WarmedH U.vm → sd_Pc hz ad dA D L xs (.inr (.inr k) :: as') c π μ (Value.ref (hz + mj_ix k) :: as'.map (sd_v hz ad)).toArray U := fun U hU hW => by
    have := sd_pre (as := .inr (.inr k) :: as') hK hN hE hS hH hU hW
    rw [List.map_cons, ev] at this
    exact this
  have hrun := va_runV (As := as'.map (sd_v hz ad)) (rest := rest.map (sd_v hz ad)) (b := hz + mj_ix k) (g := F0 mid pc mls (((.inr (.inr k) :: as').reverse ++ rest).map (sd_v hz ad))) (locs := locs) (cells := cells) (slots := slots) (e := e) (below := below) (meth := meth) ⟨hx, hb, hml, hown, hgw⟩ hM
    (cwV (mj_na m') hgw hT rfl rfl rfl ⟨rfl, hp2, hp3, hb1⟩ ⟨by show d + 1 ≤ _; omega, by show 8 + (mj_maxl m' + 11) + 64 * d ≤ _; omega⟩)
    ⟨sd_blind, ⟨cell, q1, by rw [q3]; rfl, by rw [q2, sd_mcls hm]; exact hKn.2.1⟩, hPre⟩ rfl (by rw [List.length_map]; exact hlen) hL.1 (by simp [ev]) (lv_room (sd_wt hwk)) hd ⟨hRc, hRs⟩
  refine sd_cont hrun hS (fun H1 locs1 a1 a2 a3 a4 => ?_)
  have h := hk H1 locs1 mls ⟨a1, a2, hL, hLn, fun w hw => sd_okV_mono hcc (hls w hw), fun w hw => ?_, a3⟩
  · rw [List.map_append] at h
    exact h
  · rcases List.mem_append.mp hw with q | q
    · exact a4 w q
    · exact sd_okV_mono hcc (hrest w q)
set_option maxHeartbeats 2000000 in
theorem s_callS {v d m' pos : Nat} {nest : Bool} (hFE : sd_FE hz ad dA D L xs p s mid args meth cd m) (hd : decode (mj_byt m) pc = .ok (.invokestatic v, 3)) (hw : mj_mlT.lookup (mj_cno m, v) = some (m', nest, pos)) (hmk : mj_mk m' = 1) (hwk : mj_wok rest = true) (hao : mj_aok m' as = true) (hlen : as.length = mj_na m')
    (hRf : d + 1 ≤ R.frames) (hRl : 64 * (d + 1) ≤ R.locals) (hRc : cells + (c2 - c) ≤ R.cells) (hRs : slots + (sd_S c2 - sd_S c) ≤ R.slots)
    (hRB : sd_RB hz ad dA D L xs s.heap (mj_maxl m) ls (as.reverse ++ rest) c π μ H locs mls) (hg : sd_Goal hz ad dA D L xs l d m' 0 (mj_pad m' as) [] c π μ r2 c2 π2 μ2)
    (hk : ∀ H locs mls, sd_RB hz ad dA D L xs s.heap (mj_maxl m) ls (r2 ++ rest) c2 π2 μ2 H locs mls → W p l e R s mid args below meth cd H locs (cells + (c2 - c)) (slots + (sd_S c2 - sd_S c)) Z (F0 mid (pc + 3) mls ((r2 ++ rest).map (sd_v hz ad)))) (hcc : c ≤ c2) :
    W p l e R s mid args below meth cd H locs cells slots Z (F0 mid pc mls ((as.reverse ++ rest).map (sd_v hz ad))) := by
  obtain ⟨hx, hb, hml, hown, hgw, hlocks, hret, hini, hK, hN, hE, hL35⟩ := hFE
  obtain ⟨hH, hS, hL, hLn, hls, hst, hok⟩ := hRB
  have hm := sd_called (Or.inr (Or.inl hmk))
  have has : ∀ w ∈ as, sd_okV c w := fun w hw => hst w (List.mem_append_left _ (List.mem_reverse.mpr hw))
  have hrest : ∀ w ∈ rest, sd_okV c w := fun w hw => hst w (List.mem_append_right _ hw)
  have hM := sd_met hm hao hok has hL35 hg
  obtain ⟨hp1, hp2, hp3⟩ := sd_mpl hm
  obtain ⟨hb1, hb2, -, -⟩ := sd_mb hm
  have hsw : Cond.static (mj_yn m') ∈ sd_G := by
    have := sd_mswd hm
    unfold mj_swd at this
    rw [if_pos hmk] at this
    exact this
  have hrun : va_Run p l e R s mid args below meth cd H locs cells slots (c2 - c) (sd_S c2 - sd_S c) (F0 mid pc mls ((as.reverse ++ rest).map (sd_v hz ad))) (rest.map (sd_v hz ad)) (sd_Qc hz ad dA D L xs r2 c2 π2 μ2 (as.map (sd_v hz ad)).toArray) (sd_A hz) := by
    cases nest with
    | false =>
      have hmw : Cond.methodLink (mj_cn (mj_cno m)) v (mj_yn m') ∈ sd_G := sd_words _ _ wf_mlA wf_mlAg _ (List.mem_map.mpr ⟨_, List.mem_filter.mpr ⟨mj_lookup_mem hw, rfl⟩, rfl⟩)
      have hT : GoodIn sd_G (va_wsS (mj_cn (mj_cno m)) v (mj_yn m') (mj_cwd m' :: sd_G)) := by
        refine sd_good hm (ws := [.methodLink (mj_cn (mj_cno m)) v (mj_yn m'), .static (mj_yn m'), .initialized (mj_yn m').cls]) (fun w hw => ?_)
        simp only [List.mem_cons, List.not_mem_nil, or_false] at hw
        rcases hw with rfl | rfl | rfl
        · exact hmw
        · exact hsw
        · exact sd_minit hm
      exact va_runS (As := as.map (sd_v hz ad)) (rest := rest.map (sd_v hz ad)) ⟨hx, hb, hml, hown, hgw⟩ hM
        (va_cwS (mj_na m') hgw hT rfl rfl rfl ⟨hp2, hp3, hb1⟩ ⟨by show d + 1 ≤ _; omega, by show 8 + (mj_maxl m' + 11) + 64 * d ≤ _; omega⟩)
        ⟨sd_blind, fun U hU hW => sd_pre hK hN hE hS hH hU hW⟩ rfl (by rw [List.length_map]; exact hlen) hL.1 (by simp) (lv_room (sd_wt hwk)) hd ⟨hRc, hRs⟩
    | true =>
      have hmw : Cond.methodLinkNest (mj_cn (mj_cno m)) v (mj_yn m') "SpokenBooks" ∈ lw_tbl := sd_nwords _ _ wf_mlB _ (List.mem_map.mpr ⟨_, List.mem_filter.mpr ⟨mj_lookup_mem hw, rfl⟩, rfl⟩)
      have hG : GoodIn sd_G (mj_cwd m' :: sd_G) := sd_good hm (ws := []) (fun w hw => by cases hw)
      exact va_runSN (As := as.map (sd_v hz ad)) (rest := rest.map (sd_v hz ad)) ⟨hx, hb, hml, hown, hgw⟩ hM
        ⟨va_cnB (mj_na m') hgw hG rfl rfl rfl (hN _ hmw rfl) (hgw _ (sd_minit hm)) ⟨hp2, hp3, hb1⟩ ⟨by show d + 1 ≤ _; omega, by show 8 + (mj_maxl m' + 11) + 64 * d ≤ _; omega⟩, hgw _ hsw, trivial⟩
        ⟨sd_blind, fun U hU hW => sd_pre hK hN hE hS hH hU hW⟩ rfl (by rw [List.length_map]; exact hlen) hL.1 (by simp) (lv_room (sd_wt hwk)) hd ⟨hRc, hRs⟩
  refine sd_cont hrun hS (fun H1 locs1 a1 a2 a3 a4 => ?_)
  have h := hk H1 locs1 mls ⟨a1, a2, hL, hLn, fun w hw => sd_okV_mono hcc (hls w hw), fun w hw => ?_, a3⟩
  · rw [List.map_append] at h
    exact h
  · rcases List.mem_append.mp hw with q | q
    · exact a4 w q
    · exact sd_okV_mono hcc (hrest w q)
set_option maxHeartbeats 2000000 in
theorem s_callI {v k d m' pos : Nat} {nest : Bool} {as' : List mj_V} (hFE : sd_FE hz ad dA D L xs p s mid args meth cd m) (hd : decode (mj_byt m) pc = .ok (.invokespecial v, 3)) (hw : mj_mlT.lookup (mj_cno m, v) = some (m', nest, pos)) (hmk : mj_mk m' = 2) (hwk : mj_wok rest = true) (hao : mj_aok m' (.inr (.inr k) :: as') = true) (hlen : as'.length = mj_na m')
    (hRf : d + 1 ≤ R.frames) (hRl : 64 * (d + 1) ≤ R.locals) (hRc : cells + (c2 - c) ≤ R.cells) (hRs : slots + (sd_S c2 - sd_S c) ≤ R.slots)
    (hRB : sd_RB hz ad dA D L xs s.heap (mj_maxl m) ls ((.inr (.inr k) :: as').reverse ++ rest) c π μ H locs mls) (hg : sd_Goal hz ad dA D L xs l d m' 0 (mj_pad m' (.inr (.inr k) :: as')) [] c π μ r2 c2 π2 μ2)
    (hk : ∀ H locs mls, sd_RB hz ad dA D L xs s.heap (mj_maxl m) ls (r2 ++ rest) c2 π2 μ2 H locs mls → W p l e R s mid args below meth cd H locs (cells + (c2 - c)) (slots + (sd_S c2 - sd_S c)) Z (F0 mid (pc + 3) mls ((r2 ++ rest).map (sd_v hz ad)))) (hcc : c ≤ c2) :
    W p l e R s mid args below meth cd H locs cells slots Z (F0 mid pc mls (((.inr (.inr k) :: as').reverse ++ rest).map (sd_v hz ad))) := by
  obtain ⟨hx, hb, hml, hown, hgw, hlocks, hret, hini, hK, hN, hE, hL35⟩ := hFE
  obtain ⟨hH, hS, hL, hLn, hls, hst, hok⟩ := hRB
  have hm := sd_called (Or.inr (Or.inr hmk))
  have has : ∀ w ∈ (.inr (.inr k) :: as' : List mj_V), sd_okV c w := fun w hw => hst w (List.mem_append_left _ (List.mem_reverse.mpr hw))
  have hrest : ∀ w ∈ rest, sd_okV c w := fun w hw => hst w (List.mem_append_right _ hw)
  have hM := sd_met hm hao hok has hL35 hg
  obtain ⟨hp1, hp2, hp3⟩ := sd_mpl hm
  obtain ⟨hb1, hb2, hb3, -⟩ := sd_mb hm
  have hk0 : k ≠ 0 := by
    simp only [mj_aok, Bool.and_eq_true] at hao
    have h2 := hao.2
    rw [if_pos (Or.inr hmk)] at h2
    simp only [mj_rcv] at h2
    rw [if_neg (by omega)] at h2
    simpa using h2
  have ev := sd_refx (hz := hz) (ad := ad) hk0
  have hsw : Cond.instanceMethod (mj_yn m') ∈ sd_G := by
    have := sd_mswd hm
    unfold mj_swd at this
    rw [if_neg (by omega)] at this
    exact this
  have hnm : (mj_yn m').name = "<init>" := List.map_inj_left.mp wf_mi m' (sd_init hmk)
  have hcd : mj_cwd m' = .code (mj_yn m') (mj_byt m') (mj_maxl m') none := by unfold mj_cwd; rw [hb3 hmk]
  have hPre : ∀ U : State, U.heap = H → s.WarmedH U.vm → sd_Pc hz ad dA D L xs (.inr (.inr k) :: as') c π μ (Value.ref (sd_r hz ad k) :: as'.map (sd_v hz ad)).toArray U := fun U hU hW => by
    have := sd_pre (as := .inr (.inr k) :: as') hK hN hE hS hH hU hW
    rw [List.map_cons, ev] at this
    exact this
  have hG : GoodIn sd_G (mj_cwd m' :: sd_G) := sd_good hm (ws := []) (fun w hw => by cases hw)
  have hrun : va_Run p l e R s mid args below meth cd H locs cells slots (c2 - c) (sd_S c2 - sd_S c) (F0 mid pc mls (((.inr (.inr k) :: as').reverse ++ rest).map (sd_v hz ad))) (rest.map (sd_v hz ad)) (sd_Qc hz ad dA D L xs r2 c2 π2 μ2 (Value.ref (sd_r hz ad k) :: as'.map (sd_v hz ad)).toArray) (sd_A hz) := by
    cases nest with
    | false =>
      have hmw : Cond.methodLink (mj_cn (mj_cno m)) v (mj_yn m') ∈ sd_G := sd_words _ _ wf_mlA wf_mlAg _ (List.mem_map.mpr ⟨_, List.mem_filter.mpr ⟨mj_lookup_mem hw, rfl⟩, rfl⟩)
      exact va_runI (As := as'.map (sd_v hz ad)) (rest := rest.map (sd_v hz ad)) (b := sd_r hz ad k) ⟨hx, hb, hml, hown, hgw⟩ hM
        (cwI (mj_na m') hgw hG (by rw [hcd]) rfl rfl (hgw _ (sd_minit hm)) (hgw _ hmw) (hgw _ hsw) hnm ⟨hp2, hp3, hb1⟩ ⟨by show d + 1 ≤ _; omega, by show 8 + (mj_maxl m' + 11) + 64 * d ≤ _; omega⟩)
        ⟨sd_blind, hPre⟩ rfl (by rw [List.length_map]; exact hlen) hL.1 (by simp [ev]) (lv_room (sd_wt hwk)) hd ⟨hRc, hRs⟩
    | true =>
      have hmw : Cond.methodLinkNest (mj_cn (mj_cno m)) v (mj_yn m') "SpokenBooks" ∈ lw_tbl := sd_nwords _ _ wf_mlB _ (List.mem_map.mpr ⟨_, List.mem_filter.mpr ⟨mj_lookup_mem hw, rfl⟩, rfl⟩)
      exact va_runIN (As := as'.map (sd_v hz ad)) (rest := rest.map (sd_v hz ad)) (b := sd_r hz ad k) ⟨hx, hb, hml, hown, hgw⟩ hM
        ⟨va_cnB (mj_na m') hgw hG (by rw [hcd]) rfl rfl (hN _ hmw rfl) (hgw _ (sd_minit hm)) ⟨hp2, hp3, hb1⟩ ⟨by show d + 1 ≤ _; omega, by show 8 + (mj_maxl m' + 11) + 64 * d ≤ _; omega⟩, hnm, hgw _ hsw⟩
        ⟨sd_blind, hPre⟩ rfl (by rw [List.length_map]; exact hlen) hL.1 (by simp [ev]) (lv_room (sd_wt hwk)) hd ⟨hRc, hRs⟩
  refine sd_cont hrun hS (fun H1 locs1 a1 a2 a3 a4 => ?_)
  have h := hk H1 locs1 mls ⟨a1, a2, hL, hLn, fun w hw => sd_okV_mono hcc (hls w hw), fun w hw => ?_, a3⟩
  · rw [List.map_append] at h
    exact h
  · rcases List.mem_append.mp hw with q | q
    · exact a4 w q
    · exact sd_okV_mono hcc (hrest w q)
end
