def st_y_ca : MethodName := ⟨"java/lang/String", "charAt", "(I)C"⟩
def st_y_il : MethodName := ⟨"java/lang/String", "isLatin1", "()Z"⟩
def st_y_sl : MethodName := ⟨"java/lang/StringLatin1", "charAt", "([BI)C"⟩
def st_y_ci : MethodName := ⟨"java/lang/String", "checkIndex", "(II)V"⟩
def st_y_pc : MethodName := ⟨"jdk/internal/util/Preconditions", "checkIndex", "(IILjava/util/function/BiFunction;)I"⟩
theorem st_ca_0 : decode prog_16_method_56_code 0 = .ok (.aload_n 0, 1) := by decide +kernel
theorem st_ca_1 : decode prog_16_method_56_code 1 = .ok (.invokevirtual 492, 3) := by decide +kernel
theorem st_ca_4 : decode prog_16_method_56_code 4 = .ok (.ifCond .eq 12, 3) := by decide +kernel
theorem st_ca_7 : decode prog_16_method_56_code 7 = .ok (.aload_n 0, 1) := by decide +kernel
theorem st_ca_8 : decode prog_16_method_56_code 8 = .ok (.getfield 9, 3) := by decide +kernel
theorem st_ca_11 : decode prog_16_method_56_code 11 = .ok (.iload_n 1, 1) := by decide +kernel
theorem st_ca_12 : decode prog_16_method_56_code 12 = .ok (.invokestatic 495, 3) := by decide +kernel
theorem st_ca_15 : decode prog_16_method_56_code 15 = .ok (.ireturn, 1) := by decide +kernel
theorem st_il_0 : decode prog_16_method_154_code 0 = .ok (.getstatic 38, 3) := by decide +kernel
theorem st_il_3 : decode prog_16_method_154_code 3 = .ok (.ifCond .eq 14, 3) := by decide +kernel
theorem st_il_6 : decode prog_16_method_154_code 6 = .ok (.aload_n 0, 1) := by decide +kernel
theorem st_il_7 : decode prog_16_method_154_code 7 = .ok (.getfield 15, 3) := by decide +kernel
theorem st_il_10 : decode prog_16_method_154_code 10 = .ok (.ifCond .ne 7, 3) := by decide +kernel
theorem st_il_13 : decode prog_16_method_154_code 13 = .ok (.iconst 1, 1) := by decide +kernel
theorem st_il_14 : decode prog_16_method_154_code 14 = .ok (.goto 4, 3) := by decide +kernel
theorem st_il_18 : decode prog_16_method_154_code 18 = .ok (.ireturn, 1) := by decide +kernel
theorem st_sl_0 : decode prog_17_method_2_code 0 = .ok (.iload_n 1, 1) := by decide +kernel
theorem st_sl_1 : decode prog_17_method_2_code 1 = .ok (.aload_n 0, 1) := by decide +kernel
theorem st_sl_2 : decode prog_17_method_2_code 2 = .ok (.arraylength, 1) := by decide +kernel
theorem st_sl_3 : decode prog_17_method_2_code 3 = .ok (.invokestatic 9, 3) := by decide +kernel
theorem st_sl_6 : decode prog_17_method_2_code 6 = .ok (.aload_n 0, 1) := by decide +kernel
theorem st_sl_7 : decode prog_17_method_2_code 7 = .ok (.iload_n 1, 1) := by decide +kernel
theorem st_sl_8 : decode prog_17_method_2_code 8 = .ok (.baload, 1) := by decide +kernel
theorem st_sl_9 : decode prog_17_method_2_code 9 = .ok (.sipush 255, 3) := by decide +kernel
theorem st_sl_12 : decode prog_17_method_2_code 12 = .ok (.iand, 1) := by decide +kernel
theorem st_sl_13 : decode prog_17_method_2_code 13 = .ok (.i2c, 1) := by decide +kernel
theorem st_sl_14 : decode prog_17_method_2_code 14 = .ok (.ireturn, 1) := by decide +kernel
theorem st_ci_0 : decode prog_16_method_155_code 0 = .ok (.iload_n 0, 1) := by decide +kernel
theorem st_ci_1 : decode prog_16_method_155_code 1 = .ok (.iload_n 1, 1) := by decide +kernel
theorem st_ci_2 : decode prog_16_method_155_code 2 = .ok (.getstatic 1053, 3) := by decide +kernel
theorem st_ci_5 : decode prog_16_method_155_code 5 = .ok (.invokestatic 1059, 3) := by decide +kernel
theorem st_ci_8 : decode prog_16_method_155_code 8 = .ok (.pop, 1) := by decide +kernel
theorem st_ci_9 : decode prog_16_method_155_code 9 = .ok (.return_, 1) := by decide +kernel
theorem st_pc_0 : decode prog_20_method_11_code 0 = .ok (.iload_n 0, 1) := by decide +kernel
theorem st_pc_1 : decode prog_20_method_11_code 1 = .ok (.ifCond .lt 8, 3) := by decide +kernel
theorem st_pc_4 : decode prog_20_method_11_code 4 = .ok (.iload_n 0, 1) := by decide +kernel
theorem st_pc_5 : decode prog_20_method_11_code 5 = .ok (.iload_n 1, 1) := by decide +kernel
theorem st_pc_6 : decode prog_20_method_11_code 6 = .ok (.if_icmp .lt 10, 3) := by decide +kernel
theorem st_pc_16 : decode prog_20_method_11_code 16 = .ok (.iload_n 0, 1) := by decide +kernel
theorem st_pc_17 : decode prog_20_method_11_code 17 = .ok (.ireturn, 1) := by decide +kernel
def st_ws : List Cond := [.methodLink "SpokenBooks$Tape" 114 st_y_ca, .instanceMethod st_y_ca, .selects "java/lang/String" st_y_ca st_y_ca, .code st_y_ca prog_16_method_56_code 2 (some .char), .methodLink "java/lang/String" 492 st_y_il, .instanceMethod st_y_il, .selects "java/lang/String" st_y_il st_y_il, .code st_y_il prog_16_method_154_code 1 (some .boolean), .fieldLink "java/lang/String" 38 "java/lang/String" "COMPACT_STRINGS" "Z", .methodLink "java/lang/String" 495 st_y_sl, .static st_y_sl, .code st_y_sl prog_17_method_2_code 2 (some .char), .methodLink "java/lang/StringLatin1" 9 st_y_ci, .static st_y_ci, .code st_y_ci prog_16_method_155_code 2 none, .fieldLink "java/lang/String" 1053 "jdk/internal/util/Preconditions" "SIOOBE_FORMATTER" "Ljava/util/function/BiFunction;", .methodLink "java/lang/String" 1059 st_y_pc, .static st_y_pc, .code st_y_pc prog_20_method_11_code 3 (some .int), .fieldLink "java/lang/String" 15 "java/lang/String" "coder" "B", .fieldLink "java/lang/String" 9 "java/lang/String" "value" "[B", .initialized "java/lang/String", .initialized "java/lang/StringLatin1", .initialized "jdk/internal/util/Preconditions"]
set_option maxRecDepth 100000 in
theorem st_wsp : st_ws = ([575, 576, 577, 578, 579, 580, 581, 582, 583, 585, 586, 587, 588, 589, 590, 591, 593, 594, 595, 1643, 1644, 84, 85, 86] : List Nat).filterMap (fun i => lw_tbl[i]?) := rfl
set_option maxRecDepth 100000 in
theorem st_wsg : st_ws.all goodWord = true := by decide +kernel
theorem st_w {w : Cond} (h : w ∈ st_ws) : w ∈ sd_G := sd_words _ _ st_wsp st_wsg w h
theorem st_good {ws : List Cond} {w0 : Cond} (h0 : w0 ∈ st_ws) (h : ∀ w ∈ ws, w ∈ st_ws) : GoodIn sd_G (ws ++ (w0 :: sd_G)) := by
  intro w hw
  have hw' : w ∈ sd_G := by
    rcases List.mem_append.mp hw with q | q
    · exact st_w (h w q)
    · rcases List.mem_cons.mp q with rfl | q
      · exact st_w h0
      · exact q
  exact ⟨hw', sd_G_good w hw'⟩
def st_Qv : Array Value → State → Outcome → State → Prop := fun _ st o t => o = .returned none ∧ t.heap = st.heap
section
variable {p : Program} {l : Launch} {e : Env} {R : Room} {s : State} {m : MethodId} {args : Array Value} {below : List Frame} {meth : Method} {c : Code} {H : Heap} {locs : List Loc} {cells slots : Nat} {Q : State → Prop} {g : JFrame} {rest : List Value} {a : Array Value}
theorem st_callv (hr : CallRun p l e R s m args below meth c H locs cells slots 0 0 g rest (st_Qv a) (fun _ => False)) (kk : W p l e R s m args below meth c H locs cells slots Q { g with pc := g.pc + 3, stack := rest }) : W p l e R s m args below meth c H locs cells slots Q g := by
  intro T hT X
  obtain ⟨v, st₀, t, T', L, h0, X', hL, e1, ⟨hv, hh⟩, st⟩ := hr T hT X
  cases hv
  obtain ⟨t2, a1, b1⟩ := kk T' (by rw [e1, hh, h0]) (Stand.forget X' (fun q h => (hL q h).elim))
  exact ⟨t2, st t2 a1, b1⟩
end
theorem st_pc (l : Launch) (i n : Int32) (f : Nat) (h0 : ¬ i < 0) (h1 : i < n) : Met l st_y_pc (.code st_y_pc prog_20_method_11_code 3 (some .int) :: sd_G) { frames := 0, cells := 0, slots := 0, locals := 0 } (fun a _ => a = ([.int i, .int n, .ref f] : List Value).toArray) (QcRead i) 0 0 (fun _ => False) := by
  refine Met.ofW (cc := prog_20_method_11_code) (maxL := 3) (ret := some .int) (by decide) rfl ?_
  intro p e s m args below meth c s₁ B hml hv
  subst hv
  have hx := B.exec
  have hb := B.bytes
  have hr := B.returns
  have hl := lv_entry ([.int i, .int n, .ref f]) (n := 3) (Nat.le_of_ble_eq_true rfl)
  rw [lg_entry_eq]
  generalize (lg_sl ([.int i, .int n, .ref f]) ++ List.replicate (3 - (lg_sl ([.int i, .int n, .ref f])).length) Slot.unset).toArray = ls at hl ⊢
  have hl : lv_has ls 3 [(0, .int i), (1, .int n), (2, .ref f)] := hl
  refine lv_iload_n hx hb st_pc_0 rfl (lv_at hl 0 rfl) ?_
  refine lv_if_lt (tgt := 9) hx hb st_pc_1 (by decide) (fun q => absurd q h0) (fun _ => ?_)
  refine lv_iload_n hx hb st_pc_4 rfl (lv_at hl 0 rfl) ?_
  refine lv_iload_n hx hb st_pc_5 rfl (lv_at hl 1 rfl) ?_
  refine lv_icmp_lt (tgt := 16) hx hb st_pc_6 (by decide) (fun _ => ?_) (fun q => absurd h1 q)
  refine lv_iload_n hx hb st_pc_16 rfl (lv_at hl 0 rfl) ?_
  exact W.iret hx hb hr (fun t ht hW => ⟨rfl, by rw [ht]⟩) (fun q hq => by cases hq) st_pc_17 B.notSynchronized
theorem st_pcN (l : Launch) (i n : Int32) (h0 : ¬ i < 0) (h1 : i < n) : Met l st_y_pc (.code st_y_pc prog_20_method_11_code 3 (some .int) :: sd_G) { frames := 0, cells := 0, slots := 0, locals := 0 } (fun a _ => a = ([.int i, .int n, .null] : List Value).toArray) (QcRead i) 0 0 (fun _ => False) := by
  refine Met.ofW (cc := prog_20_method_11_code) (maxL := 3) (ret := some .int) (by decide) rfl ?_
  intro p e s m args below meth c s₁ B hml hv
  subst hv
  have hx := B.exec
  have hb := B.bytes
  have hr := B.returns
  have hl := lv_entry ([.int i, .int n, .null]) (n := 3) (Nat.le_of_ble_eq_true rfl)
  rw [lg_entry_eq]
  generalize (lg_sl ([.int i, .int n, .null]) ++ List.replicate (3 - (lg_sl ([.int i, .int n, .null])).length) Slot.unset).toArray = ls at hl ⊢
  have hl : lv_has ls 3 [(0, .int i), (1, .int n), (2, .null)] := hl
  refine lv_iload_n hx hb st_pc_0 rfl (lv_at hl 0 rfl) ?_
  refine lv_if_lt (tgt := 9) hx hb st_pc_1 (by decide) (fun q => absurd q h0) (fun _ => ?_)
  refine lv_iload_n hx hb st_pc_4 rfl (lv_at hl 0 rfl) ?_
  refine lv_iload_n hx hb st_pc_5 rfl (lv_at hl 1 rfl) ?_
  refine lv_icmp_lt (tgt := 16) hx hb st_pc_6 (by decide) (fun _ => ?_) (fun q => absurd h1 q)
  refine lv_iload_n hx hb st_pc_16 rfl (lv_at hl 0 rfl) ?_
  exact W.iret hx hb hr (fun t ht hW => ⟨rfl, by rw [ht]⟩) (fun q hq => by cases hq) st_pc_17 B.notSynchronized
theorem st_blind {hz : Nat} {ad : Nat → Nat} {L : Nat} {xs : Nat → Int32} {av : List Value} : FrameBlind (fun a U => a = av.toArray ∧ sd_E hz ad L xs U) := fun a U g mk h => ⟨h.1, sd_E_move (s := U) (U := U.calling g mk a) (locs := []) h.2 va_S.rf (State.WarmedH.refl U) rfl⟩
theorem st_pre {hz : Nat} {ad : Nat → Nat} {L : Nat} {xs : Nat → Int32} {av : List Value} {s : State} (hE : sd_E hz ad L xs s) : PreS s s.heap (fun a U => a = av.toArray ∧ sd_E hz ad L xs U) av := ⟨st_blind, fun U hU hW => ⟨rfl, sd_E_move (locs := []) hE (hU ▸ va_S.rf) hW rfl⟩⟩
theorem st_ci {hz : Nat} {ad : Nat → Nat} {L : Nat} {xs : Nat → Int32} (l : Launch) (i n : Int32) (h0 : ¬ i < 0) (h1 : i < n) : Met l st_y_ci (.code st_y_ci prog_16_method_155_code 2 none :: sd_G) { frames := 1, cells := 0, slots := 0, locals := 64 } (fun a U => a = ([.int i, .int n] : List Value).toArray ∧ sd_E hz ad L xs U) st_Qv 0 0 (fun _ => False) := by
  refine Met.ofW (cc := prog_16_method_155_code) (maxL := 2) (ret := none) (by decide) rfl ?_
  intro p e s m args below meth c s₁ B hml hv
  obtain ⟨rfl, hE⟩ := hv
  have hx := B.exec
  have hb := B.bytes
  have hr := B.returns
  have hts := atoms_spec (ws := .code st_y_ci prog_16_method_155_code 2 none :: sd_G) B.pre
  have hgw : ∀ w ∈ sd_G, w.before _ s = true := fun w hw => hts w (List.mem_cons_of_mem _ hw)
  have hown : s.vm.findClass "java/lang/String" = some m.cls := findClass_of_methodNamed B.named
  have hl := lv_entry ([.int i, .int n]) (n := 2) (Nat.le_of_ble_eq_true rfl)
  rw [lg_entry_eq]
  generalize (lg_sl ([.int i, .int n]) ++ List.replicate (2 - (lg_sl ([.int i, .int n])).length) Slot.unset).toArray = ls at hl ⊢
  have hl : lv_has ls 2 [(0, .int i), (1, .int n)] := hl
  refine lv_iload_n hx hb st_ci_0 rfl (lv_at hl 0 rfl) ?_
  refine lv_iload_n hx hb st_ci_1 rfl (lv_at hl 1 rfl) ?_
  obtain ⟨vf, hvf, hZf⟩ := hE.2.2.2.2.2
  rcases hvf with rfl | ⟨f, rfl⟩
  · refine va_gets hx hb hZf va_S.rf hown (hgw _ (st_w (by simp [st_ws]))) (fun x hx => hx) st_ci_2 ?_
    have hT : GoodIn sd_G (va_wsS "java/lang/String" 1059 st_y_pc (.code st_y_pc prog_20_method_11_code 3 (some .int) :: sd_G)) := st_good (ws := [.methodLink "java/lang/String" 1059 st_y_pc, .static st_y_pc, .initialized st_y_pc.cls]) (by simp [st_ws]) (fun w hw => by simp at hw; rcases hw with rfl | rfl | rfl <;> simp [st_ws, st_y_pc])
    have hrun := W.runS (As := [.int i, .int n, .null]) (rest := []) (g := F0 m 5 ls [.null, .int n, .int i]) (H := s.heap) (locs := []) (cells := 0) (slots := 0) (e := e) (below := below) (meth := meth) (R := (headSpec (.code st_y_ci prog_16_method_155_code 2 none :: sd_G) { frames := 1, cells := 0, slots := 0, locals := 64 }).room) ⟨hx, hb, hml, hown, hgw⟩ (st_pcN l i n h0 h1) (va_cwS 3 hgw hT rfl rfl rfl ⟨by decide, by decide, by decide +kernel⟩ ⟨by show 0 + 1 ≤ 1; omega, by show 8 + (3 + 11) + 0 ≤ 64; omega⟩) ⟨fun _ _ _ _ h => h, fun U hU hW => rfl⟩ rfl rfl hl.1 rfl (lv_room (by simp)) st_ci_5 ⟨Nat.zero_le _, Nat.zero_le _⟩
    refine W.callR hrun ?_
    refine lv_pop (va := .int i) hx hb st_ci_8 rfl ?_
    exact W.vret hx hb hr (fun t ht hW => ⟨rfl, by rw [ht]⟩) (fun q hq => by cases hq) st_ci_9 B.notSynchronized
  · refine va_gets hx hb hZf va_S.rf hown (hgw _ (st_w (by simp [st_ws]))) (fun x hx => hx) st_ci_2 ?_
    have hT : GoodIn sd_G (va_wsS "java/lang/String" 1059 st_y_pc (.code st_y_pc prog_20_method_11_code 3 (some .int) :: sd_G)) := st_good (ws := [.methodLink "java/lang/String" 1059 st_y_pc, .static st_y_pc, .initialized st_y_pc.cls]) (by simp [st_ws]) (fun w hw => by simp at hw; rcases hw with rfl | rfl | rfl <;> simp [st_ws, st_y_pc])
    have hrun := W.runS (As := [.int i, .int n, .ref f]) (rest := []) (g := F0 m 5 ls [.ref f, .int n, .int i]) (H := s.heap) (locs := []) (cells := 0) (slots := 0) (e := e) (below := below) (meth := meth) (R := (headSpec (.code st_y_ci prog_16_method_155_code 2 none :: sd_G) { frames := 1, cells := 0, slots := 0, locals := 64 }).room) ⟨hx, hb, hml, hown, hgw⟩ (st_pc l i n f h0 h1) (va_cwS 3 hgw hT rfl rfl rfl ⟨by decide, by decide, by decide +kernel⟩ ⟨by show 0 + 1 ≤ 1; omega, by show 8 + (3 + 11) + 0 ≤ 64; omega⟩) ⟨fun _ _ _ _ h => h, fun U hU hW => rfl⟩ rfl rfl hl.1 rfl (lv_room (by simp)) st_ci_5 ⟨Nat.zero_le _, Nat.zero_le _⟩
    refine W.callR hrun ?_
    refine lv_pop (va := .int i) hx hb st_ci_8 rfl ?_
    exact W.vret hx hb hr (fun t ht hW => ⟨rfl, by rw [ht]⟩) (fun q hq => by cases hq) st_ci_9 B.notSynchronized
theorem st_byt : ∀ i : Nat, i < 72 → sd_by.getD i 0 &&& 255 = Int32.ofInt (mj_sp (i : Int)) ∧ sd_32 (mj_sp (i : Int)) := by
  have h : (List.range 72).all (fun i => decide (sd_by.getD i 0 &&& 255 = Int32.ofInt (mj_sp (i : Int))) && decide (-2147483648 ≤ mj_sp (i : Int)) && decide (mj_sp (i : Int) < 2147483648)) = true := by decide +kernel
  intro i hi
  have := List.all_eq_true.mp h i (List.mem_range.mpr hi)
  simp only [Bool.and_eq_true, decide_eq_true_eq] at this
  exact ⟨this.1.1, this.1.2, this.2⟩
theorem st_sl {hz : Nat} {ad : Nat → Nat} {L : Nat} {xs : Nat → Int32} (l : Launch) (i : Int) (hi : 0 ≤ i ∧ i < 72) : Met l st_y_sl (.code st_y_sl prog_17_method_2_code 2 (some .char) :: sd_G) { frames := 2, cells := 0, slots := 0, locals := 128 } (fun a U => a = ([.ref (ad 1005), .int (Int32.ofInt i)] : List Value).toArray ∧ sd_E hz ad L xs U) (QcRead (Int32.ofInt (mj_sp i))) 0 0 (fun _ => False) := by
  refine Met.ofW (cc := prog_17_method_2_code) (maxL := 2) (ret := some .char) (by decide) rfl ?_
  intro p e s m args below meth c s₁ B hml hv
  obtain ⟨rfl, hE⟩ := hv
  have hx := B.exec
  have hb := B.bytes
  have hr := B.returns
  have hts := atoms_spec (ws := .code st_y_sl prog_17_method_2_code 2 (some .char) :: sd_G) B.pre
  have hgw : ∀ w ∈ sd_G, w.before _ s = true := fun w hw => hts w (List.mem_cons_of_mem _ hw)
  have hown : s.vm.findClass "java/lang/StringLatin1" = some m.cls := findClass_of_methodNamed B.named
  have hl := lv_entry ([.ref (ad 1005), .int (Int32.ofInt i)]) (n := 2) (Nat.le_of_ble_eq_true rfl)
  rw [lg_entry_eq]
  generalize (lg_sl ([.ref (ad 1005), .int (Int32.ofInt i)]) ++ List.replicate (2 - (lg_sl ([.ref (ad 1005), .int (Int32.ofInt i)])).length) Slot.unset).toArray = ls at hl ⊢
  have hl : lv_has ls 2 [(0, .ref (ad 1005)), (1, .int (Int32.ofInt i))] := hl
  obtain ⟨cell, a1, a2, a3, a4, a5, a6, a7⟩ := (hE.2.2.2.1.1 0 (by decide)).2.2.2
  have a4 : 72 ≤ cell.slots.size := a4
  have a5 : cell.slots.size.toInt32 = Int32.ofNat 72 := a5
  obtain ⟨b1, b2⟩ := o_in (i := i) (n := 72) hi (by omega)
  have h32 : sd_32 i := ⟨by omega, by omega⟩
  refine lv_iload_n hx hb st_sl_0 rfl (lv_at hl 1 rfl) ?_
  refine lv_aload_n hx hb st_sl_1 rfl (lv_at hl 0 rfl) ?_
  refine W.alen hx hb a1 a2 (n := Int32.ofNat 72) a5 rfl rfl st_sl_2 ?_
  have hT : GoodIn sd_G (va_wsS "java/lang/StringLatin1" 9 st_y_ci (.code st_y_ci prog_16_method_155_code 2 none :: sd_G)) := st_good (ws := [.methodLink "java/lang/StringLatin1" 9 st_y_ci, .static st_y_ci, .initialized st_y_ci.cls]) (by simp [st_ws]) (fun w hw => by simp at hw; rcases hw with rfl | rfl | rfl <;> simp [st_ws, st_y_ci])
  have hrun := W.runS (As := [.int (Int32.ofInt i), .int (Int32.ofNat 72)]) (rest := []) (g := F0 m 3 ls [.int (Int32.ofNat 72), .int (Int32.ofInt i)]) (H := s.heap) (locs := []) (cells := 0) (slots := 0) (e := e) (below := below) (meth := meth) (R := (headSpec (.code st_y_sl prog_17_method_2_code 2 (some .char) :: sd_G) { frames := 2, cells := 0, slots := 0, locals := 128 }).room) ⟨hx, hb, hml, hown, hgw⟩ (st_ci (hz := hz) (ad := ad) (L := L) (xs := xs) l (Int32.ofInt i) (Int32.ofNat 72) (fun z => b1 (Or.inl z)) (by rw [← o_n, o_lt h32 ⟨by decide, by decide⟩]; omega)) (va_cwS 2 hgw hT rfl rfl rfl ⟨by decide, by decide, by decide +kernel⟩ ⟨by show 1 + 1 ≤ 2; omega, by show 8 + (2 + 11) + 64 ≤ 128; omega⟩) (st_pre hE) rfl rfl hl.1 rfl (lv_room (by simp)) st_sl_3 ⟨Nat.zero_le _, Nat.zero_le _⟩
  refine st_callv hrun ?_
  refine lv_aload_n hx hb st_sl_6 rfl (lv_at hl 0 rfl) ?_
  refine lv_iload_n hx hb st_sl_7 rfl (lv_at hl 1 rfl) ?_
  have e3 : (Int32.ofInt i).toNatClampNeg = i.toNat := b2
  refine W.bald hx hb a1 a2 a3 (v := .int (sd_by.getD i.toNat 0)) (fun z => b1 (z.imp id (fun z => by omega))) (by rw [e3, a6 _ (show i.toNat < 72 by omega)]; rfl) rfl rfl st_sl_8 ?_
  refine lv_sipush (v := 255) hx hb st_sl_9 (by decide) ?_
  refine lv_iand hx hb st_sl_12 ?_
  refine lv_i2c hx hb st_sl_13 (sc_c2 _) ?_
  have e5 := (st_byt i.toNat (by omega)).1
  rw [show ((i.toNat : Nat) : Int) = i by omega] at e5
  have e6 := sc_nar (sd_by.getD i.toNat 0)
  rw [e5] at e6 ⊢
  exact W.zret (ty := .char) hx hb hr e6 (fun t ht hW => ⟨rfl, by rw [ht]⟩) (fun q hq => by cases hq) st_sl_14 B.notSynchronized
theorem st_il {hz : Nat} {ad : Nat → Nat} {L : Nat} {xs : Nat → Int32} (l : Launch) : Met l st_y_il (.code st_y_il prog_16_method_154_code 1 (some .boolean) :: sd_G) { frames := 0, cells := 0, slots := 0, locals := 0 } (fun a U => a = ([.ref (ad 1004)] : List Value).toArray ∧ sd_E hz ad L xs U) (QcRead 1) 0 0 (fun _ => False) := by
  refine Met.ofW (cc := prog_16_method_154_code) (maxL := 1) (ret := some .boolean) (by decide) rfl ?_
  intro p e s m args below meth c s₁ B hml hv
  obtain ⟨rfl, hE⟩ := hv
  have hx := B.exec
  have hb := B.bytes
  have hr := B.returns
  have hts := atoms_spec (ws := .code st_y_il prog_16_method_154_code 1 (some .boolean) :: sd_G) B.pre
  have hgw : ∀ w ∈ sd_G, w.before _ s = true := fun w hw => hts w (List.mem_cons_of_mem _ hw)
  have hown : s.vm.findClass "java/lang/String" = some m.cls := findClass_of_methodNamed B.named
  have hl := lv_entry ([.ref (ad 1004)]) (n := 1) (Nat.le_of_ble_eq_true rfl)
  rw [lg_entry_eq]
  generalize (lg_sl ([.ref (ad 1004)]) ++ List.replicate (1 - (lg_sl ([.ref (ad 1004)])).length) Slot.unset).toArray = ls at hl ⊢
  have hl : lv_has ls 1 [(0, .ref (ad 1004))] := hl
  refine va_gets hx hb hE.2.2.2.2.1 va_S.rf hown (hgw _ (st_w (by simp [st_ws]))) (fun x hx => hx) st_il_0 ?_
  refine lv_if_eq (tgt := 17) hx hb st_il_3 (by decide) (fun q => absurd q (by decide)) (fun _ => ?_)
  refine lv_aload_n hx hb st_il_6 rfl (lv_at hl 0 rfl) ?_
  refine vk_getf hx hb (hE.2.2.2.1.1 0 (by decide)).2.1 va_S.rf hown (hgw _ (st_w (by simp [st_ws]))) (fun x hx => hx) st_il_7 ?_
  refine lv_if_ne (tgt := 17) hx hb st_il_10 (by decide) (fun q => absurd rfl q) (fun _ => ?_)
  refine lv_iconst (v := 1) hx hb st_il_13 (by decide) ?_
  refine lv_goto (tgt := 18) hx hb st_il_14 (by decide) ?_
  exact W.zret (ty := .boolean) hx hb hr rfl (fun t ht hW => ⟨rfl, by rw [ht]⟩) (fun q hq => by cases hq) st_il_18 B.notSynchronized
theorem st_recv {hz : Nat} {ad : Nat → Nat} {L : Nat} {xs : Nat → Int32} {s : State} {H : Heap} {locs : List Loc} (hE : sd_E hz ad L xs s) (hS : va_S (sd_A hz) s.heap H locs) : ∃ cellB : Cell, H[ad 1004]? = some cellB ∧ cellB.vm.isStatics = false ∧ s.vm.findClass "java/lang/String" = some cellB.cls := vk_recv (i := 0) hE.2.2.2.1 (by decide) hS
theorem st_ca {hz : Nat} {ad : Nat → Nat} {L : Nat} {xs : Nat → Int32} (l : Launch) (i : Int) (hi : 0 ≤ i ∧ i < 72) : Met l st_y_ca (.code st_y_ca prog_16_method_56_code 2 (some .char) :: sd_G) { frames := 3, cells := 0, slots := 0, locals := 192 } (fun a U => a = ([.ref (ad 1004), .int (Int32.ofInt i)] : List Value).toArray ∧ sd_E hz ad L xs U) (QcRead (Int32.ofInt (mj_sp i))) 0 0 (fun _ => False) := by
  refine Met.ofW (cc := prog_16_method_56_code) (maxL := 2) (ret := some .char) (by decide) rfl ?_
  intro p e s m args below meth c s₁ B hml hv
  obtain ⟨rfl, hE⟩ := hv
  have hx := B.exec
  have hb := B.bytes
  have hr := B.returns
  have hts := atoms_spec (ws := .code st_y_ca prog_16_method_56_code 2 (some .char) :: sd_G) B.pre
  have hgw : ∀ w ∈ sd_G, w.before _ s = true := fun w hw => hts w (List.mem_cons_of_mem _ hw)
  have hown : s.vm.findClass "java/lang/String" = some m.cls := findClass_of_methodNamed B.named
  have hl := lv_entry ([.ref (ad 1004), .int (Int32.ofInt i)]) (n := 2) (Nat.le_of_ble_eq_true rfl)
  rw [lg_entry_eq]
  generalize (lg_sl ([.ref (ad 1004), .int (Int32.ofInt i)]) ++ List.replicate (2 - (lg_sl ([.ref (ad 1004), .int (Int32.ofInt i)])).length) Slot.unset).toArray = ls at hl ⊢
  have hl : lv_has ls 2 [(0, .ref (ad 1004)), (1, .int (Int32.ofInt i))] := hl
  refine lv_aload_n hx hb st_ca_0 rfl (lv_at hl 0 rfl) ?_
  have hT : GoodIn sd_G (wsV "java/lang/String" 492 "java/lang/String" st_y_il (.code st_y_il prog_16_method_154_code 1 (some .boolean) :: sd_G)) := st_good (ws := [.methodLink "java/lang/String" 492 st_y_il, .instanceMethod st_y_il, .selects "java/lang/String" st_y_il st_y_il, .initialized "java/lang/String"]) (by simp [st_ws]) (fun w hw => by simp at hw; rcases hw with rfl | rfl | rfl | rfl <;> simp [st_ws])
  have hrun := W.runV (As := []) (rest := []) (b := ad 1004) (g := F0 m 1 ls [.ref (ad 1004)]) (H := s.heap) (locs := []) (cells := 0) (slots := 0) (e := e) (below := below) (meth := meth) (R := (headSpec (.code st_y_ca prog_16_method_56_code 2 (some .char) :: sd_G) { frames := 3, cells := 0, slots := 0, locals := 192 }).room) ⟨hx, hb, hml, hown, hgw⟩ (st_il (hz := hz) (ad := ad) (L := L) (xs := xs) l) (cwV 0 hgw hT rfl rfl rfl ⟨rfl, by decide, by decide, by decide +kernel⟩ ⟨by show 0 + 1 ≤ 3; omega, by show 8 + (1 + 11) + 0 ≤ 192; omega⟩) ⟨st_blind, st_recv hE (locs := []) va_S.rf, (st_pre hE).2⟩ rfl rfl hl.1 rfl (lv_room (by simp)) st_ca_1 ⟨Nat.zero_le _, Nat.zero_le _⟩
  refine W.callR hrun ?_
  refine lv_if_eq (tgt := 16) hx hb st_ca_4 rfl (fun q => absurd q (by decide)) (fun _ => ?_)
  refine lv_aload_n hx hb st_ca_7 rfl (lv_at hl 0 rfl) ?_
  refine vk_getf hx hb (hE.2.2.2.1.1 0 (by decide)).2.2.1 va_S.rf hown (hgw _ (st_w (by simp [st_ws]))) (fun x hx => hx) st_ca_8 ?_
  refine lv_iload_n hx hb st_ca_11 rfl (lv_at hl 1 rfl) ?_
  have hT2 : GoodIn sd_G (va_wsS "java/lang/String" 495 st_y_sl (.code st_y_sl prog_17_method_2_code 2 (some .char) :: sd_G)) := st_good (ws := [.methodLink "java/lang/String" 495 st_y_sl, .static st_y_sl, .initialized st_y_sl.cls]) (by simp [st_ws]) (fun w hw => by simp at hw; rcases hw with rfl | rfl | rfl <;> simp [st_ws, st_y_sl])
  have hrun2 := W.runS (As := [.ref (ad 1005), .int (Int32.ofInt i)]) (rest := []) (g := F0 m 12 ls [.int (Int32.ofInt i), .ref (ad 1005)]) (H := s.heap) (locs := []) (cells := 0) (slots := 0) (e := e) (below := below) (meth := meth) (R := (headSpec (.code st_y_ca prog_16_method_56_code 2 (some .char) :: sd_G) { frames := 3, cells := 0, slots := 0, locals := 192 }).room) ⟨hx, hb, hml, hown, hgw⟩ (st_sl (hz := hz) (ad := ad) (L := L) (xs := xs) l i hi) (va_cwS 2 hgw hT2 rfl rfl rfl ⟨by decide, by decide, by decide +kernel⟩ ⟨by show 2 + 1 ≤ 3; omega, by show 8 + (2 + 11) + 128 ≤ 192; omega⟩) (st_pre hE) rfl rfl hl.1 rfl (lv_room (by simp)) st_ca_12 ⟨Nat.zero_le _, Nat.zero_le _⟩
  refine W.callR hrun2 ?_
  have e5 := (st_byt i.toNat (by omega)).1
  rw [show ((i.toNat : Nat) : Int) = i by omega] at e5
  have e6 := sc_nar (sd_by.getD i.toNat 0)
  rw [e5] at e6
  exact W.zret (ty := .char) hx hb hr e6 (fun t ht hW => ⟨rfl, by rw [ht]⟩) (fun q hq => by cases hq) st_ca_15 B.notSynchronized
section
variable {hz : Nat} {ad : Nat → Nat} {dA : Nat → ClassId} {D : va_G} {L : Nat} {xs : Nat → Int32} {p : Program} {l : Launch} {e : Env} {R : Room} {s : State} {mid : MethodId} {args : Array Value} {below : List Frame} {meth : Method} {cd : Code} {H : Heap} {locs : List Loc} {Z : State → Prop} {mls : Array Slot} {m pc d : Nat} {ls rest : List mj_V} {c : Nat} {π : mj_P} {μ : mj_M} {cells slots : Nat}
theorem s_charAt {i : Int} (hFE : sd_FE hz ad dA D L xs p s mid args meth cd m) (hd : decode (mj_byt m) pc = .ok (.invokevirtual 114, 3)) (h9 : mj_cno m = 9) (hi : 0 ≤ i ∧ i < 72) (hwk : mj_wok rest = true) (hRf : d + 4 ≤ R.frames) (hRl : 64 * (d + 4) ≤ R.locals) (hRB : sd_RB hz ad dA D L xs s.heap (mj_maxl m) ls (.inl i :: .inr (.inr 1004) :: rest) c π μ H locs mls) (hRc : cells ≤ R.cells) (hRs : slots ≤ R.slots)
    (hk : ∀ H locs mls, sd_RB hz ad dA D L xs s.heap (mj_maxl m) ls (.inl (mj_sp i) :: rest) c π μ H locs mls → W p l e R s mid args below meth cd H locs cells slots Z (F0 mid (pc + 3) mls ((.inl (mj_sp i) :: rest).map (sd_v hz ad)))) :
    W p l e R s mid args below meth cd H locs cells slots Z (F0 mid pc mls ((.inl i :: .inr (.inr 1004) :: rest).map (sd_v hz ad))) := by
  obtain ⟨hx, hb, hml, hown, hgw, hlocks, hret, hini, hK, hN, hE, hL35⟩ := hFE
  obtain ⟨hH, hS, hL, hLn, hls, hst, hok⟩ := hRB
  obtain ⟨hv1, hst1⟩ := List.forall_mem_cons.mp hst
  obtain ⟨hv2, hst2⟩ := List.forall_mem_cons.mp hst1
  rw [h9] at hown
  have hown : s.vm.findClass "SpokenBooks$Tape" = some mid.cls := hown
  have ev : sd_v hz ad (.inr (.inr 1004)) = .ref (ad 1004) := rfl
  have hsp := (st_byt i.toNat (by omega)).2
  rw [show ((i.toNat : Nat) : Int) = i by omega] at hsp
  have h := hk H locs mls ⟨hH, hS, hL, hLn, hls, List.forall_mem_cons.mpr ⟨hsp, hst2⟩, hok⟩
  have hT : GoodIn sd_G (wsV "SpokenBooks$Tape" 114 "java/lang/String" st_y_ca (.code st_y_ca prog_16_method_56_code 2 (some .char) :: sd_G)) := st_good (ws := [.methodLink "SpokenBooks$Tape" 114 st_y_ca, .instanceMethod st_y_ca, .selects "java/lang/String" st_y_ca st_y_ca, .initialized "java/lang/String"]) (by simp [st_ws]) (fun w hw => by simp at hw; rcases hw with rfl | rfl | rfl | rfl <;> simp [st_ws])
  have hrun := W.runV (As := [.int (Int32.ofInt i)]) (rest := rest.map (sd_v hz ad)) (b := ad 1004) (g := F0 mid pc mls ((.inl i :: .inr (.inr 1004) :: rest).map (sd_v hz ad))) (H := H) (locs := locs) (cells := cells) (slots := slots) (e := e) (below := below) (meth := meth) (R := R) ⟨hx, hb, hml, hown, hgw⟩ (st_ca (hz := hz) (ad := ad) (L := L) (xs := xs) l i hi) (cwV 1 hgw hT rfl rfl rfl ⟨rfl, by decide, by decide, by decide +kernel⟩ ⟨by show 3 + 1 ≤ _; omega, by show 8 + (2 + 11) + 192 ≤ _; omega⟩) ⟨st_blind, st_recv hE hS, fun U hU hW => ⟨rfl, sd_E_move hE hS hW hU⟩⟩ rfl rfl hL.1 rfl (lv_room (sd_wt hwk)) hd ⟨by omega, by omega⟩
  exact W.callR hrun h
end
