/-! THE CLAIM OUT OF ONE WALK OF THE LAW'S BODY. Your part is whole_start (and what it stands on); all else here is the same for every law, but numbers. -/
def R_law : String := "SpokenBooksLaw"
def lw_P (b : Addr) (xs : List Int32) (args : Array Value) (s : State) : Prop := args = #[.ref b] ∧ s.IntsAt b xs ∧ xs.length ≤ 3584 ∧ (Jvm.Cond.and given_1 narrow_1).before args s = true
def lw_Q (_ : Array Value) (s : State) (o : Outcome) (t : State) : Prop := o = .returned (some (.int 1)) ∧ Framed s o t [] 600000 7302250
def lw_Z (below : List Frame) (a : Array Value) (s : State) : State → Prop := fun t => ∃ o, t.status = .running ∧ Ended t below o ∧ lw_Q a s o t
/-- the law's own end, with 1 on the stack, nothing written that was there before, its room as the claim has it -/
theorem lw_ret {p : Program} {l : Launch} {e : Env} {s : State} {m : MethodId} {below : List Frame} {meth : Method} {c : Code} {b : Nat} (hx : p.tables.exec = Jvm.exec) (hb : c.code = code) (hr : meth.sig.returnType = ret) (hlocks : meth.locks = false) {pc : Nat} {H : Heap} {ls : Array Slot} (hdg : decode code pc = .ok (.ireturn, 1)) : W p l e room_1 s m #[Value.ref b] below meth c H [] 600000 7302250 (lw_Z below #[Value.ref b] s) (F0 m pc ls [.int 1]) := by
  intro T hT X
  obtain ⟨fs, hret, hrun, hended, hW, hframe⟩ := X.leave (v := some (.int 1)) (hlocks := hlocks) (fun h => by rw [hr] at h; cases h)
  have hmeth' : T.vm.method? m = some meth := X.method'
  refine ⟨T.setFrames fs, ?_, .returned (some (.int 1)), hrun, hended, rfl, ⟨_, rfl⟩, hW, hframe⟩
  jvm_step X.here [X.here.top, hx, hb, hdg, hmeth', hr, ret, narrow_b1]
  (try refine ⟨rfl, ?_⟩); (try refine ⟨rfl, ?_⟩)
  first | (intro acts; rw [hret _ acts rfl rfl rfl]) | rw [hret _ _ rfl rfl rfl]
  exact Steps.refl _
/-- what holds at the law's entry: the machine, the code, the tables' words (any of lw_tbl by 'hts w (by decide +kernel)'), the script of L ints xs at the cell b, what the Statement gives of the start (any of its parts by flat_of_before) -/
def lw_At (p : Program) (s : State) (m : MethodId) (meth : Method) (c : Code) (b L : Nat) (xs : Nat → Int32) : Prop :=
  p.tables.exec = Jvm.exec ∧ c.code = code ∧ meth.sig.returnType = ret ∧ c.maxLocals = 4 ∧ s.vm.findClass R_law = some m.cls ∧ (∀ w ∈ lw_tbl, w.before #[Value.ref b] s = true) ∧ va_X b L xs s s.heap ∧ b < s.heap.size ∧ meth.locks = false ∧ (Jvm.Cond.and given_1 narrow_1).before #[Value.ref b] s = true

noncomputable def mj_mu0 (L : Nat) (xs : Nat → Int32) : mj_M := fun k j => if k = 1000 then (if 0 ≤ j ∧ j < L then (xs j.toNat).toInt else 0) else if 1001 ≤ k ∧ k ≤ 1003 then (if 0 ≤ j ∧ j < 5 then sd_tab k j else 0) else 0
theorem mj_mu0_ok (L : Nat) (xs : Nat → Int32) : sd_okS L xs 1 (fun _ _ => 0) (mj_mu0 L xs) := by
  have htab : ∀ (k : Nat) (j : Int), sd_32 (sd_tab k j) := by
    have h : ∀ (l : List Int), l.all (fun z => decide (0 ≤ z) && decide (z < 100)) = true → ∀ n : Nat, sd_32 (l.getD n 0) := by
      intro l hl n
      rw [List.getD_eq_getElem?_getD]
      cases q : l[n]? with
      | none => exact ⟨by decide, by decide⟩
      | some z =>
        have := List.all_eq_true.mp hl z (List.mem_of_getElem? q)
        simp only [Bool.and_eq_true, decide_eq_true_eq] at this
        exact ⟨by show _ ≤ z; omega, by show z < _; omega⟩
    intro k j
    unfold sd_tab
    split
    · exact h _ (by decide) _
    · split
      · exact h _ (by decide) _
      · exact h _ (by decide) _
  refine ⟨by omega, by omega, fun k j => ?_, fun _ _ => Or.inl (by show 0 < 1; decide), fun j hj => ?_, fun i h1 h2 j hj => ?_⟩
  · unfold mj_mu0
    split
    · split
      · exact o_r _
      · exact o_z
    · split
      · split
        · exact htab k j
        · exact o_z
      · exact o_z
  · unfold mj_mu0
    rw [if_pos rfl, if_pos ⟨by omega, by omega⟩, Int.toNat_natCast]
  · unfold mj_mu0
    rw [if_neg (by omega), if_pos ⟨h1, h2⟩, if_pos ⟨by omega, by omega⟩]
theorem st_K {ci : Nat} {args : Array Value} {s : State} (hgw : ∀ w ∈ sd_G, w.before args s = true) (hc : ci < 13) : ∃ (cC : ClassId) (iS : Nat → Nat), u_Kn s (mj_cn ci) (mj_T ci) (mj_nf ci) cC iS := by
  have hx1 : Cond.instantiable (mj_cn ci) (mj_nf ci) ∈ sd_G := sd_words _ _ wf_xw wf_xwg _ (List.mem_flatMap.mpr ⟨ci, List.mem_range.mpr hc, List.mem_cons_self⟩)
  exact u_known hgw (sd_lays hc) (hgw _ hx1)
theorem st_A {ty : FieldType} {args : Array Value} {s : State} (h : (Cond.arrayClass ty).before args s = true) (hty : ∀ C, ty ≠ .object C) : ∃ cA : ClassId, ArrOfT s cA ty ∧ va_RA s cA ty := by
  obtain ⟨c, k, comp, h1, h2, h3⟩ := Cond.arrayClass_spec h
  refine ⟨c, fun n z => ⟨fun k h => (by cases h), k, h2, comp, h3⟩, ?_⟩
  cases ty <;> first | exact h1 | exact absurd rfl (hty _)
theorem st_tabs (i : Nat) (h1 : 1001 ≤ i) (h2 : i ≤ 1003) : ∃ n : String, mj_stn i = n ∧ (n = "LEAST" ∧ i = 1001 ∨ n = "MOST" ∧ i = 1002 ∨ n = "UNTOLD" ∧ i = 1003) := by
  rcases (show i = 1001 ∨ i = 1002 ∨ i = 1003 by omega) with rfl | rfl | rfl
  · exact ⟨_, rfl, Or.inl ⟨rfl, rfl⟩⟩
  · exact ⟨_, rfl, Or.inr (Or.inl ⟨rfl, rfl⟩)⟩
  · exact ⟨_, rfl, Or.inr (Or.inr ⟨rfl, rfl⟩)⟩
theorem st_static {b : Nat} {s : State} {hz : Nat} (hz1 : s.heap.size = hz + 1) (i : Nat) (h1 : 1001 ≤ i) (h2 : i ≤ 1003) (hts : ∀ w ∈ lw_tbl, w.before #[Value.ref b] s = true) (hgv : (Jvm.Cond.and given_1 narrow_1).before #[Value.ref b] s = true) :
    ∃ t : Nat, va_Z "SpokenBooks" (mj_stn i) "[I" (.ref t) (sd_A hz) s s.heap ∧ va_T .int t 5 (fun j => .int (Int32.ofInt (sd_tab i j))) (sd_A hz) s s.heap := by
  have hs := flat_of_before _ hgv
  have hA : ∀ a : Nat, a < s.heap.size → ¬ sd_A hz a := fun a ha => by unfold sd_A; omega
  rcases (show i = 1001 ∨ i = 1002 ∨ i = 1003 by omega) with rfl | rfl | rfl
  · obtain ⟨t, ht, hT⟩ := va_Tof (tm := .static "SpokenBooks" "LEAST" "[I") (ty := .int) (N := 5) (f := fun j => .int (Int32.ofInt (sd_tab 1001 j))) (A := sd_A hz) (by decide) (hs _ (by decide +kernel)) (va_eqt (hs (Cond.eq (.length (.static "SpokenBooks" "LEAST" "[I")) (.int 5)) (by decide +kernel))) (fun j hj => by
      rcases (show j = 0 ∨ j = 1 ∨ j = 2 ∨ j = 3 ∨ j = 4 by omega) with rfl | rfl | rfl | rfl | rfl
      · exact va_eqt (hs (Cond.eq (.elem (.static "SpokenBooks" "LEAST" "[I") (.int 0)) (.int 1)) (by decide +kernel))
      · exact va_eqt (hs (Cond.eq (.elem (.static "SpokenBooks" "LEAST" "[I") (.int 1)) (.int 1)) (by decide +kernel))
      · exact va_eqt (hs (Cond.eq (.elem (.static "SpokenBooks" "LEAST" "[I") (.int 2)) (.int 0)) (by decide +kernel))
      · exact va_eqt (hs (Cond.eq (.elem (.static "SpokenBooks" "LEAST" "[I") (.int 3)) (.int 1)) (by decide +kernel))
      · exact va_eqt (hs (Cond.eq (.elem (.static "SpokenBooks" "LEAST" "[I") (.int 4)) (.int 0)) (by decide +kernel))) hA
    exact ⟨t, va_Zof (hts (.laysStatic "SpokenBooks" "LEAST" "[I") (by decide +kernel)) (hts (.initialized "SpokenBooks") (by decide +kernel)) ht hA, hT⟩
  · obtain ⟨t, ht, hT⟩ := va_Tof (tm := .static "SpokenBooks" "MOST" "[I") (ty := .int) (N := 5) (f := fun j => .int (Int32.ofInt (sd_tab 1002 j))) (A := sd_A hz) (by decide) (hs _ (by decide +kernel)) (va_eqt (hs (Cond.eq (.length (.static "SpokenBooks" "MOST" "[I")) (.int 5)) (by decide +kernel))) (fun j hj => by
      rcases (show j = 0 ∨ j = 1 ∨ j = 2 ∨ j = 3 ∨ j = 4 by omega) with rfl | rfl | rfl | rfl | rfl
      · exact va_eqt (hs (Cond.eq (.elem (.static "SpokenBooks" "MOST" "[I") (.int 0)) (.int 6)) (by decide +kernel))
      · exact va_eqt (hs (Cond.eq (.elem (.static "SpokenBooks" "MOST" "[I") (.int 1)) (.int 60)) (by decide +kernel))
      · exact va_eqt (hs (Cond.eq (.elem (.static "SpokenBooks" "MOST" "[I") (.int 2)) (.int 9)) (by decide +kernel))
      · exact va_eqt (hs (Cond.eq (.elem (.static "SpokenBooks" "MOST" "[I") (.int 3)) (.int 99)) (by decide +kernel))
      · exact va_eqt (hs (Cond.eq (.elem (.static "SpokenBooks" "MOST" "[I") (.int 4)) (.int 99)) (by decide +kernel))) hA
    exact ⟨t, va_Zof (hts (.laysStatic "SpokenBooks" "MOST" "[I") (by decide +kernel)) (hts (.initialized "SpokenBooks") (by decide +kernel)) ht hA, hT⟩
  · obtain ⟨t, ht, hT⟩ := va_Tof (tm := .static "SpokenBooks" "UNTOLD" "[I") (ty := .int) (N := 5) (f := fun j => .int (Int32.ofInt (sd_tab 1003 j))) (A := sd_A hz) (by decide) (hs _ (by decide +kernel)) (va_eqt (hs (Cond.eq (.length (.static "SpokenBooks" "UNTOLD" "[I")) (.int 5)) (by decide +kernel))) (fun j hj => by
      rcases (show j = 0 ∨ j = 1 ∨ j = 2 ∨ j = 3 ∨ j = 4 by omega) with rfl | rfl | rfl | rfl | rfl
      · exact va_eqt (hs (Cond.eq (.elem (.static "SpokenBooks" "UNTOLD" "[I") (.int 0)) (.int 2)) (by decide +kernel))
      · exact va_eqt (hs (Cond.eq (.elem (.static "SpokenBooks" "UNTOLD" "[I") (.int 1)) (.int 14)) (by decide +kernel))
      · exact va_eqt (hs (Cond.eq (.elem (.static "SpokenBooks" "UNTOLD" "[I") (.int 2)) (.int 2)) (by decide +kernel))
      · exact va_eqt (hs (Cond.eq (.elem (.static "SpokenBooks" "UNTOLD" "[I") (.int 3)) (.int 20)) (by decide +kernel))
      · exact va_eqt (hs (Cond.eq (.elem (.static "SpokenBooks" "UNTOLD" "[I") (.int 4)) (.int 0)) (by decide +kernel))) hA
    exact ⟨t, va_Zof (hts (.laysStatic "SpokenBooks" "UNTOLD" "[I") (by decide +kernel)) (hts (.initialized "SpokenBooks") (by decide +kernel)) ht hA, hT⟩
noncomputable def st_tm : Nat → Term := fun _ => .string "SpokenBooks$Tape" 112
set_option maxRecDepth 100000 in
theorem st_els : (List.range 72).all (fun j => decide (Cond.eq (.elem (.field (.string "SpokenBooks$Tape" 112) "java/lang/String" "value" "[B") (.int (Int32.ofNat j))) (.int (sd_by.getD j 0)) ∈ flatC (Jvm.Cond.and given_1 narrow_1))) = true := by decide +kernel
theorem st_str {b : Nat} {s : State} {hz : Nat} (hz1 : s.heap.size = hz + 1) (hts : ∀ w ∈ lw_tbl, w.before #[Value.ref b] s = true) (hgv : (Jvm.Cond.and given_1 narrow_1).before #[Value.ref b] s = true) :
    ∃ (a4 a5 : Nat) (a6 : Value), vk_R "SpokenBooks$Tape" 112 sd_tx a4 s ∧ vk_S 1 [72] [sd_by] (fun _ => a4) (fun _ => a5) (sd_A hz) s s.heap ∧ va_Z "java/lang/String" "COMPACT_STRINGS" "Z" (.int 1) (sd_A hz) s s.heap ∧ (a6 = .null ∨ ∃ f, a6 = .ref f) ∧ va_Z "jdk/internal/util/Preconditions" "SIOOBE_FORMATTER" "Ljava/util/function/BiFunction;" a6 (sd_A hz) s s.heap := by
  have hs := flat_of_before _ hgv
  have hA : ∀ a : Nat, a < s.heap.size → ¬ sd_A hz a := fun a ha => by unfold sd_A; omega
  obtain ⟨adK, adV, hS, hK⟩ := vk_Sof (N := 1) (tm := st_tm) (len := [72]) (byt := [sd_by]) (A := sd_A hz) (args := #[Value.ref b]) (s := s) (fun i hi => by rw [show i = 0 by omega]; decide)
    (fun i hi => hs _ (by show Cond.exactly (.string "SpokenBooks$Tape" 112) "java/lang/String" ∈ _; decide +kernel))
    (fun i hi => hs _ (by show Cond.eq (.field (.string "SpokenBooks$Tape" 112) "java/lang/String" "coder" "B") (.int 0) ∈ _; decide +kernel))
    (fun i hi => hs _ (by show Cond.arrayOf (.field (.string "SpokenBooks$Tape" 112) "java/lang/String" "value" "[B") .byte ∈ _; decide +kernel))
    (fun i hi => by
      rw [show i = 0 by omega]
      exact hs (Cond.eq (.length (.field (.string "SpokenBooks$Tape" 112) "java/lang/String" "value" "[B")) (.int 72)) (by decide +kernel))
    (fun i hi j hj => by
      rw [show i = 0 by omega] at hj ⊢
      have := List.all_eq_true.mp st_els j (List.mem_range.mpr hj)
      simp only [decide_eq_true_eq] at this
      exact hs _ this)
    (fun i j hi hj hij => absurd (by omega) hij) hA
  have hf : ∃ v, (v = .null ∨ ∃ f, v = .ref f) ∧ (Term.static "jdk/internal/util/Preconditions" "SIOOBE_FORMATTER" "Ljava/util/function/BiFunction;").eval #[Value.ref b] s none [] s = some v := by
    have h := hs (Cond.isRef (.static "jdk/internal/util/Preconditions" "SIOOBE_FORMATTER" "Ljava/util/function/BiFunction;")) (by decide +kernel)
    generalize Term.static "jdk/internal/util/Preconditions" "SIOOBE_FORMATTER" "Ljava/util/function/BiFunction;" = tt at h ⊢
    simp only [Cond.before, Cond.holds, Cond.value] at h
    cases hv : tt.eval #[Value.ref b] s none [] s with
    | none => rw [hv] at h; simp at h
    | some w =>
      rw [hv] at h
      cases w with
      | null => exact ⟨_, Or.inl rfl, rfl⟩
      | ref f => exact ⟨_, Or.inr ⟨f, rfl⟩, rfl⟩
      | _ => simp at h
  obtain ⟨a6, hv6, hf⟩ := hf
  refine ⟨adK 0, adV 0, a6, vk_R.of (hts (.stringRef "SpokenBooks$Tape" 112 sd_tx) (by decide +kernel)) (hK 0 (by decide)), ⟨fun i hi => by rw [show i = 0 by omega]; exact hS.1 0 (by decide), fun i j hi hj _ => by omega⟩, ?_, hv6, ?_⟩
  · exact va_Zof (hts (.laysStatic "java/lang/String" "COMPACT_STRINGS" "Z") (by decide +kernel)) (hts (.initialized "java/lang/String") (by decide +kernel)) (va_eqi (hs _ (by decide +kernel))) hA
  · exact va_Zof (hts (.laysStatic "jdk/internal/util/Preconditions" "SIOOBE_FORMATTER" "Ljava/util/function/BiFunction;") (by decide +kernel)) (hts (.initialized "jdk/internal/util/Preconditions") (by decide +kernel)) hf hA
set_option maxRecDepth 100000 in
theorem st_S108 : sd_S 110 ≤ 7302250 := by decide +kernel
set_option maxHeartbeats 4000000 in
/-- the law's walk out of M's run of it -/
theorem whole_of {p : Program} {e : Env} {s : State} {m : MethodId} {below : List Frame} {meth : Method} {c : Code} (l : Launch) {b L : Nat} {xs : Nat → Int32} (hL : L ≤ 3584) (C0 : lw_At p s m meth c b L xs)
    (hM : mj_call L 100 238 [.inr (.inr 1000)] 1 (fun _ _ => 0) (mj_mu0 L xs) (fun r c' _ _ => r = [.inl 1] ∧ c' = 110)) : W p l e room_1 s m #[Value.ref b] below meth c s.heap [] 0 0 (lw_Z below #[Value.ref b] s) (entryFrame m ([Value.ref b] : List Value).toArray 4) := by
  obtain ⟨hx, hb, hr, hml, hown, hts, hX, hbl, hlocks, hgv⟩ := id C0
  obtain ⟨hz, hz1⟩ : ∃ hz, s.heap.size = hz + 1 := ⟨s.heap.size - 1, by omega⟩
  have hgw : ∀ w ∈ sd_G, w.before #[Value.ref b] s = true := fun w hw => hts w (List.mem_filter.mp hw).1
  obtain ⟨fC, hfC⟩ := Classical.axiomOfChoice (fun ci : Fin 13 => st_K hgw ci.isLt)
  obtain ⟨fI, hfI⟩ := Classical.axiomOfChoice hfC
  obtain ⟨cI, hcI1, hcI2⟩ := st_A (hgw _ (sd_w_5 (w := .arrayClass .int) (by simp))) (fun C h => by cases h)
  obtain ⟨cB, hcB1, hcB2⟩ := st_A (hgw _ (sd_w_5 (w := .arrayClass .byte) (by simp))) (fun C h => by cases h)
  obtain ⟨cZ, hcZ1, hcZ2⟩ := st_A (hgw _ (sd_w_5 (w := .arrayClass .boolean) (by simp))) (fun C h => by cases h)
  obtain ⟨t1, ht1⟩ := st_static hz1 1001 (by decide) (by decide) hts hgv
  obtain ⟨t2, ht2⟩ := st_static hz1 1002 (by decide) (by decide) hts hgv
  obtain ⟨t3, ht3⟩ := st_static hz1 1003 (by decide) (by decide) hts hgv
  obtain ⟨a4, a5, a6, hs1, hs2, hs3, hs5, hs4⟩ := st_str hz1 hts hgv
  let ad : Nat → Nat := fun k => if k = 1000 then b else if k = 1001 then t1 else if k = 1002 then t2 else if k = 1003 then t3 else if k = 1004 then a4 else a5
  let dA : Nat → ClassId := fun k => if k = 1 then cI else if k = 2 then cB else cZ
  let D : va_G := (fun ci => if h : ci < 13 then fC ⟨ci, h⟩ else 0, fun ci => if h : ci < 13 then fI ⟨ci, h⟩ else fun _ => 0)
  have hK : sd_K dA D s := by
    refine ⟨fun ci q hq => ?_, fun k q hq => ?_⟩
    · have hlt : ci < 13 := (List.getElem?_eq_some_iff.mp hq).1
      rw [wf_vw ci hlt] at hq
      cases hq
      have := hfI ⟨ci, hlt⟩
      show u_Kn s (mj_cn ci) (mj_T ci) (mj_nf ci) (if h : ci < 13 then fC ⟨ci, h⟩ else 0) (if h : ci < 13 then fI ⟨ci, h⟩ else fun _ => 0)
      rw [dif_pos hlt, dif_pos hlt]
      exact this
    · match k, hq with
      | 0, hq => cases hq; exact ⟨hcI1, hcI2⟩
      | 1, hq => cases hq; exact ⟨hcB1, hcB2⟩
      | 2, hq => cases hq; exact ⟨hcZ1, hcZ2⟩
      | k + 3, hq => simp at hq
  have hN : sd_N s := fun w hw hn => by
    have := hts w hw
    cases w <;> first | exact va_Nw.of rfl this | cases hn
  have hE : sd_E hz ad L xs s := ⟨⟨show b ≤ hz by omega, hX⟩, fun i h1 h2 => by
    rcases (show i = 1001 ∨ i = 1002 ∨ i = 1003 by omega) with rfl | rfl | rfl
    · exact ht1
    · exact ht2
    · exact ht3, hs1, hs2, hs3, a6, hs5, hs4⟩
  have hFE : sd_FE hz ad dA D L xs p s m #[Value.ref b] meth c 238 := ⟨hx, hb, hml, hown, hgw, hlocks, hr, (fun h => absurd h (by decide)), hK, hN, hE, hL⟩
  obtain ⟨n, hn⟩ := hM
  obtain ⟨r1, c1, π1, μ1, hdet⟩ := mj_det n _ _ _ _ _ _ _ _ _ hn
  obtain ⟨rfl, rfl⟩ := (hdet _).mpr hn
  have hex := (hdet (fun r c' π' μ' => r = [.inl 1] ∧ c' = 110 ∧ π' = π1 ∧ μ' = μ1)).mp ⟨rfl, rfl, rfl, rfl⟩
  have hok := mj_mu0_ok L xs
  have hgoal := sd_main (hz := hz) (ad := ad) (dA := dA) (D := D) (L := L) (xs := xs) (l := l) n 100 238 0 _ [] 1 _ _ _ _ _ _ (by decide) hex
  rw [lg_entry_eq]
  have hent := sd_L_entry (hz := hz) (ad := ad) (m := 238) (as := [.inr (.inr 1000)]) (by decide)
  have hW := hgoal p e room_1 s m #[Value.ref b] below meth c s.heap [] _ 1 (lw_Z below #[Value.ref b] s) hFE (by decide) (by decide) (by decide) (Nat.le_trans (Nat.sub_le _ _) st_S108) (Nat.le_refl 1)
    ⟨⟨hz1, fun k h1 h2 => by have := mj_ix_cs k; omega⟩, va_S.rf, hent, sd_pad_len (by decide), fun v hv => ?_, (fun v hv => by cases hv), hok⟩ ?_
  · rw [Nat.sub_self, Nat.sub_self] at hW
    exact hW
  · rcases sd_pad_mem hv with h | rfl
    · rw [List.mem_singleton.mp h]
      exact Or.inr ⟨by decide, by decide⟩
    · exact sd_okV_nul (by decide)
  · intro H locs mls pc i hdi hi hH1 hS1 hok1 hv1
    rcases hi with ⟨rfl, v, hv, -⟩ | ⟨rfl, h, -⟩
    · refine va_forget (fun q hq => ?_) (W.widen (k := 600000) (n := 7302250) (by decide) (Nat.le_trans (Nat.sub_le _ _) st_S108) ?_)
      · have := hS1.2.2 q hq
        unfold sd_A at this
        omega
      · exact lw_ret hx hb hr hlocks hdi
    · cases h
