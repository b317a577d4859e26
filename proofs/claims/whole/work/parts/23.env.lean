theorem sd_G_good : ∀ w ∈ sd_G, (w.onTables && w.keeps) = true ∨ ∃ ty, w = .arrayClass ty := fun w h => good_of_word (List.mem_filter.mp h).2
def sd_A (hz : Nat) : Nat → Prop := fun q => hz < q
def sd_K (dA : Nat → ClassId) (D : va_G) (U : State) : Prop := va_K D vwCl [(dA 1, .int), (dA 2, .byte), (dA 3, .boolean)] U
def sd_ns : Cond → Bool
  | .methodLinkNest .. => true
  | .fieldLinkNest .. => true
  | _ => false
def sd_N (U : State) : Prop := ∀ w ∈ lw_tbl, sd_ns w = true → va_Nw w U
theorem sd_N_warm {s U : State} (hW : s.WarmedH U.vm) (h : sd_N s) : sd_N U := by
  intro w hw hn
  have h1 := h w hw hn
  cases w <;> first | exact va_Nw.warmM hW h1 | exact va_Nw.warmF hW h1 | cases hn
def sd_tx : String := "loan  days  lag   life  again queue right waitedhad   late  likes number"
noncomputable def sd_by : List Int32 := mj_spT.map (fun z => Int32.ofInt z)
def sd_E (hz : Nat) (ad : Nat → Nat) (L : Nat) (xs : Nat → Int32) (U : State) : Prop :=
  (ad 1000 ≤ hz ∧ va_X (ad 1000) L xs U U.heap) ∧
  (∀ i, 1001 ≤ i → i ≤ 1003 → va_Z "SpokenBooks" (mj_stn i) "[I" (.ref (ad i)) (sd_A hz) U U.heap ∧ va_T .int (ad i) 5 (fun j => .int (Int32.ofInt (sd_tab i j))) (sd_A hz) U U.heap) ∧
  vk_R "SpokenBooks$Tape" 112 sd_tx (ad 1004) U ∧ vk_S 1 [72] [sd_by] (fun _ => ad 1004) (fun _ => ad 1005) (sd_A hz) U U.heap ∧ va_Z "java/lang/String" "COMPACT_STRINGS" "Z" (.int 1) (sd_A hz) U U.heap ∧ ∃ v : Value, (v = .null ∨ ∃ f, v = .ref f) ∧ va_Z "jdk/internal/util/Preconditions" "SIOOBE_FORMATTER" "Ljava/util/function/BiFunction;" v (sd_A hz) U U.heap
theorem sd_E_move {hz : Nat} {ad : Nat → Nat} {L : Nat} {xs : Nat → Int32} {s U : State} {H : Heap} {locs : List Loc} (hE : sd_E hz ad L xs s) (hS : va_S (sd_A hz) s.heap H locs) (hW : s.WarmedH U.vm) (hU : U.heap = H) : sd_E hz ad L xs U := by
  obtain ⟨⟨hb, hX⟩, hT, hR, hSt, hZ, v, hv, hZ2⟩ := hE
  subst hU
  refine ⟨⟨hb, ?_⟩, fun i h1 h2 => ⟨?_, ?_⟩, hR.warm hW, ?_, ?_, ?_⟩
  · obtain ⟨scr, hs, _⟩ := id hX
    have hlt := (Array.getElem?_eq_some_iff.mp hs).1
    exact (hX.kept (hS.2.1 _ hlt (by unfold sd_A; omega))).moved hW.alike
  · exact ((hT i h1 h2).1.kept hS.2.1).moved hW.alike
  · exact ((hT i h1 h2).2.kept hS.2.1).moved hW.alike
  · exact (hSt.kept hS.2.1).moved hW.alike
  · exact (hZ.kept hS.2.1).moved hW.alike
  · exact ⟨v, hv, (hZ2.kept hS.2.1).moved hW.alike⟩
/-- what a method stands on -/
def sd_FE (hz : Nat) (ad : Nat → Nat) (dA : Nat → ClassId) (D : va_G) (L : Nat) (xs : Nat → Int32) (p : Program) (s : State) (mid : MethodId) (args : Array Value) (meth : Method) (cd : Code) (m : Nat) : Prop :=
  p.tables.exec = Jvm.exec ∧ cd.code = mj_byt m ∧ cd.maxLocals = mj_maxl m ∧ s.vm.findClass (mj_cn (mj_cno m)) = some mid.cls ∧ (∀ w ∈ sd_G, w.before args s = true) ∧ meth.locks = false ∧ meth.sig.returnType = mj_rt m ∧ (mj_mk m = 2 → meth.name = "<init>") ∧ sd_K dA D s ∧ sd_N s ∧ sd_E hz ad L xs s ∧ L ≤ 3584
def sd_RB (hz : Nat) (ad : Nat → Nat) (dA : Nat → ClassId) (D : va_G) (L : Nat) (xs : Nat → Int32) (H0 : Heap) (nL : Nat) (ls st : List mj_V) (c : Nat) (π : mj_P) (μ : mj_M) (H : Heap) (locs : List Loc) (mls : Array Slot) : Prop :=
  sd_H hz ad dA D c π μ H ∧ va_S (sd_A hz) H0 H locs ∧ sd_L hz ad nL ls mls ∧ ls.length = nL ∧ (∀ v ∈ ls, sd_okV c v) ∧ (∀ v ∈ st, sd_okV c v) ∧ sd_okS L xs c π μ
theorem mj_lookup_mem {α β : Type} [BEq α] [LawfulBEq α] : ∀ {l : List (α × β)} {a : α} {b : β}, l.lookup a = some b → (a, b) ∈ l
  | [], a, b, h => by simp at h
  | (x, y) :: l, a, b, h => by
    rw [List.lookup_cons] at h
    by_cases e : a == x
    · rw [e] at h
      cases h
      rw [eq_of_beq e]
      exact List.mem_cons_self
    · rw [show (a == x) = false by simpa using e] at h
      exact List.mem_cons_of_mem _ (mj_lookup_mem h)
theorem mj_map_some {α β : Type} {o : Option α} {f : α → β} {y : β} (h : o.map f = some y) : ∃ x, o = some x ∧ f x = y := Option.map_eq_some_iff.mp h
/-- the class of an object of M, its facts -/
theorem sd_obj {dA : Nat → ClassId} {D : va_G} {s : State} {ci : Nat} (hK : sd_K dA D s) (hc : ci < 13) : u_Kn s (mj_cn ci) (mj_T ci) (mj_nf ci) (D.1 ci) (D.2 ci) := hK.1 ci _ (wf_vw ci hc)
theorem sd_lays {ci : Nat} (hc : ci < 13) : ∀ w ∈ u_ws (mj_cn ci) (mj_T ci) (mj_nf ci), w ∈ sd_G := by
  have : ci = 0 ∨ ci = 1 ∨ ci = 2 ∨ ci = 3 ∨ ci = 4 ∨ ci = 5 ∨ ci = 6 ∨ ci = 7 ∨ ci = 8 ∨ ci = 9 ∨ ci = 10 ∨ ci = 11 ∨ ci = 12 := by omega
  rcases this with rfl | rfl | rfl | rfl | rfl | rfl | rfl | rfl | rfl | rfl | rfl | rfl | rfl
  · exact sd_words _ _ wf_l0 wf_lg0
  · exact sd_words _ _ wf_l1 wf_lg1
  · exact sd_words _ _ wf_l2 wf_lg2
  · exact sd_words _ _ wf_l3 wf_lg3
  · exact sd_words _ _ wf_l4 wf_lg4
  · exact sd_words _ _ wf_l5 wf_lg5
  · exact sd_words _ _ wf_l6 wf_lg6
  · exact sd_words _ _ wf_l7 wf_lg7
  · exact sd_words _ _ wf_l8 wf_lg8
  · exact sd_words _ _ wf_l9 wf_lg9
  · exact sd_words _ _ wf_l10 wf_lg10
  · exact sd_words _ _ wf_l11 wf_lg11
  · exact sd_words _ _ wf_l12 wf_lg12
theorem sd_fld {ci k : Nat} (hc : ci < 13) (hk : k < mj_nf ci) : parseFieldDescriptor (mj_T ci k).2.2.1 = some (mj_ty ci k) ∧ (mj_T ci k).1 = mj_cn ci ∧ (mj_T ci k).2.2.2 = mj_fin ci k ∧ (if mj_isr ci k then (mj_ty ci k).isReference else if mj_isz ci k then decide (mj_ty ci k = .boolean) else decide (mj_ty ci k = .int)) = true := by
  have h := List.all_eq_true.mp wf_ci ci (List.mem_range.mpr hc)
  have h2 := List.all_eq_true.mp h k (List.mem_range.mpr hk)
  simp only [Bool.and_eq_true, decide_eq_true_eq] at h2
  have h3 : (List.range (mj_nf ci)).map (fun k => (mj_T ci k).1) = (List.range (mj_nf ci)).map (fun _ => mj_cn ci) := List.map_inj_left.mp wf_cd ci (List.mem_range.mpr hc)
  exact ⟨h2.1.1, List.map_inj_left.mp h3 k (List.mem_range.mpr hk), h2.1.2, h2.2⟩
theorem sd_nm {ci : Nat} (hc : ci < 13) : ∀ a, a < mj_nf ci → ∀ b, b < mj_nf ci → a ≠ b → (mj_T ci a).2.1 ≠ (mj_T ci b).2.1 := by
  have : ci = 0 ∨ ci = 1 ∨ ci = 2 ∨ ci = 3 ∨ ci = 4 ∨ ci = 5 ∨ ci = 6 ∨ ci = 7 ∨ ci = 8 ∨ ci = 9 ∨ ci = 10 ∨ ci = 11 ∨ ci = 12 := by omega
  rcases this with rfl | rfl | rfl | rfl | rfl | rfl | rfl | rfl | rfl | rfl | rfl | rfl | rfl
  · exact nmX0
  · exact nmX1
  · exact nmX2
  · exact nmX3
  · exact nmX4
  · exact nmX5
  · exact nmX6
  · exact nmX7
  · exact nmX8
  · exact nmX9
  · exact nmX10
  · exact nmX11
  · exact nmX12
/-- the layout of a cell that an object has -/
theorem sd_kind {L k : Nat} {b : Int} (h : ((mj_lay L k).1 : Int) = 10 + b) (hb : 0 ≤ b) : k < 1000 ∧ mj_lay L k = mj_lay 0 k ∧ ¬ (mj_lay 0 k).1 ≤ 3 ∧ (mj_lay 0 k).1 - 10 = b.toNat := by
  have hk : k ≠ 1000 ∧ ¬ (k = 1001 ∨ k = 1002 ∨ k = 1003) := by
    unfold mj_lay at h
    constructor
    · rintro rfl
      simp at h
      omega
    · intro q
      rw [if_neg (by omega), if_pos q] at h
      simp at h
      omega
  have e : ∀ L, mj_lay L k = mj_layT.getD k (0, 0) := by
    intro L
    unfold mj_lay
    rw [if_neg hk.1, if_neg hk.2]
  have h2 : ((mj_lay 0 k).1 : Int) = 10 + b := by rw [e 0, ← e L]; exact h
  refine ⟨?_, by rw [e, e], by omega, by omega⟩
  rcases Nat.lt_or_ge k 1000 with q | q
  · exact q
  · have hl : mj_layT.length = 110 := rfl
    rw [e 0, List.getD_eq_getElem?_getD, List.getElem?_eq_none (by omega)] at h2
    simp at h2
    omega
theorem sd_lay_eq {L k : Nat} (hk : k < 1000) : mj_lay L k = mj_lay 0 k := by
  unfold mj_lay
  rw [if_neg (by omega), if_neg (by omega), if_neg (by omega)]
