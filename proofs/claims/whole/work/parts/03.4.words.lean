/-- a word stands at its place among the tables' words, and is a good one -/
noncomputable def mj_wd (p : Nat) (w : Cond) : Bool := decide (lw_tbl[p]? = some w) && goodWord w
theorem mj_wd_mem {p : Nat} {w : Cond} (h : mj_wd p w = true) : w ∈ lw_tbl ∧ goodWord w = true := by
  simp only [mj_wd, Bool.and_eq_true, decide_eq_true_eq] at h
  exact ⟨List.mem_of_getElem? h.1, h.2⟩
noncomputable def mj_TT : List u_T := [TX0, TX1, TX2, TX3, TX4, TX5, TX6, TX7, TX8, TX9, TX10, TX11, TX12]
noncomputable def mj_T (ci : Nat) : u_T := mj_TT.getD ci TX0
noncomputable def mj_tyT : List (Nat → FieldType) := [tyX0, tyX1, tyX2, tyX3, tyX4, tyX5, tyX6, tyX7, tyX8, tyX9, tyX10, tyX11, tyX12]
noncomputable def mj_ty (ci : Nat) : Nat → FieldType := mj_tyT.getD ci tyX0
noncomputable def mj_nfT : List Nat := [6, 6, 8, 5, 11, 10, 6, 5, 3, 9, 8, 11, 56]
noncomputable def mj_nf (ci : Nat) : Nat := mj_nfT.getD ci 0
noncomputable def mj_fl_ok (q : (Nat × Nat) × (Nat × Nat × Nat)) : Bool := mj_wd q.2.2.2 (.fieldLink (mj_cn q.1.1) q.1.2 (mj_T q.2.1 q.2.2.1).1 (mj_T q.2.1 q.2.2.1).2.1 (mj_T q.2.1 q.2.2.1).2.2.1) && decide (q.2.1 < 13) && decide (q.2.2.1 < mj_nf q.2.1)
set_option maxRecDepth 100000 in
theorem wf_fl : mj_flT.all mj_fl_ok = true := by decide +kernel
noncomputable def mj_stn (k : Nat) : String := if k = 1001 then "LEAST" else if k = 1002 then "MOST" else "UNTOLD"
noncomputable def mj_sl_ok (q : (Nat × Nat) × (Nat × Nat)) : Bool := decide (lw_tbl[q.2.2]? = some (.fieldLinkNest (mj_cn q.1.1) q.1.2 "SpokenBooks" (mj_stn q.2.1) "[I" "SpokenBooks")) && decide (1001 ≤ q.2.1) && decide (q.2.1 ≤ 1003)
set_option maxRecDepth 100000 in
theorem wf_sl : mj_slT.all mj_sl_ok = true := by decide +kernel
noncomputable def mj_ml_ok (q : (Nat × Nat) × (Nat × Bool × Nat)) : Bool := if q.2.2.1 then decide (lw_tbl[q.2.2.2]? = some (.methodLinkNest (mj_cn q.1.1) q.1.2 (mj_yn q.2.1) "SpokenBooks")) else mj_wd q.2.2.2 (.methodLink (mj_cn q.1.1) q.1.2 (mj_yn q.2.1))
set_option maxRecDepth 100000 in
theorem wf_ml : mj_mlT.all mj_ml_ok = true := by decide +kernel
noncomputable def mj_oi_ok (q : (Nat × Nat) × Nat) : Bool := mj_wd q.2 (.methodLink (mj_cn q.1.1) q.1.2 objectInit)
set_option maxRecDepth 100000 in
theorem wf_oi : mj_oiT.all mj_oi_ok = true := by decide +kernel
theorem wf_oi1 : mj_wd 93 (.instanceMethod objectInit) = true := by decide +kernel
theorem wf_oi2 : mj_wd 94 (.code objectInit ⟨#[0xb1]⟩ 1 none) = true := by decide +kernel
noncomputable def mj_cl_ok (q : (Nat × Nat) × (Nat × Nat)) : Bool := mj_wd q.2.2 (.classLink (mj_cn q.1.1) q.1.2 (mj_cn q.2.1)) && decide (q.2.1 < 13)
set_option maxRecDepth 100000 in
theorem wf_cl : mj_clT.all mj_cl_ok = true := by decide +kernel
noncomputable def mj_k_ok (q : (Nat × Nat) × (Int × Nat)) : Bool := mj_wd q.2.2 (.constant (mj_cn q.1.1) q.1.2 (Int32.ofInt q.2.1)) && decide (-2147483648 ≤ q.2.1) && decide (q.2.1 < 2147483648)
set_option maxRecDepth 100000 in
theorem wf_k : mj_kT.all mj_k_ok = true := by decide +kernel
noncomputable def mj_kL_ok (q : (Nat × Nat) × (Int × Nat)) : Bool := mj_wd q.2.2 (.constantLong (mj_cn q.1.1) q.1.2 (Int64.ofInt q.2.1)) && decide (-9223372036854775808 ≤ q.2.1) && decide (q.2.1 < 9223372036854775808)
set_option maxRecDepth 100000 in
theorem wf_kL : mj_kLT.all mj_kL_ok = true := by decide +kernel
/-- a method that is called: its words -/
noncomputable def mj_mw_ok (m : Nat) : Bool :=
  if mj_mk m = 9 then true else
  mj_wd (mj_mwT.getD m (0, 0, 0, 0)).1 (.code (mj_yn m) (mj_byt m) (mj_maxl m) (mj_rt m)) && mj_wd (mj_mwT.getD m (0, 0, 0, 0)).2.1 (.initialized (mj_yn m).cls) &&
  (if mj_mk m = 1 then mj_wd (mj_mwT.getD m (0, 0, 0, 0)).2.2.1 (.static (mj_yn m)) else mj_wd (mj_mwT.getD m (0, 0, 0, 0)).2.2.1 (.instanceMethod (mj_yn m))) &&
  (if mj_mk m = 0 then mj_wd (mj_mwT.getD m (0, 0, 0, 0)).2.2.2 (.selects (mj_yn m).cls (mj_yn m) (mj_yn m)) else true) &&
  plainName (mj_yn m).cls && decide ((mj_yn m).cls ≠ "java/lang/invoke/MethodHandle") && decide ((mj_yn m).cls ≠ "java/lang/invoke/VarHandle") &&
  decide ((parseMethodDescriptor (mj_yn m).desc).map (fun d => d.parameters.length) = some (mj_na m)) && decide (mj_maxl m ≤ 16) && decide ((mj_yn m).cls = mj_cn (mj_cno m)) &&
  (if mj_mk m = 2 then decide ((mj_yn m).name = "<init>") && decide (mj_rt m = none) else true) && (if mj_mk m = 0 then decide (mj_cno m < 13) else true)
set_option maxRecDepth 100000 in
theorem wf_mw1 : (List.range 60).all mj_mw_ok = true := by decide +kernel
set_option maxRecDepth 100000 in
theorem wf_mw2 : ((List.range 60).map (· + 60)).all mj_mw_ok = true := by decide +kernel
set_option maxRecDepth 100000 in
theorem wf_mw3 : ((List.range 60).map (· + 120)).all mj_mw_ok = true := by decide +kernel
set_option maxRecDepth 100000 in
theorem wf_mw4 : ((List.range 59).map (· + 180)).all mj_mw_ok = true := by decide +kernel
/-- a class of objects: its words -/
noncomputable def mj_ci_ok (ci : Nat) : Bool :=
  mj_wd (mj_ciT.getD ci (0, 0, [])).1 (.instantiable (mj_cn ci) (mj_nf ci)) && mj_wd (mj_ciT.getD ci (0, 0, [])).2.1 (.initialized (mj_cn ci)) &&
  (List.range (mj_nf ci)).all (fun k => mj_wd ((mj_ciT.getD ci (0, 0, [])).2.2.getD k 0) (u_lay (mj_cn ci) (mj_T ci) k)) &&
  decide (vwCl[ci]?.map (fun q => (q.1, q.2.2)) = some (mj_cn ci, mj_nf ci)) &&
  (List.range (mj_nf ci)).all (fun k => decide (parseFieldDescriptor (mj_T ci k).2.2.1 = some (mj_ty ci k)) && decide ((mj_T ci k).1 = mj_cn ci) && decide ((mj_T ci k).2.2.2 = mj_fin ci k) &&
    (if mj_isr ci k then (mj_ty ci k).isReference else if mj_isz ci k then decide (mj_ty ci k = .boolean) else decide (mj_ty ci k = .int)))
set_option maxRecDepth 100000 in
theorem wf_ci : (List.range 13).all mj_ci_ok = true := by decide +kernel
theorem wf_vw : ∀ ci, ci < 13 → vwCl[ci]? = some (mj_cn ci, mj_T ci, mj_nf ci) := by
  intro ci h
  have : ci = 0 ∨ ci = 1 ∨ ci = 2 ∨ ci = 3 ∨ ci = 4 ∨ ci = 5 ∨ ci = 6 ∨ ci = 7 ∨ ci = 8 ∨ ci = 9 ∨ ci = 10 ∨ ci = 11 ∨ ci = 12 := by omega
  rcases this with rfl | rfl | rfl | rfl | rfl | rfl | rfl | rfl | rfl | rfl | rfl | rfl | rfl <;> rfl
theorem wf_a1 : mj_wd 180 (.arrayClass .int) = true := by decide +kernel
theorem wf_a2 : mj_wd 131 (.arrayClass .byte) = true := by decide +kernel
theorem wf_a3 : mj_wd 434 (.arrayClass .boolean) = true := by decide +kernel
