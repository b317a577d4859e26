/-- words of a list stand at their places among the tables' words, and are good ones -/
noncomputable def sd_G : List Cond := lw_tbl.filter goodWord
theorem sd_words (ws : List Cond) (ps : List Nat) (hp : ws = ps.filterMap (fun i => lw_tbl[i]?)) (h : ws.all goodWord = true) : ∀ w ∈ ws, w ∈ sd_G := by
  intro w hw
  have h1 := List.all_eq_true.mp h w hw
  rw [hp] at hw
  obtain ⟨i, -, hi⟩ := List.mem_filterMap.mp hw
  exact List.mem_filter.mpr ⟨List.mem_of_getElem? hi, h1⟩
theorem sd_nwords (ws : List Cond) (ps : List Nat) (hp : ws = ps.filterMap (fun i => lw_tbl[i]?)) : ∀ w ∈ ws, w ∈ lw_tbl := by
  intro w hw
  rw [hp] at hw
  obtain ⟨i, -, hi⟩ := List.mem_filterMap.mp hw
  exact List.mem_of_getElem? hi
noncomputable def mj_TT : List u_T := [TX0, TX1, TX2, TX3, TX4, TX5, TX6, TX7, TX8, TX9, TX10, TX11, TX12]
noncomputable def mj_T (ci : Nat) : u_T := mj_TT.getD ci TX0
noncomputable def mj_tyT : List (Nat → FieldType) := [tyX0, tyX1, tyX2, tyX3, tyX4, tyX5, tyX6, tyX7, tyX8, tyX9, tyX10, tyX11, tyX12]
noncomputable def mj_ty (ci : Nat) : Nat → FieldType := mj_tyT.getD ci tyX0
noncomputable def mj_nfT : List Nat := [6, 6, 8, 5, 11, 12, 6, 5, 3, 9, 8, 11, 56]
noncomputable def mj_nf (ci : Nat) : Nat := mj_nfT.getD ci 0
noncomputable def mj_fw (q : (Nat × Nat) × (Nat × Nat × Nat)) : Cond := .fieldLink (mj_cn q.1.1) q.1.2 (mj_T q.2.1 q.2.2.1).1 (mj_T q.2.1 q.2.2.1).2.1 (mj_T q.2.1 q.2.2.1).2.2.1
set_option maxRecDepth 100000 in
theorem wf_flw : mj_flT.map mj_fw = (mj_flT.map (fun q => q.2.2.2)).filterMap (fun i => lw_tbl[i]?) := rfl
set_option maxRecDepth 100000 in
theorem wf_flg : (mj_flT.map mj_fw).all goodWord = true := by decide +kernel
set_option maxRecDepth 100000 in
theorem wf_flb : mj_flT.all (fun q => decide (q.2.1 < 13) && decide (q.2.2.1 < mj_nf q.2.1)) = true := by decide +kernel
noncomputable def mj_stn (k : Nat) : String := if k = 1001 then "LEAST" else if k = 1002 then "MOST" else "UNTOLD"
noncomputable def mj_sw2 (q : (Nat × Nat) × (Nat × Nat)) : Cond := .fieldLinkNest (mj_cn q.1.1) q.1.2 "SpokenBooks" (mj_stn q.2.1) "[I" "SpokenBooks"
set_option maxRecDepth 100000 in
theorem wf_slw : mj_slT.map mj_sw2 = (mj_slT.map (fun q => q.2.2)).filterMap (fun i => lw_tbl[i]?) := rfl
theorem wf_slb : mj_slT.all (fun q => decide (1001 ≤ q.2.1) && decide (q.2.1 ≤ 1003)) = true := by decide +kernel
noncomputable def mj_mw (q : (Nat × Nat) × (Nat × Bool × Nat)) : Cond := .methodLink (mj_cn q.1.1) q.1.2 (mj_yn q.2.1)
noncomputable def mj_mwN (q : (Nat × Nat) × (Nat × Bool × Nat)) : Cond := .methodLinkNest (mj_cn q.1.1) q.1.2 (mj_yn q.2.1) "SpokenBooks"
noncomputable def mj_mlA : List ((Nat × Nat) × (Nat × Bool × Nat)) := mj_mlT.filter (fun q => !q.2.2.1)
noncomputable def mj_mlB : List ((Nat × Nat) × (Nat × Bool × Nat)) := mj_mlT.filter (fun q => q.2.2.1)
set_option maxRecDepth 100000 in
theorem wf_mlA : mj_mlA.map mj_mw = (mj_mlA.map (fun q => q.2.2.2)).filterMap (fun i => lw_tbl[i]?) := rfl
set_option maxRecDepth 100000 in
theorem wf_mlAg : (mj_mlA.map mj_mw).all goodWord = true := by decide +kernel
set_option maxRecDepth 100000 in
theorem wf_mlB : mj_mlB.map mj_mwN = (mj_mlB.map (fun q => q.2.2.2)).filterMap (fun i => lw_tbl[i]?) := rfl
noncomputable def mj_ow (q : (Nat × Nat) × Nat) : Cond := .methodLink (mj_cn q.1.1) q.1.2 objectInit
noncomputable def sd_misc : List Cond := mj_oiT.map mj_ow ++ [.instanceMethod objectInit, .code objectInit ⟨#[0xb1]⟩ 1 none, .arrayClass .int, .arrayClass .byte, .arrayClass .boolean] ++ mj_clT.map (fun (q : (Nat × Nat) × (Nat × Nat)) => Cond.classLink (mj_cn q.1.1) q.1.2 (mj_cn q.2.1)) ++ mj_kT.map (fun (q : (Nat × Nat) × (Int × Nat)) => Cond.constant (mj_cn q.1.1) q.1.2 (Int32.ofInt q.2.1)) ++ mj_kLT.map (fun (q : (Nat × Nat) × (Int × Nat)) => Cond.constantLong (mj_cn q.1.1) q.1.2 (Int64.ofInt q.2.1))
set_option maxRecDepth 100000 in
theorem wf_misc : sd_misc = (mj_oiT.map (fun (q : (Nat × Nat) × Nat) => q.2) ++ [95, 96, 182, 133, 436] ++ mj_clT.map (fun (q : (Nat × Nat) × (Nat × Nat)) => q.2.2) ++ mj_kT.map (fun (q : (Nat × Nat) × (Int × Nat)) => q.2.2) ++ mj_kLT.map (fun (q : (Nat × Nat) × (Int × Nat)) => q.2.2)).filterMap (fun i => lw_tbl[i]?) := rfl
set_option maxRecDepth 100000 in
theorem wf_miscg : sd_misc.all goodWord = true := by decide +kernel
theorem wf_clb : mj_clT.all (fun q => decide (q.2.1 < 13)) = true := by decide +kernel
theorem wf_kb : mj_kT.all (fun q => decide (-2147483648 ≤ q.2.1) && decide (q.2.1 < 2147483648)) = true := by decide +kernel
theorem wf_kLb : mj_kLT.all (fun q => decide (-9223372036854775808 ≤ q.2.1) && decide (q.2.1 < 9223372036854775808)) = true := by decide +kernel
/-- the words of the methods that are called -/
noncomputable def mj_called : List Nat := (List.range 241).filter (fun m => mj_mk m != 9)
noncomputable def mj_cwd (m : Nat) : Cond := .code (mj_yn m) (mj_byt m) (mj_maxl m) (mj_rt m)
set_option maxRecDepth 100000 in
theorem wf_cwd : mj_called.map mj_cwd = (mj_called.map (fun m => (mj_mwT.getD m (0, 0, 0, 0)).1)).filterMap (fun i => lw_tbl[i]?) := rfl
set_option maxRecDepth 100000 in
theorem wf_cwdg : (mj_called.map mj_cwd).all goodWord = true := by decide +kernel
noncomputable def mj_iwd (m : Nat) : Cond := .initialized (mj_yn m).cls
noncomputable def mj_swd (m : Nat) : Cond := if mj_mk m = 1 then .static (mj_yn m) else .instanceMethod (mj_yn m)
noncomputable def mj_virt : List Nat := (List.range 241).filter (fun m => mj_mk m == 0)
noncomputable def mj_vwd (m : Nat) : Cond := .selects (mj_yn m).cls (mj_yn m) (mj_yn m)
set_option maxRecDepth 100000 in
theorem wf_iwd : mj_called.map mj_iwd = (mj_called.map (fun m => (mj_mwT.getD m (0, 0, 0, 0)).2.1)).filterMap (fun i => lw_tbl[i]?) := rfl
set_option maxRecDepth 100000 in
theorem wf_iwdg : (mj_called.map mj_iwd).all goodWord = true := by decide +kernel
set_option maxRecDepth 100000 in
theorem wf_swd : mj_called.map mj_swd = (mj_called.map (fun m => (mj_mwT.getD m (0, 0, 0, 0)).2.2.1)).filterMap (fun i => lw_tbl[i]?) := rfl
set_option maxRecDepth 100000 in
theorem wf_swdg : (mj_called.map mj_swd).all goodWord = true := by decide +kernel
set_option maxRecDepth 100000 in
theorem wf_vwd : mj_virt.map mj_vwd = (mj_virt.map (fun m => (mj_mwT.getD m (0, 0, 0, 0)).2.2.2)).filterMap (fun i => lw_tbl[i]?) := rfl
set_option maxRecDepth 100000 in
theorem wf_vwdg : (mj_virt.map mj_vwd).all goodWord = true := by decide +kernel
noncomputable def mj_mb_ok (m : Nat) : Bool :=
  decide ((parseMethodDescriptor (mj_yn m).desc).map (fun d => d.parameters.length) = some (mj_na m)) && decide (mj_maxl m ≤ 16) && (if mj_mk m = 2 then decide (mj_rt m = none) else true) && decide (mj_cno m < 16)
set_option maxRecDepth 100000 in
theorem wf_mb : mj_called.all mj_mb_ok = true := by decide +kernel
set_option maxRecDepth 100000 in
theorem wf_mc : mj_called.map (fun m => (mj_yn m).cls) = mj_called.map (fun m => mj_cn (mj_cno m)) := rfl
noncomputable def mj_inits : List Nat := (List.range 241).filter (fun m => mj_mk m == 2)
set_option maxRecDepth 100000 in
theorem wf_mi : mj_inits.map (fun m => (mj_yn m).name) = mj_inits.map (fun _ => "<init>") := rfl
set_option maxRecDepth 100000 in
theorem wf_mv : mj_virt.all (fun m => decide (mj_cno m < 13)) = true := by decide +kernel
theorem wf_pl : mj_cnT.all (fun c => plainName c && decide (c ≠ "java/lang/invoke/MethodHandle") && decide (c ≠ "java/lang/invoke/VarHandle")) = true := by decide +kernel
/-- a class of objects: its words -/
noncomputable def mj_lwd (ci : Nat) : List Cond := u_ws (mj_cn ci) (mj_T ci) (mj_nf ci)
set_option maxRecDepth 100000 in
theorem wf_l0 : mj_lwd 0 = ((mj_ciT.getD 0 (0, 0, [])).2.2).filterMap (fun i => lw_tbl[i]?) := rfl
set_option maxRecDepth 100000 in
theorem wf_lg0 : (mj_lwd 0).all goodWord = true := by decide +kernel
set_option maxRecDepth 100000 in
theorem wf_l1 : mj_lwd 1 = ((mj_ciT.getD 1 (0, 0, [])).2.2).filterMap (fun i => lw_tbl[i]?) := rfl
set_option maxRecDepth 100000 in
theorem wf_lg1 : (mj_lwd 1).all goodWord = true := by decide +kernel
set_option maxRecDepth 100000 in
theorem wf_l2 : mj_lwd 2 = ((mj_ciT.getD 2 (0, 0, [])).2.2).filterMap (fun i => lw_tbl[i]?) := rfl
set_option maxRecDepth 100000 in
theorem wf_lg2 : (mj_lwd 2).all goodWord = true := by decide +kernel
set_option maxRecDepth 100000 in
theorem wf_l3 : mj_lwd 3 = ((mj_ciT.getD 3 (0, 0, [])).2.2).filterMap (fun i => lw_tbl[i]?) := rfl
set_option maxRecDepth 100000 in
theorem wf_lg3 : (mj_lwd 3).all goodWord = true := by decide +kernel
set_option maxRecDepth 100000 in
theorem wf_l4 : mj_lwd 4 = ((mj_ciT.getD 4 (0, 0, [])).2.2).filterMap (fun i => lw_tbl[i]?) := rfl
set_option maxRecDepth 100000 in
theorem wf_lg4 : (mj_lwd 4).all goodWord = true := by decide +kernel
set_option maxRecDepth 100000 in
theorem wf_l5 : mj_lwd 5 = ((mj_ciT.getD 5 (0, 0, [])).2.2).filterMap (fun i => lw_tbl[i]?) := rfl
set_option maxRecDepth 100000 in
theorem wf_lg5 : (mj_lwd 5).all goodWord = true := by decide +kernel
set_option maxRecDepth 100000 in
theorem wf_l6 : mj_lwd 6 = ((mj_ciT.getD 6 (0, 0, [])).2.2).filterMap (fun i => lw_tbl[i]?) := rfl
set_option maxRecDepth 100000 in
theorem wf_lg6 : (mj_lwd 6).all goodWord = true := by decide +kernel
set_option maxRecDepth 100000 in
theorem wf_l7 : mj_lwd 7 = ((mj_ciT.getD 7 (0, 0, [])).2.2).filterMap (fun i => lw_tbl[i]?) := rfl
set_option maxRecDepth 100000 in
theorem wf_lg7 : (mj_lwd 7).all goodWord = true := by decide +kernel
set_option maxRecDepth 100000 in
theorem wf_l8 : mj_lwd 8 = ((mj_ciT.getD 8 (0, 0, [])).2.2).filterMap (fun i => lw_tbl[i]?) := rfl
set_option maxRecDepth 100000 in
theorem wf_lg8 : (mj_lwd 8).all goodWord = true := by decide +kernel
set_option maxRecDepth 100000 in
theorem wf_l9 : mj_lwd 9 = ((mj_ciT.getD 9 (0, 0, [])).2.2).filterMap (fun i => lw_tbl[i]?) := rfl
set_option maxRecDepth 100000 in
theorem wf_lg9 : (mj_lwd 9).all goodWord = true := by decide +kernel
set_option maxRecDepth 100000 in
theorem wf_l10 : mj_lwd 10 = ((mj_ciT.getD 10 (0, 0, [])).2.2).filterMap (fun i => lw_tbl[i]?) := rfl
set_option maxRecDepth 100000 in
theorem wf_lg10 : (mj_lwd 10).all goodWord = true := by decide +kernel
set_option maxRecDepth 100000 in
theorem wf_l11 : mj_lwd 11 = ((mj_ciT.getD 11 (0, 0, [])).2.2).filterMap (fun i => lw_tbl[i]?) := rfl
set_option maxRecDepth 100000 in
theorem wf_lg11 : (mj_lwd 11).all goodWord = true := by decide +kernel
set_option maxRecDepth 100000 in
theorem wf_l12 : mj_lwd 12 = ((mj_ciT.getD 12 (0, 0, [])).2.2).filterMap (fun i => lw_tbl[i]?) := rfl
set_option maxRecDepth 100000 in
theorem wf_lg12 : (mj_lwd 12).all goodWord = true := by decide +kernel
noncomputable def mj_xwd (ci : Nat) : List Cond := [.instantiable (mj_cn ci) (mj_nf ci), .initialized (mj_cn ci)]
set_option maxRecDepth 100000 in
theorem wf_xw : (List.range 13).flatMap mj_xwd = ((List.range 13).flatMap (fun ci => [(mj_ciT.getD ci (0, 0, [])).1, (mj_ciT.getD ci (0, 0, [])).2.1])).filterMap (fun i => lw_tbl[i]?) := rfl
set_option maxRecDepth 100000 in
theorem wf_xwg : ((List.range 13).flatMap mj_xwd).all goodWord = true := by decide +kernel
noncomputable def mj_ci_ok (ci : Nat) : Bool :=
  (List.range (mj_nf ci)).all (fun k => decide (parseFieldDescriptor (mj_T ci k).2.2.1 = some (mj_ty ci k)) && decide ((mj_T ci k).2.2.2 = mj_fin ci k) &&
    (if mj_isr ci k then (mj_ty ci k).isReference else if mj_isz ci k then decide (mj_ty ci k = .boolean) else decide (mj_ty ci k = .int)))
set_option maxRecDepth 100000 in
theorem wf_ci : (List.range 13).all mj_ci_ok = true := by decide +kernel
set_option maxRecDepth 100000 in
theorem wf_cd : (List.range 13).map (fun ci => (List.range (mj_nf ci)).map (fun k => (mj_T ci k).1)) = (List.range 13).map (fun ci => (List.range (mj_nf ci)).map (fun _ => mj_cn ci)) := rfl
theorem wf_vw : ∀ ci, ci < 13 → vwCl[ci]? = some (mj_cn ci, mj_T ci, mj_nf ci) := by
  intro ci h
  have : ci = 0 ∨ ci = 1 ∨ ci = 2 ∨ ci = 3 ∨ ci = 4 ∨ ci = 5 ∨ ci = 6 ∨ ci = 7 ∨ ci = 8 ∨ ci = 9 ∨ ci = 10 ∨ ci = 11 ∨ ci = 12 := by omega
  rcases this with rfl | rfl | rfl | rfl | rfl | rfl | rfl | rfl | rfl | rfl | rfl | rfl | rfl <;> rfl
