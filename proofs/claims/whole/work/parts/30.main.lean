def sd_sp : Instr → Bool
  | .invokevirtual _ => true
  | .invokestatic _ => true
  | .invokespecial _ => true
  | .ireturn => true
  | .return_ => true
  | .new _ => true
  | .newarray _ => true
  | _ => false
def sd_nsp (op : Nat) : Prop := ¬ 100 ≤ op ∧ op ≠ 75 ∧ op ≠ 77 ∧ op ≠ 76 ∧ op ≠ 73 ∧ op ≠ 74 ∧ op ≠ 68 ∧ op ≠ 69
set_option maxHeartbeats 4000000 in
theorem mj_tr_sp {m pc len : Nat} {i : Instr} {op npc : Nat} {a b : Int} (h : mj_tr m pc i len = some (op, a, b, npc)) : sd_sp i = true ∨ sd_nsp op := by
  have k1 : ∀ {p : Prop} [Decidable p] {o : Nat} {a' b' : Int} {n' : Nat}, (if p then some (o, a', b', n') else none) = some (op, a, b, npc) → op = o := by
    intro p _ o a' b' n' q
    obtain ⟨-, q⟩ := mj_if q
    cases q
    rfl
  cases i with
  | invokevirtual _ => exact Or.inl rfl
  | invokestatic _ => exact Or.inl rfl
  | invokespecial _ => exact Or.inl rfl
  | ireturn => exact Or.inl rfl
  | return_ => exact Or.inl rfl
  | new _ => exact Or.inl rfl
  | newarray _ => exact Or.inl rfl
  | if_icmp cnd off => cases cnd <;> (have := k1 h; subst this; exact Or.inr (by unfold sd_nsp; decide))
  | ifCond cnd off => cases cnd <;> (have := k1 h; subst this; exact Or.inr (by unfold sd_nsp; decide))
  | ldc_w k =>
    obtain ⟨-, q⟩ := mj_ifm (show (if len = 3 then (mj_kT.lookup (mj_cno m, k)).map (fun q => (0, q.1, 0, pc + len)) else none) = some (op, a, b, npc) from h)
    obtain ⟨w, -, q⟩ := mj_map_some q
    cases q
    exact Or.inr (by unfold sd_nsp; decide)
  | ldc2_w k =>
    obtain ⟨-, q⟩ := mj_ifm (show (if len = 3 then (mj_kLT.lookup (mj_cno m, k)).map (fun q => (1, q.1, 0, pc + len)) else none) = some (op, a, b, npc) from h)
    obtain ⟨w, -, q⟩ := mj_map_some q
    cases q
    exact Or.inr (by unfold sd_nsp; decide)
  | getfield k =>
    obtain ⟨-, q⟩ := mj_ifm (show (if len = 3 then (mj_flT.lookup (mj_cno m, k)).map (fun q => ((if mj_isr q.1 q.2.1 then 61 else 60), (q.2.1 : Int), (q.1 : Int), pc + len)) else none) = some (op, a, b, npc) from h)
    obtain ⟨w, -, q⟩ := mj_map_some q
    cases q
    refine Or.inr ?_
    split <;> (unfold sd_nsp; decide)
  | putfield k =>
    obtain ⟨-, q⟩ := mj_ifm (show (if len = 3 then (mj_flT.lookup (mj_cno m, k)).map (fun q => ((if mj_isr q.1 q.2.1 then (if mj_fin q.1 q.2.1 then 58 else 63) else if mj_isz q.1 q.2.1 then 59 else 62), (q.2.1 : Int), (q.1 : Int), pc + len)) else none) = some (op, a, b, npc) from h)
    obtain ⟨w, -, q⟩ := mj_map_some q
    cases q
    refine Or.inr ?_
    split
    · split <;> (unfold sd_nsp; decide)
    · split <;> (unfold sd_nsp; decide)
  | getstatic k =>
    obtain ⟨-, q⟩ := mj_ifm (show (if len = 3 then (mj_slT.lookup (mj_cno m, k)).map (fun q => (70, (q.1 : Int), 0, pc + len)) else none) = some (op, a, b, npc) from h)
    obtain ⟨w, -, q⟩ := mj_map_some q
    cases q
    exact Or.inr (by unfold sd_nsp; decide)
  | _ => first
    | exact absurd (show (none : Option (Nat × Int × Int × Nat)) = some (op, a, b, npc) from h) (by simp)
    | (have := k1 h; subst this; exact Or.inr (by unfold sd_nsp; decide))
set_option maxHeartbeats 4000000 in
theorem sd_sp_op {m pc len : Nat} {i : Instr} {op npc : Nat} {a b : Int} (hq : sd_sp i = true) (h : mj_tr m pc i len = some (op, a, b, npc)) (hn : sd_nsp op) : False := by
  obtain ⟨g1, g2, g3, g4, g5, g6, g7, g8⟩ := hn
  cases i with
  | invokevirtual v =>
    obtain ⟨-, q⟩ := mj_ifm (show (if len = 3 then (if mj_cno m = 9 ∧ v = 114 then some (74, 0, 0, pc + len) else (mj_mlT.lookup (mj_cno m, v)).bind (fun q => if mj_mk q.1 = 0 ∧ q.2.1 = false then some (101 + mj_na q.1, (q.1 : Int), 0, pc + len) else none)) else none) = some (op, a, b, npc) from h)
    by_cases h9 : mj_cno m = 9 ∧ v = 114
    · rw [if_pos h9] at q; cases q; exact g6 rfl
    · rw [if_neg h9] at q
      obtain ⟨w, -, q⟩ := Option.bind_eq_some_iff.mp q
      obtain ⟨-, q⟩ := mj_if q
      cases q
      omega
  | invokestatic v =>
    obtain ⟨-, q⟩ := mj_ifm (show (if len = 3 then (mj_mlT.lookup (mj_cno m, v)).bind (fun q => if mj_mk q.1 = 1 then some (100 + mj_na q.1, (q.1 : Int), (if q.2.1 then 11 else 1), pc + len) else none) else none) = some (op, a, b, npc) from h)
    obtain ⟨w, -, q⟩ := Option.bind_eq_some_iff.mp q
    obtain ⟨-, q⟩ := mj_if q
    cases q
    omega
  | invokespecial v =>
    obtain ⟨-, q⟩ := mj_ifm (show (if len = 3 then (match mj_oiT.lookup (mj_cno m, v) with
      | some _ => some (73, 0, 0, pc + len)
      | none => (mj_mlT.lookup (mj_cno m, v)).bind (fun q => if mj_mk q.1 = 2 then some (101 + mj_na q.1, (q.1 : Int), (if q.2.1 then 12 else 2), pc + len) else none) : Option (Nat × Int × Int × Nat)) else none) = some (op, a, b, npc) from h)
    cases ho : mj_oiT.lookup (mj_cno m, v) with
    | some q0 => rw [ho] at q; cases q; exact g5 rfl
    | none =>
      rw [ho] at q
      obtain ⟨w, -, q⟩ := Option.bind_eq_some_iff.mp q
      obtain ⟨-, q⟩ := mj_if q
      cases q
      omega
  | ireturn =>
    obtain ⟨-, q⟩ := mj_ifm (show (if len = 1 then (if mj_rt m = some .int then some (75, 0, 0, pc + len) else if mj_rt m = some .boolean then some (77, 0, 0, pc + len) else none) else none) = some (op, a, b, npc) from h)
    by_cases hr : mj_rt m = some .int
    · rw [if_pos hr] at q; cases q; exact g2 rfl
    · rw [if_neg hr] at q
      obtain ⟨-, q⟩ := mj_if q
      cases q
      exact g3 rfl
  | return_ =>
    obtain ⟨-, q⟩ := mj_if (show (if len = 1 ∧ mj_rt m = none then some (76, 0, 0, pc + len) else none) = some (op, a, b, npc) from h)
    cases q
    exact g4 rfl
  | new v =>
    obtain ⟨-, q⟩ := mj_ifm (show (if len = 3 then (mj_clT.lookup (mj_cno m, v)).map (fun q => (68, (q.1 : Int), 0, pc + len)) else none) = some (op, a, b, npc) from h)
    obtain ⟨w, -, q⟩ := mj_map_some q
    cases q
    exact g7 rfl
  | newarray ty =>
    cases ty with
    | int =>
      obtain ⟨-, q⟩ := mj_if (show (if len = 2 then some (69, 1, 0, pc + len) else none) = some (op, a, b, npc) from h)
      cases q
      exact g8 rfl
    | byte =>
      obtain ⟨-, q⟩ := mj_if (show (if len = 2 then some (69, 2, 0, pc + len) else none) = some (op, a, b, npc) from h)
      cases q
      exact g8 rfl
    | boolean =>
      obtain ⟨-, q⟩ := mj_if (show (if len = 2 then some (69, 3, 0, pc + len) else none) = some (op, a, b, npc) from h)
      cases q
      exact g8 rfl
    | _ => exact absurd (show (none : Option (Nat × Int × Int × Nat)) = some (op, a, b, npc) from h) (by simp)
  | _ => cases hq
set_option maxRecDepth 100000 in
theorem sd_58 : (List.range 241).all (fun m => (mj_code m).all (fun q => decide (q.2.2.1 ≠ 58) || (decide (mj_mk m = 2) && decide (q.2.2.2.2.1 = (mj_cno m : Int))))) = true := by decide +kernel
set_option maxRecDepth 100000 in
theorem sd_chk0 : ∀ m ∈ ([0, 1, 2, 3, 4, 5, 6, 7, 8, 9, 10, 11, 12, 13, 14, 15, 16, 17, 18, 19, 20, 21, 22, 23, 24, 25, 26, 27, 28, 29, 30, 31, 32, 33, 34, 35, 36, 37, 38, 39, 40, 41, 42, 43, 44, 45, 46, 47, 48, 49, 50, 51, 52, 53, 54, 55, 56, 57, 58, 59, 60, 61, 62, 63, 64, 65, 66, 67, 68, 69, 70, 71, 72, 73, 74, 75, 76, 77, 78, 79, 80, 81, 82, 83, 84, 85, 86, 87, 88, 89, 90, 91, 92, 93, 94, 95, 96, 97, 98, 99, 100, 101, 102, 103, 104, 105, 106, 107, 108, 109, 110, 111, 112, 113, 114, 115, 116, 117, 118, 119, 120, 121, 122, 123, 124, 125, 126, 127, 128, 129, 130, 131, 132, 133, 134, 135, 136, 137, 138, 139, 140, 141, 142, 143, 144, 145, 146, 147, 148, 149, 150, 151, 152, 153, 154, 155, 156, 157, 158, 159, 160, 161, 162, 163, 164, 165, 166, 167, 168, 169, 170, 171, 172, 173, 174, 175, 176, 177, 178, 179, 180, 181, 182, 183, 184, 185, 186, 187, 188, 189, 190, 191, 192, 193, 194, 195, 196, 197, 198, 199, 200, 201, 202, 203, 204, 205, 206, 207, 208, 209, 210, 211, 212, 213, 214, 215, 216, 217, 218, 219, 220, 221, 222, 223, 224, 225, 226, 227, 228, 229, 230, 231, 232, 233, 234, 235, 236, 237, 238, 239, 240] : List Nat), (mj_code m).all (mj_chk m) = true := List.forall_mem_cons.mpr ⟨t_0, List.forall_mem_cons.mpr ⟨t_1, List.forall_mem_cons.mpr ⟨t_2, List.forall_mem_cons.mpr ⟨t_3, List.forall_mem_cons.mpr ⟨t_4, List.forall_mem_cons.mpr ⟨t_5, List.forall_mem_cons.mpr ⟨t_6, List.forall_mem_cons.mpr ⟨t_7, List.forall_mem_cons.mpr ⟨t_8, List.forall_mem_cons.mpr ⟨t_9, List.forall_mem_cons.mpr ⟨t_10, List.forall_mem_cons.mpr ⟨t_11, List.forall_mem_cons.mpr ⟨t_12, List.forall_mem_cons.mpr ⟨t_13, List.forall_mem_cons.mpr ⟨t_14, List.forall_mem_cons.mpr ⟨t_15, List.forall_mem_cons.mpr ⟨t_16, List.forall_mem_cons.mpr ⟨t_17, List.forall_mem_cons.mpr ⟨t_18, List.forall_mem_cons.mpr ⟨t_19, List.forall_mem_cons.mpr ⟨t_20, List.forall_mem_cons.mpr ⟨t_21, List.forall_mem_cons.mpr ⟨t_22, List.forall_mem_cons.mpr ⟨t_23, List.forall_mem_cons.mpr ⟨t_24, List.forall_mem_cons.mpr ⟨t_25, List.forall_mem_cons.mpr ⟨t_26, List.forall_mem_cons.mpr ⟨t_27, List.forall_mem_cons.mpr ⟨t_28, List.forall_mem_cons.mpr ⟨t_29, List.forall_mem_cons.mpr ⟨t_30, List.forall_mem_cons.mpr ⟨t_31, List.forall_mem_cons.mpr ⟨t_32, List.forall_mem_cons.mpr ⟨t_33, List.forall_mem_cons.mpr ⟨t_34, List.forall_mem_cons.mpr ⟨t_35, List.forall_mem_cons.mpr ⟨t_36, List.forall_mem_cons.mpr ⟨t_37, List.forall_mem_cons.mpr ⟨t_38, List.forall_mem_cons.mpr ⟨t_39, List.forall_mem_cons.mpr ⟨t_40, List.forall_mem_cons.mpr ⟨t_41, List.forall_mem_cons.mpr ⟨t_42, List.forall_mem_cons.mpr ⟨t_43, List.forall_mem_cons.mpr ⟨t_44, List.forall_mem_cons.mpr ⟨t_45, List.forall_mem_cons.mpr ⟨t_46, List.forall_mem_cons.mpr ⟨t_47, List.forall_mem_cons.mpr ⟨t_48, List.forall_mem_cons.mpr ⟨t_49, List.forall_mem_cons.mpr ⟨t_50, List.forall_mem_cons.mpr ⟨t_51, List.forall_mem_cons.mpr ⟨t_52, List.forall_mem_cons.mpr ⟨t_53, List.forall_mem_cons.mpr ⟨t_54, List.forall_mem_cons.mpr ⟨t_55, List.forall_mem_cons.mpr ⟨t_56, List.forall_mem_cons.mpr ⟨t_57, List.forall_mem_cons.mpr ⟨t_58, List.forall_mem_cons.mpr ⟨t_59, List.forall_mem_cons.mpr ⟨t_60, List.forall_mem_cons.mpr ⟨t_61, List.forall_mem_cons.mpr ⟨t_62, List.forall_mem_cons.mpr ⟨t_63, List.forall_mem_cons.mpr ⟨t_64, List.forall_mem_cons.mpr ⟨t_65, List.forall_mem_cons.mpr ⟨t_66, List.forall_mem_cons.mpr ⟨t_67, List.forall_mem_cons.mpr ⟨t_68, List.forall_mem_cons.mpr ⟨t_69, List.forall_mem_cons.mpr ⟨t_70, List.forall_mem_cons.mpr ⟨t_71, List.forall_mem_cons.mpr ⟨t_72, List.forall_mem_cons.mpr ⟨t_73, List.forall_mem_cons.mpr ⟨t_74, List.forall_mem_cons.mpr ⟨t_75, List.forall_mem_cons.mpr ⟨t_76, List.forall_mem_cons.mpr ⟨t_77, List.forall_mem_cons.mpr ⟨t_78, List.forall_mem_cons.mpr ⟨t_79, List.forall_mem_cons.mpr ⟨t_80, List.forall_mem_cons.mpr ⟨t_81, List.forall_mem_cons.mpr ⟨t_82, List.forall_mem_cons.mpr ⟨t_83, List.forall_mem_cons.mpr ⟨t_84, List.forall_mem_cons.mpr ⟨t_85, List.forall_mem_cons.mpr ⟨t_86, List.forall_mem_cons.mpr ⟨t_87, List.forall_mem_cons.mpr ⟨t_88, List.forall_mem_cons.mpr ⟨t_89, List.forall_mem_cons.mpr ⟨t_90, List.forall_mem_cons.mpr ⟨t_91, List.forall_mem_cons.mpr ⟨t_92, List.forall_mem_cons.mpr ⟨t_93, List.forall_mem_cons.mpr ⟨t_94, List.forall_mem_cons.mpr ⟨t_95, List.forall_mem_cons.mpr ⟨t_96, List.forall_mem_cons.mpr ⟨t_97, List.forall_mem_cons.mpr ⟨t_98, List.forall_mem_cons.mpr ⟨t_99, List.forall_mem_cons.mpr ⟨t_100, List.forall_mem_cons.mpr ⟨t_101, List.forall_mem_cons.mpr ⟨t_102, List.forall_mem_cons.mpr ⟨t_103, List.forall_mem_cons.mpr ⟨t_104, List.forall_mem_cons.mpr ⟨t_105, List.forall_mem_cons.mpr ⟨t_106, List.forall_mem_cons.mpr ⟨t_107, List.forall_mem_cons.mpr ⟨t_108, List.forall_mem_cons.mpr ⟨t_109, List.forall_mem_cons.mpr ⟨t_110, List.forall_mem_cons.mpr ⟨t_111, List.forall_mem_cons.mpr ⟨t_112, List.forall_mem_cons.mpr ⟨t_113, List.forall_mem_cons.mpr ⟨t_114, List.forall_mem_cons.mpr ⟨t_115, List.forall_mem_cons.mpr ⟨t_116, List.forall_mem_cons.mpr ⟨t_117, List.forall_mem_cons.mpr ⟨t_118, List.forall_mem_cons.mpr ⟨t_119, List.forall_mem_cons.mpr ⟨t_120, List.forall_mem_cons.mpr ⟨t_121, List.forall_mem_cons.mpr ⟨t_122, List.forall_mem_cons.mpr ⟨t_123, List.forall_mem_cons.mpr ⟨t_124, List.forall_mem_cons.mpr ⟨t_125, List.forall_mem_cons.mpr ⟨t_126, List.forall_mem_cons.mpr ⟨t_127, List.forall_mem_cons.mpr ⟨t_128, List.forall_mem_cons.mpr ⟨t_129, List.forall_mem_cons.mpr ⟨t_130, List.forall_mem_cons.mpr ⟨t_131, List.forall_mem_cons.mpr ⟨t_132, List.forall_mem_cons.mpr ⟨t_133, List.forall_mem_cons.mpr ⟨t_134, List.forall_mem_cons.mpr ⟨t_135, List.forall_mem_cons.mpr ⟨t_136, List.forall_mem_cons.mpr ⟨t_137, List.forall_mem_cons.mpr ⟨t_138, List.forall_mem_cons.mpr ⟨t_139, List.forall_mem_cons.mpr ⟨t_140, List.forall_mem_cons.mpr ⟨t_141, List.forall_mem_cons.mpr ⟨t_142, List.forall_mem_cons.mpr ⟨t_143, List.forall_mem_cons.mpr ⟨t_144, List.forall_mem_cons.mpr ⟨t_145, List.forall_mem_cons.mpr ⟨t_146, List.forall_mem_cons.mpr ⟨t_147, List.forall_mem_cons.mpr ⟨t_148, List.forall_mem_cons.mpr ⟨t_149, List.forall_mem_cons.mpr ⟨t_150, List.forall_mem_cons.mpr ⟨t_151, List.forall_mem_cons.mpr ⟨t_152, List.forall_mem_cons.mpr ⟨t_153, List.forall_mem_cons.mpr ⟨t_154, List.forall_mem_cons.mpr ⟨t_155, List.forall_mem_cons.mpr ⟨t_156, List.forall_mem_cons.mpr ⟨t_157, List.forall_mem_cons.mpr ⟨t_158, List.forall_mem_cons.mpr ⟨t_159, List.forall_mem_cons.mpr ⟨t_160, List.forall_mem_cons.mpr ⟨t_161, List.forall_mem_cons.mpr ⟨t_162, List.forall_mem_cons.mpr ⟨t_163, List.forall_mem_cons.mpr ⟨t_164, List.forall_mem_cons.mpr ⟨t_165, List.forall_mem_cons.mpr ⟨t_166, List.forall_mem_cons.mpr ⟨t_167, List.forall_mem_cons.mpr ⟨t_168, List.forall_mem_cons.mpr ⟨t_169, List.forall_mem_cons.mpr ⟨t_170, List.forall_mem_cons.mpr ⟨t_171, List.forall_mem_cons.mpr ⟨t_172, List.forall_mem_cons.mpr ⟨t_173, List.forall_mem_cons.mpr ⟨t_174, List.forall_mem_cons.mpr ⟨t_175, List.forall_mem_cons.mpr ⟨t_176, List.forall_mem_cons.mpr ⟨t_177, List.forall_mem_cons.mpr ⟨t_178, List.forall_mem_cons.mpr ⟨t_179, List.forall_mem_cons.mpr ⟨t_180, List.forall_mem_cons.mpr ⟨t_181, List.forall_mem_cons.mpr ⟨t_182, List.forall_mem_cons.mpr ⟨t_183, List.forall_mem_cons.mpr ⟨t_184, List.forall_mem_cons.mpr ⟨t_185, List.forall_mem_cons.mpr ⟨t_186, List.forall_mem_cons.mpr ⟨t_187, List.forall_mem_cons.mpr ⟨t_188, List.forall_mem_cons.mpr ⟨t_189, List.forall_mem_cons.mpr ⟨t_190, List.forall_mem_cons.mpr ⟨t_191, List.forall_mem_cons.mpr ⟨t_192, List.forall_mem_cons.mpr ⟨t_193, List.forall_mem_cons.mpr ⟨t_194, List.forall_mem_cons.mpr ⟨t_195, List.forall_mem_cons.mpr ⟨t_196, List.forall_mem_cons.mpr ⟨t_197, List.forall_mem_cons.mpr ⟨t_198, List.forall_mem_cons.mpr ⟨t_199, List.forall_mem_cons.mpr ⟨t_200, List.forall_mem_cons.mpr ⟨t_201, List.forall_mem_cons.mpr ⟨t_202, List.forall_mem_cons.mpr ⟨t_203, List.forall_mem_cons.mpr ⟨t_204, List.forall_mem_cons.mpr ⟨t_205, List.forall_mem_cons.mpr ⟨t_206, List.forall_mem_cons.mpr ⟨t_207, List.forall_mem_cons.mpr ⟨t_208, List.forall_mem_cons.mpr ⟨t_209, List.forall_mem_cons.mpr ⟨t_210, List.forall_mem_cons.mpr ⟨t_211, List.forall_mem_cons.mpr ⟨t_212, List.forall_mem_cons.mpr ⟨t_213, List.forall_mem_cons.mpr ⟨t_214, List.forall_mem_cons.mpr ⟨t_215, List.forall_mem_cons.mpr ⟨t_216, List.forall_mem_cons.mpr ⟨t_217, List.forall_mem_cons.mpr ⟨t_218, List.forall_mem_cons.mpr ⟨t_219, List.forall_mem_cons.mpr ⟨t_220, List.forall_mem_cons.mpr ⟨t_221, List.forall_mem_cons.mpr ⟨t_222, List.forall_mem_cons.mpr ⟨t_223, List.forall_mem_cons.mpr ⟨t_224, List.forall_mem_cons.mpr ⟨t_225, List.forall_mem_cons.mpr ⟨t_226, List.forall_mem_cons.mpr ⟨t_227, List.forall_mem_cons.mpr ⟨t_228, List.forall_mem_cons.mpr ⟨t_229, List.forall_mem_cons.mpr ⟨t_230, List.forall_mem_cons.mpr ⟨t_231, List.forall_mem_cons.mpr ⟨t_232, List.forall_mem_cons.mpr ⟨t_233, List.forall_mem_cons.mpr ⟨t_234, List.forall_mem_cons.mpr ⟨t_235, List.forall_mem_cons.mpr ⟨t_236, List.forall_mem_cons.mpr ⟨t_237, List.forall_mem_cons.mpr ⟨t_238, List.forall_mem_cons.mpr ⟨t_239, List.forall_mem_cons.mpr ⟨t_240, fun _ h => absurd h List.not_mem_nil⟩⟩⟩⟩⟩⟩⟩⟩⟩⟩⟩⟩⟩⟩⟩⟩⟩⟩⟩⟩⟩⟩⟩⟩⟩⟩⟩⟩⟩⟩⟩⟩⟩⟩⟩⟩⟩⟩⟩⟩⟩⟩⟩⟩⟩⟩⟩⟩⟩⟩⟩⟩⟩⟩⟩⟩⟩⟩⟩⟩⟩⟩⟩⟩⟩⟩⟩⟩⟩⟩⟩⟩⟩⟩⟩⟩⟩⟩⟩⟩⟩⟩⟩⟩⟩⟩⟩⟩⟩⟩⟩⟩⟩⟩⟩⟩⟩⟩⟩⟩⟩⟩⟩⟩⟩⟩⟩⟩⟩⟩⟩⟩⟩⟩⟩⟩⟩⟩⟩⟩⟩⟩⟩⟩⟩⟩⟩⟩⟩⟩⟩⟩⟩⟩⟩⟩⟩⟩⟩⟩⟩⟩⟩⟩⟩⟩⟩⟩⟩⟩⟩⟩⟩⟩⟩⟩⟩⟩⟩⟩⟩⟩⟩⟩⟩⟩⟩⟩⟩⟩⟩⟩⟩⟩⟩⟩⟩⟩⟩⟩⟩⟩⟩⟩⟩⟩⟩⟩⟩⟩⟩⟩⟩⟩⟩⟩⟩⟩⟩⟩⟩⟩⟩⟩⟩⟩⟩⟩⟩⟩⟩⟩⟩⟩⟩⟩⟩⟩⟩⟩⟩⟩⟩⟩⟩⟩⟩⟩⟩⟩⟩⟩⟩⟩⟩⟩⟩⟩⟩⟩⟩
set_option maxRecDepth 100000 in
theorem sd_rng : List.range 241 = [0, 1, 2, 3, 4, 5, 6, 7, 8, 9, 10, 11, 12, 13, 14, 15, 16, 17, 18, 19, 20, 21, 22, 23, 24, 25, 26, 27, 28, 29, 30, 31, 32, 33, 34, 35, 36, 37, 38, 39, 40, 41, 42, 43, 44, 45, 46, 47, 48, 49, 50, 51, 52, 53, 54, 55, 56, 57, 58, 59, 60, 61, 62, 63, 64, 65, 66, 67, 68, 69, 70, 71, 72, 73, 74, 75, 76, 77, 78, 79, 80, 81, 82, 83, 84, 85, 86, 87, 88, 89, 90, 91, 92, 93, 94, 95, 96, 97, 98, 99, 100, 101, 102, 103, 104, 105, 106, 107, 108, 109, 110, 111, 112, 113, 114, 115, 116, 117, 118, 119, 120, 121, 122, 123, 124, 125, 126, 127, 128, 129, 130, 131, 132, 133, 134, 135, 136, 137, 138, 139, 140, 141, 142, 143, 144, 145, 146, 147, 148, 149, 150, 151, 152, 153, 154, 155, 156, 157, 158, 159, 160, 161, 162, 163, 164, 165, 166, 167, 168, 169, 170, 171, 172, 173, 174, 175, 176, 177, 178, 179, 180, 181, 182, 183, 184, 185, 186, 187, 188, 189, 190, 191, 192, 193, 194, 195, 196, 197, 198, 199, 200, 201, 202, 203, 204, 205, 206, 207, 208, 209, 210, 211, 212, 213, 214, 215, 216, 217, 218, 219, 220, 221, 222, 223, 224, 225, 226, 227, 228, 229, 230, 231, 232, 233, 234, 235, 236, 237, 238, 239, 240] := by decide +kernel
theorem sd_chk {m : Nat} (h : m < 241) : (mj_code m).all (mj_chk m) = true := sd_chk0 m (by rw [← sd_rng]; exact List.mem_range.mpr h)
theorem sd_dec {m pc : Nat} {cut : Bool} {op npc : Nat} {a b : Int} (hm : m < 241) (h : mj_at m pc = (cut, op, a, b, npc)) (h99 : op ≠ 99) : ∃ i len, decode (mj_byt m) pc = .ok (i, len) ∧ mj_tr m pc i len = some (op, a, b, npc) ∧ (op = 58 → mj_mk m = 2 ∧ b = (mj_cno m : Int)) := by
  unfold mj_at at h
  cases hl : (mj_code m).lookup pc with
  | none => rw [hl] at h; cases h; exact absurd rfl h99
  | some E =>
    rw [hl] at h
    have h : E = (cut, op, a, b, npc) := h
    subst h
    have hmem := mj_lookup_mem hl
    have h1 := List.all_eq_true.mp (sd_chk hm) _ hmem
    have h2 := List.all_eq_true.mp (List.all_eq_true.mp sd_58 m (List.mem_range.mpr hm)) _ hmem
    unfold mj_chk at h1
    dsimp only at h1 h2
    split at h1
    · rename_i i len hd
      refine ⟨i, len, hd, by simpa using h1, fun q => ?_⟩
      subst q
      simpa using h2
    · cases h1
section
variable {hz : Nat} {ad : Nat → Nat} {dA : Nat → ClassId} {D : va_G} {L : Nat} {xs : Nat → Int32} {p : Program} {l : Launch} {e : Env} {R : Room} {s : State} {mid : MethodId} {args : Array Value} {below : List Frame} {meth : Method} {cd : Code} {H : Heap} {locs : List Loc} {cells slots : Nat} {Z : State → Prop} {mls : Array Slot} {m pc npc op len : Nat} {a b : Int} {ls st ls' st' : List mj_V} {c pc' : Nat} {π π' : mj_P} {μ μ' : mj_M}
set_option maxHeartbeats 4000000 in
theorem sd_nxall {i : Instr} (hFE : sd_FE hz ad dA D L xs p s mid args meth cd m) (hd : decode (mj_byt m) pc = .ok (i, len)) (htr : mj_tr m pc i len = some (op, a, b, npc)) (hn : sd_sp i = false) (hnx : mj_nx L m pc npc op a b ls st c π μ = some (pc', ls', st', π', μ')) (hRB : sd_RB hz ad dA D L xs s.heap (mj_maxl m) ls st c π μ H locs mls) (h58 : op = 58 → mj_mk m = 2 ∧ b = (mj_cno m : Int))
    (hk : ∀ H locs mls, sd_RB hz ad dA D L xs s.heap (mj_maxl m) ls' st' c π' μ' H locs mls → W p l e R s mid args below meth cd H locs cells slots Z (F0 mid pc' mls (st'.map (sd_v hz ad)))) : W p l e R s mid args below meth cd H locs cells slots Z (F0 mid pc mls (st.map (sd_v hz ad))) := by
  cases i with
  | iconst _ => exact s_iconst hFE hd htr hnx hRB hk
  | bipush _ => exact s_bipush hFE hd htr hnx hRB hk
  | sipush _ => exact s_sipush hFE hd htr hnx hRB hk
  | ldc_w _ => exact s_ldcw hFE hd htr hnx hRB hk
  | lconst _ => exact s_lconst hFE hd htr hnx hRB hk
  | ldc2_w _ => exact s_ldc2 hFE hd htr hnx hRB hk
  | ldc _ => exact s_ldc hFE hd htr hnx hRB hk
  | iload _ => exact s_iload hFE hd htr hnx hRB hk
  | iload_n _ => exact s_iload_n hFE hd htr hnx hRB hk
  | lload _ => exact s_lload hFE hd htr hnx hRB hk
  | lload_n _ => exact s_lload_n hFE hd htr hnx hRB hk
  | aload _ => exact s_aload hFE hd htr hnx hRB hk
  | aload_n _ => exact s_aload_n hFE hd htr hnx hRB hk
  | istore _ => exact s_istore hFE hd htr hnx hRB hk
  | istore_n _ => exact s_istore_n hFE hd htr hnx hRB hk
  | astore _ => exact s_astore hFE hd htr hnx hRB hk
  | astore_n _ => exact s_astore_n hFE hd htr hnx hRB hk
  | lstore _ => exact s_lstore hFE hd htr hnx hRB hk
  | iinc _ _ => exact s_iinc hFE hd htr hnx hRB hk
  | goto _ => exact s_goto hFE hd htr hnx hRB hk
  | dup => exact s_dup hFE hd htr hnx hRB hk
  | pop => exact s_pop hFE hd htr hnx hRB hk
  | dup2 => exact s_dup2 hFE hd htr hnx hRB hk
  | getfield _ => exact s_getfield hFE hd htr hnx hRB hk
  | arraylength => exact s_arraylength hFE hd htr hnx hRB hk
  | iaload => exact s_iaload hFE hd htr hnx hRB hk
  | iastore => exact s_iastore hFE hd htr hnx hRB hk
  | baload => exact s_baload hFE hd htr hnx hRB hk
  | bastore => exact s_bastore hFE hd htr hnx hRB hk
  | getstatic _ => exact s_getstatic hFE hd htr hnx hRB hk
  | tableswitch _ _ _ _ => exact s_tableswitch hFE hd htr hnx hRB hk
  | lookupswitch _ _ => exact s_lookupswitch hFE hd htr hnx hRB hk
  | iadd => exact s_iadd hFE hd htr hnx hRB hk
  | isub => exact s_isub hFE hd htr hnx hRB hk
  | imul => exact s_imul hFE hd htr hnx hRB hk
  | iand => exact s_iand hFE hd htr hnx hRB hk
  | ior => exact s_ior hFE hd htr hnx hRB hk
  | ixor => exact s_ixor hFE hd htr hnx hRB hk
  | ishl => exact s_ishl hFE hd htr hnx hRB hk
  | ishr => exact s_ishr hFE hd htr hnx hRB hk
  | iushr => exact s_iushr hFE hd htr hnx hRB hk
  | idiv => exact s_idiv hFE hd htr hnx hRB hk
  | irem => exact s_irem hFE hd htr hnx hRB hk
  | ineg => exact s_ineg hFE hd htr hnx hRB hk
  | i2l => exact s_i2l hFE hd htr hnx hRB hk
  | l2i => exact s_l2i hFE hd htr hnx hRB hk
  | i2b => exact s_i2b hFE hd htr hnx hRB hk
  | i2s => exact s_i2s hFE hd htr hnx hRB hk
  | ladd => exact s_ladd hFE hd htr hnx hRB hk
  | lmul => exact s_lmul hFE hd htr hnx hRB hk
  | ldiv => exact s_ldiv hFE hd htr hnx hRB hk
  | land => exact s_land hFE hd htr hnx hRB hk
  | lor => exact s_lor hFE hd htr hnx hRB hk
  | lshl => exact s_lshl hFE hd htr hnx hRB hk
  | lshr => exact s_lshr hFE hd htr hnx hRB hk
  | lcmp => exact s_lcmp hFE hd htr hnx hRB hk
  | putfield _ => exact s_putfield h58 hFE hd htr hnx hRB hk
  | if_icmp cnd _ =>
    cases cnd with
    | eq => exact s_ic_eq hFE hd htr hnx hRB hk
    | ne => exact s_ic_ne hFE hd htr hnx hRB hk
    | lt => exact s_ic_lt hFE hd htr hnx hRB hk
    | ge => exact s_ic_ge hFE hd htr hnx hRB hk
    | gt => exact s_ic_gt hFE hd htr hnx hRB hk
    | le => exact s_ic_le hFE hd htr hnx hRB hk
  | ifCond cnd _ =>
    cases cnd with
    | eq => exact s_if_eq hFE hd htr hnx hRB hk
    | ne => exact s_if_ne hFE hd htr hnx hRB hk
    | lt => exact s_if_lt hFE hd htr hnx hRB hk
    | ge => exact s_if_ge hFE hd htr hnx hRB hk
    | gt => exact s_if_gt hFE hd htr hnx hRB hk
    | le => exact s_if_le hFE hd htr hnx hRB hk
  | _ => first
    | exact absurd (show (none : Option (Nat × Int × Int × Nat)) = some (op, a, b, npc) from htr) (by simp)
    | cases hn
end
theorem sd_cm {L n d m pc : Nat} {ls st : List mj_V} {c : Nat} {π : mj_P} {μ : mj_M} {r1 : List mj_V} {c1 : Nat} {π1 : mj_P} {μ1 : mj_M} (h : mj_ex L n d m pc ls st c π μ (fun r c' π' μ' => r = r1 ∧ c' = c1 ∧ π' = π1 ∧ μ' = μ1)) : c ≤ c1 := by
  obtain ⟨r, c', π', μ', ⟨-, rfl, -⟩, h2⟩ := mj_cmono n _ _ _ _ _ _ _ _ _ h
  exact h2
set_option maxHeartbeats 8000000 in
/-- M's runs are the machine's -/
theorem sd_main {hz : Nat} {ad : Nat → Nat} {dA : Nat → ClassId} {D : va_G} {L : Nat} {xs : Nat → Int32} {l : Launch} : ∀ (n d m pc : Nat) (ls st : List mj_V) (c : Nat) (π : mj_P) (μ : mj_M) (r1 : List mj_V) (c1 : Nat) (π1 : mj_P) (μ1 : mj_M), m < 241 →
    mj_ex L n d m pc ls st c π μ (fun r c' π' μ' => r = r1 ∧ c' = c1 ∧ π' = π1 ∧ μ' = μ1) → sd_Goal hz ad dA D L xs l d m pc ls st c π μ r1 c1 π1 μ1 := by
  intro n
  induction n with
  | zero => intro d m pc ls st c π μ r1 c1 π1 μ1 _ h; exact h.elim
  | succ n ih =>
    intro d m pc ls st c π μ r1 c1 π1 μ1 hm hex
    simp only [mj_ex] at hex
    generalize hE : mj_at m pc = E at hex
    obtain ⟨cut, op, a, b, npc⟩ := E
    intro p e R s mid args below meth cd H locs mls c0 Z hFE hRf hRl hRc hRs hc0 hRB hRH
    by_cases h99 : op = 99
    · subst h99
      exact (show False from hex).elim
    obtain ⟨i, len, hd, htr, h58⟩ := sd_dec hm hE h99
    rcases mj_tr_sp htr with hsp | ⟨g1, g2, g3, g4, g5, g6, g7, g8⟩
    · -- calls: what is common
      have call : ∀ (m' : Nat) (na : Nat), op = 100 + na → a = (m' : Int) → m' < 241 → npc = pc + 3 →
          (∀ (d' : Nat) (as rest : List mj_V) (r2 : List mj_V) (c2 : Nat) (π2 : mj_P) (μ2 : mj_M), d = d' + 1 → st = as.reverse ++ rest → as.length = na → mj_wok rest = true → mj_aok m' as = true → c ≤ c2 → c - c0 + (c2 - c) ≤ R.cells → sd_S c - sd_S c0 + (sd_S c2 - sd_S c) ≤ R.slots →
            sd_Goal hz ad dA D L xs l d' m' 0 (mj_pad m' as) [] c π μ r2 c2 π2 μ2 →
            (∀ H locs mls, sd_RB hz ad dA D L xs s.heap (mj_maxl m) ls (r2 ++ rest) c2 π2 μ2 H locs mls → W p l e R s mid args below meth cd H locs (c - c0 + (c2 - c)) (sd_S c - sd_S c0 + (sd_S c2 - sd_S c)) Z (F0 mid (pc + 3) mls ((r2 ++ rest).map (sd_v hz ad)))) →
            W p l e R s mid args below meth cd H locs (c - c0) (sd_S c - sd_S c0) Z (F0 mid pc mls (st.map (sd_v hz ad)))) →
          W p l e R s mid args below meth cd H locs (c - c0) (sd_S c - sd_S c0) Z (F0 mid pc mls (st.map (sd_v hz ad))) := by
        intro m' na ho ha hm' hn kk
        subst ho
        subst ha
        subst hn
        unfold mj_F at hex
        dsimp only at hex
        rw [if_pos (by omega), Nat.add_sub_cancel_left, Int.toNat_natCast] at hex
        cases d with
        | zero => exact hex.elim
        | succ d' =>
          cases hs : mj_spl na [] st with
          | none => rw [hs] at hex; exact hex.elim
          | some x =>
            obtain ⟨as, rest⟩ := x
            rw [hs] at hex
            obtain ⟨⟨hwk, hao⟩, hcall⟩ := hex
            obtain ⟨hst, hlen⟩ := sd_spl' hs
            obtain ⟨r2, c2, π2, μ2, hdet⟩ := mj_det _ _ _ _ _ _ _ _ _ _ hcall
            have hcont := (hdet _).mpr hcall
            have hcallee := (hdet (fun r c' π' μ' => r = r2 ∧ c' = c2 ∧ π' = π2 ∧ μ' = μ2)).mp ⟨rfl, rfl, rfl, rfl⟩
            have h1 := sd_cm hcallee
            have h2 := sd_cm hcont
            have h3 := sd_S_mono h1
            have h4 := sd_S_mono h2
            have h5 := sd_S_mono hc0
            have hg := ih d' m' 0 _ [] c π μ r2 c2 π2 μ2 hm' hcallee
            have hk := ih (d' + 1) m (pc + 3) ls (r2 ++ rest) c2 π2 μ2 r1 c1 π1 μ1 hm hcont
            refine kk d' as rest r2 c2 π2 μ2 rfl hst hlen hwk hao h1 (by omega) (by omega) hg (fun H locs mls hRB' => ?_)
            have := hk p e R s mid args below meth cd H locs mls c0 Z hFE hRf hRl hRc hRs (by omega) hRB' hRH
            rw [show c - c0 + (c2 - c) = c2 - c0 by omega, show sd_S c - sd_S c0 + (sd_S c2 - sd_S c) = sd_S c2 - sd_S c0 by omega]
            exact this
      have rcv : ∀ {m' : Nat} {as : List mj_V}, (mj_mk m' = 0 ∨ mj_mk m' = 2) → mj_aok m' as = true → ∃ k as', as = .inr (.inr k) :: as' := by
        intro m' as hmk hao
        simp only [mj_aok, Bool.and_eq_true] at hao
        have h2 := hao.2
        rw [if_pos hmk] at h2
        cases as with
        | nil => cases h2
        | cons v as' =>
          cases v with
          | inl x => cases h2
          | inr x =>
            cases x with
            | inl x => cases h2
            | inr k => exact ⟨k, as', rfl⟩
      have hcalled : ∀ {m' : Nat}, (mj_mk m' = 0 ∨ mj_mk m' = 1 ∨ mj_mk m' = 2) → m' < 241 := fun h => List.mem_range.mp (List.mem_filter.mp (sd_called h)).1
      cases i with
      | invokevirtual v =>
        obtain ⟨rfl, q⟩ := mj_ifm (show (if len = 3 then (if mj_cno m = 9 ∧ v = 114 then some (74, 0, 0, pc + len) else (mj_mlT.lookup (mj_cno m, v)).bind (fun q => if mj_mk q.1 = 0 ∧ q.2.1 = false then some (101 + mj_na q.1, (q.1 : Int), 0, pc + len) else none)) else none) = some (op, a, b, npc) from htr)
        by_cases h9 : mj_cno m = 9 ∧ v = 114
        · rw [if_pos h9] at q
          cases q
          obtain ⟨h9, rfl⟩ := h9
          match d, st, hex with
          | d' + 4, .inl i :: .inr (.inr k) :: rest, hex =>
            have hex : (k = 1004 ∧ 0 ≤ i ∧ i < 72 ∧ mj_wok rest = true) ∧ mj_ex L n (d' + 4) m (pc + 3) ls (.inl (mj_sp i) :: rest) c π μ _ := hex
            obtain ⟨⟨rfl, h1, h2, h3⟩, h4⟩ := hex
            have hk := ih _ _ _ _ _ _ _ _ _ _ _ _ hm h4
            have h5 := sd_cm h4
            have h6 := sd_S_mono h5
            have h7 := sd_S_mono hc0
            exact s_charAt (d := d') hFE hd h9 ⟨h1, h2⟩ h3 hRf hRl hRB (by omega) (by omega) (fun H locs mls hRB' => hk p e R s mid args below meth cd H locs mls c0 Z hFE hRf hRl hRc hRs hc0 hRB' hRH)
          | 0, _, hex => exact (show False from hex).elim
          | 1, _, hex => exact (show False from hex).elim
          | 2, _, hex => exact (show False from hex).elim
          | 3, _, hex => exact (show False from hex).elim
          | d' + 4, [], hex => exact (show False from hex).elim
          | d' + 4, [.inl i], hex => exact (show False from hex).elim
          | d' + 4, .inl i :: .inl _ :: _, hex => exact (show False from hex).elim
          | d' + 4, .inl i :: .inr (.inl _) :: _, hex => exact (show False from hex).elim
          | d' + 4, .inr _ :: _, hex => exact (show False from hex).elim
        · rw [if_neg h9] at q
          obtain ⟨⟨m', nest, pos⟩, hw, q⟩ := Option.bind_eq_some_iff.mp q
          obtain ⟨⟨hmk, hns⟩, q⟩ := mj_if q
          have hns : nest = false := hns
          subst hns
          cases q
          refine call m' (mj_na m' + 1) (by show 101 + mj_na m' = 100 + (mj_na m' + 1); omega) rfl (hcalled (Or.inl hmk)) rfl (fun d' as rest r2 c2 π2 μ2 hdd hst hlen hwk hao hcc hr1 hr2 hg hk => ?_)
          obtain ⟨k, as', rfl⟩ := rcv (Or.inl hmk) hao
          subst hst
          subst hdd
          exact s_callV hFE hd hw hmk hwk hao (by simpa using hlen) hRf hRl hr1 hr2 hRB hg hk hcc
      | invokestatic v =>
        obtain ⟨rfl, q⟩ := mj_ifm (show (if len = 3 then (mj_mlT.lookup (mj_cno m, v)).bind (fun q => if mj_mk q.1 = 1 then some (100 + mj_na q.1, (q.1 : Int), (if q.2.1 then 11 else 1), pc + len) else none) else none) = some (op, a, b, npc) from htr)
        obtain ⟨⟨m', nest, pos⟩, hw, q⟩ := Option.bind_eq_some_iff.mp q
        obtain ⟨hmk, q⟩ := mj_if q
        cases q
        refine call m' (mj_na m') rfl rfl (hcalled (Or.inr (Or.inl hmk))) rfl (fun d' as rest r2 c2 π2 μ2 hdd hst hlen hwk hao hcc hr1 hr2 hg hk => ?_)
        subst hst
        subst hdd
        exact s_callS hFE hd hw hmk hwk hao hlen hRf hRl hr1 hr2 hRB hg hk hcc
      | invokespecial v =>
        obtain ⟨rfl, q⟩ := mj_ifm (show (if len = 3 then (match mj_oiT.lookup (mj_cno m, v) with
          | some _ => some (73, 0, 0, pc + len)
          | none => (mj_mlT.lookup (mj_cno m, v)).bind (fun q => if mj_mk q.1 = 2 then some (101 + mj_na q.1, (q.1 : Int), (if q.2.1 then 12 else 2), pc + len) else none) : Option (Nat × Int × Int × Nat)) else none) = some (op, a, b, npc) from htr)
        cases ho : mj_oiT.lookup (mj_cno m, v) with
        | some q0 =>
          rw [ho] at q
          cases q
          match d, st, hex with
          | d' + 1, .inr (.inr (k + 1)) :: rest, hex =>
            have hex : mj_wok rest = true ∧ mj_ex L n (d' + 1) m (pc + 3) ls rest c π μ _ := hex
            obtain ⟨h3, h4⟩ := hex
            have hk := ih _ _ _ _ _ _ _ _ _ _ _ _ hm h4
            exact s_oi (d := d') hFE hd ho h3 hRf hRl hRB (fun H locs mls hRB' => hk p e R s mid args below meth cd H locs mls c0 Z hFE hRf hRl hRc hRs hc0 hRB' hRH)
          | 0, _, hex => exact (show False from hex).elim
          | d' + 1, [], hex => exact (show False from hex).elim
          | d' + 1, .inl _ :: _, hex => exact (show False from hex).elim
          | d' + 1, .inr (.inl _) :: _, hex => exact (show False from hex).elim
          | d' + 1, .inr (.inr 0) :: _, hex => exact (show False from hex).elim
        | none =>
          rw [ho] at q
          obtain ⟨⟨m', nest, pos⟩, hw, q⟩ := Option.bind_eq_some_iff.mp q
          obtain ⟨hmk, q⟩ := mj_if q
          cases q
          refine call m' (mj_na m' + 1) (by show 101 + mj_na m' = 100 + (mj_na m' + 1); omega) rfl (hcalled (Or.inr (Or.inr hmk))) rfl (fun d' as rest r2 c2 π2 μ2 hdd hst hlen hwk hao hcc hr1 hr2 hg hk => ?_)
          obtain ⟨k, as', rfl⟩ := rcv (Or.inr hmk) hao
          subst hst
          subst hdd
          exact s_callI hFE hd hw hmk hwk hao (by simpa using hlen) hRf hRl hr1 hr2 hRB hg hk hcc
      | ireturn =>
        obtain ⟨rfl, q⟩ := mj_ifm (show (if len = 1 then (if mj_rt m = some .int then some (75, 0, 0, pc + len) else if mj_rt m = some .boolean then some (77, 0, 0, pc + len) else none) else none) = some (op, a, b, npc) from htr)
        obtain ⟨hH, hS, hL, hLn, hls, hst, hok⟩ := hRB
        by_cases hr : mj_rt m = some .int
        · rw [if_pos hr] at q
          cases q
          match st, hex, hst with
          | [.inl v], hex, hst =>
            have hex : [Sum.inl v] = r1 ∧ c = c1 ∧ π = π1 ∧ μ = μ1 := hex
            obtain ⟨rfl, rfl, rfl, rfl⟩ := hex
            exact hRH H locs mls pc .ireturn hd (Or.inl ⟨rfl, v, rfl, Or.inl hr⟩) hH hS hok hst
          | [], hex, _ => exact (show False from hex).elim
          | .inr _ :: _, hex, _ => exact (show False from hex).elim
          | .inl _ :: _ :: _, hex, _ => exact (show False from hex).elim
        · rw [if_neg hr] at q
          obtain ⟨hr2, q⟩ := mj_if q
          cases q
          match st, hex, hst with
          | [.inl v], hex, hst =>
            have hex : (0 ≤ v ∧ v ≤ 1) ∧ [Sum.inl v] = r1 ∧ c = c1 ∧ π = π1 ∧ μ = μ1 := hex
            obtain ⟨hv, rfl, rfl, rfl, rfl⟩ := hex
            exact hRH H locs mls pc .ireturn hd (Or.inl ⟨rfl, v, rfl, Or.inr ⟨hr2, hv⟩⟩) hH hS hok hst
          | [], hex, _ => exact (show False from hex).elim
          | .inr _ :: _, hex, _ => exact (show False from hex).elim
          | .inl _ :: _ :: _, hex, _ => exact (show False from hex).elim
      | return_ =>
        obtain ⟨⟨rfl, hr⟩, q⟩ := mj_if (show (if len = 1 ∧ mj_rt m = none then some (76, 0, 0, pc + len) else none) = some (op, a, b, npc) from htr)
        cases q
        obtain ⟨hH, hS, hL, hLn, hls, hst, hok⟩ := hRB
        match st, hex, hst with
        | [], hex, hst =>
          have hex : [] = r1 ∧ c = c1 ∧ π = π1 ∧ μ = μ1 := hex
          obtain ⟨rfl, rfl, rfl, rfl⟩ := hex
          exact hRH H locs mls pc .return_ hd (Or.inr ⟨rfl, hr, rfl⟩) hH hS hok hst
        | _ :: _, hex, _ => exact (show False from hex).elim
      | new v =>
        obtain ⟨rfl, q⟩ := mj_ifm (show (if len = 3 then (mj_clT.lookup (mj_cno m, v)).map (fun q => (68, (q.1 : Int), 0, pc + len)) else none) = some (op, a, b, npc) from htr)
        obtain ⟨w, -, q⟩ := mj_map_some q
        cases q
        have hex : mj_new L c π μ (10 + ((w.1 : Int)).toNat) (mj_lay L (mj_nm c)).2 ∧ mj_ex L n d m (pc + 3) ls (.inr (.inr (mj_nm c)) :: st) (c + 1) π μ _ := hex
        obtain ⟨h1, h4⟩ := hex
        have hk := ih _ _ _ _ _ _ _ _ _ _ _ _ hm h4
        exact s_new hFE hd htr h1 hRB hc0 (sd_cm h4) hRc hRs (fun H locs mls hRB' => hk p e R s mid args below meth cd H locs mls c0 Z hFE hRf hRl hRc hRs (by omega) hRB' hRH)
      | newarray ty =>
        have key : ∀ kd : Nat, ((ty = .int ∧ kd = 1) ∨ (ty = .byte ∧ kd = 2) ∨ (ty = .boolean ∧ kd = 3)) → op = 69 → a = (kd : Int) → npc = pc + 2 → len = 2 → W p l e R s mid args below meth cd H locs (c - c0) (sd_S c - sd_S c0) Z (F0 mid pc mls (st.map (sd_v hz ad))) := by
          intro kd hkd ho ha hn hl
          subst ho
          subst ha
          subst hn
          subst hl
          match st, hex, hRB with
          | .inl x :: st', hex, hRB =>
            have hex : (0 ≤ x ∧ mj_new L c π μ ((kd : Int)).toNat x.toNat) ∧ mj_ex L n d m (pc + 2) ls (.inr (.inr (mj_nm c)) :: st') (c + 1) π μ _ := hex
            obtain ⟨⟨h0, h1⟩, h4⟩ := hex
            rw [Int.toNat_natCast] at h1
            have hk := ih _ _ _ _ _ _ _ _ _ _ _ _ hm h4
            exact s_newa hFE hd hkd h0 h1 hRB hc0 (sd_cm h4) hRc hRs (fun H locs mls hRB' => hk p e R s mid args below meth cd H locs mls c0 Z hFE hRf hRl hRc hRs (by omega) hRB' hRH)
          | [], hex, _ => exact (show False from hex).elim
          | .inr _ :: _, hex, _ => exact (show False from hex).elim
        cases ty with
        | int =>
          obtain ⟨rfl, q⟩ := mj_if (show (if len = 2 then some (69, 1, 0, pc + len) else none) = some (op, a, b, npc) from htr)
          cases q
          exact key 1 (Or.inl ⟨rfl, rfl⟩) rfl rfl rfl rfl
        | byte =>
          obtain ⟨rfl, q⟩ := mj_if (show (if len = 2 then some (69, 2, 0, pc + len) else none) = some (op, a, b, npc) from htr)
          cases q
          exact key 2 (Or.inr (Or.inl ⟨rfl, rfl⟩)) rfl rfl rfl rfl
        | boolean =>
          obtain ⟨rfl, q⟩ := mj_if (show (if len = 2 then some (69, 3, 0, pc + len) else none) = some (op, a, b, npc) from htr)
          cases q
          exact key 3 (Or.inr (Or.inr ⟨rfl, rfl⟩)) rfl rfl rfl rfl
        | _ => exact absurd (show (none : Option (Nat × Int × Int × Nat)) = some (op, a, b, npc) from htr) (by simp)
      | _ => cases hsp
    · unfold mj_F at hex
      dsimp only at hex
      rw [if_neg g1, if_neg g2, if_neg g3, if_neg g4, if_neg g5, if_neg g6, if_neg g7, if_neg g8] at hex
      cases hX : mj_nx L m pc npc op a b ls st c π μ with
      | none => rw [hX] at hex; exact (show False from hex).elim
      | some X =>
        obtain ⟨pc', ls', st', π', μ'⟩ := X
        rw [hX] at hex
        have hex : mj_ex L n d m pc' ls' st' c π' μ' _ := hex
        have hk := ih _ _ _ _ _ _ _ _ _ _ _ _ hm hex
        have hn : sd_sp i = false := by
          cases hq : sd_sp i with
          | false => rfl
          | true => exact (sd_sp_op hq htr ⟨g1, g2, g3, g4, g5, g6, g7, g8⟩).elim
        exact sd_nxall hFE hd htr hn hX hRB h58 (fun H locs mls hRB' => hk p e R s mid args below meth cd H locs mls c0 Z hFE hRf hRl hRc hRs hc0 hRB' hRH)
