/-! the script stays -/
theorem fr_u {L k : Nat} {μ : mj_M} {i v : Int} (h : k ≠ 1000) : mj_up μ k i v 1000 = μ 1000 := g_un (fun q => h q.symm)
section
variable {L m pc npc c : Nat} {a b : Int} {ls st : List mj_V} {π : mj_P} {μ : mj_M} {X : mj_N}
theorem fr_2 (h : mj_nx L m pc npc 2 a b ls st c π μ = some X) : X.2.2.2.2 1000 = μ 1000 := by
  obtain ⟨_, _, q⟩ := n_2 h
  rw [← q]
theorem fr_3 (h : mj_nx L m pc npc 3 a b ls st c π μ = some X) : X.2.2.2.2 1000 = μ 1000 := by
  obtain ⟨_, _, _, q⟩ := n_3 h
  rw [← q]
theorem fr_4 (h : mj_nx L m pc npc 4 a b ls st c π μ = some X) : X.2.2.2.2 1000 = μ 1000 := by
  obtain ⟨_, _, _, q⟩ := n_4 h
  rw [← q]
theorem fr_5 (h : mj_nx L m pc npc 5 a b ls st c π μ = some X) : X.2.2.2.2 1000 = μ 1000 := by
  obtain ⟨_, _, q⟩ := n_5 h
  rw [← q]
theorem fr_6 (h : mj_nx L m pc npc 6 a b ls st c π μ = some X) : X.2.2.2.2 1000 = μ 1000 := by
  obtain ⟨_, _, q⟩ := n_6 h
  rw [← q]
theorem fr_7 (h : mj_nx L m pc npc 7 a b ls st c π μ = some X) : X.2.2.2.2 1000 = μ 1000 := by
  obtain ⟨_, _, q⟩ := n_7 h
  rw [← q]
theorem fr_8 (h : mj_nx L m pc npc 8 a b ls st c π μ = some X) : X.2.2.2.2 1000 = μ 1000 := by
  obtain ⟨_, _, _, q⟩ := n_8 h
  rw [← q]
theorem fr_10 (h : mj_nx L m pc npc 10 a b ls st c π μ = some X) : X.2.2.2.2 1000 = μ 1000 := by
  obtain ⟨_, _, _, _, q⟩ := n_10 h
  rw [← q]
theorem fr_11 (h : mj_nx L m pc npc 11 a b ls st c π μ = some X) : X.2.2.2.2 1000 = μ 1000 := by
  obtain ⟨_, _, _, _, q⟩ := n_11 h
  rw [← q]
theorem fr_12 (h : mj_nx L m pc npc 12 a b ls st c π μ = some X) : X.2.2.2.2 1000 = μ 1000 := by
  obtain ⟨_, _, _, _, q⟩ := n_12 h
  rw [← q]
theorem fr_13 (h : mj_nx L m pc npc 13 a b ls st c π μ = some X) : X.2.2.2.2 1000 = μ 1000 := by
  obtain ⟨_, _, _, _, _, q⟩ := n_13 h
  rw [← q]
theorem fr_14 (h : mj_nx L m pc npc 14 a b ls st c π μ = some X) : X.2.2.2.2 1000 = μ 1000 := by
  obtain ⟨_, _, _, _, _, q⟩ := n_14 h
  rw [← q]
theorem fr_15 (h : mj_nx L m pc npc 15 a b ls st c π μ = some X) : X.2.2.2.2 1000 = μ 1000 := by
  obtain ⟨_, _, _, _, q⟩ := n_15 h
  rw [← q]
theorem fr_16 (h : mj_nx L m pc npc 16 a b ls st c π μ = some X) : X.2.2.2.2 1000 = μ 1000 := by
  obtain ⟨_, _, _, _, q⟩ := n_16 h
  rw [← q]
theorem fr_17 (h : mj_nx L m pc npc 17 a b ls st c π μ = some X) : X.2.2.2.2 1000 = μ 1000 := by
  obtain ⟨_, _, _, _, q⟩ := n_17 h
  rw [← q]
theorem fr_18 (h : mj_nx L m pc npc 18 a b ls st c π μ = some X) : X.2.2.2.2 1000 = μ 1000 := by
  obtain ⟨_, _, _, _, q⟩ := n_18 h
  rw [← q]
theorem fr_19 (h : mj_nx L m pc npc 19 a b ls st c π μ = some X) : X.2.2.2.2 1000 = μ 1000 := by
  obtain ⟨_, _, _, _, q⟩ := n_19 h
  rw [← q]
theorem fr_20 (h : mj_nx L m pc npc 20 a b ls st c π μ = some X) : X.2.2.2.2 1000 = μ 1000 := by
  obtain ⟨_, _, _, _, q⟩ := n_20 h
  rw [← q]
theorem fr_21 (h : mj_nx L m pc npc 21 a b ls st c π μ = some X) : X.2.2.2.2 1000 = μ 1000 := by
  obtain ⟨_, _, _, q⟩ := n_21 h
  rw [← q]
theorem fr_22 (h : mj_nx L m pc npc 22 a b ls st c π μ = some X) : X.2.2.2.2 1000 = μ 1000 := by
  obtain ⟨_, _, _, q⟩ := n_22 h
  rw [← q]
theorem fr_23 (h : mj_nx L m pc npc 23 a b ls st c π μ = some X) : X.2.2.2.2 1000 = μ 1000 := by
  obtain ⟨_, _, _, q⟩ := n_23 h
  rw [← q]
theorem fr_24 (h : mj_nx L m pc npc 24 a b ls st c π μ = some X) : X.2.2.2.2 1000 = μ 1000 := by
  obtain ⟨_, _, _, q⟩ := n_24 h
  rw [← q]
theorem fr_25 (h : mj_nx L m pc npc 25 a b ls st c π μ = some X) : X.2.2.2.2 1000 = μ 1000 := by
  obtain ⟨_, _, _, q⟩ := n_25 h
  rw [← q]
theorem fr_26 (h : mj_nx L m pc npc 26 a b ls st c π μ = some X) : X.2.2.2.2 1000 = μ 1000 := by
  obtain ⟨_, _, _, _, q⟩ := n_26 h
  rw [← q]
theorem fr_27 (h : mj_nx L m pc npc 27 a b ls st c π μ = some X) : X.2.2.2.2 1000 = μ 1000 := by
  obtain ⟨_, _, _, _, q⟩ := n_27 h
  rw [← q]
theorem fr_28 (h : mj_nx L m pc npc 28 a b ls st c π μ = some X) : X.2.2.2.2 1000 = μ 1000 := by
  obtain ⟨_, _, _, _, _, q⟩ := n_28 h
  rw [← q]
theorem fr_29 (h : mj_nx L m pc npc 29 a b ls st c π μ = some X) : X.2.2.2.2 1000 = μ 1000 := by
  obtain ⟨_, _, _, _, q⟩ := n_29 h
  rw [← q]
theorem fr_30 (h : mj_nx L m pc npc 30 a b ls st c π μ = some X) : X.2.2.2.2 1000 = μ 1000 := by
  obtain ⟨_, _, _, _, q⟩ := n_30 h
  rw [← q]
theorem fr_31 (h : mj_nx L m pc npc 31 a b ls st c π μ = some X) : X.2.2.2.2 1000 = μ 1000 := by
  obtain ⟨_, _, _, _, q⟩ := n_31 h
  rw [← q]
theorem fr_32 (h : mj_nx L m pc npc 32 a b ls st c π μ = some X) : X.2.2.2.2 1000 = μ 1000 := by
  obtain ⟨_, _, _, _, q⟩ := n_32 h
  rw [← q]
theorem fr_33 (h : mj_nx L m pc npc 33 a b ls st c π μ = some X) : X.2.2.2.2 1000 = μ 1000 := by
  obtain ⟨_, _, _, _, q⟩ := n_33 h
  rw [← q]
theorem fr_40 (h : mj_nx L m pc npc 40 a b ls st c π μ = some X) : X.2.2.2.2 1000 = μ 1000 := by
  obtain ⟨_, _, _, _, q⟩ := n_40 h
  rw [← q]; split <;> rfl
theorem fr_41 (h : mj_nx L m pc npc 41 a b ls st c π μ = some X) : X.2.2.2.2 1000 = μ 1000 := by
  obtain ⟨_, _, _, _, q⟩ := n_41 h
  rw [← q]; split <;> rfl
theorem fr_42 (h : mj_nx L m pc npc 42 a b ls st c π μ = some X) : X.2.2.2.2 1000 = μ 1000 := by
  obtain ⟨_, _, _, _, q⟩ := n_42 h
  rw [← q]; split <;> rfl
theorem fr_43 (h : mj_nx L m pc npc 43 a b ls st c π μ = some X) : X.2.2.2.2 1000 = μ 1000 := by
  obtain ⟨_, _, _, _, q⟩ := n_43 h
  rw [← q]; split <;> rfl
theorem fr_44 (h : mj_nx L m pc npc 44 a b ls st c π μ = some X) : X.2.2.2.2 1000 = μ 1000 := by
  obtain ⟨_, _, _, _, q⟩ := n_44 h
  rw [← q]; split <;> rfl
theorem fr_45 (h : mj_nx L m pc npc 45 a b ls st c π μ = some X) : X.2.2.2.2 1000 = μ 1000 := by
  obtain ⟨_, _, _, _, q⟩ := n_45 h
  rw [← q]; split <;> rfl
theorem fr_46 (h : mj_nx L m pc npc 46 a b ls st c π μ = some X) : X.2.2.2.2 1000 = μ 1000 := by
  obtain ⟨_, _, _, q⟩ := n_46 h
  rw [← q]; split <;> rfl
theorem fr_47 (h : mj_nx L m pc npc 47 a b ls st c π μ = some X) : X.2.2.2.2 1000 = μ 1000 := by
  obtain ⟨_, _, _, q⟩ := n_47 h
  rw [← q]; split <;> rfl
theorem fr_48 (h : mj_nx L m pc npc 48 a b ls st c π μ = some X) : X.2.2.2.2 1000 = μ 1000 := by
  obtain ⟨_, _, _, q⟩ := n_48 h
  rw [← q]; split <;> rfl
theorem fr_49 (h : mj_nx L m pc npc 49 a b ls st c π μ = some X) : X.2.2.2.2 1000 = μ 1000 := by
  obtain ⟨_, _, _, q⟩ := n_49 h
  rw [← q]; split <;> rfl
theorem fr_50 (h : mj_nx L m pc npc 50 a b ls st c π μ = some X) : X.2.2.2.2 1000 = μ 1000 := by
  obtain ⟨_, _, _, q⟩ := n_50 h
  rw [← q]; split <;> rfl
theorem fr_51 (h : mj_nx L m pc npc 51 a b ls st c π μ = some X) : X.2.2.2.2 1000 = μ 1000 := by
  obtain ⟨_, _, _, q⟩ := n_51 h
  rw [← q]; split <;> rfl
theorem fr_53 (h : mj_nx L m pc npc 53 a b ls st c π μ = some X) : X.2.2.2.2 1000 = μ 1000 := by
  obtain ⟨_, _, _, q⟩ := n_53 h
  rw [← q]
theorem fr_57 (h : mj_nx L m pc npc 57 a b ls st c π μ = some X) : X.2.2.2.2 1000 = μ 1000 := by
  obtain ⟨_, _, _, _, q⟩ := n_57 h
  rw [← q]
theorem fr_58 (h : mj_nx L m pc npc 58 a b ls st c π μ = some X) : X.2.2.2.2 1000 = μ 1000 := by
  obtain ⟨_, _, _, _, _, q⟩ := n_58 h
  rw [← q]
theorem fr_60 (h : mj_nx L m pc npc 60 a b ls st c π μ = some X) : X.2.2.2.2 1000 = μ 1000 := by
  obtain ⟨_, _, _, _, q⟩ := n_60 h
  rw [← q]
theorem fr_61 (h : mj_nx L m pc npc 61 a b ls st c π μ = some X) : X.2.2.2.2 1000 = μ 1000 := by
  obtain ⟨_, _, _, _, q⟩ := n_61 h
  rw [← q]
theorem fr_63 (h : mj_nx L m pc npc 63 a b ls st c π μ = some X) : X.2.2.2.2 1000 = μ 1000 := by
  obtain ⟨_, _, _, _, _, q⟩ := n_63 h
  rw [← q]
theorem fr_64 (h : mj_nx L m pc npc 64 a b ls st c π μ = some X) : X.2.2.2.2 1000 = μ 1000 := by
  obtain ⟨_, _, _, _, _, q⟩ := n_64 h
  rw [← q]
theorem fr_66 (h : mj_nx L m pc npc 66 a b ls st c π μ = some X) : X.2.2.2.2 1000 = μ 1000 := by
  obtain ⟨_, _, _, _, _, q⟩ := n_66 h
  rw [← q]
theorem fr_78 (h : mj_nx L m pc npc 78 a b ls st c π μ = some X) : X.2.2.2.2 1000 = μ 1000 := by
  obtain ⟨_, _, _, _, q⟩ := n_78 h
  rw [← q]
theorem fr_79 (h : mj_nx L m pc npc 79 a b ls st c π μ = some X) : X.2.2.2.2 1000 = μ 1000 := by
  obtain ⟨_, _, _, q⟩ := n_79 h
  rw [← q]
theorem fr_80 (h : mj_nx L m pc npc 80 a b ls st c π μ = some X) : X.2.2.2.2 1000 = μ 1000 := by
  obtain ⟨_, _, _, _, _, q⟩ := n_80 h
  rw [← q]
theorem fr_62 (hb : 0 ≤ b) (h : mj_nx L m pc npc 62 a b ls st c π μ = some X) : X.2.2.2.2 1000 = μ 1000 := by
  obtain ⟨v, k, s, _, hc, q⟩ := n_62 h
  rw [← q]
  refine fr_u (L := L) (fun e => ?_)
  subst e
  rw [y_1000] at hc
  simp at hc
  omega
theorem fr_59 (hb : 0 ≤ b) (h : mj_nx L m pc npc 59 a b ls st c π μ = some X) : X.2.2.2.2 1000 = μ 1000 := by
  obtain ⟨v, k, s, _, hc, q⟩ := n_59 h
  rw [← q]
  refine fr_u (L := L) (fun e => ?_)
  subst e
  rw [y_1000] at hc
  simp at hc
  omega
theorem fr_65 (h : mj_nx L m pc npc 65 a b ls st c π μ = some X) : X.2.2.2.2 1000 = μ 1000 := by
  obtain ⟨v, i, k, s, _, hc, q⟩ := n_65 h
  rw [← q]
  exact fr_u (L := L) (by omega)
theorem fr_67 (h : mj_nx L m pc npc 67 a b ls st c π μ = some X) : X.2.2.2.2 1000 = μ 1000 := by
  obtain ⟨v, i, k, s, _, hc⟩ := n_67 h
  rcases hc with hc | hc
  · obtain ⟨c1, _, _, q⟩ := hc
    rw [← q]
    refine fr_u (L := L) (fun e => ?_)
    subst e
    rw [y_1000] at c1
    simp at c1
  · obtain ⟨c1, _, _, _, _, q⟩ := hc
    rw [← q]
    refine fr_u (L := L) (fun e => ?_)
    subst e
    rw [y_1000] at c1
    simp at c1
theorem fr_0 (h : mj_nx L m pc npc 0 a b ls st c π μ = some X) : X.2.2.2.2 1000 = μ 1000 := by
  cases h
  rfl
theorem fr_1 (h : mj_nx L m pc npc 1 a b ls st c π μ = some X) : X.2.2.2.2 1000 = μ 1000 := by
  cases h
  rfl
theorem fr_52 (h : mj_nx L m pc npc 52 a b ls st c π μ = some X) : X.2.2.2.2 1000 = μ 1000 := by
  cases h
  rfl
theorem fr_70 (h : mj_nx L m pc npc 70 a b ls st c π μ = some X) : X.2.2.2.2 1000 = μ 1000 := by
  cases h
  rfl
theorem fr_71 (h : mj_nx L m pc npc 71 a b ls st c π μ = some X) : X.2.2.2.2 1000 = μ 1000 := by
  cases h
  rfl
end
def frO : List Nat := [0, 1, 2, 3, 4, 5, 6, 7, 8, 10, 11, 12, 13, 14, 15, 16, 17, 18, 19, 20, 21, 22, 23, 24, 25, 26, 27, 28, 29, 30, 31, 32, 33, 40, 41, 42, 43, 44, 45, 46, 47, 48, 49, 50, 51, 52, 53, 57, 58, 59, 60, 61, 62, 63, 64, 65, 66, 67, 70, 71, 78, 79, 80]
def frK (e : mj_E) : Bool := decide (100 ≤ e.2.1) || [68, 69, 73, 74, 75, 76, 77].contains e.2.1 || (frO.contains e.2.1 && (decide (e.2.1 ≠ 62 ∧ e.2.1 ≠ 59) || decide (0 ≤ e.2.2.2.1)))
theorem fr_tab : mj_codes.all (fun l => l.all (fun q => frK q.2)) = true := by decide +kernel
theorem fr_look {l : List (Nat × mj_E)} {pc : Nat} {e : mj_E} (h : l.lookup pc = some e) (ha : l.all (fun q => frK q.2) = true) : frK e = true := by
  induction l with
  | nil => cases h
  | cons x l ih =>
    obtain ⟨k, v⟩ := x
    simp only [List.all_cons, Bool.and_eq_true] at ha
    rw [List.lookup_cons] at h
    split at h
    · cases h; exact ha.1
    · exact ih h ha.2
theorem fr_at (m pc : Nat) : frK (mj_at m pc) = true ∨ (mj_at m pc) = (false, 99, 0, 0, 0) := by
  unfold mj_at
  cases h : (mj_code m).lookup pc with
  | none => right; rfl
  | some e =>
    left
    show frK e = true
    refine fr_look h ?_
    unfold mj_code
    have ht := fr_tab
    rw [List.all_eq_true] at ht
    rw [List.getD_eq_getElem?_getD]
    cases h2 : mj_codes[m]? with
    | none => rfl
    | some l => exact ht l (List.mem_of_getElem? h2)
theorem nx_fr {L m pc npc op c : Nat} {a b : Int} {ls st : List mj_V} {π : mj_P} {μ : mj_M} {X : mj_N} (hop : frO.contains op = true) (hb : op = 62 ∨ op = 59 → 0 ≤ b) (h : mj_nx L m pc npc op a b ls st c π μ = some X) : X.2.2.2.2 1000 = μ 1000 := by
  have hm : op ∈ frO := by simpa using hop
  unfold frO at hm
  simp only [List.mem_cons, List.not_mem_nil, or_false] at hm
  rcases hm with rfl | rfl | rfl | rfl | rfl | rfl | rfl | rfl | rfl | rfl | rfl | rfl | rfl | rfl | rfl | rfl | rfl | rfl | rfl | rfl | rfl | rfl | rfl | rfl | rfl | rfl | rfl | rfl | rfl | rfl | rfl | rfl | rfl | rfl | rfl | rfl | rfl | rfl | rfl | rfl | rfl | rfl | rfl | rfl | rfl | rfl | rfl | rfl | rfl | rfl | rfl | rfl | rfl | rfl | rfl | rfl | rfl | rfl | rfl | rfl | rfl | rfl | rfl
  · exact fr_0 h
  · exact fr_1 h
  · exact fr_2 h
  · exact fr_3 h
  · exact fr_4 h
  · exact fr_5 h
  · exact fr_6 h
  · exact fr_7 h
  · exact fr_8 h
  · exact fr_10 h
  · exact fr_11 h
  · exact fr_12 h
  · exact fr_13 h
  · exact fr_14 h
  · exact fr_15 h
  · exact fr_16 h
  · exact fr_17 h
  · exact fr_18 h
  · exact fr_19 h
  · exact fr_20 h
  · exact fr_21 h
  · exact fr_22 h
  · exact fr_23 h
  · exact fr_24 h
  · exact fr_25 h
  · exact fr_26 h
  · exact fr_27 h
  · exact fr_28 h
  · exact fr_29 h
  · exact fr_30 h
  · exact fr_31 h
  · exact fr_32 h
  · exact fr_33 h
  · exact fr_40 h
  · exact fr_41 h
  · exact fr_42 h
  · exact fr_43 h
  · exact fr_44 h
  · exact fr_45 h
  · exact fr_46 h
  · exact fr_47 h
  · exact fr_48 h
  · exact fr_49 h
  · exact fr_50 h
  · exact fr_51 h
  · exact fr_52 h
  · exact fr_53 h
  · exact fr_57 h
  · exact fr_58 h
  · exact fr_59 (hb (by decide)) h
  · exact fr_60 h
  · exact fr_61 h
  · exact fr_62 (hb (by decide)) h
  · exact fr_63 h
  · exact fr_64 h
  · exact fr_65 h
  · exact fr_66 h
  · exact fr_67 h
  · exact fr_70 h
  · exact fr_71 h
  · exact fr_78 h
  · exact fr_79 h
  · exact fr_80 h
