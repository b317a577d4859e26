theorem mj_on_ite {p : Prop} [Decidable p] {A : mj_N} {B : Option mj_N} {K : Nat → List mj_V → List mj_V → Nat → mj_P → mj_M → Prop} {c : Nat} : mj_on c (if p then some A else B) K = ((p → mj_on c (some A) K) ∧ (¬ p → mj_on c B K)) := by
  by_cases h : p <;> simp [h]
theorem mj_on_if {p : Prop} [Decidable p] {A : mj_N} {K : Nat → List mj_V → List mj_V → Nat → mj_P → mj_M → Prop} {c : Nat} : mj_on c (if p then some A else none) K = (p ∧ mj_on c (some A) K) := by
  by_cases h : p <;> simp [h, mj_on]
theorem mj_on_no {p : Prop} [Decidable p] {A : mj_N} {K : Nat → List mj_V → List mj_V → Nat → mj_P → mj_M → Prop} {c : Nat} : mj_on c (if p then none else some A) K = (¬ p ∧ mj_on c (some A) K) := by
  by_cases h : p <;> simp [h, mj_on]
noncomputable def mj_gF (L d m pc : Nat) (ls st : List mj_V) (c : Nat) (π : mj_P) (μ : mj_M) (Q : mj_Q) (e : mj_E) : Prop :=
  if e.1 = true then mj_run L d m pc ls st c π μ Q else mj_F (mj_call L) (fun pc ls st c π μ => mj_go L d m pc ls st c π μ Q) (mj_k L d m Q) L d m pc ls st c π μ Q e
theorem mj_go_eq {L d m pc : Nat} {ls st : List mj_V} {c : Nat} {π : mj_P} {μ : mj_M} {Q : mj_Q} : mj_go L d m pc ls st c π μ Q = mj_gF L d m pc ls st c π μ Q (mj_at m pc) := by
  unfold mj_gF
  by_cases h : (mj_at m pc).1 = true
  · rw [if_pos h]; rfl
  · rw [if_neg h]; exact propext mj_run_F
theorem mj_start {L d m pc : Nat} {ls st : List mj_V} {c : Nat} {π : mj_P} {μ : mj_M} {Q : mj_Q} (h : mj_gF L d m pc ls st c π μ Q (false, (mj_at m pc).2)) : mj_run L d m pc ls st c π μ Q := mj_run_F.mpr h
theorem mj_start_eq {L d m pc : Nat} {ls st : List mj_V} {c : Nat} {π : mj_P} {μ : mj_M} {Q : mj_Q} : mj_run L d m pc ls st c π μ Q = mj_gF L d m pc ls st c π μ Q (false, (mj_at m pc).2) := propext mj_run_F
section
variable {L d m pc npc c : Nat} {a b x y i v : Int} {k r n : Nat} {ls st l : List mj_V} {π : mj_P} {μ : mj_M} {Q : mj_Q}
theorem g_cut {e : Nat × Int × Int × Nat} : mj_gF L d m pc ls st c π μ Q (true, e) = mj_run L d m pc ls st c π μ Q := rfl
theorem g_const : mj_gF L d m pc ls st c π μ Q (false, 0, a, b, npc) = mj_go L d m npc ls (.inl a :: st) c π μ Q := rfl
theorem g_lconst : mj_gF L d m pc ls st c π μ Q (false, 1, a, b, npc) = mj_go L d m npc ls (.inr (.inl a) :: st) c π μ Q := rfl
theorem g_ldi_0 : mj_gF L d m pc (.inl x :: l) st c π μ Q (false, 2, 0, b, npc) = mj_go L d m npc (.inl x :: l) (.inl x :: st) c π μ Q := rfl
theorem g_ldl_0 : mj_gF L d m pc (.inr (.inl x) :: l) st c π μ Q (false, 7, 0, b, npc) = mj_go L d m npc (.inr (.inl x) :: l) (.inr (.inl x) :: st) c π μ Q := rfl
theorem g_ldr_0 : mj_gF L d m pc (.inr (.inr k) :: l) st c π μ Q (false, 6, 0, b, npc) = (k ≠ 0 ∧ mj_go L d m npc (.inr (.inr k) :: l) (.inr (.inr k) :: st) c π μ Q) := by
  cases k with
  | zero => exact propext ⟨fun h => h.elim, fun h => absurd rfl h.1⟩
  | succ k => exact propext ⟨fun h => ⟨Nat.succ_ne_zero k, h⟩, fun h => h.2⟩
theorem g_sti_0 {v0 : mj_V} : mj_gF L d m pc (v0 :: l) (.inl x :: st) c π μ Q (false, 3, 0, b, npc) = mj_go L d m npc (.inl x :: l) st c π μ Q := rfl
theorem g_str_0 {v0 : mj_V} : mj_gF L d m pc (v0 :: l) (.inr (.inr k) :: st) c π μ Q (false, 8, 0, b, npc) = (k ≠ 0 ∧ mj_go L d m npc (.inr (.inr k) :: l) st c π μ Q) := by
  cases k with
  | zero => exact propext ⟨fun h => h.elim, fun h => absurd rfl h.1⟩
  | succ k => exact propext ⟨fun h => ⟨Nat.succ_ne_zero k, h⟩, fun h => h.2⟩
theorem g_inc_0 : mj_gF L d m pc (.inl x :: l) st c π μ Q (false, 5, 0, b, npc) = mj_go L d m npc (.inl (mj_w (x + b)) :: l) st c π μ Q := rfl
theorem g_ldi_1 {v0 : mj_V} : mj_gF L d m pc (v0 :: .inl x :: l) st c π μ Q (false, 2, 1, b, npc) = mj_go L d m npc (v0 :: .inl x :: l) (.inl x :: st) c π μ Q := rfl
theorem g_ldl_1 {v0 : mj_V} : mj_gF L d m pc (v0 :: .inr (.inl x) :: l) st c π μ Q (false, 7, 1, b, npc) = mj_go L d m npc (v0 :: .inr (.inl x) :: l) (.inr (.inl x) :: st) c π μ Q := rfl
theorem g_ldr_1 {v0 : mj_V} : mj_gF L d m pc (v0 :: .inr (.inr k) :: l) st c π μ Q (false, 6, 1, b, npc) = (k ≠ 0 ∧ mj_go L d m npc (v0 :: .inr (.inr k) :: l) (.inr (.inr k) :: st) c π μ Q) := by
  cases k with
  | zero => exact propext ⟨fun h => h.elim, fun h => absurd rfl h.1⟩
  | succ k => exact propext ⟨fun h => ⟨Nat.succ_ne_zero k, h⟩, fun h => h.2⟩
theorem g_sti_1 {v0 v1 : mj_V} : mj_gF L d m pc (v0 :: v1 :: l) (.inl x :: st) c π μ Q (false, 3, 1, b, npc) = mj_go L d m npc (mj_clr v0 :: .inl x :: l) st c π μ Q := rfl
theorem g_str_1 {v0 v1 : mj_V} : mj_gF L d m pc (v0 :: v1 :: l) (.inr (.inr k) :: st) c π μ Q (false, 8, 1, b, npc) = (k ≠ 0 ∧ mj_go L d m npc (mj_clr v0 :: .inr (.inr k) :: l) st c π μ Q) := by
  cases k with
  | zero => exact propext ⟨fun h => h.elim, fun h => absurd rfl h.1⟩
  | succ k => exact propext ⟨fun h => ⟨Nat.succ_ne_zero k, h⟩, fun h => h.2⟩
theorem g_inc_1 {v0 : mj_V} : mj_gF L d m pc (v0 :: .inl x :: l) st c π μ Q (false, 5, 1, b, npc) = mj_go L d m npc (mj_clr v0 :: .inl (mj_w (x + b)) :: l) st c π μ Q := rfl
theorem g_ldi_2 {v0 v1 : mj_V} : mj_gF L d m pc (v0 :: v1 :: .inl x :: l) st c π μ Q (false, 2, 2, b, npc) = mj_go L d m npc (v0 :: v1 :: .inl x :: l) (.inl x :: st) c π μ Q := rfl
theorem g_ldl_2 {v0 v1 : mj_V} : mj_gF L d m pc (v0 :: v1 :: .inr (.inl x) :: l) st c π μ Q (false, 7, 2, b, npc) = mj_go L d m npc (v0 :: v1 :: .inr (.inl x) :: l) (.inr (.inl x) :: st) c π μ Q := rfl
theorem g_ldr_2 {v0 v1 : mj_V} : mj_gF L d m pc (v0 :: v1 :: .inr (.inr k) :: l) st c π μ Q (false, 6, 2, b, npc) = (k ≠ 0 ∧ mj_go L d m npc (v0 :: v1 :: .inr (.inr k) :: l) (.inr (.inr k) :: st) c π μ Q) := by
  cases k with
  | zero => exact propext ⟨fun h => h.elim, fun h => absurd rfl h.1⟩
  | succ k => exact propext ⟨fun h => ⟨Nat.succ_ne_zero k, h⟩, fun h => h.2⟩
theorem g_sti_2 {v0 v1 v2 : mj_V} : mj_gF L d m pc (v0 :: v1 :: v2 :: l) (.inl x :: st) c π μ Q (false, 3, 2, b, npc) = mj_go L d m npc (v0 :: mj_clr v1 :: .inl x :: l) st c π μ Q := rfl
theorem g_str_2 {v0 v1 v2 : mj_V} : mj_gF L d m pc (v0 :: v1 :: v2 :: l) (.inr (.inr k) :: st) c π μ Q (false, 8, 2, b, npc) = (k ≠ 0 ∧ mj_go L d m npc (v0 :: mj_clr v1 :: .inr (.inr k) :: l) st c π μ Q) := by
  cases k with
  | zero => exact propext ⟨fun h => h.elim, fun h => absurd rfl h.1⟩
  | succ k => exact propext ⟨fun h => ⟨Nat.succ_ne_zero k, h⟩, fun h => h.2⟩
theorem g_inc_2 {v0 v1 : mj_V} : mj_gF L d m pc (v0 :: v1 :: .inl x :: l) st c π μ Q (false, 5, 2, b, npc) = mj_go L d m npc (v0 :: mj_clr v1 :: .inl (mj_w (x + b)) :: l) st c π μ Q := rfl
theorem g_ldi_3 {v0 v1 v2 : mj_V} : mj_gF L d m pc (v0 :: v1 :: v2 :: .inl x :: l) st c π μ Q (false, 2, 3, b, npc) = mj_go L d m npc (v0 :: v1 :: v2 :: .inl x :: l) (.inl x :: st) c π μ Q := rfl
theorem g_ldl_3 {v0 v1 v2 : mj_V} : mj_gF L d m pc (v0 :: v1 :: v2 :: .inr (.inl x) :: l) st c π μ Q (false, 7, 3, b, npc) = mj_go L d m npc (v0 :: v1 :: v2 :: .inr (.inl x) :: l) (.inr (.inl x) :: st) c π μ Q := rfl
theorem g_ldr_3 {v0 v1 v2 : mj_V} : mj_gF L d m pc (v0 :: v1 :: v2 :: .inr (.inr k) :: l) st c π μ Q (false, 6, 3, b, npc) = (k ≠ 0 ∧ mj_go L d m npc (v0 :: v1 :: v2 :: .inr (.inr k) :: l) (.inr (.inr k) :: st) c π μ Q) := by
  cases k with
  | zero => exact propext ⟨fun h => h.elim, fun h => absurd rfl h.1⟩
  | succ k => exact propext ⟨fun h => ⟨Nat.succ_ne_zero k, h⟩, fun h => h.2⟩
theorem g_sti_3 {v0 v1 v2 v3 : mj_V} : mj_gF L d m pc (v0 :: v1 :: v2 :: v3 :: l) (.inl x :: st) c π μ Q (false, 3, 3, b, npc) = mj_go L d m npc (v0 :: v1 :: mj_clr v2 :: .inl x :: l) st c π μ Q := rfl
theorem g_str_3 {v0 v1 v2 v3 : mj_V} : mj_gF L d m pc (v0 :: v1 :: v2 :: v3 :: l) (.inr (.inr k) :: st) c π μ Q (false, 8, 3, b, npc) = (k ≠ 0 ∧ mj_go L d m npc (v0 :: v1 :: mj_clr v2 :: .inr (.inr k) :: l) st c π μ Q) := by
  cases k with
  | zero => exact propext ⟨fun h => h.elim, fun h => absurd rfl h.1⟩
  | succ k => exact propext ⟨fun h => ⟨Nat.succ_ne_zero k, h⟩, fun h => h.2⟩
theorem g_inc_3 {v0 v1 v2 : mj_V} : mj_gF L d m pc (v0 :: v1 :: v2 :: .inl x :: l) st c π μ Q (false, 5, 3, b, npc) = mj_go L d m npc (v0 :: v1 :: mj_clr v2 :: .inl (mj_w (x + b)) :: l) st c π μ Q := rfl
theorem g_ldi_4 {v0 v1 v2 v3 : mj_V} : mj_gF L d m pc (v0 :: v1 :: v2 :: v3 :: .inl x :: l) st c π μ Q (false, 2, 4, b, npc) = mj_go L d m npc (v0 :: v1 :: v2 :: v3 :: .inl x :: l) (.inl x :: st) c π μ Q := rfl
theorem g_ldl_4 {v0 v1 v2 v3 : mj_V} : mj_gF L d m pc (v0 :: v1 :: v2 :: v3 :: .inr (.inl x) :: l) st c π μ Q (false, 7, 4, b, npc) = mj_go L d m npc (v0 :: v1 :: v2 :: v3 :: .inr (.inl x) :: l) (.inr (.inl x) :: st) c π μ Q := rfl
theorem g_ldr_4 {v0 v1 v2 v3 : mj_V} : mj_gF L d m pc (v0 :: v1 :: v2 :: v3 :: .inr (.inr k) :: l) st c π μ Q (false, 6, 4, b, npc) = (k ≠ 0 ∧ mj_go L d m npc (v0 :: v1 :: v2 :: v3 :: .inr (.inr k) :: l) (.inr (.inr k) :: st) c π μ Q) := by
  cases k with
  | zero => exact propext ⟨fun h => h.elim, fun h => absurd rfl h.1⟩
  | succ k => exact propext ⟨fun h => ⟨Nat.succ_ne_zero k, h⟩, fun h => h.2⟩
theorem g_sti_4 {v0 v1 v2 v3 v4 : mj_V} : mj_gF L d m pc (v0 :: v1 :: v2 :: v3 :: v4 :: l) (.inl x :: st) c π μ Q (false, 3, 4, b, npc) = mj_go L d m npc (v0 :: v1 :: v2 :: mj_clr v3 :: .inl x :: l) st c π μ Q := rfl
theorem g_str_4 {v0 v1 v2 v3 v4 : mj_V} : mj_gF L d m pc (v0 :: v1 :: v2 :: v3 :: v4 :: l) (.inr (.inr k) :: st) c π μ Q (false, 8, 4, b, npc) = (k ≠ 0 ∧ mj_go L d m npc (v0 :: v1 :: v2 :: mj_clr v3 :: .inr (.inr k) :: l) st c π μ Q) := by
  cases k with
  | zero => exact propext ⟨fun h => h.elim, fun h => absurd rfl h.1⟩
  | succ k => exact propext ⟨fun h => ⟨Nat.succ_ne_zero k, h⟩, fun h => h.2⟩
theorem g_inc_4 {v0 v1 v2 v3 : mj_V} : mj_gF L d m pc (v0 :: v1 :: v2 :: v3 :: .inl x :: l) st c π μ Q (false, 5, 4, b, npc) = mj_go L d m npc (v0 :: v1 :: v2 :: mj_clr v3 :: .inl (mj_w (x + b)) :: l) st c π μ Q := rfl
theorem g_ldi_5 {v0 v1 v2 v3 v4 : mj_V} : mj_gF L d m pc (v0 :: v1 :: v2 :: v3 :: v4 :: .inl x :: l) st c π μ Q (false, 2, 5, b, npc) = mj_go L d m npc (v0 :: v1 :: v2 :: v3 :: v4 :: .inl x :: l) (.inl x :: st) c π μ Q := rfl
theorem g_ldl_5 {v0 v1 v2 v3 v4 : mj_V} : mj_gF L d m pc (v0 :: v1 :: v2 :: v3 :: v4 :: .inr (.inl x) :: l) st c π μ Q (false, 7, 5, b, npc) = mj_go L d m npc (v0 :: v1 :: v2 :: v3 :: v4 :: .inr (.inl x) :: l) (.inr (.inl x) :: st) c π μ Q := rfl
theorem g_ldr_5 {v0 v1 v2 v3 v4 : mj_V} : mj_gF L d m pc (v0 :: v1 :: v2 :: v3 :: v4 :: .inr (.inr k) :: l) st c π μ Q (false, 6, 5, b, npc) = (k ≠ 0 ∧ mj_go L d m npc (v0 :: v1 :: v2 :: v3 :: v4 :: .inr (.inr k) :: l) (.inr (.inr k) :: st) c π μ Q) := by
  cases k with
  | zero => exact propext ⟨fun h => h.elim, fun h => absurd rfl h.1⟩
  | succ k => exact propext ⟨fun h => ⟨Nat.succ_ne_zero k, h⟩, fun h => h.2⟩
theorem g_sti_5 {v0 v1 v2 v3 v4 v5 : mj_V} : mj_gF L d m pc (v0 :: v1 :: v2 :: v3 :: v4 :: v5 :: l) (.inl x :: st) c π μ Q (false, 3, 5, b, npc) = mj_go L d m npc (v0 :: v1 :: v2 :: v3 :: mj_clr v4 :: .inl x :: l) st c π μ Q := rfl
theorem g_str_5 {v0 v1 v2 v3 v4 v5 : mj_V} : mj_gF L d m pc (v0 :: v1 :: v2 :: v3 :: v4 :: v5 :: l) (.inr (.inr k) :: st) c π μ Q (false, 8, 5, b, npc) = (k ≠ 0 ∧ mj_go L d m npc (v0 :: v1 :: v2 :: v3 :: mj_clr v4 :: .inr (.inr k) :: l) st c π μ Q) := by
  cases k with
  | zero => exact propext ⟨fun h => h.elim, fun h => absurd rfl h.1⟩
  | succ k => exact propext ⟨fun h => ⟨Nat.succ_ne_zero k, h⟩, fun h => h.2⟩
theorem g_inc_5 {v0 v1 v2 v3 v4 : mj_V} : mj_gF L d m pc (v0 :: v1 :: v2 :: v3 :: v4 :: .inl x :: l) st c π μ Q (false, 5, 5, b, npc) = mj_go L d m npc (v0 :: v1 :: v2 :: v3 :: mj_clr v4 :: .inl (mj_w (x + b)) :: l) st c π μ Q := rfl
theorem g_ldi_6 {v0 v1 v2 v3 v4 v5 : mj_V} : mj_gF L d m pc (v0 :: v1 :: v2 :: v3 :: v4 :: v5 :: .inl x :: l) st c π μ Q (false, 2, 6, b, npc) = mj_go L d m npc (v0 :: v1 :: v2 :: v3 :: v4 :: v5 :: .inl x :: l) (.inl x :: st) c π μ Q := rfl
theorem g_ldl_6 {v0 v1 v2 v3 v4 v5 : mj_V} : mj_gF L d m pc (v0 :: v1 :: v2 :: v3 :: v4 :: v5 :: .inr (.inl x) :: l) st c π μ Q (false, 7, 6, b, npc) = mj_go L d m npc (v0 :: v1 :: v2 :: v3 :: v4 :: v5 :: .inr (.inl x) :: l) (.inr (.inl x) :: st) c π μ Q := rfl
theorem g_ldr_6 {v0 v1 v2 v3 v4 v5 : mj_V} : mj_gF L d m pc (v0 :: v1 :: v2 :: v3 :: v4 :: v5 :: .inr (.inr k) :: l) st c π μ Q (false, 6, 6, b, npc) = (k ≠ 0 ∧ mj_go L d m npc (v0 :: v1 :: v2 :: v3 :: v4 :: v5 :: .inr (.inr k) :: l) (.inr (.inr k) :: st) c π μ Q) := by
  cases k with
  | zero => exact propext ⟨fun h => h.elim, fun h => absurd rfl h.1⟩
  | succ k => exact propext ⟨fun h => ⟨Nat.succ_ne_zero k, h⟩, fun h => h.2⟩
theorem g_sti_6 {v0 v1 v2 v3 v4 v5 v6 : mj_V} : mj_gF L d m pc (v0 :: v1 :: v2 :: v3 :: v4 :: v5 :: v6 :: l) (.inl x :: st) c π μ Q (false, 3, 6, b, npc) = mj_go L d m npc (v0 :: v1 :: v2 :: v3 :: v4 :: mj_clr v5 :: .inl x :: l) st c π μ Q := rfl
theorem g_str_6 {v0 v1 v2 v3 v4 v5 v6 : mj_V} : mj_gF L d m pc (v0 :: v1 :: v2 :: v3 :: v4 :: v5 :: v6 :: l) (.inr (.inr k) :: st) c π μ Q (false, 8, 6, b, npc) = (k ≠ 0 ∧ mj_go L d m npc (v0 :: v1 :: v2 :: v3 :: v4 :: mj_clr v5 :: .inr (.inr k) :: l) st c π μ Q) := by
  cases k with
  | zero => exact propext ⟨fun h => h.elim, fun h => absurd rfl h.1⟩
  | succ k => exact propext ⟨fun h => ⟨Nat.succ_ne_zero k, h⟩, fun h => h.2⟩
theorem g_inc_6 {v0 v1 v2 v3 v4 v5 : mj_V} : mj_gF L d m pc (v0 :: v1 :: v2 :: v3 :: v4 :: v5 :: .inl x :: l) st c π μ Q (false, 5, 6, b, npc) = mj_go L d m npc (v0 :: v1 :: v2 :: v3 :: v4 :: mj_clr v5 :: .inl (mj_w (x + b)) :: l) st c π μ Q := rfl
theorem g_ldi_7 {v0 v1 v2 v3 v4 v5 v6 : mj_V} : mj_gF L d m pc (v0 :: v1 :: v2 :: v3 :: v4 :: v5 :: v6 :: .inl x :: l) st c π μ Q (false, 2, 7, b, npc) = mj_go L d m npc (v0 :: v1 :: v2 :: v3 :: v4 :: v5 :: v6 :: .inl x :: l) (.inl x :: st) c π μ Q := rfl
theorem g_ldl_7 {v0 v1 v2 v3 v4 v5 v6 : mj_V} : mj_gF L d m pc (v0 :: v1 :: v2 :: v3 :: v4 :: v5 :: v6 :: .inr (.inl x) :: l) st c π μ Q (false, 7, 7, b, npc) = mj_go L d m npc (v0 :: v1 :: v2 :: v3 :: v4 :: v5 :: v6 :: .inr (.inl x) :: l) (.inr (.inl x) :: st) c π μ Q := rfl
theorem g_ldr_7 {v0 v1 v2 v3 v4 v5 v6 : mj_V} : mj_gF L d m pc (v0 :: v1 :: v2 :: v3 :: v4 :: v5 :: v6 :: .inr (.inr k) :: l) st c π μ Q (false, 6, 7, b, npc) = (k ≠ 0 ∧ mj_go L d m npc (v0 :: v1 :: v2 :: v3 :: v4 :: v5 :: v6 :: .inr (.inr k) :: l) (.inr (.inr k) :: st) c π μ Q) := by
  cases k with
  | zero => exact propext ⟨fun h => h.elim, fun h => absurd rfl h.1⟩
  | succ k => exact propext ⟨fun h => ⟨Nat.succ_ne_zero k, h⟩, fun h => h.2⟩
theorem g_sti_7 {v0 v1 v2 v3 v4 v5 v6 v7 : mj_V} : mj_gF L d m pc (v0 :: v1 :: v2 :: v3 :: v4 :: v5 :: v6 :: v7 :: l) (.inl x :: st) c π μ Q (false, 3, 7, b, npc) = mj_go L d m npc (v0 :: v1 :: v2 :: v3 :: v4 :: v5 :: mj_clr v6 :: .inl x :: l) st c π μ Q := rfl
theorem g_str_7 {v0 v1 v2 v3 v4 v5 v6 v7 : mj_V} : mj_gF L d m pc (v0 :: v1 :: v2 :: v3 :: v4 :: v5 :: v6 :: v7 :: l) (.inr (.inr k) :: st) c π μ Q (false, 8, 7, b, npc) = (k ≠ 0 ∧ mj_go L d m npc (v0 :: v1 :: v2 :: v3 :: v4 :: v5 :: mj_clr v6 :: .inr (.inr k) :: l) st c π μ Q) := by
  cases k with
  | zero => exact propext ⟨fun h => h.elim, fun h => absurd rfl h.1⟩
  | succ k => exact propext ⟨fun h => ⟨Nat.succ_ne_zero k, h⟩, fun h => h.2⟩
theorem g_inc_7 {v0 v1 v2 v3 v4 v5 v6 : mj_V} : mj_gF L d m pc (v0 :: v1 :: v2 :: v3 :: v4 :: v5 :: v6 :: .inl x :: l) st c π μ Q (false, 5, 7, b, npc) = mj_go L d m npc (v0 :: v1 :: v2 :: v3 :: v4 :: v5 :: mj_clr v6 :: .inl (mj_w (x + b)) :: l) st c π μ Q := rfl
theorem g_ldi_8 {v0 v1 v2 v3 v4 v5 v6 v7 : mj_V} : mj_gF L d m pc (v0 :: v1 :: v2 :: v3 :: v4 :: v5 :: v6 :: v7 :: .inl x :: l) st c π μ Q (false, 2, 8, b, npc) = mj_go L d m npc (v0 :: v1 :: v2 :: v3 :: v4 :: v5 :: v6 :: v7 :: .inl x :: l) (.inl x :: st) c π μ Q := rfl
theorem g_ldl_8 {v0 v1 v2 v3 v4 v5 v6 v7 : mj_V} : mj_gF L d m pc (v0 :: v1 :: v2 :: v3 :: v4 :: v5 :: v6 :: v7 :: .inr (.inl x) :: l) st c π μ Q (false, 7, 8, b, npc) = mj_go L d m npc (v0 :: v1 :: v2 :: v3 :: v4 :: v5 :: v6 :: v7 :: .inr (.inl x) :: l) (.inr (.inl x) :: st) c π μ Q := rfl
theorem g_ldr_8 {v0 v1 v2 v3 v4 v5 v6 v7 : mj_V} : mj_gF L d m pc (v0 :: v1 :: v2 :: v3 :: v4 :: v5 :: v6 :: v7 :: .inr (.inr k) :: l) st c π μ Q (false, 6, 8, b, npc) = (k ≠ 0 ∧ mj_go L d m npc (v0 :: v1 :: v2 :: v3 :: v4 :: v5 :: v6 :: v7 :: .inr (.inr k) :: l) (.inr (.inr k) :: st) c π μ Q) := by
  cases k with
  | zero => exact propext ⟨fun h => h.elim, fun h => absurd rfl h.1⟩
  | succ k => exact propext ⟨fun h => ⟨Nat.succ_ne_zero k, h⟩, fun h => h.2⟩
theorem g_sti_8 {v0 v1 v2 v3 v4 v5 v6 v7 v8 : mj_V} : mj_gF L d m pc (v0 :: v1 :: v2 :: v3 :: v4 :: v5 :: v6 :: v7 :: v8 :: l) (.inl x :: st) c π μ Q (false, 3, 8, b, npc) = mj_go L d m npc (v0 :: v1 :: v2 :: v3 :: v4 :: v5 :: v6 :: mj_clr v7 :: .inl x :: l) st c π μ Q := rfl
theorem g_str_8 {v0 v1 v2 v3 v4 v5 v6 v7 v8 : mj_V} : mj_gF L d m pc (v0 :: v1 :: v2 :: v3 :: v4 :: v5 :: v6 :: v7 :: v8 :: l) (.inr (.inr k) :: st) c π μ Q (false, 8, 8, b, npc) = (k ≠ 0 ∧ mj_go L d m npc (v0 :: v1 :: v2 :: v3 :: v4 :: v5 :: v6 :: mj_clr v7 :: .inr (.inr k) :: l) st c π μ Q) := by
  cases k with
  | zero => exact propext ⟨fun h => h.elim, fun h => absurd rfl h.1⟩
  | succ k => exact propext ⟨fun h => ⟨Nat.succ_ne_zero k, h⟩, fun h => h.2⟩
theorem g_inc_8 {v0 v1 v2 v3 v4 v5 v6 v7 : mj_V} : mj_gF L d m pc (v0 :: v1 :: v2 :: v3 :: v4 :: v5 :: v6 :: v7 :: .inl x :: l) st c π μ Q (false, 5, 8, b, npc) = mj_go L d m npc (v0 :: v1 :: v2 :: v3 :: v4 :: v5 :: v6 :: mj_clr v7 :: .inl (mj_w (x + b)) :: l) st c π μ Q := rfl
theorem g_ldi_9 {v0 v1 v2 v3 v4 v5 v6 v7 v8 : mj_V} : mj_gF L d m pc (v0 :: v1 :: v2 :: v3 :: v4 :: v5 :: v6 :: v7 :: v8 :: .inl x :: l) st c π μ Q (false, 2, 9, b, npc) = mj_go L d m npc (v0 :: v1 :: v2 :: v3 :: v4 :: v5 :: v6 :: v7 :: v8 :: .inl x :: l) (.inl x :: st) c π μ Q := rfl
theorem g_ldl_9 {v0 v1 v2 v3 v4 v5 v6 v7 v8 : mj_V} : mj_gF L d m pc (v0 :: v1 :: v2 :: v3 :: v4 :: v5 :: v6 :: v7 :: v8 :: .inr (.inl x) :: l) st c π μ Q (false, 7, 9, b, npc) = mj_go L d m npc (v0 :: v1 :: v2 :: v3 :: v4 :: v5 :: v6 :: v7 :: v8 :: .inr (.inl x) :: l) (.inr (.inl x) :: st) c π μ Q := rfl
theorem g_ldr_9 {v0 v1 v2 v3 v4 v5 v6 v7 v8 : mj_V} : mj_gF L d m pc (v0 :: v1 :: v2 :: v3 :: v4 :: v5 :: v6 :: v7 :: v8 :: .inr (.inr k) :: l) st c π μ Q (false, 6, 9, b, npc) = (k ≠ 0 ∧ mj_go L d m npc (v0 :: v1 :: v2 :: v3 :: v4 :: v5 :: v6 :: v7 :: v8 :: .inr (.inr k) :: l) (.inr (.inr k) :: st) c π μ Q) := by
  cases k with
  | zero => exact propext ⟨fun h => h.elim, fun h => absurd rfl h.1⟩
  | succ k => exact propext ⟨fun h => ⟨Nat.succ_ne_zero k, h⟩, fun h => h.2⟩
theorem g_sti_9 {v0 v1 v2 v3 v4 v5 v6 v7 v8 v9 : mj_V} : mj_gF L d m pc (v0 :: v1 :: v2 :: v3 :: v4 :: v5 :: v6 :: v7 :: v8 :: v9 :: l) (.inl x :: st) c π μ Q (false, 3, 9, b, npc) = mj_go L d m npc (v0 :: v1 :: v2 :: v3 :: v4 :: v5 :: v6 :: v7 :: mj_clr v8 :: .inl x :: l) st c π μ Q := rfl
theorem g_str_9 {v0 v1 v2 v3 v4 v5 v6 v7 v8 v9 : mj_V} : mj_gF L d m pc (v0 :: v1 :: v2 :: v3 :: v4 :: v5 :: v6 :: v7 :: v8 :: v9 :: l) (.inr (.inr k) :: st) c π μ Q (false, 8, 9, b, npc) = (k ≠ 0 ∧ mj_go L d m npc (v0 :: v1 :: v2 :: v3 :: v4 :: v5 :: v6 :: v7 :: mj_clr v8 :: .inr (.inr k) :: l) st c π μ Q) := by
  cases k with
  | zero => exact propext ⟨fun h => h.elim, fun h => absurd rfl h.1⟩
  | succ k => exact propext ⟨fun h => ⟨Nat.succ_ne_zero k, h⟩, fun h => h.2⟩
theorem g_inc_9 {v0 v1 v2 v3 v4 v5 v6 v7 v8 : mj_V} : mj_gF L d m pc (v0 :: v1 :: v2 :: v3 :: v4 :: v5 :: v6 :: v7 :: v8 :: .inl x :: l) st c π μ Q (false, 5, 9, b, npc) = mj_go L d m npc (v0 :: v1 :: v2 :: v3 :: v4 :: v5 :: v6 :: v7 :: mj_clr v8 :: .inl (mj_w (x + b)) :: l) st c π μ Q := rfl
theorem g_ldi_10 {v0 v1 v2 v3 v4 v5 v6 v7 v8 v9 : mj_V} : mj_gF L d m pc (v0 :: v1 :: v2 :: v3 :: v4 :: v5 :: v6 :: v7 :: v8 :: v9 :: .inl x :: l) st c π μ Q (false, 2, 10, b, npc) = mj_go L d m npc (v0 :: v1 :: v2 :: v3 :: v4 :: v5 :: v6 :: v7 :: v8 :: v9 :: .inl x :: l) (.inl x :: st) c π μ Q := rfl
theorem g_ldl_10 {v0 v1 v2 v3 v4 v5 v6 v7 v8 v9 : mj_V} : mj_gF L d m pc (v0 :: v1 :: v2 :: v3 :: v4 :: v5 :: v6 :: v7 :: v8 :: v9 :: .inr (.inl x) :: l) st c π μ Q (false, 7, 10, b, npc) = mj_go L d m npc (v0 :: v1 :: v2 :: v3 :: v4 :: v5 :: v6 :: v7 :: v8 :: v9 :: .inr (.inl x) :: l) (.inr (.inl x) :: st) c π μ Q := rfl
theorem g_ldr_10 {v0 v1 v2 v3 v4 v5 v6 v7 v8 v9 : mj_V} : mj_gF L d m pc (v0 :: v1 :: v2 :: v3 :: v4 :: v5 :: v6 :: v7 :: v8 :: v9 :: .inr (.inr k) :: l) st c π μ Q (false, 6, 10, b, npc) = (k ≠ 0 ∧ mj_go L d m npc (v0 :: v1 :: v2 :: v3 :: v4 :: v5 :: v6 :: v7 :: v8 :: v9 :: .inr (.inr k) :: l) (.inr (.inr k) :: st) c π μ Q) := by
  cases k with
  | zero => exact propext ⟨fun h => h.elim, fun h => absurd rfl h.1⟩
  | succ k => exact propext ⟨fun h => ⟨Nat.succ_ne_zero k, h⟩, fun h => h.2⟩
theorem g_sti_10 {v0 v1 v2 v3 v4 v5 v6 v7 v8 v9 v10 : mj_V} : mj_gF L d m pc (v0 :: v1 :: v2 :: v3 :: v4 :: v5 :: v6 :: v7 :: v8 :: v9 :: v10 :: l) (.inl x :: st) c π μ Q (false, 3, 10, b, npc) = mj_go L d m npc (v0 :: v1 :: v2 :: v3 :: v4 :: v5 :: v6 :: v7 :: v8 :: mj_clr v9 :: .inl x :: l) st c π μ Q := rfl
theorem g_str_10 {v0 v1 v2 v3 v4 v5 v6 v7 v8 v9 v10 : mj_V} : mj_gF L d m pc (v0 :: v1 :: v2 :: v3 :: v4 :: v5 :: v6 :: v7 :: v8 :: v9 :: v10 :: l) (.inr (.inr k) :: st) c π μ Q (false, 8, 10, b, npc) = (k ≠ 0 ∧ mj_go L d m npc (v0 :: v1 :: v2 :: v3 :: v4 :: v5 :: v6 :: v7 :: v8 :: mj_clr v9 :: .inr (.inr k) :: l) st c π μ Q) := by
  cases k with
  | zero => exact propext ⟨fun h => h.elim, fun h => absurd rfl h.1⟩
  | succ k => exact propext ⟨fun h => ⟨Nat.succ_ne_zero k, h⟩, fun h => h.2⟩
theorem g_inc_10 {v0 v1 v2 v3 v4 v5 v6 v7 v8 v9 : mj_V} : mj_gF L d m pc (v0 :: v1 :: v2 :: v3 :: v4 :: v5 :: v6 :: v7 :: v8 :: v9 :: .inl x :: l) st c π μ Q (false, 5, 10, b, npc) = mj_go L d m npc (v0 :: v1 :: v2 :: v3 :: v4 :: v5 :: v6 :: v7 :: v8 :: mj_clr v9 :: .inl (mj_w (x + b)) :: l) st c π μ Q := rfl
theorem g_ldi_11 {v0 v1 v2 v3 v4 v5 v6 v7 v8 v9 v10 : mj_V} : mj_gF L d m pc (v0 :: v1 :: v2 :: v3 :: v4 :: v5 :: v6 :: v7 :: v8 :: v9 :: v10 :: .inl x :: l) st c π μ Q (false, 2, 11, b, npc) = mj_go L d m npc (v0 :: v1 :: v2 :: v3 :: v4 :: v5 :: v6 :: v7 :: v8 :: v9 :: v10 :: .inl x :: l) (.inl x :: st) c π μ Q := rfl
theorem g_ldl_11 {v0 v1 v2 v3 v4 v5 v6 v7 v8 v9 v10 : mj_V} : mj_gF L d m pc (v0 :: v1 :: v2 :: v3 :: v4 :: v5 :: v6 :: v7 :: v8 :: v9 :: v10 :: .inr (.inl x) :: l) st c π μ Q (false, 7, 11, b, npc) = mj_go L d m npc (v0 :: v1 :: v2 :: v3 :: v4 :: v5 :: v6 :: v7 :: v8 :: v9 :: v10 :: .inr (.inl x) :: l) (.inr (.inl x) :: st) c π μ Q := rfl
theorem g_ldr_11 {v0 v1 v2 v3 v4 v5 v6 v7 v8 v9 v10 : mj_V} : mj_gF L d m pc (v0 :: v1 :: v2 :: v3 :: v4 :: v5 :: v6 :: v7 :: v8 :: v9 :: v10 :: .inr (.inr k) :: l) st c π μ Q (false, 6, 11, b, npc) = (k ≠ 0 ∧ mj_go L d m npc (v0 :: v1 :: v2 :: v3 :: v4 :: v5 :: v6 :: v7 :: v8 :: v9 :: v10 :: .inr (.inr k) :: l) (.inr (.inr k) :: st) c π μ Q) := by
  cases k with
  | zero => exact propext ⟨fun h => h.elim, fun h => absurd rfl h.1⟩
  | succ k => exact propext ⟨fun h => ⟨Nat.succ_ne_zero k, h⟩, fun h => h.2⟩
theorem g_sti_11 {v0 v1 v2 v3 v4 v5 v6 v7 v8 v9 v10 v11 : mj_V} : mj_gF L d m pc (v0 :: v1 :: v2 :: v3 :: v4 :: v5 :: v6 :: v7 :: v8 :: v9 :: v10 :: v11 :: l) (.inl x :: st) c π μ Q (false, 3, 11, b, npc) = mj_go L d m npc (v0 :: v1 :: v2 :: v3 :: v4 :: v5 :: v6 :: v7 :: v8 :: v9 :: mj_clr v10 :: .inl x :: l) st c π μ Q := rfl
theorem g_str_11 {v0 v1 v2 v3 v4 v5 v6 v7 v8 v9 v10 v11 : mj_V} : mj_gF L d m pc (v0 :: v1 :: v2 :: v3 :: v4 :: v5 :: v6 :: v7 :: v8 :: v9 :: v10 :: v11 :: l) (.inr (.inr k) :: st) c π μ Q (false, 8, 11, b, npc) = (k ≠ 0 ∧ mj_go L d m npc (v0 :: v1 :: v2 :: v3 :: v4 :: v5 :: v6 :: v7 :: v8 :: v9 :: mj_clr v10 :: .inr (.inr k) :: l) st c π μ Q) := by
  cases k with
  | zero => exact propext ⟨fun h => h.elim, fun h => absurd rfl h.1⟩
  | succ k => exact propext ⟨fun h => ⟨Nat.succ_ne_zero k, h⟩, fun h => h.2⟩
theorem g_inc_11 {v0 v1 v2 v3 v4 v5 v6 v7 v8 v9 v10 : mj_V} : mj_gF L d m pc (v0 :: v1 :: v2 :: v3 :: v4 :: v5 :: v6 :: v7 :: v8 :: v9 :: v10 :: .inl x :: l) st c π μ Q (false, 5, 11, b, npc) = mj_go L d m npc (v0 :: v1 :: v2 :: v3 :: v4 :: v5 :: v6 :: v7 :: v8 :: v9 :: mj_clr v10 :: .inl (mj_w (x + b)) :: l) st c π μ Q := rfl
theorem g_ldi_12 {v0 v1 v2 v3 v4 v5 v6 v7 v8 v9 v10 v11 : mj_V} : mj_gF L d m pc (v0 :: v1 :: v2 :: v3 :: v4 :: v5 :: v6 :: v7 :: v8 :: v9 :: v10 :: v11 :: .inl x :: l) st c π μ Q (false, 2, 12, b, npc) = mj_go L d m npc (v0 :: v1 :: v2 :: v3 :: v4 :: v5 :: v6 :: v7 :: v8 :: v9 :: v10 :: v11 :: .inl x :: l) (.inl x :: st) c π μ Q := rfl
theorem g_ldl_12 {v0 v1 v2 v3 v4 v5 v6 v7 v8 v9 v10 v11 : mj_V} : mj_gF L d m pc (v0 :: v1 :: v2 :: v3 :: v4 :: v5 :: v6 :: v7 :: v8 :: v9 :: v10 :: v11 :: .inr (.inl x) :: l) st c π μ Q (false, 7, 12, b, npc) = mj_go L d m npc (v0 :: v1 :: v2 :: v3 :: v4 :: v5 :: v6 :: v7 :: v8 :: v9 :: v10 :: v11 :: .inr (.inl x) :: l) (.inr (.inl x) :: st) c π μ Q := rfl
theorem g_ldr_12 {v0 v1 v2 v3 v4 v5 v6 v7 v8 v9 v10 v11 : mj_V} : mj_gF L d m pc (v0 :: v1 :: v2 :: v3 :: v4 :: v5 :: v6 :: v7 :: v8 :: v9 :: v10 :: v11 :: .inr (.inr k) :: l) st c π μ Q (false, 6, 12, b, npc) = (k ≠ 0 ∧ mj_go L d m npc (v0 :: v1 :: v2 :: v3 :: v4 :: v5 :: v6 :: v7 :: v8 :: v9 :: v10 :: v11 :: .inr (.inr k) :: l) (.inr (.inr k) :: st) c π μ Q) := by
  cases k with
  | zero => exact propext ⟨fun h => h.elim, fun h => absurd rfl h.1⟩
  | succ k => exact propext ⟨fun h => ⟨Nat.succ_ne_zero k, h⟩, fun h => h.2⟩
theorem g_sti_12 {v0 v1 v2 v3 v4 v5 v6 v7 v8 v9 v10 v11 v12 : mj_V} : mj_gF L d m pc (v0 :: v1 :: v2 :: v3 :: v4 :: v5 :: v6 :: v7 :: v8 :: v9 :: v10 :: v11 :: v12 :: l) (.inl x :: st) c π μ Q (false, 3, 12, b, npc) = mj_go L d m npc (v0 :: v1 :: v2 :: v3 :: v4 :: v5 :: v6 :: v7 :: v8 :: v9 :: v10 :: mj_clr v11 :: .inl x :: l) st c π μ Q := rfl
theorem g_str_12 {v0 v1 v2 v3 v4 v5 v6 v7 v8 v9 v10 v11 v12 : mj_V} : mj_gF L d m pc (v0 :: v1 :: v2 :: v3 :: v4 :: v5 :: v6 :: v7 :: v8 :: v9 :: v10 :: v11 :: v12 :: l) (.inr (.inr k) :: st) c π μ Q (false, 8, 12, b, npc) = (k ≠ 0 ∧ mj_go L d m npc (v0 :: v1 :: v2 :: v3 :: v4 :: v5 :: v6 :: v7 :: v8 :: v9 :: v10 :: mj_clr v11 :: .inr (.inr k) :: l) st c π μ Q) := by
  cases k with
  | zero => exact propext ⟨fun h => h.elim, fun h => absurd rfl h.1⟩
  | succ k => exact propext ⟨fun h => ⟨Nat.succ_ne_zero k, h⟩, fun h => h.2⟩
theorem g_inc_12 {v0 v1 v2 v3 v4 v5 v6 v7 v8 v9 v10 v11 : mj_V} : mj_gF L d m pc (v0 :: v1 :: v2 :: v3 :: v4 :: v5 :: v6 :: v7 :: v8 :: v9 :: v10 :: v11 :: .inl x :: l) st c π μ Q (false, 5, 12, b, npc) = mj_go L d m npc (v0 :: v1 :: v2 :: v3 :: v4 :: v5 :: v6 :: v7 :: v8 :: v9 :: v10 :: mj_clr v11 :: .inl (mj_w (x + b)) :: l) st c π μ Q := rfl
theorem g_ldi_13 {v0 v1 v2 v3 v4 v5 v6 v7 v8 v9 v10 v11 v12 : mj_V} : mj_gF L d m pc (v0 :: v1 :: v2 :: v3 :: v4 :: v5 :: v6 :: v7 :: v8 :: v9 :: v10 :: v11 :: v12 :: .inl x :: l) st c π μ Q (false, 2, 13, b, npc) = mj_go L d m npc (v0 :: v1 :: v2 :: v3 :: v4 :: v5 :: v6 :: v7 :: v8 :: v9 :: v10 :: v11 :: v12 :: .inl x :: l) (.inl x :: st) c π μ Q := rfl
theorem g_ldl_13 {v0 v1 v2 v3 v4 v5 v6 v7 v8 v9 v10 v11 v12 : mj_V} : mj_gF L d m pc (v0 :: v1 :: v2 :: v3 :: v4 :: v5 :: v6 :: v7 :: v8 :: v9 :: v10 :: v11 :: v12 :: .inr (.inl x) :: l) st c π μ Q (false, 7, 13, b, npc) = mj_go L d m npc (v0 :: v1 :: v2 :: v3 :: v4 :: v5 :: v6 :: v7 :: v8 :: v9 :: v10 :: v11 :: v12 :: .inr (.inl x) :: l) (.inr (.inl x) :: st) c π μ Q := rfl
theorem g_ldr_13 {v0 v1 v2 v3 v4 v5 v6 v7 v8 v9 v10 v11 v12 : mj_V} : mj_gF L d m pc (v0 :: v1 :: v2 :: v3 :: v4 :: v5 :: v6 :: v7 :: v8 :: v9 :: v10 :: v11 :: v12 :: .inr (.inr k) :: l) st c π μ Q (false, 6, 13, b, npc) = (k ≠ 0 ∧ mj_go L d m npc (v0 :: v1 :: v2 :: v3 :: v4 :: v5 :: v6 :: v7 :: v8 :: v9 :: v10 :: v11 :: v12 :: .inr (.inr k) :: l) (.inr (.inr k) :: st) c π μ Q) := by
  cases k with
  | zero => exact propext ⟨fun h => h.elim, fun h => absurd rfl h.1⟩
  | succ k => exact propext ⟨fun h => ⟨Nat.succ_ne_zero k, h⟩, fun h => h.2⟩
theorem g_sti_13 {v0 v1 v2 v3 v4 v5 v6 v7 v8 v9 v10 v11 v12 v13 : mj_V} : mj_gF L d m pc (v0 :: v1 :: v2 :: v3 :: v4 :: v5 :: v6 :: v7 :: v8 :: v9 :: v10 :: v11 :: v12 :: v13 :: l) (.inl x :: st) c π μ Q (false, 3, 13, b, npc) = mj_go L d m npc (v0 :: v1 :: v2 :: v3 :: v4 :: v5 :: v6 :: v7 :: v8 :: v9 :: v10 :: v11 :: mj_clr v12 :: .inl x :: l) st c π μ Q := rfl
theorem g_str_13 {v0 v1 v2 v3 v4 v5 v6 v7 v8 v9 v10 v11 v12 v13 : mj_V} : mj_gF L d m pc (v0 :: v1 :: v2 :: v3 :: v4 :: v5 :: v6 :: v7 :: v8 :: v9 :: v10 :: v11 :: v12 :: v13 :: l) (.inr (.inr k) :: st) c π μ Q (false, 8, 13, b, npc) = (k ≠ 0 ∧ mj_go L d m npc (v0 :: v1 :: v2 :: v3 :: v4 :: v5 :: v6 :: v7 :: v8 :: v9 :: v10 :: v11 :: mj_clr v12 :: .inr (.inr k) :: l) st c π μ Q) := by
  cases k with
  | zero => exact propext ⟨fun h => h.elim, fun h => absurd rfl h.1⟩
  | succ k => exact propext ⟨fun h => ⟨Nat.succ_ne_zero k, h⟩, fun h => h.2⟩
theorem g_inc_13 {v0 v1 v2 v3 v4 v5 v6 v7 v8 v9 v10 v11 v12 : mj_V} : mj_gF L d m pc (v0 :: v1 :: v2 :: v3 :: v4 :: v5 :: v6 :: v7 :: v8 :: v9 :: v10 :: v11 :: v12 :: .inl x :: l) st c π μ Q (false, 5, 13, b, npc) = mj_go L d m npc (v0 :: v1 :: v2 :: v3 :: v4 :: v5 :: v6 :: v7 :: v8 :: v9 :: v10 :: v11 :: mj_clr v12 :: .inl (mj_w (x + b)) :: l) st c π μ Q := rfl
theorem g_ldi_14 {v0 v1 v2 v3 v4 v5 v6 v7 v8 v9 v10 v11 v12 v13 : mj_V} : mj_gF L d m pc (v0 :: v1 :: v2 :: v3 :: v4 :: v5 :: v6 :: v7 :: v8 :: v9 :: v10 :: v11 :: v12 :: v13 :: .inl x :: l) st c π μ Q (false, 2, 14, b, npc) = mj_go L d m npc (v0 :: v1 :: v2 :: v3 :: v4 :: v5 :: v6 :: v7 :: v8 :: v9 :: v10 :: v11 :: v12 :: v13 :: .inl x :: l) (.inl x :: st) c π μ Q := rfl
theorem g_ldl_14 {v0 v1 v2 v3 v4 v5 v6 v7 v8 v9 v10 v11 v12 v13 : mj_V} : mj_gF L d m pc (v0 :: v1 :: v2 :: v3 :: v4 :: v5 :: v6 :: v7 :: v8 :: v9 :: v10 :: v11 :: v12 :: v13 :: .inr (.inl x) :: l) st c π μ Q (false, 7, 14, b, npc) = mj_go L d m npc (v0 :: v1 :: v2 :: v3 :: v4 :: v5 :: v6 :: v7 :: v8 :: v9 :: v10 :: v11 :: v12 :: v13 :: .inr (.inl x) :: l) (.inr (.inl x) :: st) c π μ Q := rfl
theorem g_ldr_14 {v0 v1 v2 v3 v4 v5 v6 v7 v8 v9 v10 v11 v12 v13 : mj_V} : mj_gF L d m pc (v0 :: v1 :: v2 :: v3 :: v4 :: v5 :: v6 :: v7 :: v8 :: v9 :: v10 :: v11 :: v12 :: v13 :: .inr (.inr k) :: l) st c π μ Q (false, 6, 14, b, npc) = (k ≠ 0 ∧ mj_go L d m npc (v0 :: v1 :: v2 :: v3 :: v4 :: v5 :: v6 :: v7 :: v8 :: v9 :: v10 :: v11 :: v12 :: v13 :: .inr (.inr k) :: l) (.inr (.inr k) :: st) c π μ Q) := by
  cases k with
  | zero => exact propext ⟨fun h => h.elim, fun h => absurd rfl h.1⟩
  | succ k => exact propext ⟨fun h => ⟨Nat.succ_ne_zero k, h⟩, fun h => h.2⟩
theorem g_sti_14 {v0 v1 v2 v3 v4 v5 v6 v7 v8 v9 v10 v11 v12 v13 v14 : mj_V} : mj_gF L d m pc (v0 :: v1 :: v2 :: v3 :: v4 :: v5 :: v6 :: v7 :: v8 :: v9 :: v10 :: v11 :: v12 :: v13 :: v14 :: l) (.inl x :: st) c π μ Q (false, 3, 14, b, npc) = mj_go L d m npc (v0 :: v1 :: v2 :: v3 :: v4 :: v5 :: v6 :: v7 :: v8 :: v9 :: v10 :: v11 :: v12 :: mj_clr v13 :: .inl x :: l) st c π μ Q := rfl
theorem g_str_14 {v0 v1 v2 v3 v4 v5 v6 v7 v8 v9 v10 v11 v12 v13 v14 : mj_V} : mj_gF L d m pc (v0 :: v1 :: v2 :: v3 :: v4 :: v5 :: v6 :: v7 :: v8 :: v9 :: v10 :: v11 :: v12 :: v13 :: v14 :: l) (.inr (.inr k) :: st) c π μ Q (false, 8, 14, b, npc) = (k ≠ 0 ∧ mj_go L d m npc (v0 :: v1 :: v2 :: v3 :: v4 :: v5 :: v6 :: v7 :: v8 :: v9 :: v10 :: v11 :: v12 :: mj_clr v13 :: .inr (.inr k) :: l) st c π μ Q) := by
  cases k with
  | zero => exact propext ⟨fun h => h.elim, fun h => absurd rfl h.1⟩
  | succ k => exact propext ⟨fun h => ⟨Nat.succ_ne_zero k, h⟩, fun h => h.2⟩
theorem g_inc_14 {v0 v1 v2 v3 v4 v5 v6 v7 v8 v9 v10 v11 v12 v13 : mj_V} : mj_gF L d m pc (v0 :: v1 :: v2 :: v3 :: v4 :: v5 :: v6 :: v7 :: v8 :: v9 :: v10 :: v11 :: v12 :: v13 :: .inl x :: l) st c π μ Q (false, 5, 14, b, npc) = mj_go L d m npc (v0 :: v1 :: v2 :: v3 :: v4 :: v5 :: v6 :: v7 :: v8 :: v9 :: v10 :: v11 :: v12 :: mj_clr v13 :: .inl (mj_w (x + b)) :: l) st c π μ Q := rfl
theorem g_ldi_15 {v0 v1 v2 v3 v4 v5 v6 v7 v8 v9 v10 v11 v12 v13 v14 : mj_V} : mj_gF L d m pc (v0 :: v1 :: v2 :: v3 :: v4 :: v5 :: v6 :: v7 :: v8 :: v9 :: v10 :: v11 :: v12 :: v13 :: v14 :: .inl x :: l) st c π μ Q (false, 2, 15, b, npc) = mj_go L d m npc (v0 :: v1 :: v2 :: v3 :: v4 :: v5 :: v6 :: v7 :: v8 :: v9 :: v10 :: v11 :: v12 :: v13 :: v14 :: .inl x :: l) (.inl x :: st) c π μ Q := rfl
theorem g_ldl_15 {v0 v1 v2 v3 v4 v5 v6 v7 v8 v9 v10 v11 v12 v13 v14 : mj_V} : mj_gF L d m pc (v0 :: v1 :: v2 :: v3 :: v4 :: v5 :: v6 :: v7 :: v8 :: v9 :: v10 :: v11 :: v12 :: v13 :: v14 :: .inr (.inl x) :: l) st c π μ Q (false, 7, 15, b, npc) = mj_go L d m npc (v0 :: v1 :: v2 :: v3 :: v4 :: v5 :: v6 :: v7 :: v8 :: v9 :: v10 :: v11 :: v12 :: v13 :: v14 :: .inr (.inl x) :: l) (.inr (.inl x) :: st) c π μ Q := rfl
theorem g_ldr_15 {v0 v1 v2 v3 v4 v5 v6 v7 v8 v9 v10 v11 v12 v13 v14 : mj_V} : mj_gF L d m pc (v0 :: v1 :: v2 :: v3 :: v4 :: v5 :: v6 :: v7 :: v8 :: v9 :: v10 :: v11 :: v12 :: v13 :: v14 :: .inr (.inr k) :: l) st c π μ Q (false, 6, 15, b, npc) = (k ≠ 0 ∧ mj_go L d m npc (v0 :: v1 :: v2 :: v3 :: v4 :: v5 :: v6 :: v7 :: v8 :: v9 :: v10 :: v11 :: v12 :: v13 :: v14 :: .inr (.inr k) :: l) (.inr (.inr k) :: st) c π μ Q) := by
  cases k with
  | zero => exact propext ⟨fun h => h.elim, fun h => absurd rfl h.1⟩
  | succ k => exact propext ⟨fun h => ⟨Nat.succ_ne_zero k, h⟩, fun h => h.2⟩
theorem g_sti_15 {v0 v1 v2 v3 v4 v5 v6 v7 v8 v9 v10 v11 v12 v13 v14 v15 : mj_V} : mj_gF L d m pc (v0 :: v1 :: v2 :: v3 :: v4 :: v5 :: v6 :: v7 :: v8 :: v9 :: v10 :: v11 :: v12 :: v13 :: v14 :: v15 :: l) (.inl x :: st) c π μ Q (false, 3, 15, b, npc) = mj_go L d m npc (v0 :: v1 :: v2 :: v3 :: v4 :: v5 :: v6 :: v7 :: v8 :: v9 :: v10 :: v11 :: v12 :: v13 :: mj_clr v14 :: .inl x :: l) st c π μ Q := rfl
theorem g_str_15 {v0 v1 v2 v3 v4 v5 v6 v7 v8 v9 v10 v11 v12 v13 v14 v15 : mj_V} : mj_gF L d m pc (v0 :: v1 :: v2 :: v3 :: v4 :: v5 :: v6 :: v7 :: v8 :: v9 :: v10 :: v11 :: v12 :: v13 :: v14 :: v15 :: l) (.inr (.inr k) :: st) c π μ Q (false, 8, 15, b, npc) = (k ≠ 0 ∧ mj_go L d m npc (v0 :: v1 :: v2 :: v3 :: v4 :: v5 :: v6 :: v7 :: v8 :: v9 :: v10 :: v11 :: v12 :: v13 :: mj_clr v14 :: .inr (.inr k) :: l) st c π μ Q) := by
  cases k with
  | zero => exact propext ⟨fun h => h.elim, fun h => absurd rfl h.1⟩
  | succ k => exact propext ⟨fun h => ⟨Nat.succ_ne_zero k, h⟩, fun h => h.2⟩
theorem g_inc_15 {v0 v1 v2 v3 v4 v5 v6 v7 v8 v9 v10 v11 v12 v13 v14 : mj_V} : mj_gF L d m pc (v0 :: v1 :: v2 :: v3 :: v4 :: v5 :: v6 :: v7 :: v8 :: v9 :: v10 :: v11 :: v12 :: v13 :: v14 :: .inl x :: l) st c π μ Q (false, 5, 15, b, npc) = mj_go L d m npc (v0 :: v1 :: v2 :: v3 :: v4 :: v5 :: v6 :: v7 :: v8 :: v9 :: v10 :: v11 :: v12 :: v13 :: mj_clr v14 :: .inl (mj_w (x + b)) :: l) st c π μ Q := rfl
theorem g_lst_7 {v0 v1 v2 v3 v4 v5 v6 v7 v8 : mj_V} : mj_gF L d m pc (v0 :: v1 :: v2 :: v3 :: v4 :: v5 :: v6 :: v7 :: v8 :: l) (.inr (.inl x) :: st) c π μ Q (false, 4, 7, b, npc) = mj_go L d m npc (v0 :: v1 :: v2 :: v3 :: v4 :: v5 :: mj_clr v6 :: .inr (.inl x) :: mj_nul :: l) st c π μ Q := rfl
theorem g_iadd : mj_gF L d m pc ls (.inl y :: .inl x :: st) c π μ Q (false, 10, a, b, npc) = mj_go L d m npc ls (.inl (mj_w (x + y)) :: st) c π μ Q := rfl
theorem g_isub : mj_gF L d m pc ls (.inl y :: .inl x :: st) c π μ Q (false, 11, a, b, npc) = mj_go L d m npc ls (.inl (mj_w (x - y)) :: st) c π μ Q := rfl
theorem g_imul : mj_gF L d m pc ls (.inl y :: .inl x :: st) c π μ Q (false, 12, a, b, npc) = mj_go L d m npc ls (.inl (mj_w (x * y)) :: st) c π μ Q := rfl
theorem g_iand : mj_gF L d m pc ls (.inl y :: .inl x :: st) c π μ Q (false, 15, a, b, npc) = mj_go L d m npc ls (.inl (mj_and x y) :: st) c π μ Q := rfl
theorem g_ior : mj_gF L d m pc ls (.inl y :: .inl x :: st) c π μ Q (false, 16, a, b, npc) = mj_go L d m npc ls (.inl (mj_or x y) :: st) c π μ Q := rfl
theorem g_ixor : mj_gF L d m pc ls (.inl y :: .inl x :: st) c π μ Q (false, 17, a, b, npc) = mj_go L d m npc ls (.inl (mj_xor x y) :: st) c π μ Q := rfl
theorem g_ishl : mj_gF L d m pc ls (.inl y :: .inl x :: st) c π μ Q (false, 18, a, b, npc) = mj_go L d m npc ls (.inl (mj_shl x y) :: st) c π μ Q := rfl
theorem g_ishr : mj_gF L d m pc ls (.inl y :: .inl x :: st) c π μ Q (false, 19, a, b, npc) = mj_go L d m npc ls (.inl (mj_shr x y) :: st) c π μ Q := rfl
theorem g_iushr : mj_gF L d m pc ls (.inl y :: .inl x :: st) c π μ Q (false, 20, a, b, npc) = mj_go L d m npc ls (.inl (mj_ushr x y) :: st) c π μ Q := rfl
theorem g_idiv : mj_gF L d m pc ls (.inl y :: .inl x :: st) c π μ Q (false, 13, a, b, npc) = (y ≠ 0 ∧ mj_go L d m npc ls (.inl (mj_w (x.tdiv y)) :: st) c π μ Q) := (show mj_on c (if y = 0 then none else some (npc, ls, .inl (mj_w (x.tdiv y)) :: st, π, μ)) (fun pc ls st c π μ => mj_go L d m pc ls st c π μ Q) = _ from mj_on_no)
theorem g_irem : mj_gF L d m pc ls (.inl y :: .inl x :: st) c π μ Q (false, 14, a, b, npc) = (y ≠ 0 ∧ mj_go L d m npc ls (.inl (x.tmod y) :: st) c π μ Q) := (show mj_on c (if y = 0 then none else some (npc, ls, .inl (x.tmod y) :: st, π, μ)) (fun pc ls st c π μ => mj_go L d m pc ls st c π μ Q) = _ from mj_on_no)
theorem g_ldiv : mj_gF L d m pc ls (.inr (.inl y) :: .inr (.inl x) :: st) c π μ Q (false, 28, a, b, npc) = (y ≠ 0 ∧ mj_go L d m npc ls (.inr (.inl (mj_wl (x.tdiv y))) :: st) c π μ Q) := (show mj_on c (if y = 0 then none else some (npc, ls, .inr (.inl (mj_wl (x.tdiv y))) :: st, π, μ)) (fun pc ls st c π μ => mj_go L d m pc ls st c π μ Q) = _ from mj_on_no)
theorem g_ineg : mj_gF L d m pc ls (.inl x :: st) c π μ Q (false, 21, a, b, npc) = mj_go L d m npc ls (.inl (mj_w (-x)) :: st) c π μ Q := rfl
theorem g_i2l : mj_gF L d m pc ls (.inl x :: st) c π μ Q (false, 22, a, b, npc) = mj_go L d m npc ls (.inr (.inl x) :: st) c π μ Q := rfl
theorem g_l2i : mj_gF L d m pc ls (.inr (.inl x) :: st) c π μ Q (false, 23, a, b, npc) = mj_go L d m npc ls (.inl (mj_w x) :: st) c π μ Q := rfl
theorem g_i2b : mj_gF L d m pc ls (.inl x :: st) c π μ Q (false, 24, a, b, npc) = mj_go L d m npc ls (.inl (mj_b x) :: st) c π μ Q := rfl
theorem g_i2s : mj_gF L d m pc ls (.inl x :: st) c π μ Q (false, 25, a, b, npc) = mj_go L d m npc ls (.inl (mj_s x) :: st) c π μ Q := rfl
theorem g_ladd : mj_gF L d m pc ls (.inr (.inl y) :: .inr (.inl x) :: st) c π μ Q (false, 26, a, b, npc) = mj_go L d m npc ls (.inr (.inl (mj_wl (x + y))) :: st) c π μ Q := rfl
theorem g_lmul : mj_gF L d m pc ls (.inr (.inl y) :: .inr (.inl x) :: st) c π μ Q (false, 27, a, b, npc) = mj_go L d m npc ls (.inr (.inl (mj_wl (x * y))) :: st) c π μ Q := rfl
theorem g_land : mj_gF L d m pc ls (.inr (.inl y) :: .inr (.inl x) :: st) c π μ Q (false, 29, a, b, npc) = mj_go L d m npc ls (.inr (.inl (mj_andl x y)) :: st) c π μ Q := rfl
theorem g_lor : mj_gF L d m pc ls (.inr (.inl y) :: .inr (.inl x) :: st) c π μ Q (false, 30, a, b, npc) = mj_go L d m npc ls (.inr (.inl (mj_orl x y)) :: st) c π μ Q := rfl
theorem g_lshl : mj_gF L d m pc ls (.inl y :: .inr (.inl x) :: st) c π μ Q (false, 31, a, b, npc) = mj_go L d m npc ls (.inr (.inl (mj_shll x y)) :: st) c π μ Q := rfl
theorem g_lshr : mj_gF L d m pc ls (.inl y :: .inr (.inl x) :: st) c π μ Q (false, 32, a, b, npc) = mj_go L d m npc ls (.inr (.inl (mj_shrl x y)) :: st) c π μ Q := rfl
theorem g_lcmp : mj_gF L d m pc ls (.inr (.inl y) :: .inr (.inl x) :: st) c π μ Q (false, 33, a, b, npc) = mj_go L d m npc ls (.inl (if x = y then 0 else if x < y then -1 else 1) :: st) c π μ Q := rfl
theorem g_iceq : mj_gF L d m pc ls (.inl y :: .inl x :: st) c π μ Q (false, 40, a, b, npc) = ((x = y → mj_go L d m a.toNat ls st c π μ Q) ∧ (¬ x = y → mj_go L d m npc ls st c π μ Q)) := (show mj_on c (if x = y then some (a.toNat, ls, st, π, μ) else some (npc, ls, st, π, μ)) (fun pc ls st c π μ => mj_go L d m pc ls st c π μ Q) = _ from mj_on_ite)
theorem g_icne : mj_gF L d m pc ls (.inl y :: .inl x :: st) c π μ Q (false, 41, a, b, npc) = ((x = y → mj_go L d m npc ls st c π μ Q) ∧ (¬ x = y → mj_go L d m a.toNat ls st c π μ Q)) := (show mj_on c (if x = y then some (npc, ls, st, π, μ) else some (a.toNat, ls, st, π, μ)) (fun pc ls st c π μ => mj_go L d m pc ls st c π μ Q) = _ from mj_on_ite)
theorem g_iclt : mj_gF L d m pc ls (.inl y :: .inl x :: st) c π μ Q (false, 42, a, b, npc) = ((x < y → mj_go L d m a.toNat ls st c π μ Q) ∧ (¬ x < y → mj_go L d m npc ls st c π μ Q)) := (show mj_on c (if x < y then some (a.toNat, ls, st, π, μ) else some (npc, ls, st, π, μ)) (fun pc ls st c π μ => mj_go L d m pc ls st c π μ Q) = _ from mj_on_ite)
theorem g_icge : mj_gF L d m pc ls (.inl y :: .inl x :: st) c π μ Q (false, 43, a, b, npc) = ((x < y → mj_go L d m npc ls st c π μ Q) ∧ (¬ x < y → mj_go L d m a.toNat ls st c π μ Q)) := (show mj_on c (if x < y then some (npc, ls, st, π, μ) else some (a.toNat, ls, st, π, μ)) (fun pc ls st c π μ => mj_go L d m pc ls st c π μ Q) = _ from mj_on_ite)
theorem g_icgt : mj_gF L d m pc ls (.inl y :: .inl x :: st) c π μ Q (false, 44, a, b, npc) = ((y < x → mj_go L d m a.toNat ls st c π μ Q) ∧ (¬ y < x → mj_go L d m npc ls st c π μ Q)) := (show mj_on c (if y < x then some (a.toNat, ls, st, π, μ) else some (npc, ls, st, π, μ)) (fun pc ls st c π μ => mj_go L d m pc ls st c π μ Q) = _ from mj_on_ite)
theorem g_icle : mj_gF L d m pc ls (.inl y :: .inl x :: st) c π μ Q (false, 45, a, b, npc) = ((y < x → mj_go L d m npc ls st c π μ Q) ∧ (¬ y < x → mj_go L d m a.toNat ls st c π μ Q)) := (show mj_on c (if y < x then some (npc, ls, st, π, μ) else some (a.toNat, ls, st, π, μ)) (fun pc ls st c π μ => mj_go L d m pc ls st c π μ Q) = _ from mj_on_ite)
theorem g_ifeq : mj_gF L d m pc ls (.inl x :: st) c π μ Q (false, 46, a, b, npc) = ((x = 0 → mj_go L d m a.toNat ls st c π μ Q) ∧ (¬ x = 0 → mj_go L d m npc ls st c π μ Q)) := (show mj_on c (if x = 0 then some (a.toNat, ls, st, π, μ) else some (npc, ls, st, π, μ)) (fun pc ls st c π μ => mj_go L d m pc ls st c π μ Q) = _ from mj_on_ite)
theorem g_ifne : mj_gF L d m pc ls (.inl x :: st) c π μ Q (false, 47, a, b, npc) = ((x = 0 → mj_go L d m npc ls st c π μ Q) ∧ (¬ x = 0 → mj_go L d m a.toNat ls st c π μ Q)) := (show mj_on c (if x = 0 then some (npc, ls, st, π, μ) else some (a.toNat, ls, st, π, μ)) (fun pc ls st c π μ => mj_go L d m pc ls st c π μ Q) = _ from mj_on_ite)
theorem g_iflt : mj_gF L d m pc ls (.inl x :: st) c π μ Q (false, 48, a, b, npc) = ((x < 0 → mj_go L d m a.toNat ls st c π μ Q) ∧ (¬ x < 0 → mj_go L d m npc ls st c π μ Q)) := (show mj_on c (if x < 0 then some (a.toNat, ls, st, π, μ) else some (npc, ls, st, π, μ)) (fun pc ls st c π μ => mj_go L d m pc ls st c π μ Q) = _ from mj_on_ite)
theorem g_ifge : mj_gF L d m pc ls (.inl x :: st) c π μ Q (false, 49, a, b, npc) = ((x < 0 → mj_go L d m npc ls st c π μ Q) ∧ (¬ x < 0 → mj_go L d m a.toNat ls st c π μ Q)) := (show mj_on c (if x < 0 then some (npc, ls, st, π, μ) else some (a.toNat, ls, st, π, μ)) (fun pc ls st c π μ => mj_go L d m pc ls st c π μ Q) = _ from mj_on_ite)
theorem g_ifgt : mj_gF L d m pc ls (.inl x :: st) c π μ Q (false, 50, a, b, npc) = ((0 < x → mj_go L d m a.toNat ls st c π μ Q) ∧ (¬ 0 < x → mj_go L d m npc ls st c π μ Q)) := (show mj_on c (if 0 < x then some (a.toNat, ls, st, π, μ) else some (npc, ls, st, π, μ)) (fun pc ls st c π μ => mj_go L d m pc ls st c π μ Q) = _ from mj_on_ite)
theorem g_ifle : mj_gF L d m pc ls (.inl x :: st) c π μ Q (false, 51, a, b, npc) = ((0 < x → mj_go L d m npc ls st c π μ Q) ∧ (¬ 0 < x → mj_go L d m a.toNat ls st c π μ Q)) := (show mj_on c (if 0 < x then some (npc, ls, st, π, μ) else some (a.toNat, ls, st, π, μ)) (fun pc ls st c π μ => mj_go L d m pc ls st c π μ Q) = _ from mj_on_ite)
theorem g_goto : mj_gF L d m pc ls st c π μ Q (false, 52, a, b, npc) = mj_go L d m a.toNat ls st c π μ Q := rfl
noncomputable def mj_swP : List (Int × Nat) → Nat → Int → (Nat → Prop) → Prop
  | [], df, _, K => K df
  | (w, t) :: l, df, v, K => (v = w → K t) ∧ (v ≠ w → mj_swP l df v K)
theorem mj_swP_eq (K : Nat → Prop) (df : Nat) (v : Int) : ∀ l : List (Int × Nat), K (mj_sel l df v) = mj_swP l df v K
  | [] => rfl
  | (w, t) :: l => by
    have ih := mj_swP_eq K df v l
    simp only [mj_sel, mj_swP]
    by_cases h : v = w
    · simp [h]
    · simp [h, ih]
theorem g_sw : mj_gF L d m pc ls (.inl x :: st) c π μ Q (false, 53, a, b, npc) = mj_swP (mj_sw m pc).1 (mj_sw m pc).2 x (fun t => mj_go L d m t ls st c π μ Q) := mj_swP_eq (fun t => mj_go L d m t ls st c π μ Q) _ _ _
theorem g_sw0 {df : Nat} {K : Nat → Prop} : mj_swP [] df v K = K df := rfl
theorem g_sw1 {df t : Nat} {w : Int} {K : Nat → Prop} {q : List (Int × Nat)} : mj_swP ((w, t) :: q) df v K = ((v = w → K t) ∧ (v ≠ w → mj_swP q df v K)) := rfl
theorem g_alen : mj_gF L d m pc ls (.inr (.inr k) :: st) c π μ Q (false, 57, a, b, npc) = (((mj_lay L k).1 = 1) ∧ mj_go L d m npc ls (.inl (mj_lay L k).2 :: st) c π μ Q) := (show mj_on c (if (mj_lay L k).1 = 1 then some (npc, ls, .inl (mj_lay L k).2 :: st, π, μ) else none) (fun pc ls st c π μ => mj_go L d m pc ls st c π μ Q) = _ from mj_on_if)
theorem g_getf : mj_gF L d m pc ls (.inr (.inr k) :: st) c π μ Q (false, 60, a, b, npc) = ((((mj_lay L k).1 : Int) = 10 + b) ∧ mj_go L d m npc ls (.inl (μ k a) :: st) c π μ Q) := (show mj_on c (if ((mj_lay L k).1 : Int) = 10 + b then some (npc, ls, .inl (μ k a) :: st, π, μ) else none) (fun pc ls st c π μ => mj_go L d m pc ls st c π μ Q) = _ from mj_on_if)
theorem g_getr : mj_gF L d m pc ls (.inr (.inr k) :: st) c π μ Q (false, 61, a, b, npc) = ((((mj_lay L k).1 : Int) = 10 + b) ∧ mj_go L d m npc ls (.inr (.inr (π k a.toNat)) :: st) c π μ Q) := (show mj_on c (if ((mj_lay L k).1 : Int) = 10 + b then some (npc, ls, .inr (.inr (π k a.toNat)) :: st, π, μ) else none) (fun pc ls st c π μ => mj_go L d m pc ls st c π μ Q) = _ from mj_on_if)
theorem g_putf : mj_gF L d m pc ls (.inl v :: .inr (.inr k) :: st) c π μ Q (false, 62, a, b, npc) = ((((mj_lay L k).1 : Int) = 10 + b) ∧ mj_go L d m npc ls st c π (mj_up μ k a v) Q) := (show mj_on c (if ((mj_lay L k).1 : Int) = 10 + b then some (npc, ls, st, π, mj_up μ k a v) else none) (fun pc ls st c π μ => mj_go L d m pc ls st c π μ Q) = _ from mj_on_if)
theorem g_putz : mj_gF L d m pc ls (.inl v :: .inr (.inr k) :: st) c π μ Q (false, 59, a, b, npc) = ((((mj_lay L k).1 : Int) = 10 + b ∧ 0 ≤ v ∧ v ≤ 1) ∧ mj_go L d m npc ls st c π (mj_up μ k a v) Q) := (show mj_on c (if ((mj_lay L k).1 : Int) = 10 + b ∧ 0 ≤ v ∧ v ≤ 1 then some (npc, ls, st, π, mj_up μ k a v) else none) (fun pc ls st c π μ => mj_go L d m pc ls st c π μ Q) = _ from mj_on_if)
theorem g_putr : mj_gF L d m pc ls (.inr (.inr r) :: .inr (.inr k) :: st) c π μ Q (false, 63, a, b, npc) = ((((mj_lay L k).1 : Int) = 10 + b) ∧ mj_go L d m npc ls st c (mj_pp π k a.toNat r) μ Q) := (show mj_on c (if ((mj_lay L k).1 : Int) = 10 + b then some (npc, ls, st, mj_pp π k a.toNat r, μ) else none) (fun pc ls st c π μ => mj_go L d m pc ls st c π μ Q) = _ from mj_on_if)
theorem g_putrf : mj_gF L d m pc ls (.inr (.inr r) :: .inr (.inr k) :: st) c π μ Q (false, 58, a, b, npc) = ((((mj_lay L k).1 : Int) = 10 + b) ∧ mj_go L d m npc ls st c (mj_pp π k a.toNat r) μ Q) := (show mj_on c (if ((mj_lay L k).1 : Int) = 10 + b then some (npc, ls, st, mj_pp π k a.toNat r, μ) else none) (fun pc ls st c π μ => mj_go L d m pc ls st c π μ Q) = _ from mj_on_if)
theorem g_iald : mj_gF L d m pc ls (.inl i :: .inr (.inr k) :: st) c π μ Q (false, 64, a, b, npc) = (((mj_lay L k).1 = 1 ∧ 0 ≤ i ∧ i < (mj_lay L k).2) ∧ mj_go L d m npc ls (.inl (μ k i) :: st) c π μ Q) := (show mj_on c (if (mj_lay L k).1 = 1 ∧ 0 ≤ i ∧ i < (mj_lay L k).2 then some (npc, ls, .inl (μ k i) :: st, π, μ) else none) (fun pc ls st c π μ => mj_go L d m pc ls st c π μ Q) = _ from mj_on_if)
theorem g_iast : mj_gF L d m pc ls (.inl v :: .inl i :: .inr (.inr k) :: st) c π μ Q (false, 65, a, b, npc) = (((mj_lay L k).1 = 1 ∧ k < 1000 ∧ 0 ≤ i ∧ i < (mj_lay L k).2) ∧ mj_go L d m npc ls st c π (mj_up μ k i v) Q) := (show mj_on c (if (mj_lay L k).1 = 1 ∧ k < 1000 ∧ 0 ≤ i ∧ i < (mj_lay L k).2 then some (npc, ls, st, π, mj_up μ k i v) else none) (fun pc ls st c π μ => mj_go L d m pc ls st c π μ Q) = _ from mj_on_if)
theorem g_bald : mj_gF L d m pc ls (.inl i :: .inr (.inr k) :: st) c π μ Q (false, 66, a, b, npc) = ((((mj_lay L k).1 = 2 ∨ (mj_lay L k).1 = 3) ∧ 0 ≤ i ∧ i < (mj_lay L k).2) ∧ mj_go L d m npc ls (.inl (μ k i) :: st) c π μ Q) := (show mj_on c (if ((mj_lay L k).1 = 2 ∨ (mj_lay L k).1 = 3) ∧ 0 ≤ i ∧ i < (mj_lay L k).2 then some (npc, ls, .inl (μ k i) :: st, π, μ) else none) (fun pc ls st c π μ => mj_go L d m pc ls st c π μ Q) = _ from mj_on_if)
theorem g_bast : mj_gF L d m pc ls (.inl v :: .inl i :: .inr (.inr k) :: st) c π μ Q (false, 67, a, b, npc) = ((((mj_lay L k).1 = 2 ∨ (mj_lay L k).1 = 3 ∧ 0 ≤ v ∧ v ≤ 1) ∧ 0 ≤ i ∧ i < (mj_lay L k).2) ∧ mj_go L d m npc ls st c π (mj_up μ k i (if (mj_lay L k).1 = 2 then mj_b v else v)) Q) := by
  have e : mj_gF L d m pc ls (.inl v :: .inl i :: .inr (.inr k) :: st) c π μ Q (false, 67, a, b, npc) = mj_on c (if (mj_lay L k).1 = 2 ∧ 0 ≤ i ∧ i < (mj_lay L k).2 then some (npc, ls, st, π, mj_up μ k i (mj_b v)) else if (mj_lay L k).1 = 3 ∧ 0 ≤ v ∧ v ≤ 1 ∧ 0 ≤ i ∧ i < (mj_lay L k).2 then some (npc, ls, st, π, mj_up μ k i v) else none) (fun pc ls st c π μ => mj_go L d m pc ls st c π μ Q) := rfl
  rw [e]
  by_cases h2 : (mj_lay L k).1 = 2
  · by_cases hi : 0 ≤ i ∧ i < (mj_lay L k).2
    · rw [if_pos ⟨h2, hi⟩]; simp [h2, hi, mj_on]
    · rw [if_neg (fun z => hi z.2), if_neg (fun z => by rw [h2] at z; exact absurd z.1 (by decide))]; simp [hi, mj_on]
  · by_cases h3 : (mj_lay L k).1 = 3 ∧ 0 ≤ v ∧ v ≤ 1 ∧ 0 ≤ i ∧ i < (mj_lay L k).2
    · rw [if_neg (fun z => h2 z.1), if_pos h3]; simp [h3, mj_on]
    · rw [if_neg (fun z => h2 z.1), if_neg h3]
      apply propext
      constructor
      · exact fun z => z.elim
      · rintro ⟨⟨q | q, q2⟩, -⟩
        · exact h2 q
        · exact h3 ⟨q.1, q.2.1, q.2.2, q2⟩
theorem g_gets : mj_gF L d m pc ls st c π μ Q (false, 70, a, b, npc) = mj_go L d m npc ls (.inr (.inr a.toNat) :: st) c π μ Q := rfl
theorem g_ldcs : mj_gF L d m pc ls st c π μ Q (false, 71, a, b, npc) = mj_go L d m npc ls (.inr (.inr 1004) :: st) c π μ Q := rfl
theorem g_dupi : mj_gF L d m pc ls (.inl x :: st) c π μ Q (false, 78, a, b, npc) = mj_go L d m npc ls (.inl x :: .inl x :: st) c π μ Q := rfl
theorem g_dupr : mj_gF L d m pc ls (.inr (.inr k) :: st) c π μ Q (false, 78, a, b, npc) = mj_go L d m npc ls (.inr (.inr k) :: .inr (.inr k) :: st) c π μ Q := rfl
theorem g_pop : mj_gF L d m pc ls (.inl x :: st) c π μ Q (false, 79, a, b, npc) = mj_go L d m npc ls st c π μ Q := rfl
theorem g_dup2i : mj_gF L d m pc ls (.inl y :: .inl x :: st) c π μ Q (false, 80, a, b, npc) = mj_go L d m npc ls (.inl y :: .inl x :: .inl y :: .inl x :: st) c π μ Q := rfl
theorem g_dup2r : mj_gF L d m pc ls (.inl y :: .inr (.inr k) :: st) c π μ Q (false, 80, a, b, npc) = mj_go L d m npc ls (.inl y :: .inr (.inr k) :: .inl y :: .inr (.inr k) :: st) c π μ Q := rfl
theorem g_ret : mj_gF L d m pc ls [.inl v] c π μ Q (false, 75, a, b, npc) = Q [.inl v] c π μ := rfl
theorem g_zret : mj_gF L d m pc ls [.inl v] c π μ Q (false, 77, a, b, npc) = ((0 ≤ v ∧ v ≤ 1) ∧ Q [.inl v] c π μ) := rfl
theorem g_vret : mj_gF L d m pc ls [] c π μ Q (false, 76, a, b, npc) = Q [] c π μ := rfl
theorem g_oi : mj_gF L (d + 1) m pc ls (.inr (.inr k) :: st) c π μ Q (false, 73, a, b, npc) = (k ≠ 0 ∧ mj_wok st = true ∧ mj_go L (d + 1) m npc ls st c π μ Q) := by
  cases k with
  | zero => exact propext ⟨fun h => h.elim, fun h => absurd rfl h.1⟩
  | succ k => exact propext ⟨fun h => ⟨Nat.succ_ne_zero k, h⟩, fun h => h.2⟩
theorem g_charAt : mj_gF L (d + 4) m pc ls (.inl i :: .inr (.inr k) :: st) c π μ Q (false, 74, a, b, npc) = ((k = 1004 ∧ 0 ≤ i ∧ i < 72 ∧ mj_wok st = true) ∧ mj_go L (d + 4) m npc ls (.inl (mj_sp i) :: st) c π μ Q) := rfl
theorem g_new : mj_gF L d m pc ls st c π μ Q (false, 68, a, b, npc) = (mj_new L c π μ (10 + a.toNat) (mj_lay L (mj_nm c)).2 ∧ mj_go L d m npc ls (.inr (.inr (mj_nm c)) :: st) (c + 1) π μ Q) := rfl
theorem g_newa : mj_gF L d m pc ls (.inl x :: st) c π μ Q (false, 69, a, b, npc) = ((0 ≤ x ∧ mj_new L c π μ a.toNat x.toNat) ∧ mj_go L d m npc ls (.inr (.inr (mj_nm c)) :: st) (c + 1) π μ Q) := rfl
theorem g_call0 : mj_gF L (d + 1) m pc ls st c π μ Q (false, 100, a, b, npc) = ((mj_wok st = true ∧ mj_aok a.toNat [] = true) ∧ mj_call L d a.toNat [] c π μ (mj_k L (d + 1) m Q npc ls st)) := rfl
theorem g_call1 {v0 : mj_V} : mj_gF L (d + 1) m pc ls (v0 :: st) c π μ Q (false, 101, a, b, npc) = ((mj_wok st = true ∧ mj_aok a.toNat [v0] = true) ∧ mj_call L d a.toNat [v0] c π μ (mj_k L (d + 1) m Q npc ls st)) := rfl
theorem g_call2 {v0 v1 : mj_V} : mj_gF L (d + 1) m pc ls (v1 :: v0 :: st) c π μ Q (false, 102, a, b, npc) = ((mj_wok st = true ∧ mj_aok a.toNat [v0, v1] = true) ∧ mj_call L d a.toNat [v0, v1] c π μ (mj_k L (d + 1) m Q npc ls st)) := rfl
theorem g_call3 {v0 v1 v2 : mj_V} : mj_gF L (d + 1) m pc ls (v2 :: v1 :: v0 :: st) c π μ Q (false, 103, a, b, npc) = ((mj_wok st = true ∧ mj_aok a.toNat [v0, v1, v2] = true) ∧ mj_call L d a.toNat [v0, v1, v2] c π μ (mj_k L (d + 1) m Q npc ls st)) := rfl
theorem g_call4 {v0 v1 v2 v3 : mj_V} : mj_gF L (d + 1) m pc ls (v3 :: v2 :: v1 :: v0 :: st) c π μ Q (false, 104, a, b, npc) = ((mj_wok st = true ∧ mj_aok a.toNat [v0, v1, v2, v3] = true) ∧ mj_call L d a.toNat [v0, v1, v2, v3] c π μ (mj_k L (d + 1) m Q npc ls st)) := rfl
theorem g_call5 {v0 v1 v2 v3 v4 : mj_V} : mj_gF L (d + 1) m pc ls (v4 :: v3 :: v2 :: v1 :: v0 :: st) c π μ Q (false, 105, a, b, npc) = ((mj_wok st = true ∧ mj_aok a.toNat [v0, v1, v2, v3, v4] = true) ∧ mj_call L d a.toNat [v0, v1, v2, v3, v4] c π μ (mj_k L (d + 1) m Q npc ls st)) := rfl
theorem g_call6 {v0 v1 v2 v3 v4 v5 : mj_V} : mj_gF L (d + 1) m pc ls (v5 :: v4 :: v3 :: v2 :: v1 :: v0 :: st) c π μ Q (false, 106, a, b, npc) = ((mj_wok st = true ∧ mj_aok a.toNat [v0, v1, v2, v3, v4, v5] = true) ∧ mj_call L d a.toNat [v0, v1, v2, v3, v4, v5] c π μ (mj_k L (d + 1) m Q npc ls st)) := rfl
theorem g_call7 {v0 v1 v2 v3 v4 v5 v6 : mj_V} : mj_gF L (d + 1) m pc ls (v6 :: v5 :: v4 :: v3 :: v2 :: v1 :: v0 :: st) c π μ Q (false, 107, a, b, npc) = ((mj_wok st = true ∧ mj_aok a.toNat [v0, v1, v2, v3, v4, v5, v6] = true) ∧ mj_call L d a.toNat [v0, v1, v2, v3, v4, v5, v6] c π μ (mj_k L (d + 1) m Q npc ls st)) := rfl
theorem g_k0 : mj_k L d m Q npc ls st [] c π μ = mj_go L d m npc ls st c π μ Q := rfl
theorem g_k1 {w : mj_V} : mj_k L d m Q npc ls st [w] c π μ = mj_go L d m npc ls (w :: st) c π μ Q := rfl
theorem g_w0 : mj_wok [] = true := rfl
theorem g_w1 {v0 : mj_V} : mj_wok [v0] = true := rfl
theorem g_w2 {v0 v1 : mj_V} : mj_wok [v0, v1] = true := rfl
theorem g_w3 {v0 v1 v2 : mj_V} : mj_wok [v0, v1, v2] = true := rfl
theorem g_w4 {v0 v1 v2 v3 : mj_V} : mj_wok [v0, v1, v2, v3] = true := rfl
theorem g_c1 : mj_clr (.inl x) = .inl x := rfl
theorem g_c2 : mj_clr (.inr (.inr k)) = .inr (.inr k) := rfl
theorem g_c3 : mj_clr mj_nul = mj_nul := rfl
theorem g_c4 : mj_clr (.inr (.inl x)) = mj_nul := rfl
theorem g_us : mj_up μ k i v k = mj_pt (μ k) i v := if_pos rfl
theorem g_un (h : r ≠ k) : mj_up μ k i v r = μ r := if_neg h
theorem g_ps {f : Int → Int} : mj_pt f i v i = v := if_pos rfl
theorem g_pn {f : Int → Int} (h : x ≠ i) : mj_pt f i v x = f x := if_neg h
theorem g_pe {f : Int → Int} : mj_pt f i v x = if x = i then v else f x := rfl
theorem g_pps : mj_pp π k n r k n = r := if_pos ⟨rfl, rfl⟩
theorem g_ppn {k2 n2 : Nat} (h : ¬ (k2 = k ∧ n2 = n)) : mj_pp π k n r k2 n2 = π k2 n2 := if_neg h
end
