theorem mj_F_fr {C C' : Nat → Nat → List mj_V → Nat → mj_P → mj_M → mj_Q → Prop} {K K' : Nat → List mj_V → List mj_V → Nat → mj_P → mj_M → Prop} {KQ KQ' : Nat → List mj_V → List mj_V → mj_Q}
    {L d m pc : Nat} {ls st : List mj_V} {c : Nat} {π : mj_P} {μ : mj_M} {Q Q' : mj_Q} {e : mj_E} {s : Int → Int} (hs : μ 1000 = s) (he : frK e = true ∨ e = (false, 99, 0, 0, 0))
    (hC : ∀ d m as c π μ (Q Q' : mj_Q), μ 1000 = s → (∀ r c π μ, μ 1000 = s → Q r c π μ → Q' r c π μ) → C d m as c π μ Q → C' d m as c π μ Q')
    (hK : ∀ pc ls st c π μ, μ 1000 = s → K pc ls st c π μ → K' pc ls st c π μ) (hKQ : ∀ n ls rest r c π μ, μ 1000 = s → KQ n ls rest r c π μ → KQ' n ls rest r c π μ) (hQ : ∀ r c π μ, μ 1000 = s → Q r c π μ → Q' r c π μ)
    (h : mj_F C K KQ L d m pc ls st c π μ Q e) : mj_F C' K' KQ' L d m pc ls st c π μ Q' e := by
  unfold mj_F at h ⊢
  by_cases b1 : 100 ≤ e.2.1
  · rw [if_pos b1] at h ⊢
    split at h
    · exact ⟨h.1, hC _ _ _ _ _ _ _ _ hs (hKQ _ _ _) h.2⟩
    · exact h
  · rw [if_neg b1] at h ⊢
    by_cases b2 : e.2.1 = 75
    · rw [if_pos b2] at h ⊢
      split at h
      · exact hQ _ _ _ _ hs h
      · exact h
    · rw [if_neg b2] at h ⊢
      by_cases b3 : e.2.1 = 77
      · rw [if_pos b3] at h ⊢
        split at h
        · exact ⟨h.1, hQ _ _ _ _ hs h.2⟩
        · exact h
      · rw [if_neg b3] at h ⊢
        by_cases b4 : e.2.1 = 76
        · rw [if_pos b4] at h ⊢
          split at h
          · exact hQ _ _ _ _ hs h
          · exact h
        · rw [if_neg b4] at h ⊢
          by_cases b5 : e.2.1 = 73
          · rw [if_pos b5] at h ⊢
            split at h
            · exact ⟨h.1, hK _ _ _ _ _ _ hs h.2⟩
            · exact h
          · rw [if_neg b5] at h ⊢
            by_cases b6 : e.2.1 = 74
            · rw [if_pos b6] at h ⊢
              split at h
              · exact ⟨h.1, hK _ _ _ _ _ _ hs h.2⟩
              · exact h
            · rw [if_neg b6] at h ⊢
              by_cases b7 : e.2.1 = 68
              · rw [if_pos b7] at h ⊢
                exact ⟨h.1, hK _ _ _ _ _ _ hs h.2⟩
              · rw [if_neg b7] at h ⊢
                by_cases b8 : e.2.1 = 69
                · rw [if_pos b8] at h ⊢
                  split at h
                  · exact ⟨h.1, hK _ _ _ _ _ _ hs h.2⟩
                  · exact h
                · rw [if_neg b8] at h ⊢
                  unfold mj_on at h ⊢
                  cases hx : mj_nx L m pc e.2.2.2.2 e.2.1 e.2.2.1 e.2.2.2.1 ls st c π μ with
                  | none => rw [hx] at h; exact h
                  | some X =>
                    rw [hx] at h
                    rcases he with he | he
                    · unfold frK at he
                      simp only [Bool.or_eq_true, Bool.and_eq_true, decide_eq_true_eq] at he
                      have h9 : frO.contains e.2.1 = true ∧ ((e.2.1 ≠ 62 ∧ e.2.1 ≠ 59) ∨ 0 ≤ e.2.2.2.1) := by
                        rcases he with (he | he) | he
                        · exact absurd he b1
                        · have : e.2.1 ∈ [68, 69, 73, 74, 75, 76, 77] := by simpa using he
                          simp only [List.mem_cons, List.not_mem_nil, or_false] at this
                          omega
                        · exact he
                      have hf := nx_fr h9.1 (fun q => by rcases h9.2 with a | a <;> omega) hx
                      exact hK _ _ _ _ _ _ (hf.trans hs) h
                    · subst he
                      exact absurd hx (by show ¬ (none = some X); simp)
theorem mj_ex_fr {L : Nat} {s : Int → Int} : ∀ (n d m pc : Nat) (ls st : List mj_V) (c : Nat) (π : mj_P) (μ : mj_M) (Q : mj_Q), μ 1000 = s → mj_ex L n d m pc ls st c π μ Q → mj_ex L n d m pc ls st c π μ (fun r c π μ => Q r c π μ ∧ μ 1000 = s) := by
  intro n
  induction n with
  | zero => intro d m pc ls st c π μ Q _ h; exact h.elim
  | succ n ih =>
    intro d m pc ls st c π μ Q hs h
    refine mj_F_fr (s := s) hs (fr_at m pc) (fun d' m' as c π μ Q Q' hs hq hh => ?_) (fun pc ls st c π μ hs hh => ?_) (fun npc ls rest r c π μ hs hh => ?_) (fun r c π μ hs hh => ⟨hh, hs⟩) h
    · exact mj_ex_mono n n _ _ _ _ _ _ _ _ _ _ (Nat.le_refl n) (fun r c π μ ⟨a, b⟩ => hq r c π μ b a) (ih _ _ _ _ _ _ _ _ _ hs hh)
    · exact ih _ _ _ _ _ _ _ _ _ hs hh
    · exact ih _ _ _ _ _ _ _ _ _ hs hh
theorem mj_call_fr {L d m : Nat} {as : List mj_V} {c : Nat} {π : mj_P} {μ : mj_M} {Q : mj_Q} (h : mj_call L d m as c π μ Q) : mj_call L d m as c π μ (fun r c' π' μ' => Q r c' π' μ' ∧ μ' 1000 = μ 1000) := by
  obtain ⟨n, h⟩ := h
  exact ⟨n, mj_ex_fr n _ _ _ _ _ _ _ _ _ rfl h⟩
