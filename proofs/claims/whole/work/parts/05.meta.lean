theorem mj_ex_mono {L : Nat} : ∀ (n k d m pc : Nat) (ls st : List mj_V) (c : Nat) (π : mj_P) (μ : mj_M) (Q Q' : mj_Q), n ≤ k → (∀ r c π μ, Q r c π μ → Q' r c π μ) → mj_ex L n d m pc ls st c π μ Q → mj_ex L k d m pc ls st c π μ Q' := by
  intro n
  induction n with
  | zero => intro k d m pc ls st c π μ Q Q' _ _ h; exact h.elim
  | succ n ih =>
    intro k d m pc ls st c π μ Q Q' hk hQ h
    cases k with
    | zero => omega
    | succ k =>
      refine mj_F_mono (fun d' m' as c π μ Q Q' hq hh => ?_) (fun pc ls st c π μ hh => ?_) (fun npc ls rest r c π μ hh => ?_) hQ h
      · exact ih k _ _ _ _ _ _ _ _ _ _ (by omega) hq hh
      · exact ih k _ _ _ _ _ _ _ _ _ _ (by omega) hQ hh
      · exact ih k _ _ _ _ _ _ _ _ _ _ (by omega) hQ hh
theorem mj_run_mono {L d m pc : Nat} {ls st : List mj_V} {c : Nat} {π : mj_P} {μ : mj_M} {Q Q' : mj_Q} (h : mj_run L d m pc ls st c π μ Q) (hQ : ∀ r c π μ, Q r c π μ → Q' r c π μ) : mj_run L d m pc ls st c π μ Q' := by
  obtain ⟨n, h⟩ := h
  exact ⟨n, mj_ex_mono n n _ _ _ _ _ _ _ _ _ _ (Nat.le_refl n) hQ h⟩
theorem mj_call_mono {L d m : Nat} {as : List mj_V} {c : Nat} {π : mj_P} {μ : mj_M} {Q Q' : mj_Q} (h : mj_call L d m as c π μ Q) (hQ : ∀ r c π μ, Q r c π μ → Q' r c π μ) : mj_call L d m as c π μ Q' := mj_run_mono h hQ
/-- what a step is: a call, an end, a going on, or nothing -/
theorem mj_F_shape (L d m pc : Nat) (ls st : List mj_V) (c : Nat) (π : mj_P) (μ : mj_M) (e : mj_E) :
    (∃ (d' m' n' : Nat) (as rest : List mj_V) (P : Prop), ∀ C K KQ Q, mj_F C K KQ L d m pc ls st c π μ Q e ↔ P ∧ C d' m' as c π μ (KQ n' ls rest)) ∨
    (∃ (P : Prop) (r : List mj_V), ∀ C K KQ Q, mj_F C K KQ L d m pc ls st c π μ Q e ↔ P ∧ Q r c π μ) ∨
    (∃ (P : Prop) (pc' : Nat) (ls' st' : List mj_V) (c' : Nat) (π' : mj_P) (μ' : mj_M), c ≤ c' ∧ ∀ C K KQ Q, mj_F C K KQ L d m pc ls st c π μ Q e ↔ P ∧ K pc' ls' st' c' π' μ') := by
  have no : (∀ C K KQ Q, ¬ mj_F C K KQ L d m pc ls st c π μ Q e) → (∃ (P : Prop) (r : List mj_V), ∀ C K KQ Q, mj_F C K KQ L d m pc ls st c π μ Q e ↔ P ∧ Q r c π μ) :=
    fun h => ⟨False, [], fun C K KQ Q => ⟨fun q => (h C K KQ Q q).elim, fun q => q.1.elim⟩⟩
  by_cases h1 : 100 ≤ e.2.1
  · cases d with
    | zero => exact Or.inr (Or.inl (no (fun C K KQ Q q => by unfold mj_F at q; rw [if_pos h1] at q; exact q)))
    | succ d' =>
      cases hs : mj_spl (e.2.1 - 100) [] st with
      | none => exact Or.inr (Or.inl (no (fun C K KQ Q q => by unfold mj_F at q; rw [if_pos h1, hs] at q; exact q)))
      | some x =>
        refine Or.inl ⟨d', e.2.2.1.toNat, e.2.2.2.2, x.1, x.2, mj_wok x.2 = true ∧ mj_aok e.2.2.1.toNat x.1 = true, fun C K KQ Q => ?_⟩
        unfold mj_F
        rw [if_pos h1, hs]
  · by_cases h2 : e.2.1 = 75
    · by_cases hs : ∃ v, st = [Sum.inl v]
      · obtain ⟨v, rfl⟩ := hs
        refine Or.inr (Or.inl ⟨True, [.inl v], fun C K KQ Q => ?_⟩)
        unfold mj_F
        rw [if_neg h1, if_pos h2]
        simp
      · refine Or.inr (Or.inl (no (fun C K KQ Q q => ?_)))
        unfold mj_F at q
        rw [if_neg h1, if_pos h2] at q
        split at q
        · exact hs ⟨_, rfl⟩
        · exact q
    · by_cases h3 : e.2.1 = 77
      · by_cases hs : ∃ v, st = [Sum.inl v]
        · obtain ⟨v, rfl⟩ := hs
          refine Or.inr (Or.inl ⟨0 ≤ v ∧ v ≤ 1, [.inl v], fun C K KQ Q => ?_⟩)
          unfold mj_F
          rw [if_neg h1, if_neg h2, if_pos h3]
        · refine Or.inr (Or.inl (no (fun C K KQ Q q => ?_)))
          unfold mj_F at q
          rw [if_neg h1, if_neg h2, if_pos h3] at q
          split at q
          · exact hs ⟨_, rfl⟩
          · exact q
      · by_cases h4 : e.2.1 = 76
        · cases st with
          | nil =>
            refine Or.inr (Or.inl ⟨True, [], fun C K KQ Q => ?_⟩)
            unfold mj_F
            rw [if_neg h1, if_neg h2, if_neg h3, if_pos h4]
            simp
          | cons v l =>
            refine Or.inr (Or.inl (no (fun C K KQ Q q => ?_)))
            unfold mj_F at q
            rw [if_neg h1, if_neg h2, if_neg h3, if_pos h4] at q
            exact q
        · by_cases h5 : e.2.1 = 73
          · by_cases hs : ∃ d' k rest, d = d' + 1 ∧ st = Sum.inr (Sum.inr (k + 1)) :: rest
            · obtain ⟨d', k, rest, rfl, rfl⟩ := hs
              refine Or.inr (Or.inr ⟨mj_wok rest = true, e.2.2.2.2, ls, rest, c, π, μ, Nat.le_refl c, fun C K KQ Q => ?_⟩)
              unfold mj_F
              rw [if_neg h1, if_neg h2, if_neg h3, if_neg h4, if_pos h5]
            · refine Or.inr (Or.inl (no (fun C K KQ Q q => ?_)))
              unfold mj_F at q
              rw [if_neg h1, if_neg h2, if_neg h3, if_neg h4, if_pos h5] at q
              split at q
              · exact hs ⟨_, _, _, rfl, rfl⟩
              · exact q
          · by_cases h6 : e.2.1 = 74
            · by_cases hs : ∃ d' i k rest, d = d' + 4 ∧ st = Sum.inl i :: Sum.inr (Sum.inr k) :: rest
              · obtain ⟨d', i, k, rest, rfl, rfl⟩ := hs
                refine Or.inr (Or.inr ⟨k = 1004 ∧ 0 ≤ i ∧ i < 72 ∧ mj_wok rest = true, e.2.2.2.2, ls, .inl (mj_sp i) :: rest, c, π, μ, Nat.le_refl c, fun C K KQ Q => ?_⟩)
                unfold mj_F
                rw [if_neg h1, if_neg h2, if_neg h3, if_neg h4, if_neg h5, if_pos h6]
              · refine Or.inr (Or.inl (no (fun C K KQ Q q => ?_)))
                unfold mj_F at q
                rw [if_neg h1, if_neg h2, if_neg h3, if_neg h4, if_neg h5, if_pos h6] at q
                split at q
                · exact hs ⟨_, _, _, _, rfl, rfl⟩
                · exact q
            · by_cases h7 : e.2.1 = 68
              · refine Or.inr (Or.inr ⟨mj_new L c π μ (10 + e.2.2.1.toNat) (mj_lay L (mj_nm c)).2, e.2.2.2.2, ls, .inr (.inr (mj_nm c)) :: st, c + 1, π, μ, Nat.le_succ c, fun C K KQ Q => ?_⟩)
                unfold mj_F
                rw [if_neg h1, if_neg h2, if_neg h3, if_neg h4, if_neg h5, if_neg h6, if_pos h7]
              · by_cases h8 : e.2.1 = 69
                · by_cases hs : ∃ n rest, st = Sum.inl n :: rest
                  · obtain ⟨n, rest, rfl⟩ := hs
                    refine Or.inr (Or.inr ⟨0 ≤ n ∧ mj_new L c π μ e.2.2.1.toNat n.toNat, e.2.2.2.2, ls, .inr (.inr (mj_nm c)) :: rest, c + 1, π, μ, Nat.le_succ c, fun C K KQ Q => ?_⟩)
                    unfold mj_F
                    rw [if_neg h1, if_neg h2, if_neg h3, if_neg h4, if_neg h5, if_neg h6, if_neg h7, if_pos h8]
                  · refine Or.inr (Or.inl (no (fun C K KQ Q q => ?_)))
                    unfold mj_F at q
                    rw [if_neg h1, if_neg h2, if_neg h3, if_neg h4, if_neg h5, if_neg h6, if_neg h7, if_pos h8] at q
                    split at q
                    · exact hs ⟨_, _, rfl⟩
                    · exact q
                · cases hx : mj_nx L m pc e.2.2.2.2 e.2.1 e.2.2.1 e.2.2.2.1 ls st c π μ with
                  | none =>
                    refine Or.inr (Or.inl (no (fun C K KQ Q q => ?_)))
                    unfold mj_F at q
                    rw [if_neg h1, if_neg h2, if_neg h3, if_neg h4, if_neg h5, if_neg h6, if_neg h7, if_neg h8, hx] at q
                    exact q
                  | some x =>
                    obtain ⟨pc', ls', st', π', μ'⟩ := x
                    refine Or.inr (Or.inr ⟨True, pc', ls', st', c, π', μ', Nat.le_refl c, fun C K KQ Q => ?_⟩)
                    unfold mj_F
                    rw [if_neg h1, if_neg h2, if_neg h3, if_neg h4, if_neg h5, if_neg h6, if_neg h7, if_neg h8, hx]
                    simp [mj_on]
/-- one outcome -/
theorem mj_det {L : Nat} : ∀ (n d m pc : Nat) (ls st : List mj_V) (c : Nat) (π : mj_P) (μ : mj_M) (Q : mj_Q), mj_ex L n d m pc ls st c π μ Q → ∃ r c' π' μ', ∀ Q' : mj_Q, Q' r c' π' μ' ↔ mj_ex L n d m pc ls st c π μ Q' := by
  intro n
  induction n with
  | zero => intro d m pc ls st c π μ Q h; exact h.elim
  | succ n ih =>
    intro d m pc ls st c π μ Q h
    simp only [mj_ex] at h ⊢
    rcases mj_F_shape L d m pc ls st c π μ (mj_at m pc) with ⟨d', m', n', as, rest, P, hF⟩ | ⟨P, r, hF⟩ | ⟨P, pc', ls', st', c', π', μ', hcc, hF⟩
    · obtain ⟨hw, hc⟩ := (hF _ _ _ _).mp h
      obtain ⟨r, c', π', μ', h2⟩ := ih _ _ _ _ _ _ _ _ _ hc
      obtain ⟨r2, c2, π2, μ2, h4⟩ := ih _ _ _ _ _ _ _ _ _ ((h2 _).mpr hc)
      exact ⟨r2, c2, π2, μ2, fun Q' => ⟨fun hq => (hF _ _ _ _).mpr ⟨hw, (h2 _).mp ((h4 Q').mp hq)⟩, fun hq => (h4 Q').mpr ((h2 _).mpr ((hF _ _ _ _).mp hq).2)⟩⟩
    · obtain ⟨hw, hc⟩ := (hF _ _ _ _).mp h
      exact ⟨r, c, π, μ, fun Q' => ⟨fun hq => (hF _ _ _ _).mpr ⟨hw, hq⟩, fun hq => ((hF _ _ _ _).mp hq).2⟩⟩
    · obtain ⟨hw, hc⟩ := (hF _ _ _ _).mp h
      obtain ⟨r2, c2, π2, μ2, h4⟩ := ih _ _ _ _ _ _ _ _ _ hc
      exact ⟨r2, c2, π2, μ2, fun Q' => ⟨fun hq => (hF _ _ _ _).mpr ⟨hw, (h4 Q').mp hq⟩, fun hq => (h4 Q').mpr ((hF _ _ _ _).mp hq).2⟩⟩
theorem mj_cmono {L : Nat} : ∀ (n d m pc : Nat) (ls st : List mj_V) (c : Nat) (π : mj_P) (μ : mj_M) (Q : mj_Q), mj_ex L n d m pc ls st c π μ Q → ∃ r c' π' μ', Q r c' π' μ' ∧ c ≤ c' := by
  intro n
  induction n with
  | zero => intro d m pc ls st c π μ Q h; exact h.elim
  | succ n ih =>
    intro d m pc ls st c π μ Q h
    simp only [mj_ex] at h
    rcases mj_F_shape L d m pc ls st c π μ (mj_at m pc) with ⟨d', m', n', as, rest, P, hF⟩ | ⟨P, r, hF⟩ | ⟨P, pc', ls', st', c', π', μ', hcc, hF⟩
    · obtain ⟨hw, hc⟩ := (hF _ _ _ _).mp h
      obtain ⟨r, c', π', μ', h2, h3⟩ := ih _ _ _ _ _ _ _ _ _ hc
      obtain ⟨r2, c2, π2, μ2, h4, h5⟩ := ih _ _ _ _ _ _ _ _ _ h2
      exact ⟨r2, c2, π2, μ2, h4, Nat.le_trans h3 h5⟩
    · obtain ⟨hw, hc⟩ := (hF _ _ _ _).mp h
      exact ⟨r, c, π, μ, hc, Nat.le_refl c⟩
    · obtain ⟨hw, hc⟩ := (hF _ _ _ _).mp h
      obtain ⟨r2, c2, π2, μ2, h4, h5⟩ := ih _ _ _ _ _ _ _ _ _ hc
      exact ⟨r2, c2, π2, μ2, h4, Nat.le_trans hcc h5⟩
/-- the step -/
theorem mj_run_F {L d m pc : Nat} {ls st : List mj_V} {c : Nat} {π : mj_P} {μ : mj_M} {Q : mj_Q} :
    mj_run L d m pc ls st c π μ Q ↔ mj_F (mj_call L) (fun pc ls st c π μ => mj_go L d m pc ls st c π μ Q) (mj_k L d m Q) L d m pc ls st c π μ Q (mj_at m pc) := by
  constructor
  · rintro ⟨n, h⟩
    cases n with
    | zero => exact h.elim
    | succ n => exact mj_F_mono (fun d' m' as c π μ Q Q' hq hh => ⟨n, mj_ex_mono n n _ _ _ _ _ _ _ _ _ _ (Nat.le_refl n) hq hh⟩) (fun pc ls st c π μ hh => ⟨n, hh⟩) (fun npc ls rest r c π μ hh => ⟨n, hh⟩) (fun _ _ _ _ hh => hh) h
  · intro h
    suffices hs : ∃ n, mj_ex L (n + 1) d m pc ls st c π μ Q by
      obtain ⟨n, hn⟩ := hs
      exact ⟨n + 1, hn⟩
    simp only [mj_ex]
    rcases mj_F_shape L d m pc ls st c π μ (mj_at m pc) with ⟨d', m', n', as, rest, P, hF⟩ | ⟨P, r, hF⟩ | ⟨P, pc', ls', st', c', π', μ', hcc, hF⟩
    · obtain ⟨hw, n, hc⟩ := (hF _ _ _ _).mp h
      obtain ⟨r, c', π', μ', h2⟩ := mj_det n _ _ _ _ _ _ _ _ _ hc
      obtain ⟨n2, h1⟩ := (h2 _).mpr hc
      refine ⟨n + n2, (hF _ _ _ _).mpr ⟨hw, ?_⟩⟩
      refine mj_ex_mono n (n + n2) _ _ _ _ _ _ _ _ (fun r1 c1 π1 μ1 => r1 = r ∧ c1 = c' ∧ π1 = π' ∧ μ1 = μ') _ (by omega) ?_ ((h2 _).mp ⟨rfl, rfl, rfl, rfl⟩)
      rintro r1 c1 π1 μ1 ⟨rfl, rfl, rfl, rfl⟩
      exact mj_ex_mono n2 (n + n2) _ _ _ _ _ _ _ _ _ _ (by omega) (fun _ _ _ _ hh => hh) h1
    · obtain ⟨hw, hc⟩ := (hF _ _ _ _).mp h
      exact ⟨0, (hF _ _ _ _).mpr ⟨hw, hc⟩⟩
    · obtain ⟨hw, n, hc⟩ := (hF _ _ _ _).mp h
      exact ⟨n, (hF _ _ _ _).mpr ⟨hw, hc⟩⟩
/-- a call whose outcome is known -/
theorem mj_run_eq {L d m pc : Nat} {ls st : List mj_V} {c : Nat} {π : mj_P} {μ : mj_M} {r0 : List mj_V} {c0 : Nat} {π0 : mj_P} {μ0 : mj_M} (h : mj_run L d m pc ls st c π μ (fun r c' π' μ' => r = r0 ∧ c' = c0 ∧ π' = π0 ∧ μ' = μ0)) (Q : mj_Q) : mj_run L d m pc ls st c π μ Q = Q r0 c0 π0 μ0 := by
  apply propext
  constructor
  · intro hq
    obtain ⟨n, h⟩ := h
    obtain ⟨k, hq⟩ := hq
    have h1 := mj_ex_mono n (n + k) _ _ _ _ _ _ _ _ _ _ (by omega) (fun _ _ _ _ hh => hh) h
    have h2 := mj_ex_mono k (n + k) _ _ _ _ _ _ _ _ _ _ (by omega) (fun _ _ _ _ hh => hh) hq
    obtain ⟨r, c', π', μ', h3⟩ := mj_det _ _ _ _ _ _ _ _ _ _ h1
    obtain ⟨rfl, rfl, rfl, rfl⟩ := (h3 _).mpr h1
    exact (h3 _).mpr h2
  · intro hq
    exact mj_run_mono h (fun r c π μ ⟨e1, e2, e3, e4⟩ => by rw [e1, e2, e3, e4]; exact hq)
theorem mj_call_eq {L d m : Nat} {as : List mj_V} {c : Nat} {π : mj_P} {μ : mj_M} {r0 : List mj_V} {c0 : Nat} {π0 : mj_P} {μ0 : mj_M} (h : mj_call L d m as c π μ (fun r c' π' μ' => r = r0 ∧ c' = c0 ∧ π' = π0 ∧ μ' = μ0)) (Q : mj_Q) : mj_call L d m as c π μ Q = Q r0 c0 π0 μ0 := mj_run_eq h Q
