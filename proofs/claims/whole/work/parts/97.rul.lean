set_option maxRecDepth 20000
theorem kl_o {z : Nat} : ∀ (k : Nat) (ρ : mj_M) (f : Int → Int) (q : Nat), q ≠ z ∧ q ≠ z + 2 → (kl z k ρ f).1 q = ρ q
  | 0, ρ, f, q, h => rfl
  | k + 1, ρ, f, q, h => by
    unfold kl
    split
    · rw [kl_o k _ _ q h]; exact rkr_o h
    · exact rkr_o h
def kyv (v : Int) : Prop := (0 ≤ v ∧ v ≤ 4) ∨ (10 ≤ v ∧ v ≤ 14)
def KR (z : Nat) (ρ ν : mj_M) (mn s : Int) : Prop := ρ z 4 = mn ∧ (0 ≤ mn ∧ mn ≤ 5) ∧ (∀ i, 0 ≤ i → i < mn → ν 69 (6 + i) = ρ (z + 2) i ∧ kyv (ρ (z + 2) i)) ∧ (∀ k : Nat, k < 5 → mj_and (mj_shr s k) 1 = if iky ρ z k then 1 else 0) ∧ (∃ q : Nat, s = q ∧ q < 32) ∧ zc (fun k => iky ρ z k) 5 = mn
theorem bit_or : ∀ (q : Fin 32) (a k : Fin 5), (q.1 ||| 2 ^ a.1) / 2 ^ k.1 % 2 = (if k = a then 1 else q.1 / 2 ^ k.1 % 2) ∧ (q.1 ||| 2 ^ a.1) < 32 := by decide +kernel
theorem bit_at {q k : Nat} (hq : q < 32) (hk : k < 5) : mj_and (mj_shr (q : Int) (k : Int)) 1 = ((q / 2 ^ k % 2 : Nat) : Int) := by
  have h3 : q / 2 ^ k ≤ q := Nat.div_le_self _ _
  rw [mj_shr_nat (by omega) (by omega)]
  have := mj_and_nat (a := q / 2 ^ k) (b := 1) (by omega) (by omega)
  rw [show (1 : Int) = ((1 : Nat) : Int) from rfl, this, Nat.and_one_is_mod]
theorem bit_set {q a k : Nat} (hq : q < 32) (ha : a < 5) (hk : k < 5) : (∃ q' : Nat, mj_or (q : Int) (mj_shl 1 (a : Int)) = q' ∧ q' < 32) ∧ mj_and (mj_shr (mj_or (q : Int) (mj_shl 1 (a : Int))) (k : Int)) 1 = if k = a then 1 else mj_and (mj_shr (q : Int) (k : Int)) 1 := by
  have h2 : 2 ^ a < 2147483648 := Nat.pow_lt_pow_right (by omega) (n := 31) (by omega)
  have hb := bit_or ⟨q, hq⟩ ⟨a, ha⟩ ⟨k, hk⟩
  simp only [Fin.mk.injEq] at hb
  rw [mj_shl_nat (by omega), mj_or_nat (by omega) h2]
  refine ⟨⟨_, rfl, hb.2⟩, ?_⟩
  rw [bit_at hb.2 hk, hb.1, bit_at hq hk]
  split <;> rfl
theorem zh_cg {p q : Int → Bool} : ∀ {n : Nat}, (∀ i : Nat, i < n → p i = q i) → zh p n = zh q n
  | 0, _ => rfl
  | n + 1, h => by
    unfold zh
    rw [zh_cg (n := n) (fun i hi => h i (by omega)), h n (by omega)]
theorem KR_all {z : Nat} {ρ ν : mj_M} {mn s : Int} (h : KR z ρ ν mn s) (h5 : mn = 5) {k : Int} (hk : 0 ≤ k ∧ k ≤ 4) : iky ρ z k = true := by
  cases e : iky ρ z k
  · have hz := h.2.2.2.2.2
    have := zc_ltw (p := fun k => iky ρ z k) (q := fun _ => true) (k := k.toNat) (n := 5) (by show iky ρ z (k.toNat : Int) = false; rw [Int.toNat_of_nonneg hk.1]; exact e) rfl (by omega) (fun _ _ _ => rfl)
    have h6 : zc (fun _ => true) 5 = 5 := by decide
    omega
  · rfl
theorem aku_ik {z : Nat} {ρ : mj_M} {a lf : Int} (h5 : 0 ≤ ρ z 4 ∧ ρ z 4 < 5) (ha : 0 ≤ a ∧ a ≤ 4) (k : Int) : iky (aku ρ z a lf) z k = (iky ρ z k || decide (a = k)) := by
  unfold iky aku
  rw [if_pos h5.2]
  have e1 : mj_up (mj_up ρ (z + 2) (ρ z 4) (if lf = 0 then a else a + 10)) z 4 (ρ z 4 + 1) z 4 = ρ z 4 + 1 := by rw [g_us, g_ps]
  have e2 : mj_up (mj_up ρ (z + 2) (ρ z 4) (if lf = 0 then a else a + 10)) z 4 (ρ z 4 + 1) (z + 2) = mj_pt (ρ (z + 2)) (ρ z 4) (if lf = 0 then a else a + 10) := by rw [g_un (by omega), g_us]
  rw [e1, e2]
  obtain ⟨n, hn⟩ : ∃ n : Nat, ρ z 4 = n := ⟨(ρ z 4).toNat, by omega⟩
  rw [hn, show ((n : Int) + 1).toNat = n + 1 by omega, show ((n : Int)).toNat = n by omega]
  show (zh _ n || _) = _
  have e3 : zh (fun i => decide ((mj_pt (ρ (z + 2)) n (if lf = 0 then a else a + 10) i).tmod 10 = k)) n = zh (fun i => decide ((ρ (z + 2) i).tmod 10 = k)) n := zh_cg (fun i hi => by rw [g_pn (by omega)])
  rw [e3]
  simp only [g_ps]
  have e4 : (if lf = 0 then a else a + 10).tmod 10 = a := by
    split
    · rw [Int.tmod_eq_emod_of_nonneg ha.1]; omega
    · rw [Int.tmod_eq_emod_of_nonneg (by omega)]; omega
  rw [e4]
theorem KR_add {z : Nat} {ρ ν : mj_M} {mn s a lf : Int} (h : KR z ρ ν mn s) (hn : iky ρ z a = false) (ha : 0 ≤ a ∧ a ≤ 4) (hl : lf = 0 ∨ lf = 1) : KR z (aku ρ z a lf) (mj_up ν 69 (6 + mn) (a + if lf = 0 then 0 else 10)) (mn + 1) (mj_or s (mj_shl 1 a)) := by
  have h5 : mn < 5 := by
    by_cases e : mn = 5
    · rw [KR_all h e ha] at hn; exact absurd hn (by decide)
    · have := h.2.1; omega
  obtain ⟨h1, h2, h3, h4, ⟨q, hq, hq2⟩, h6⟩ := h
  subst hq
  obtain ⟨A, rfl⟩ : ∃ A : Nat, a = A := ⟨a.toNat, by omega⟩
  have hik := aku_ik (z := z) (ρ := ρ) (a := A) (lf := lf) (by omega) ha
  have hku : aku ρ z A lf = mj_up (mj_up ρ (z + 2) (ρ z 4) (if lf = 0 then (A : Int) else A + 10)) z 4 (ρ z 4 + 1) := if_pos (by omega)
  refine ⟨?_, by omega, fun i p r => ?_, fun k hk => ?_, (bit_set (a := A) hq2 (by omega) (show 0 < 5 by omega)).1, ?_⟩
  · rw [hku, g_us, g_ps, h1]
  · have eA : aku ρ z A lf (z + 2) = mj_pt (ρ (z + 2)) mn (if lf = 0 then (A : Int) else A + 10) := by rw [hku, g_un (by omega), g_us, h1]
    rw [eA, g_us]
    by_cases e : i = mn
    · subst e
      rw [g_ps, g_ps]
      unfold kyv
      rcases hl with rfl | rfl
      · simp only [if_true]; first | omega | exact ⟨trivial, by omega⟩ | exact ⟨rfl, by omega⟩
      · simp only [Int.reduceEq, if_false]; first | omega | exact ⟨trivial, by omega⟩ | exact ⟨rfl, by omega⟩
    · rw [g_pn e, g_pn (show 6 + i ≠ 6 + mn by omega)]
      exact h3 i p (by omega)
  · rw [(bit_set (a := A) hq2 (by omega) hk).2, hik, h4 k hk]
    by_cases e : k = A
    · subst e; simp
    · rw [if_neg e]
      simp [show ¬ (A : Int) = (k : Int) by omega]
  · have hz : zc (fun k => iky (aku ρ z A lf) z k) 5 = zc (fun k => iky ρ z k) 5 + zc (fun k => decide ((A : Int) = k)) 5 := zc_add (fun i hi => by
      rw [hik]
      by_cases e : (A : Int) = i
      · rw [← e, hn]; simp
      · simp [e])
    have h1c : ∀ B : Fin 5, zc (fun k => decide ((B.1 : Int) = k)) 5 = 1 := by decide
    have := h1c ⟨A, by omega⟩
    simp only at this
    omega
def KF (z : Nat) (ρ ν : mj_M) : Prop := ν 69 5 = ρ z 4 ∧ (1 ≤ ρ z 4 ∧ ρ z 4 ≤ 5) ∧ ∀ i, 0 ≤ i → i < ρ z 4 → ν 69 (6 + i) = ρ (z + 2) i ∧ kyv (ρ (z + 2) i)
theorem s_keys {L d c x y w z : Nat} (hz : z = 31 ∨ z = 62) : ∀ k : Nat, 1 ≤ k → ∀ (ρ ν : mj_M) (f g : Int → Int) (mn s : Int) (v4 v5 : mj_V), TB (ρ 3) (ν 71) → RT (nxf (ρ 3) f) g → KR z ρ ν mn s → mn + k = 6 → mj_run L (d + 5) 161 6 [.inr (.inr 67), .inl mn, .inl s, .inl 1, v4, v5] [] c (pz x y w) (mj_ua ν 67 g) (fun r c' π' μ' => ∃ (ν' : mj_M) (g' : Int → Int), μ' = mj_ua ν' 67 g' ∧ r = [] ∧ c' = c ∧ π' = pz x y w ∧ RT (kl z k ρ f).2 (sgn g' 59) ∧ PG g' ∧ (∀ q, q ≠ 69 → ν' q = ν q) ∧ (∀ i, (i < 5 ∨ 11 ≤ i) → ν' 69 i = ν 69 i) ∧ (∀ i, ¬ (6 ≤ i ∧ i ≤ 11) → g' i = g i) ∧ ((kl z k ρ f).2 2 = 0 → KF z (kl z k ρ f).1 ν')) := by
  intro k
  induction k with
  | zero => intro h; omega
  | succ k ih =>
    intro hk ρ ν f g mn s v4 v5 hb h hkr hmk
    have ht : ∀ i, 0 ≤ ν 71 i := fun i => (hb i).2.1
    have hmn := hkr.2.1
    -- the sign
    have h1 : RT (rsf (ρ 3) f 43 45) (wtg g (if (g 8 = 3 ∧ g 9 = 43) ∨ (g 8 = 3 ∧ g 9 = 45) then 1 else 0) 2) := by
      have h0 := h
      obtain ⟨_, _, _, _, hd⟩ := h0
      unfold rsf
      refine RT_want h _ (fun q => ?_) (by decide)
      rcases hd with ⟨_, _, _, _, hk⟩ | ⟨a1, _⟩
      · unfold TKR at hk
        split <;> omega
      · exact absurd q a1
    by_cases hf : g 10 = 0
    · have hf2 : nxf (ρ 3) f 2 = 0 := by rw [← h.2.2.1]; exact hf
      have hls : v0 (rsf (ρ 3) f 43 45) 6 = 45 ↔ (rsf (ρ 3) f 43 45 2 = 0 ∧ g 8 = 3 ∧ g 9 = 45) := by
        have h0 := h
        obtain ⟨_, _, _, _, hd⟩ := h0
        have e6 : rsf (ρ 3) f 43 45 6 = nxf (ρ 3) f 6 := by unfold rsf; exact flf_o _ _ _ (by decide)
        unfold v0
        rcases hd with ⟨_, _, _, _, hk⟩ | ⟨a1, _⟩
        · unfold TKR at hk
          split <;> omega
        · exact absurd hf2 a1
      refine q_1 hf ?_
      generalize hg1 : wtg g (if (g 8 = 3 ∧ g 9 = 43) ∨ (g 8 = 3 ∧ g 9 = 45) then 1 else 0) 2 = g1 at *
      have hg1o : ∀ i, ¬ (6 ≤ i ∧ i ≤ 11) → g1 i = g i := fun i hi => by rw [← hg1]; exact wtg_o _ _ _ (by omega)
      have h2 : RT (nxf (ρ 3) (rsf (ρ 3) f 43 45)) (nxg (ν 71) g1) := RT_next hb h1
      refine q_2 (RT_PG h1) ht ?_
      intro g3 hg3
      have h3 : RT (flf (nxf (ρ 3) (rsf (ρ 3) f 43 45)) (nxf (ρ 3) (rsf (ρ 3) f 43 45) 6 = 1 ∧ 7 ≤ nxf (ρ 3) (rsf (ρ 3) f 43 45) 8) 2) g3 := by
        rw [hg3]
        have h0 := h2
        obtain ⟨_, _, _, _, hd⟩ := h0
        refine RT_want h2 _ (fun q => ?_) (by decide)
        rcases hd with ⟨_, _, _, _, hk⟩ | ⟨a1, _⟩
        · unfold TKR at hk
          split <;> omega
        · exact absurd q a1
      have hg3o : ∀ i, ¬ (6 ≤ i ∧ i ≤ 11) → g3 i = g i := fun i hi => by rw [hg3, wtg_o _ _ _ (by omega), nxg_o _ _ hi]; exact hg1o i hi
      have hrk : rkf ρ z (rsf (ρ 3) f 43 45) = flf (flf (nxf (ρ 3) (rsf (ρ 3) f 43 45)) (nxf (ρ 3) (rsf (ρ 3) f 43 45) 6 = 1 ∧ 7 ≤ nxf (ρ 3) (rsf (ρ 3) f 43 45) 8) 2) (iky ρ z (nxf (ρ 3) (rsf (ρ 3) f 43 45) 8 - 7) = false) 4 := rfl
      have hN : nxf (ρ 3) (rsf (ρ 3) f 43 45) 8 = flf (nxf (ρ 3) (rsf (ρ 3) f 43 45)) (nxf (ρ 3) (rsf (ρ 3) f 43 45) 6 = 1 ∧ 7 ≤ nxf (ρ 3) (rsf (ρ 3) f 43 45) 8) 2 8 := (flf_o _ _ _ (by decide)).symm
      have hrr : ∀ lf, rkr ρ z (rsf (ρ 3) f 43 45) lf = if rkf ρ z (rsf (ρ 3) f 43 45) 2 = 0 then aku ρ z (nxf (ρ 3) (rsf (ρ 3) f 43 45) 8 - 7) lf else ρ := fun _ => rfl
      have hg39 : g3 10 = 0 → (10 ≤ g3 9 ∧ g3 9 ≤ 14) ∧ g3 9 - 10 = nxf (ρ 3) (rsf (ρ 3) f 43 45) 8 - 7 := fun q => by
        have q2 : flf (nxf (ρ 3) (rsf (ρ 3) f 43 45)) (nxf (ρ 3) (rsf (ρ 3) f 43 45) 6 = 1 ∧ 7 ≤ nxf (ρ 3) (rsf (ρ 3) f 43 45) 8) 2 2 = 0 := by rw [← h3.2.2.1]; exact q
        generalize nxf (ρ 3) (rsf (ρ 3) f 43 45) = N at *
        have q3 : N 2 = 0 ∧ (N 6 = 1 ∧ 7 ≤ N 8) := by
          by_cases a : N 2 = 0
          · by_cases b : N 6 = 1 ∧ 7 ≤ N 8
            · exact ⟨a, b⟩
            · rw [flf_bad a b, g_ps] at q2; exact absurd q2 (by decide)
          · rw [flf_flt a] at q2; exact absurd q2 a
        obtain ⟨_, _, _, _, hd⟩ := h3
        rcases hd with ⟨_, _, _, _, hk⟩ | ⟨a1, _⟩
        · rw [flf_o (i := 6) _ _ _ (by decide), flf_o (i := 8) _ _ _ (by decide)] at hk
          unfold TKR at hk
          omega
        · exact absurd q2 a1
      refine q_3 (fun q => (hg39 q).1) ?_
      have h4 : RT (rkf ρ z (rsf (ρ 3) f 43 45)) (if g3 10 = 0 then wtg g3 (if mj_and (mj_shr s (g3 9 - 10)) 1 = 0 then 1 else 0) 4 else g3) := by
        rw [hrk]
        by_cases q : g3 10 = 0
        · have hq := hg39 q
          rw [if_pos q]
          refine RT_want h3 _ (fun _ => ?_) (by decide)
          obtain ⟨K, hK⟩ : ∃ K : Nat, g3 9 - 10 = K := ⟨(g3 9 - 10).toNat, by omega⟩
          rw [← hq.2, hK, hkr.2.2.2.1 K (by omega)]
          cases iky ρ z K <;> simp
        · have q' : ¬ flf (nxf (ρ 3) (rsf (ρ 3) f 43 45)) (nxf (ρ 3) (rsf (ρ 3) f 43 45) 6 = 1 ∧ 7 ≤ nxf (ρ 3) (rsf (ρ 3) f 43 45) 8) 2 2 = 0 := by rw [← h3.2.2.1]; exact q
          rw [if_neg q, flf_flt q']
          exact h3
      have hg4o : ∀ i, ¬ (6 ≤ i ∧ i ≤ 11) → (if g3 10 = 0 then wtg g3 (if mj_and (mj_shr s (g3 9 - 10)) 1 = 0 then 1 else 0) 4 else g3) i = g i := fun i hi => by
        split
        · rw [wtg_o _ _ _ (by omega)]; exact hg3o i hi
        · exact hg3o i hi
      have hky : 0 ≤ (if g3 10 = 0 then g3 9 - 10 else 0) ∧ (if g3 10 = 0 then g3 9 - 10 else 0) ≤ 4 := by
        split
        · next q => have := (hg39 q).1; omega
        · omega
      refine q_4 hmn hky (by split <;> omega) ?_
      generalize hg4 : (if g3 10 = 0 then wtg g3 (if mj_and (mj_shr s (g3 9 - 10)) 1 = 0 then 1 else 0) 4 else g3) = g4 at *
      have h5 : RT (nxf (ρ 3) (rkf ρ z (rsf (ρ 3) f 43 45))) (nxg (ν 71) g4) := RT_next hb h4
      have hgn : ∀ i, ¬ (6 ≤ i ∧ i ≤ 11) → nxg (ν 71) g4 i = g i := fun i hi => by rw [nxg_o _ _ hi]; exact hg4o i hi
      have hkl : kl z (k + 1) ρ f = if v0 (rsf (ρ 3) (rkf ρ z (rsf (ρ 3) f 43 45)) 44 59) 6 = 44 then kl z k (rkr ρ z (rsf (ρ 3) f 43 45) (if v0 (rsf (ρ 3) f 43 45) 6 = 45 then 1 else 0)) (rsf (ρ 3) (rkf ρ z (rsf (ρ 3) f 43 45)) 44 59) else (rkr ρ z (rsf (ρ 3) f 43 45) (if v0 (rsf (ρ 3) f 43 45) 6 = 45 then 1 else 0), rsf (ρ 3) (rkf ρ z (rsf (ρ 3) f 43 45)) 44 59) := rfl
      generalize hF3 : rsf (ρ 3) (rkf ρ z (rsf (ρ 3) f 43 45)) 44 59 = F3 at *
      have hF3' : F3 = flf (nxf (ρ 3) (rkf ρ z (rsf (ρ 3) f 43 45))) (nxf (ρ 3) (rkf ρ z (rsf (ρ 3) f 43 45)) 6 = 44 ∨ nxf (ρ 3) (rkf ρ z (rsf (ρ 3) f 43 45)) 6 = 59) 2 := hF3.symm
      by_cases q4 : g4 10 = 0
      · have q4' : rkf ρ z (rsf (ρ 3) f 43 45) 2 = 0 := by rw [← h4.2.2.1]; exact q4
        have q3 : g3 10 = 0 := by
          by_cases a : g3 10 = 0
          · exact a
          · rw [if_neg a] at hg4; rw [← hg4] at q4; exact absurd q4 a
        have hq := hg39 q3
        have q1 : rsf (ρ 3) f 43 45 2 = 0 := by
          by_cases a : rsf (ρ 3) f 43 45 2 = 0
          · exact a
          · have : ¬ g1 10 = 0 := by rw [h1.2.2.1]; exact a
            rw [nxg_flt this, wtg_f this] at hg3
            rw [hg3] at q3; exact absurd q3 this
        have hni : iky ρ z (g3 9 - 10) = false := by
          cases e : iky ρ z (g3 9 - 10)
          · rfl
          · have q2 : flf (nxf (ρ 3) (rsf (ρ 3) f 43 45)) (nxf (ρ 3) (rsf (ρ 3) f 43 45) 6 = 1 ∧ 7 ≤ nxf (ρ 3) (rsf (ρ 3) f 43 45) 8) 2 2 = 0 := by rw [← h3.2.2.1]; exact q3
            rw [hrk, flf_bad q2 (by rw [← hq.2, e]; decide), g_ps] at q4'
            exact absurd q4' (by decide)
        have hlf : (if v0 (rsf (ρ 3) f 43 45) 6 = 45 then (1 : Int) else 0) = 0 ∨ (if v0 (rsf (ρ 3) f 43 45) 6 = 45 then (1 : Int) else 0) = 1 := by split <;> omega
        have hle : (if g 8 = 3 ∧ g 9 = 45 then (10 : Int) else 0) = if (if v0 (rsf (ρ 3) f 43 45) 6 = 45 then (1 : Int) else 0) = 0 then 0 else 10 := by
          by_cases a : v0 (rsf (ρ 3) f 43 45) 6 = 45
          · rw [if_pos (hls.mp a).2, if_pos a]; rfl
          · rw [if_neg (fun b => a (hls.mpr ⟨q1, b⟩)), if_neg a]; rfl
        have hkr2 := KR_add hkr hni (by omega) hlf
        have hm4 : mn ≤ 4 := by have := hkr2.2.1; omega
        have hrr2 := hrr (if v0 (rsf (ρ 3) f 43 45) 6 = 45 then 1 else 0)
        rw [if_pos q4', ← hq.2] at hrr2
        rw [← hrr2, ← hle] at hkr2
        simp only [q4, q3, if_true]
        generalize hlf2 : (if v0 (rsf (ρ 3) f 43 45) 6 = 45 then (1 : Int) else 0) = lf at *
        have e3 : rkr ρ z (rsf (ρ 3) f 43 45) lf 3 = ρ 3 := rkr_o (by omega)
        generalize rkr ρ z (rsf (ρ 3) f 43 45) lf = ρ' at *
        have e71 : ∀ a b, mj_up ν 69 a b 71 = ν 71 := fun a b => g_un (by decide)
        refine q_5 (RT_PG h4) (by rw [e71]; exact RT_PG h5) (by rw [e71]; exact ht) ?_
        rw [e71]
        by_cases q5 : nxg (ν 71) g4 10 = 0
        · have q5' : nxf (ρ 3) (rkf ρ z (rsf (ρ 3) f 43 45)) 2 = 0 := by rw [← h5.2.2.1]; exact q5
          have htk : (nxf (ρ 3) (rkf ρ z (rsf (ρ 3) f 43 45)) 6 = 44 ↔ (nxg (ν 71) g4 8 = 3 ∧ nxg (ν 71) g4 9 = 44)) ∧ (nxf (ρ 3) (rkf ρ z (rsf (ρ 3) f 43 45)) 6 = 59 ↔ (nxg (ν 71) g4 8 = 3 ∧ nxg (ν 71) g4 9 = 59)) := by
            have h0 := h5
            obtain ⟨_, _, _, _, hd⟩ := h0
            rcases hd with ⟨_, _, _, _, hk⟩ | ⟨a1, _⟩
            · unfold TKR at hk
              omega
            · exact absurd q5' a1
          by_cases q6 : nxf (ρ 3) (rkf ρ z (rsf (ρ 3) f 43 45)) 6 = 44
          · have q6' := htk.1.mp q6
            have eF3 : F3 = nxf (ρ 3) (rkf ρ z (rsf (ρ 3) f 43 45)) := by rw [hF3']; exact flf_ok (Or.inl q6)
            have ev : v0 F3 6 = 44 := by unfold v0; rw [eF3, if_pos q5']; exact q6
            rw [if_pos ev] at hkl
            rw [if_pos q6', if_pos q6']
            have h6 : RT (nxf (ρ' 3) F3) (nxg (ν 71) (nxg (ν 71) g4)) := by rw [e3, eF3]; exact RT_next hb h5
            have ih2 := ih (by have := hkr2.2.1; omega) ρ' (mj_up ν 69 (6 + mn) (g3 9 - 10 + if g 8 = 3 ∧ g 9 = 45 then 10 else 0)) F3 (nxg (ν 71) (nxg (ν 71) g4)) (mn + 1) (mj_or s (mj_shl 1 (g3 9 - 10))) (.inl (if g 8 = 3 ∧ g 9 = 45 then 10 else 0)) (.inl (g3 9 - 10)) (by rw [e3, e71]; exact hb) h6 hkr2 (by omega)
            rw [hkl]
            refine mj_run_mono ih2 (fun r c' π' μ' ⟨ν', g', a1, a2, a3, a4, a5, a6, a7, a8, a9, a10⟩ => ⟨ν', g', a1, a2, a3, a4, a5, a6, fun q hq => by rw [a7 q hq]; exact g_un hq, fun i hi => by rw [a8 i hi, g_us]; exact g_pn (by omega), fun i hi => by rw [a9 i hi, nxg_o _ _ hi]; exact hgn i hi, a10⟩)
          · have q6' : ¬ (nxg (ν 71) g4 8 = 3 ∧ nxg (ν 71) g4 9 = 44) := fun a => q6 (htk.1.mpr a)
            have ev : ¬ v0 F3 6 = 44 := by
              unfold v0
              rw [hF3', flf_o (i := 6) _ _ _ (by decide)]
              split
              · exact q6
              · decide
            rw [if_neg ev] at hkl
            rw [if_neg q6', if_neg q6', hkl]
            refine q_x (Or.inl rfl) ⟨_, _, rfl, rfl, rfl, rfl, ?_, RT_PG h5, fun q hq => by rw [g_un hq, g_un hq], fun i hi => by rw [g_us, g_pn (by omega), g_us]; exact g_pn (by omega), hgn, fun _ => ?_⟩
            · show RT F3 _
              rw [hF3']
              unfold sgn
              refine RT_want h5 _ (fun _ => ?_) (by decide)
              split <;> omega
            · obtain ⟨b1, b2, b3, _⟩ := hkr2
              refine ⟨?_, ?_, fun i p r => ?_⟩
              · show mj_up _ 69 5 _ 69 5 = ρ' z 4
                rw [g_us, g_ps, b1]
              · show 1 ≤ ρ' z 4 ∧ ρ' z 4 ≤ 5
                omega
              · change i < ρ' z 4 at r
                have := b3 i p (by omega)
                show mj_up _ 69 5 _ 69 (6 + i) = ρ' (z + 2) i ∧ _
                rw [g_us, g_pn (by omega)]
                exact this
        · have q5' : ¬ nxf (ρ 3) (rkf ρ z (rsf (ρ 3) f 43 45)) 2 = 0 := by rw [← h5.2.2.1]; exact q5
          have eF3 : F3 = nxf (ρ 3) (rkf ρ z (rsf (ρ 3) f 43 45)) := by rw [hF3']; exact flf_flt q5'
          have ev : ¬ v0 F3 6 = 44 := by unfold v0; rw [eF3, if_neg q5']; decide
          rw [if_neg ev] at hkl
          have en : (if nxg (ν 71) g4 8 = 3 ∧ nxg (ν 71) g4 9 = 44 then nxg (ν 71) (nxg (ν 71) g4) else nxg (ν 71) g4) = nxg (ν 71) g4 := by
            split
            · exact nxg_flt q5
            · rfl
          rw [en, hkl]
          refine q_x (Or.inr q5) ⟨_, _, rfl, rfl, rfl, rfl, ?_, RT_PG h5, fun q hq => by rw [g_un hq, g_un hq], fun i hi => by rw [g_us, g_pn (by omega), g_us]; exact g_pn (by omega), hgn, fun a => ?_⟩
          · show RT F3 _
            rw [eF3]
            unfold sgn
            rw [wtg_f q5]; exact h5
          · change F3 2 = 0 at a
            rw [eF3] at a; exact absurd a q5'
      · have q4' : ¬ rkf ρ z (rsf (ρ 3) f 43 45) 2 = 0 := by rw [← h4.2.2.1]; exact q4
        have eF3 : F3 = rkf ρ z (rsf (ρ 3) f 43 45) := by rw [← hF3]; exact rsf_flt q4'
        have ev : ¬ v0 F3 6 = 44 := by unfold v0; rw [eF3, if_neg q4']; decide
        rw [if_neg ev] at hkl
        have ng : nxg (ν 71) g4 = g4 := nxg_flt q4
        simp only [q4, if_false]
        refine q_5 (RT_PG h4) (by rw [ng]; exact RT_PG h4) ht ?_
        have en : (if nxg (ν 71) g4 8 = 3 ∧ nxg (ν 71) g4 9 = 44 then nxg (ν 71) (nxg (ν 71) g4) else nxg (ν 71) g4) = g4 := by
          rw [ng, ng]
          split <;> rfl
        rw [en, hkl]
        refine q_x (Or.inr q4) ⟨_, _, rfl, rfl, rfl, rfl, ?_, RT_PG h4, fun q hq => g_un hq, fun i hi => by rw [g_us]; exact g_pn (by omega), hg4o, fun a => ?_⟩
        · show RT F3 _
          rw [eF3]
          unfold sgn
          rw [wtg_f q4]; exact h4
        · change F3 2 = 0 at a
          rw [eF3] at a; exact absurd a q4'
    · have hf2 : ¬ nxf (ρ 3) f 2 = 0 := by rw [← h.2.2.1]; exact hf
      have e1 : rsf (ρ 3) f 43 45 = nxf (ρ 3) f := by unfold rsf; exact flf_flt hf2
      have e2 : rkf ρ z (nxf (ρ 3) f) = nxf (ρ 3) f := by unfold rkf; rw [nxf_flt (f := nxf (ρ 3) f) hf2, flf_flt (f := nxf (ρ 3) f) hf2, flf_flt hf2]
      have e3 : rsf (ρ 3) (nxf (ρ 3) f) 44 59 = nxf (ρ 3) f := rsf_flt hf2
      have e4 : ∀ lf, rkr ρ z (nxf (ρ 3) f) lf = ρ := fun lf => by unfold rkr; rw [e2, if_neg hf2]
      have hkl : kl z (k + 1) ρ f = (ρ, nxf (ρ 3) f) := by
        unfold kl
        rw [e1, e2, e3, if_neg (by unfold v0; rw [if_neg hf2]; decide), e4]
      rw [hkl]
      refine q_x (Or.inr hf) ⟨_, _, rfl, rfl, rfl, rfl, ?_, RT_PG h, fun q hq => g_un hq, fun i hi => by rw [g_us]; exact g_pn (by omega), fun _ _ => rfl, fun a => absurd a hf2⟩
      unfold sgn
      rw [wtg_f hf]; exact h
