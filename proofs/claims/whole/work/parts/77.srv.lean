set_option maxRecDepth 20000
/-! both sides take a step -/
theorem JJ_upd {x y : Nat} {μ ν μ' ν' : mj_M} (h : JJ x y μ ν)
    (hm : ∀ q : Nat, (q < 67 ∨ 108 ≤ q) → ¬ (14 ≤ q ∧ q ≤ 17) → ¬ (21 ≤ q ∧ q ≤ 22) → ¬ (27 ≤ q ∧ q ≤ 29) → μ' q = μ q)
    (hn : ∀ q : Nat, (67 ≤ q ∧ q < 1000) → ¬ (79 ≤ q ∧ q ≤ 82) → ¬ (86 ≤ q ∧ q ≤ 87) → ¬ (91 ≤ q ∧ q ≤ 92) → ν' q = ν q)
    (c1 : ν' 79 = μ' 14 ∧ ν' 80 = μ' 15 ∧ ν' 81 = μ' 16 ∧ ν' 82 = μ' 17) (c2 : ν' 86 = μ' 21) (c3 : ν' 91 = μ' 27 ∧ ν' 92 = μ' 28)
    (jc : JC (μ 5 7) (μ 12 5) (μ 18 4) (μ 4 7) (μ 13) (μ' 14) (μ' 15) (μ' 16) (μ' 17)) (jl : JL (μ 18 4) (μ 19) (μ 20) (μ' 21))
    (jq : JQ (μ 23 5) (μ 18 4) (μ 5 7) (μ 4 7) (μ 24) (μ 25) (μ 26) (μ' 27)) (jt : JLt (μ 18 4) (μ 4 7) (μ' 22) (ν' 87)) : JJ x y μ' ν' := by
  have e1 := hm 1 (by omega) (by omega) (by omega) (by omega)
  have e2 := hm 2 (by omega) (by omega) (by omega) (by omega)
  have e3 := hm 3 (by omega) (by omega) (by omega) (by omega)
  have e4 := hm 4 (by omega) (by omega) (by omega) (by omega)
  have e5 := hm 5 (by omega) (by omega) (by omega) (by omega)
  have e6 := hm 6 (by omega) (by omega) (by omega) (by omega)
  have e7 := hm 7 (by omega) (by omega) (by omega) (by omega)
  have e8 := hm 8 (by omega) (by omega) (by omega) (by omega)
  have e9 := hm 9 (by omega) (by omega) (by omega) (by omega)
  have e10 := hm 10 (by omega) (by omega) (by omega) (by omega)
  have e11 := hm 11 (by omega) (by omega) (by omega) (by omega)
  have e12 := hm 12 (by omega) (by omega) (by omega) (by omega)
  have e13 := hm 13 (by omega) (by omega) (by omega) (by omega)
  have e18 := hm 18 (by omega) (by omega) (by omega) (by omega)
  have e19 := hm 19 (by omega) (by omega) (by omega) (by omega)
  have e20 := hm 20 (by omega) (by omega) (by omega) (by omega)
  have e23 := hm 23 (by omega) (by omega) (by omega) (by omega)
  have e24 := hm 24 (by omega) (by omega) (by omega) (by omega)
  have e25 := hm 25 (by omega) (by omega) (by omega) (by omega)
  have e26 := hm 26 (by omega) (by omega) (by omega) (by omega)
  have e30 := hm 30 (by omega) (by omega) (by omega) (by omega)
  have e31 := hm 31 (by omega) (by omega) (by omega) (by omega)
  have e32 := hm 32 (by omega) (by omega) (by omega) (by omega)
  have e33 := hm 33 (by omega) (by omega) (by omega) (by omega)
  have e34 := hm 34 (by omega) (by omega) (by omega) (by omega)
  have e35 := hm 35 (by omega) (by omega) (by omega) (by omega)
  have e36 := hm 36 (by omega) (by omega) (by omega) (by omega)
  have e37 := hm 37 (by omega) (by omega) (by omega) (by omega)
  have e38 := hm 38 (by omega) (by omega) (by omega) (by omega)
  have e39 := hm 39 (by omega) (by omega) (by omega) (by omega)
  have e40 := hm 40 (by omega) (by omega) (by omega) (by omega)
  have e41 := hm 41 (by omega) (by omega) (by omega) (by omega)
  have e52 := hm 52 (by omega) (by omega) (by omega) (by omega)
  have e53 := hm 53 (by omega) (by omega) (by omega) (by omega)
  have e54 := hm 54 (by omega) (by omega) (by omega) (by omega)
  have e109 := hm 109 (by omega) (by omega) (by omega) (by omega)
  have e55 := hm 55 (by omega) (by omega) (by omega) (by omega)
  have e56 := hm 56 (by omega) (by omega) (by omega) (by omega)
  have e59 := hm 59 (by omega) (by omega) (by omega) (by omega)
  have e60 := hm 60 (by omega) (by omega) (by omega) (by omega)
  have e61 := hm 61 (by omega) (by omega) (by omega) (by omega)
  have e62 := hm 62 (by omega) (by omega) (by omega) (by omega)
  have e63 := hm 63 (by omega) (by omega) (by omega) (by omega)
  have e64 := hm 64 (by omega) (by omega) (by omega) (by omega)
  have e65 := hm 65 (by omega) (by omega) (by omega) (by omega)
  have e66 := hm 66 (by omega) (by omega) (by omega) (by omega)
  have e1000 := hm 1000 (by omega) (by omega) (by omega) (by omega)
  have e1001 := hm 1001 (by omega) (by omega) (by omega) (by omega)
  have e1002 := hm 1002 (by omega) (by omega) (by omega) (by omega)
  have e1003 := hm 1003 (by omega) (by omega) (by omega) (by omega)
  have e67 := hn 67 (by omega) (by omega) (by omega) (by omega)
  have e68 := hn 68 (by omega) (by omega) (by omega) (by omega)
  have e71 := hn 71 (by omega) (by omega) (by omega) (by omega)
  have e72 := hn 72 (by omega) (by omega) (by omega) (by omega)
  have e73 := hn 73 (by omega) (by omega) (by omega) (by omega)
  have e74 := hn 74 (by omega) (by omega) (by omega) (by omega)
  have e75 := hn 75 (by omega) (by omega) (by omega) (by omega)
  have e76 := hn 76 (by omega) (by omega) (by omega) (by omega)
  have e77 := hn 77 (by omega) (by omega) (by omega) (by omega)
  have e78 := hn 78 (by omega) (by omega) (by omega) (by omega)
  have e83 := hn 83 (by omega) (by omega) (by omega) (by omega)
  have e84 := hn 84 (by omega) (by omega) (by omega) (by omega)
  have e85 := hn 85 (by omega) (by omega) (by omega) (by omega)
  have e88 := hn 88 (by omega) (by omega) (by omega) (by omega)
  have e89 := hn 89 (by omega) (by omega) (by omega) (by omega)
  have e90 := hn 90 (by omega) (by omega) (by omega) (by omega)
  have e100 := hn 100 (by omega) (by omega) (by omega) (by omega)
  have e101 := hn 101 (by omega) (by omega) (by omega) (by omega)
  have e102 := hn 102 (by omega) (by omega) (by omega) (by omega)
  have e103 := hn 103 (by omega) (by omega) (by omega) (by omega)
  have e104 := hn 104 (by omega) (by omega) (by omega) (by omega)
  have e105 := hn 105 (by omega) (by omega) (by omega) (by omega)
  have e106 := hn 106 (by omega) (by omega) (by omega) (by omega)
  have e107 := hn 107 (by omega) (by omega) (by omega) (by omega)
  clear hm hn
  obtain ⟨⟨a1, a2, a3, a4, a5, a6, a7, a8, a9, a10, a11⟩, b1, b2, b3, b4, b5, b6, b7, b8, b9, b10⟩ := h
  rcases a1 with ⟨rfl, rfl⟩ | ⟨rfl, rfl⟩
  all_goals (
    unfold JJ JA
    simp only [Nat.reduceAdd, e1, e2, e3, e4, e5, e6, e7, e8, e9, e10, e11, e12, e13, e18, e19, e20, e23, e24, e25, e26, e30, e31, e32, e33, e34, e35, e36, e37, e38, e39, e40, e41, e52, e53, e54, e109, e55, e56, e59, e60, e61, e62, e63, e64, e65, e66, e1000, e1001, e1002, e1003, e67, e68, e71, e72, e73, e74, e75, e76, e77, e78, e83, e84, e85, e88, e89, e90, e100, e101, e102, e103, e104, e105, e106, e107] at *
    exact ⟨⟨by decide, a2, a3, jc, a5, jl, jq, a8, a9, a10, a11⟩, b1, b2, ⟨b3.1, c1.1, c1.2.1, c1.2.2.1, c1.2.2.2, b3.2.2.2.2.2⟩, ⟨b4.1, b4.2.1, c2⟩, ⟨b5.1, b5.2.1, b5.2.2.1, c3.1, c3.2⟩, b6, jt, b8, b9, b10⟩)
theorem JJ_ua {x y : Nat} {μ ν : mj_M} {f : Int → Int} (h : JJ x y μ ν) : JJ x y (mj_ua μ 29 f) ν := by
  rcases h.a.xy with ⟨rfl, rfl⟩ | ⟨rfl, rfl⟩ <;> exact h
theorem JC_arr {t n l d : Int} {ti wh li pl si : Int → Int} (h : JC t n l d ti wh li pl si) {c v : Int} (hc : 0 ≤ c ∧ c < n) (hw : 1 ≤ wh c ∧ wh c ≤ 3) (hd : 0 ≤ d) : JC t n l d ti (mj_pt wh c 2) li (mj_pt pl c v) (mj_pt si c d) := by
  have h1 := h.1 c hc.1 hc.2
  refine ⟨fun i a b => ?_, fun i a => ?_⟩
  · have h2 := h.1 i a b
    simp only [g_pe]
    by_cases e : i = c
    · subst e; simp only [if_true]; omega
    · simp only [e, if_false]; exact h2
  · rw [g_pn (by omega)]; exact h.2 i a
theorem JL_cs {n : Int} {to lk cs : Int → Int} (h : JL n to lk cs) {l v : Int} (hl : l < n) : JL n to lk (mj_pt cs l v) := by
  refine ⟨h.1, fun i a => ?_⟩
  rw [g_pn (by omega)]; exact h.2 i a
theorem JLt_at2 {n d : Int} {f g : Int → Int} (h : JLt n d f g) {l t : Int} (hl : l < n) (ht : t < 12) (hd : 0 ≤ d) : JLt n d (mj_pt f (l * 12 + t) d) (mj_pt g (l * 12 + t) d) := by
  refine ⟨fun i a => ?_, fun i a b => ?_, fun i => ?_⟩
  · simp only [g_pe]
    split
    · rfl
    · exact h.1 i a
  · rw [g_pn (by omega)]; exact h.2.1 i a b
  · simp only [g_pe]
    split
    · omega
    · exact h.2.2 i
theorem JJ_arr {x y : Nat} {μ ν : mj_M} {c : Int} (h : JJ x y μ ν) (hc : 0 ≤ c ∧ c < μ 12 5) (hw : 1 ≤ μ 14 c ∧ μ 14 c ≤ 3) : JJ x y (arr μ c) (arrM ν c) := by
  have hn := h.a.n
  unfold JN at hn
  have h1 := h.a.co.1 c hc.1 hc.2
  have he := h.en
  have hec := h.ec
  have hel := h.el
  refine JJ_upd h (fun q a1 a2 a3 a4 => ?_) (fun q a1 a2 a3 a4 => ?_) ?_ ?_ ?_ ?_ ?_ ?_ ?_
  · unfold arr; simp (disch := omega) only [g_un]
  · unfold arrM; simp (disch := omega) only [g_un]
  all_goals (unfold arr)
  all_goals (try unfold arrM)
  all_goals (simp only [g_us, g_un, g_ps, g_pn, if_true, if_false, ne_eq, not_false_eq_true, Nat.reduceEqDiff, Int.reduceEq, reduceCtorEq, mj_pt_pt, mj_pt_id, Int.add_sub_cancel])
  · simp only [hec, he, and_self]
  · simp only [hec, hel]
  · exact ⟨h.eq.2.2.2.1, h.eq.2.2.2.2⟩
  · exact JC_arr h.a.co hc hw (by omega)
  · exact JL_cs h.a.li (by omega)
  · exact h.a.rq
  · simp only [hec, he]
    exact JLt_at2 h.lt (by omega) (by omega) (by omega)
theorem JJ_hom {x y : Nat} {μ ν : mj_M} {c : Int} (h : JJ x y μ ν) (hc : 0 ≤ c ∧ c < μ 12 5) : JJ x y (hom μ x c) (homM ν c) := by
  have hn := h.a.n
  unfold JN at hn
  have he := h.en
  have hec := h.ec
  have r3 := h.ru.1 3 (by decide) (by decide)
  refine JJ_upd h (fun q a1 a2 a3 a4 => ?_) (fun q a1 a2 a3 a4 => ?_) ?_ ?_ ?_ ?_ ?_ ?_ ?_
  · unfold hom; simp (disch := omega) only [g_un]
  · unfold homM; simp (disch := omega) only [g_un]
  all_goals (unfold hom)
  all_goals (try unfold homM)
  all_goals (simp only [g_us, g_un, g_ps, g_pn, if_true, if_false, ne_eq, not_false_eq_true, Nat.reduceEqDiff, Int.reduceEq, reduceCtorEq, mj_pt_pt, mj_pt_id, Int.add_sub_cancel])
  · simp only [hec, he, r3, and_self]
  · exact h.el.2.2
  · exact ⟨h.eq.2.2.2.1, h.eq.2.2.2.2⟩
  · exact JC_put h.a.co (by split <;> omega) (by split <;> omega) (by split <;> omega) (by omega)
  · exact h.a.li
  · exact h.a.rq
  · exact h.lt
theorem JJ_snd0 {x y : Nat} {μ ν : mj_M} {c r : Int} (h : JJ x y μ ν) (hc : 0 ≤ c ∧ c < μ 12 5) (hr : 0 ≤ r ∧ r < μ 23 5) : JJ x y (snd0 μ c r) (sndM0 ν c r) := by
  have hn := h.a.n
  unfold JN at hn
  have he := h.en
  have hec := h.ec
  have heq := h.eq
  have h1 := h.a.rq r hr.1 hr.2
  refine JJ_upd h (fun q a1 a2 a3 a4 => ?_) (fun q a1 a2 a3 a4 => ?_) ?_ ?_ ?_ ?_ ?_ ?_ ?_
  · unfold snd0; simp (disch := omega) only [g_un]
  · unfold sndM0; simp (disch := omega) only [g_un]
  all_goals (unfold snd0)
  all_goals (try unfold sndM0)
  all_goals (simp only [g_us, g_un, g_ps, g_pn, if_true, if_false, ne_eq, not_false_eq_true, Nat.reduceEqDiff, Int.reduceEq, reduceCtorEq, mj_pt_pt, mj_pt_id, Int.add_sub_cancel])
  · simp only [hec, he, heq, mj_pt_pt, and_self]
  · exact h.el.2.2
  · simp only [heq, and_self]
  · exact JC_put h.a.co (by omega) (by omega) (by omega) (by omega)
  · exact h.a.li
  · exact JQ_state h.a.rq (by omega)
  · exact h.lt
theorem JJ_snd {x y : Nat} {μ ν : mj_M} {c r : Int} (h : JJ x y μ ν) (hc : 0 ≤ c ∧ c < μ 12 5) (hr : 0 ≤ r ∧ r < μ 23 5) : JJ x y (snd μ x c r) (sndM ν c r) := by
  have r2 := h.ru.1 2 (by decide) (by decide)
  have h0 := JJ_snd0 h hc hr
  unfold snd sndM
  rw [r2]
  split
  · refine JJ_arr h0 ?_ ?_
    · unfold snd0; simp only [g_us, g_un, g_ps, g_pn, if_true, if_false, ne_eq, not_false_eq_true, Nat.reduceEqDiff, Int.reduceEq, reduceCtorEq, mj_pt_pt, mj_pt_id, Int.add_sub_cancel]; exact hc
    · unfold snd0; simp only [g_us, g_un, g_ps, g_pn, if_true, if_false, ne_eq, not_false_eq_true, Nat.reduceEqDiff, Int.reduceEq, reduceCtorEq, mj_pt_pt, mj_pt_id, Int.add_sub_cancel]; omega
  · exact h0
