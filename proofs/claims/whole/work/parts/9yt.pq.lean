set_option maxRecDepth 20000
/-! the reference lays its rooms and costs -/
def rt_I (cn wt : Int → Int → Int) (ra cb : Int → Int) (μ ν : mj_M) (m n p : Int) : Prop := (∀ q : Nat, q ≠ 93 → q ≠ 94 → ν q = μ q) ∧ ∀ u v : Int, 0 ≤ u → u < 24 → 0 ≤ v → v < 24 →
  ν 93 (24 * u + v) = (if u = 0 ∧ 1 ≤ v ∧ v ≤ 10 then (if v - 1 < m then ra (v - 1) else 0) else if (1 ≤ u ∧ u ≤ 10) ∧ 11 ≤ v ∧ v ≤ 22 then (if (u - 1) * 12 + (v - 11) < n then cn (u - 1) (v - 11) else 0) else if (11 ≤ u ∧ u ≤ 22) ∧ v = 23 then (if u - 11 < p then cb (u - 11) else 0) else 0) ∧
  ν 94 (24 * u + v) = (if (1 ≤ u ∧ u ≤ 10) ∧ 11 ≤ v ∧ v ≤ 22 then (if (u - 1) * 12 + (v - 11) < n then -wt (u - 1) (v - 11) else 0) else if (11 ≤ u ∧ u ≤ 22) ∧ 1 ≤ v ∧ v ≤ 10 then (if (v - 1) * 12 + (u - 11) < n then wt (v - 1) (u - 11) else 0) else 0)
section
variable {cn wt : Int → Int → Int} {ra cb : Int → Int} {μ ν : mj_M} {m n p l t : Int}
theorem rt_a (hl : 0 ≤ l ∧ l < 10) (h : rt_I cn wt ra cb μ ν l n p) : rt_I cn wt ra cb μ (mj_up ν 93 (1 + l) (ra l)) (l + 1) n p := by
  refine ⟨fun q a b => by rw [g_un a]; exact h.1 q a b, fun u v a1 a2 b1 b2 => ⟨?_, by rw [g_un (by decide)]; exact (h.2 u v a1 a2 b1 b2).2⟩⟩
  have hh := (h.2 u v a1 a2 b1 b2).1
  rw [g_us]
  by_cases e : 24 * u + v = 1 + l
  · rw [e, g_ps, if_pos (by omega), if_pos (by omega), show v - 1 = l by omega]
  · rw [g_pn e, hh]
    by_cases b : u = 0 ∧ 1 ≤ v ∧ v ≤ 10
    · rw [if_pos b, if_pos b]
      by_cases z : v - 1 < l
      · rw [if_pos z, if_pos (by omega)]
      · rw [if_neg z, if_neg (by omega)]
    · rw [if_neg b, if_neg b]
theorem rt_c (ht : 0 ≤ t ∧ t < 12) (h : rt_I cn wt ra cb μ ν m n t) : rt_I cn wt ra cb μ (mj_up ν 93 (24 * (11 + t) + 23) (cb t)) m n (t + 1) := by
  refine ⟨fun q a b => by rw [g_un a]; exact h.1 q a b, fun u v a1 a2 b1 b2 => ⟨?_, by rw [g_un (by decide)]; exact (h.2 u v a1 a2 b1 b2).2⟩⟩
  have hh := (h.2 u v a1 a2 b1 b2).1
  rw [g_us]
  by_cases e : 24 * u + v = 24 * (11 + t) + 23
  · rw [e, g_ps, if_neg (by omega), if_neg (by omega), if_pos (by omega), if_pos (by omega), show u - 11 = t by omega]
  · rw [g_pn e, hh]
    by_cases b1 : u = 0 ∧ 1 ≤ v ∧ v ≤ 10
    · rw [if_pos b1, if_pos b1]
    · rw [if_neg b1, if_neg b1]
      by_cases b2 : (1 ≤ u ∧ u ≤ 10) ∧ 11 ≤ v ∧ v ≤ 22
      · rw [if_pos b2, if_pos b2]
      · rw [if_neg b2, if_neg b2]
        by_cases b : (11 ≤ u ∧ u ≤ 22) ∧ v = 23
        · rw [if_pos b, if_pos b]
          by_cases z : u - 11 < t
          · rw [if_pos z, if_pos (by omega)]
          · rw [if_neg z, if_neg (by omega)]
        · rw [if_neg b, if_neg b]
theorem rt_b (hl : 0 ≤ l ∧ l < 10) (ht : 0 ≤ t ∧ t < 12) (h : rt_I cn wt ra cb μ ν m (l * 12 + t) p) : rt_I cn wt ra cb μ (mj_up (mj_up (mj_up ν 93 (24 * (1 + l) + (11 + t)) (cn l t)) 94 (24 * (1 + l) + (11 + t)) (-wt l t)) 94 (24 * (11 + t) + (1 + l)) (wt l t)) m (l * 12 + (t + 1)) p := by
  refine ⟨fun q a b => by rw [g_un b, g_un b, g_un a]; exact h.1 q a b, fun u v a1 a2 b1 b2 => ⟨?_, ?_⟩⟩
  · have hh := (h.2 u v a1 a2 b1 b2).1
    rw [g_un (by decide), g_un (by decide), g_us]
    by_cases e : 24 * u + v = 24 * (1 + l) + (11 + t)
    · rw [e, g_ps, if_neg (by omega), if_pos (by omega), if_pos (by omega), show u - 1 = l by omega, show v - 11 = t by omega]
    · rw [g_pn e, hh]
      by_cases b1 : u = 0 ∧ 1 ≤ v ∧ v ≤ 10
      · rw [if_pos b1, if_pos b1]
      · rw [if_neg b1, if_neg b1]
        by_cases b2 : (1 ≤ u ∧ u ≤ 10) ∧ 11 ≤ v ∧ v ≤ 22
        · rw [if_pos b2, if_pos b2]
          by_cases z : (u - 1) * 12 + (v - 11) < l * 12 + t
          · rw [if_pos z, if_pos (by omega)]
          · rw [if_neg z, if_neg (by omega)]
        · rw [if_neg b2, if_neg b2]
  · have hh := (h.2 u v a1 a2 b1 b2).2
    rw [g_us]
    by_cases e : 24 * u + v = 24 * (11 + t) + (1 + l)
    · rw [e, g_ps, if_neg (by omega), if_pos (by omega), if_pos (by omega), show v - 1 = l by omega, show u - 11 = t by omega]
    · rw [g_pn e, g_us]
      by_cases e2 : 24 * u + v = 24 * (1 + l) + (11 + t)
      · rw [e2, g_ps, if_pos (by omega), if_pos (by omega), show u - 1 = l by omega, show v - 11 = t by omega]
      · rw [g_pn e2]
        show ν 94 (24 * u + v) = _
        rw [hh]
        by_cases b1 : (1 ≤ u ∧ u ≤ 10) ∧ 11 ≤ v ∧ v ≤ 22
        · rw [if_pos b1, if_pos b1]
          by_cases z : (u - 1) * 12 + (v - 11) < l * 12 + t
          · rw [if_pos z, if_pos (by omega)]
          · rw [if_neg z, if_neg (by omega)]
        · rw [if_neg b1, if_neg b1]
          by_cases b2 : (11 ≤ u ∧ u ≤ 22) ∧ 1 ≤ v ∧ v ≤ 10
          · rw [if_pos b2, if_pos b2]
            by_cases z : (v - 1) * 12 + (u - 11) < l * 12 + t
            · rw [if_pos z, if_pos (by omega)]
            · rw [if_neg z, if_neg (by omega)]
          · rw [if_neg b2, if_neg b2]
/-- places where there is nothing may be passed over -/
theorem rt_skip {m' n' p' : Int} (hm : m ≤ m') (hn : n ≤ n') (hp : p ≤ p') (h1 : ∀ l : Int, m ≤ l → l < m' → ra l = 0) (h2 : ∀ l t : Int, 0 ≤ l → l < 10 → 0 ≤ t → t < 12 → n ≤ l * 12 + t → l * 12 + t < n' → cn l t = 0 ∧ wt l t = 0) (h3 : ∀ t : Int, p ≤ t → t < p' → cb t = 0) (h : rt_I cn wt ra cb μ ν m n p) : rt_I cn wt ra cb μ ν m' n' p' := by
  refine ⟨h.1, fun u v a1 a2 b1 b2 => ?_⟩
  obtain ⟨e1, e2⟩ := h.2 u v a1 a2 b1 b2
  refine ⟨?_, ?_⟩
  · rw [e1]
    by_cases c1 : u = 0 ∧ 1 ≤ v ∧ v ≤ 10
    · rw [if_pos c1, if_pos c1]
      by_cases z : v - 1 < m
      · rw [if_pos z, if_pos (by omega)]
      · rw [if_neg z]
        by_cases z2 : v - 1 < m'
        · rw [if_pos z2, h1 _ (by omega) z2]
        · rw [if_neg z2]
    · rw [if_neg c1, if_neg c1]
      by_cases c2 : (1 ≤ u ∧ u ≤ 10) ∧ 11 ≤ v ∧ v ≤ 22
      · rw [if_pos c2, if_pos c2]
        by_cases z : (u - 1) * 12 + (v - 11) < n
        · rw [if_pos z, if_pos (by omega)]
        · rw [if_neg z]
          by_cases z2 : (u - 1) * 12 + (v - 11) < n'
          · rw [if_pos z2, (h2 _ _ (by omega) (by omega) (by omega) (by omega) (by omega) z2).1]
          · rw [if_neg z2]
      · rw [if_neg c2, if_neg c2]
        by_cases c3 : (11 ≤ u ∧ u ≤ 22) ∧ v = 23
        · rw [if_pos c3, if_pos c3]
          by_cases z : u - 11 < p
          · rw [if_pos z, if_pos (by omega)]
          · rw [if_neg z]
            by_cases z2 : u - 11 < p'
            · rw [if_pos z2, h3 _ (by omega) z2]
            · rw [if_neg z2]
        · rw [if_neg c3, if_neg c3]
  · rw [e2]
    by_cases c1 : (1 ≤ u ∧ u ≤ 10) ∧ 11 ≤ v ∧ v ≤ 22
    · rw [if_pos c1, if_pos c1]
      by_cases z : (u - 1) * 12 + (v - 11) < n
      · rw [if_pos z, if_pos (by omega)]
      · rw [if_neg z]
        by_cases z2 : (u - 1) * 12 + (v - 11) < n'
        · rw [if_pos z2, (h2 _ _ (by omega) (by omega) (by omega) (by omega) (by omega) z2).2]; rfl
        · rw [if_neg z2]
    · rw [if_neg c1, if_neg c1]
      by_cases c2 : (11 ≤ u ∧ u ≤ 22) ∧ 1 ≤ v ∧ v ≤ 10
      · rw [if_pos c2, if_pos c2]
        by_cases z : (v - 1) * 12 + (u - 11) < n
        · rw [if_pos z, if_pos (by omega)]
        · rw [if_neg z]
          by_cases z2 : (v - 1) * 12 + (u - 11) < n'
          · rw [if_pos z2, (h2 _ _ (by omega) (by omega) (by omega) (by omega) (by omega) z2).2]
          · rw [if_neg z2]
      · rw [if_neg c2, if_neg c2]
theorem rt_full (h : rt_I cn wt ra cb μ ν 10 120 12) : ri_s cn ra cb (ν 93) ∧ ri_cs wt (ν 94) := by
  refine ⟨fun u v a1 a2 b1 b2 => ?_, fun u v a1 a2 b1 b2 => ?_⟩
  · rw [(h.2 u v a1 a2 b1 b2).1]
    by_cases c1 : u = 0 ∧ 1 ≤ v ∧ v ≤ 10
    · rw [if_pos c1, if_pos c1, if_pos (by omega)]
    · rw [if_neg c1, if_neg c1]
      by_cases c2 : (1 ≤ u ∧ u ≤ 10) ∧ 11 ≤ v ∧ v ≤ 22
      · rw [if_pos c2, if_pos c2, if_pos (by omega)]
      · rw [if_neg c2, if_neg c2]
        by_cases c3 : (11 ≤ u ∧ u ≤ 22) ∧ v = 23
        · rw [if_pos c3, if_pos c3, if_pos (by omega)]
        · rw [if_neg c3, if_neg c3]
  · rw [(h.2 u v a1 a2 b1 b2).2]
    by_cases c1 : (1 ≤ u ∧ u ≤ 10) ∧ 11 ≤ v ∧ v ≤ 22
    · rw [if_pos c1, if_pos c1, if_pos (by omega)]
    · rw [if_neg c1, if_neg c1]
      by_cases c2 : (11 ≤ u ∧ u ≤ 22) ∧ 1 ≤ v ∧ v ≤ 10
      · rw [if_pos c2, if_pos c2, if_pos (by omega)]
      · rw [if_neg c2, if_neg c2]
/-- nothing is laid yet -/
theorem rt_0 (h1 : ∀ q : Nat, q ≠ 93 → q ≠ 94 → ν q = μ q) (h2 : ∀ k : Int, 0 ≤ k → k < 576 → ν 93 k = 0 ∧ ν 94 k = 0) : rt_I cn wt ra cb μ ν 0 0 0 := by
  refine ⟨h1, fun u v a1 a2 b1 b2 => ?_⟩
  obtain ⟨e1, e2⟩ := h2 (24 * u + v) (by omega) (by omega)
  refine ⟨?_, ?_⟩
  · rw [e1]
    by_cases c1 : u = 0 ∧ 1 ≤ v ∧ v ≤ 10
    · rw [if_pos c1, if_neg (by omega)]
    · rw [if_neg c1]
      by_cases c2 : (1 ≤ u ∧ u ≤ 10) ∧ 11 ≤ v ∧ v ≤ 22
      · rw [if_pos c2, if_neg (by omega)]
      · rw [if_neg c2]
        by_cases c3 : (11 ≤ u ∧ u ≤ 22) ∧ v = 23
        · rw [if_pos c3, if_neg (by omega)]
        · rw [if_neg c3]
  · rw [e2]
    by_cases c1 : (1 ≤ u ∧ u ≤ 10) ∧ 11 ≤ v ∧ v ≤ 22
    · rw [if_pos c1, if_neg (by omega)]
    · rw [if_neg c1]
      by_cases c2 : (11 ≤ u ∧ u ≤ 22) ∧ 1 ≤ v ∧ v ≤ 10
      · rw [if_pos c2, if_neg (by omega)]
      · rw [if_neg c2]
/-- what holds ahead of the first way -/
theorem ri_first {ro0 co : Int → Int} (hs : ri_s cn ra cb ro0) (hc : ri_cs wt co) (hcn : ∀ l t : Int, 0 ≤ l → l < 10 → 0 ≤ t → t < 12 → cn l t = 0 ∨ cn l t = 1) (hw : ∀ l t : Int, 0 ≤ l → l < 10 → 0 ≤ t → t < 12 → 0 ≤ wt l t ∧ wt l t ≤ 1) (hra : ∀ l : Int, 0 ≤ ra l ∧ ra l ≤ 100) (hcb : ∀ t : Int, 0 ≤ cb t ∧ cb t ≤ 100) : ri_I co ro0 (fun v => if v ≤ 10 then 0 else 1) ro0 0 0 ∧ ∀ u v : Int, 0 ≤ u → u < 24 → 0 ≤ v → v < 24 → ro0 (24 * u + v) ≤ 100 := by
  have hb : ∀ u v : Int, 0 ≤ u → u < 24 → 0 ≤ v → v < 24 → 0 ≤ ro0 (24 * u + v) ∧ ro0 (24 * u + v) ≤ 100 := by
    intro u v a1 a2 b1 b2
    rw [hs u v a1 a2 b1 b2]
    by_cases c1 : u = 0 ∧ 1 ≤ v ∧ v ≤ 10
    · rw [if_pos c1]; exact hra _
    · rw [if_neg c1]
      by_cases c2 : (1 ≤ u ∧ u ≤ 10) ∧ 11 ≤ v ∧ v ≤ 22
      · rw [if_pos c2]
        have := hcn (u - 1) (v - 11) (by omega) (by omega) (by omega) (by omega)
        omega
      · rw [if_neg c2]
        by_cases c3 : (11 ≤ u ∧ u ≤ 22) ∧ v = 23
        · rw [if_pos c3]; exact hcb _
        · rw [if_neg c3]; omega
  have hk := ri_cs_k hc hw
  refine ⟨⟨fun u v a1 a2 b1 b2 => ⟨(hb u v a1 a2 b1 b2).1, rfl⟩, fun a a1 a2 => by split <;> omega, ⟨fun u v hA => ?_, fun v s => ?_, fun v a1 a2 => ?_⟩, ?_⟩, fun u v a1 a2 b1 b2 => (hb u v a1 a2 b1 b2).2⟩
  · obtain ⟨a1, a2, b1, b2, hp⟩ := hA
    have hkk := (hk u v a1 a2 b1 b2).1
    refine ⟨a1, a2, b1, b2, by unfold rn_w; omega, ?_⟩
    rw [hs u v a1 a2 b1 b2] at hp
    show (if u ≤ 10 then (0 : Int) else 1) + rn_w co u v ≤ if v ≤ 10 then (0 : Int) else 1
    unfold rn_w
    by_cases c1 : u = 0 ∧ 1 ≤ v ∧ v ≤ 10
    · rw [ri_cz hc ⟨a1, a2⟩ ⟨b1, b2⟩ (by omega) (by omega), if_pos (by omega), if_pos (by omega)]; omega
    · rw [if_neg c1] at hp
      by_cases c2 : (1 ≤ u ∧ u ≤ 10) ∧ 11 ≤ v ∧ v ≤ 22
      · rw [if_pos (by omega), if_neg (by omega)]; omega
      · rw [if_neg c2] at hp
        by_cases c3 : (11 ≤ u ∧ u ≤ 22) ∧ v = 23
        · rw [ri_cz hc ⟨a1, a2⟩ ⟨b1, b2⟩ (by omega) (by omega), if_neg (by omega), if_neg (by omega)]; omega
        · rw [if_neg c3] at hp; omega
  · have s : v = 0 := s
    subst s
    exact ⟨by decide, by decide, rfl⟩
  · show (if v ≤ 10 then (0 : Int) else 1) ≤ 1
    split <;> omega
  · unfold ri_T
    rw [pq_D_0 (fun i j _ _ => by rw [Int.sub_self, Int.mul_zero])]; rfl
end
