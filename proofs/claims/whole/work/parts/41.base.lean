theorem g_lc1 {x y : Int} : ((if x = y then (0 : Int) else if x < y then -1 else 1) < 0) = (x < y) := by
  split
  · simp; omega
  · split <;> simp <;> omega
theorem g_lc2 {x y : Int} : ((0 : Int) < (if x = y then (0 : Int) else if x < y then -1 else 1)) = (y < x) := by
  split
  · simp; omega
  · split <;> simp <;> omega
theorem JT_mono {r r' t : Int} {to ki re sc mi : Int → Int} (h : JT r t to ki re sc mi) (h1 : r ≤ r') : JT r' t to ki re sc mi :=
  ⟨fun i a b => ⟨(h.1 i a b).1, (h.1 i a b).2.1, (h.1 i a b).2.2.1, Int.lt_of_lt_of_le (h.1 i a b).2.2.2 h1⟩, h.2⟩
theorem JC_mono {t n l d t' l' d' : Int} {ti wh li pl si : Int → Int} (h : JC t n l d ti wh li pl si) (h1 : t ≤ t') (h2 : l ≤ l') (h3 : d ≤ d') : JC t' n l' d' ti wh li pl si :=
  ⟨fun i a b => by have := h.1 i a b; omega, h.2⟩
theorem JQ_mono {n l t d t' l' d' : Int} {li ti ca st : Int → Int} (h : JQ n l t d li ti ca st) (h1 : l ≤ l') (h2 : t ≤ t') (h3 : d ≤ d') : JQ n l' t' d' li ti ca st :=
  fun i a b => by have := h i a b; omega
theorem JEr_mono {n t d t' d' : Int} {ti ea ca : Int → Int} (h : JEr n t d ti ea ca) (h2 : t ≤ t') (h3 : d ≤ d') : JEr n t' d' ti ea ca :=
  fun i a b => by have := h i a b; omega
theorem JP_mono {t t' : Int} {who w m v ch : Int → Int} {a b s : Int} (h : JP t who w m v ch a b s) (h1 : t ≤ t') : JP t' who w m v ch a b s :=
  ⟨fun i => ⟨(h.1 i).1, (h.1 i).2.1, (h.1 i).2.2.1, (h.1 i).2.2.2.1, fun q => (h.1 i).2.2.2.2 (by omega)⟩, h.2⟩
theorem JW_mono {n n' d : Int} {wb : Int → Int} (h : JW n d wb) (h1 : n ≤ n') : JW n' d wb :=
  fun i a b => ⟨(h i a b).1, (h i a b).2.1, fun j hj => (h i a b).2.2 j (by omega)⟩
theorem JT_add {r t : Int} {to ki re sc mi : Int → Int} (h : JT r t to ki re sc mi) {a b e : Int} (h1 : 0 ≤ a ∧ a ≤ 3) (h2 : 0 ≤ b ∧ b ≤ 7) (h3 : 0 ≤ e ∧ e < r) : JT r (t + 1) (mj_pt to t a) (mj_pt ki t b) (mj_pt re t e) sc mi := by
  refine ⟨fun i p q => ?_, fun i => ⟨(h.2.1 i).1, fun q => (h.2.1 i).2 (by omega)⟩, h.2.2⟩
  simp only [g_pe]
  by_cases e1 : i = t
  · simp only [e1, if_true]; omega
  · simp only [e1, if_false]; exact h.1 i p (by omega)
theorem JT_side {r t a b : Int} {to ki re sc mi : Int → Int} (h : JT r t to ki re sc mi) (h0 : a < t) (h1 : 1 ≤ b ∧ b ≤ 90) (h2 : sc a < 8) {j : Int} : JT r t to ki re (mj_pt sc a (sc a + 1)) (mj_pt mi j b) := by
  refine ⟨h.1, fun i => ?_, fun i => ?_⟩
  · simp only [g_pe]
    have := h.2.1 i
    have := h.2.1 a
    split
    · next e => subst e; omega
    · omega
  · simp only [g_pe]
    have := h.2.2 i
    split <;> omega
theorem mj_pt_id {f : Int → Int} {i : Int} : mj_pt f i (f i) = f := mj_pt_self rfl
theorem JC_put {t n l d : Int} {ti wh li pl si : Int → Int} (h : JC t n l d ti wh li pl si) {c p q : Int} (h1 : 0 ≤ p ∧ p ≤ 5) (h2 : 1 ≤ p ∧ p ≤ 3 → 0 ≤ q ∧ q < l) (h3 : ¬ (1 ≤ p ∧ p ≤ 3) → q = -4) (h4 : 0 ≤ d) : JC t n l d ti (mj_pt wh c p) (mj_pt li c q) pl (mj_pt si c d) := by
  refine ⟨fun i a b => ?_, h.2⟩
  have := h.1 i a b
  simp only [g_pe]
  by_cases e1 : i = c
  · simp only [e1, if_true]
    subst e1
    omega
  · simp only [e1, if_false]; exact this
theorem JC_add {t n l d : Int} {ti wh li pl si : Int → Int} (h : JC t n l d ti wh li pl si) {a : Int} (h1 : 0 ≤ a ∧ a < t) (h4 : 0 ≤ d) : JC t (n + 1) l d (mj_pt ti n a) (mj_pt wh n 0) (mj_pt li n (-4)) pl (mj_pt si n d) := by
  refine ⟨fun i p q => ?_, fun i p => h.2 i (by omega)⟩
  simp only [g_pe]
  by_cases e1 : i = n
  · simp only [e1, if_true]
    exact ⟨h1, by omega, fun q => by omega, fun _ => trivial, by omega⟩
  · simp only [e1, if_false]; exact h.1 i p (by omega)
theorem JQ_state {n l t d : Int} {li ti ca st : Int → Int} (h : JQ n l t d li ti ca st) {r s : Int} (h1 : 0 ≤ s ∧ s ≤ 2) : JQ n l t d li ti ca (mj_pt st r s) := by
  intro i a b
  have := h i a b
  simp only [g_pe]
  split <;> omega
theorem JQ_add {n l t d : Int} {li ti ca st : Int → Int} (h : JQ n l t d li ti ca st) {a b : Int} (h1 : 0 ≤ a ∧ a < l) (h2 : 0 ≤ b ∧ b < t) (h3 : 0 ≤ d) : JQ (n + 1) l t d (mj_pt li n a) (mj_pt ti n b) (mj_pt ca n d) (mj_pt st n 0) := by
  intro i p q
  simp only [g_pe]
  by_cases e1 : i = n
  · simp only [e1, if_true]; omega
  · simp only [e1, if_false]; exact h i p (by omega)
theorem JS_put {sz ln ce la ss cl : Int → Int} (h : JS sz ln ce la ss cl) {k i v : Int} : JS sz ln (mj_pt ce (60 * k + i) v) la ss (mj_pt cl (60 * k + i) v) := by
  intro q a b
  rcases h q a b with g | ⟨g1, g2, g3, g4, g5⟩
  · exact Or.inl g
  · refine Or.inr ⟨g1, g2, g3, g4, fun j p r => ?_⟩
    simp only [g_pe]
    split
    · rfl
    · exact g5 j p r
