set_option maxRecDepth 20000
theorem wm_0 {b : Int → Int} {s len : Int} (hl : 1 ≤ len ∧ len ≤ 6) (hb : ∀ i, 0 ≤ i → i < len → 97 ≤ b (s + i) ∧ b (s + i) ≤ 122) : (wmA b s len 0 = true) = (len = 4 ∧ b s = 108 ∧ b (s + 1) = 111 ∧ b (s + 2) = 97 ∧ b (s + 3) = 110) := by
  unfold wmA wmt
  simp only [Bool.and_eq_true, decide_eq_true_eq, show mj_sp (0 * 6 + 0) = 108 from rfl, show mj_sp (0 * 6 + 1) = 111 from rfl, show mj_sp (0 * 6 + 2) = 97 from rfl, show mj_sp (0 * 6 + 3) = 110 from rfl, show mj_sp (0 * 6 + 4) = 32 from rfl, show mj_sp (0 * 6 + 5) = 32 from rfl, show mj_sp (0 * 6) = 108 from rfl, Int.add_zero]
  apply propext
  have : len = 1 ∨ len = 2 ∨ len = 3 ∨ len = 4 ∨ len = 5 ∨ len = 6 := by omega
  rcases this with rfl | rfl | rfl | rfl | rfl | rfl
  all_goals (simp only [Int.reduceLT, if_true, if_false])
  · have h0 := hb 0 (by decide) (by decide); rw [Int.add_zero] at h0; first | omega | grind | simp
  · have h0 := hb 0 (by decide) (by decide); rw [Int.add_zero] at h0; have h1 := hb 1 (by decide) (by decide); first | omega | grind | simp
  · have h0 := hb 0 (by decide) (by decide); rw [Int.add_zero] at h0; have h1 := hb 1 (by decide) (by decide); have h2 := hb 2 (by decide) (by decide); first | omega | grind | simp
  · have h0 := hb 0 (by decide) (by decide); rw [Int.add_zero] at h0; have h1 := hb 1 (by decide) (by decide); have h2 := hb 2 (by decide) (by decide); have h3 := hb 3 (by decide) (by decide); first | omega | grind | simp
  · have h0 := hb 0 (by decide) (by decide); rw [Int.add_zero] at h0; have h1 := hb 1 (by decide) (by decide); have h2 := hb 2 (by decide) (by decide); have h3 := hb 3 (by decide) (by decide); have h4 := hb 4 (by decide) (by decide); first | omega | grind | simp
  · have h0 := hb 0 (by decide) (by decide); rw [Int.add_zero] at h0; have h1 := hb 1 (by decide) (by decide); have h2 := hb 2 (by decide) (by decide); have h3 := hb 3 (by decide) (by decide); have h4 := hb 4 (by decide) (by decide); have h5 := hb 5 (by decide) (by decide); first | omega | grind | simp
theorem im_0 {t : Int → Int} {s len : Int} : (ism t s len 4 108 111 97 110 0 0 = true) = (len = 4 ∧ t s = 108 ∧ t (s + 1) = 111 ∧ t (s + 2) = 97 ∧ t (s + 3) = 110) := by
  unfold ism
  simp only [Bool.and_eq_true, Bool.or_eq_true, decide_eq_true_eq, Int.reduceLT, decide_false, decide_true, Bool.false_eq_true, false_or, true_or, and_true, Bool.false_or, Bool.true_or]
  apply propext
  omega
theorem wm_1 {b : Int → Int} {s len : Int} (hl : 1 ≤ len ∧ len ≤ 6) (hb : ∀ i, 0 ≤ i → i < len → 97 ≤ b (s + i) ∧ b (s + i) ≤ 122) : (wmA b s len 1 = true) = (len = 4 ∧ b s = 100 ∧ b (s + 1) = 97 ∧ b (s + 2) = 121 ∧ b (s + 3) = 115) := by
  unfold wmA wmt
  simp only [Bool.and_eq_true, decide_eq_true_eq, show mj_sp (1 * 6 + 0) = 100 from rfl, show mj_sp (1 * 6 + 1) = 97 from rfl, show mj_sp (1 * 6 + 2) = 121 from rfl, show mj_sp (1 * 6 + 3) = 115 from rfl, show mj_sp (1 * 6 + 4) = 32 from rfl, show mj_sp (1 * 6 + 5) = 32 from rfl, show mj_sp (1 * 6) = 100 from rfl, Int.add_zero]
  apply propext
  have : len = 1 ∨ len = 2 ∨ len = 3 ∨ len = 4 ∨ len = 5 ∨ len = 6 := by omega
  rcases this with rfl | rfl | rfl | rfl | rfl | rfl
  all_goals (simp only [Int.reduceLT, if_true, if_false])
  · have h0 := hb 0 (by decide) (by decide); rw [Int.add_zero] at h0; first | omega | grind | simp
  · have h0 := hb 0 (by decide) (by decide); rw [Int.add_zero] at h0; have h1 := hb 1 (by decide) (by decide); first | omega | grind | simp
  · have h0 := hb 0 (by decide) (by decide); rw [Int.add_zero] at h0; have h1 := hb 1 (by decide) (by decide); have h2 := hb 2 (by decide) (by decide); first | omega | grind | simp
  · have h0 := hb 0 (by decide) (by decide); rw [Int.add_zero] at h0; have h1 := hb 1 (by decide) (by decide); have h2 := hb 2 (by decide) (by decide); have h3 := hb 3 (by decide) (by decide); first | omega | grind | simp
  · have h0 := hb 0 (by decide) (by decide); rw [Int.add_zero] at h0; have h1 := hb 1 (by decide) (by decide); have h2 := hb 2 (by decide) (by decide); have h3 := hb 3 (by decide) (by decide); have h4 := hb 4 (by decide) (by decide); first | omega | grind | simp
  · have h0 := hb 0 (by decide) (by decide); rw [Int.add_zero] at h0; have h1 := hb 1 (by decide) (by decide); have h2 := hb 2 (by decide) (by decide); have h3 := hb 3 (by decide) (by decide); have h4 := hb 4 (by decide) (by decide); have h5 := hb 5 (by decide) (by decide); first | omega | grind | simp
theorem im_1 {t : Int → Int} {s len : Int} : (ism t s len 4 100 97 121 115 0 0 = true) = (len = 4 ∧ t s = 100 ∧ t (s + 1) = 97 ∧ t (s + 2) = 121 ∧ t (s + 3) = 115) := by
  unfold ism
  simp only [Bool.and_eq_true, Bool.or_eq_true, decide_eq_true_eq, Int.reduceLT, decide_false, decide_true, Bool.false_eq_true, false_or, true_or, and_true, Bool.false_or, Bool.true_or]
  apply propext
  omega
theorem wm_2 {b : Int → Int} {s len : Int} (hl : 1 ≤ len ∧ len ≤ 6) (hb : ∀ i, 0 ≤ i → i < len → 97 ≤ b (s + i) ∧ b (s + i) ≤ 122) : (wmA b s len 2 = true) = (len = 3 ∧ b s = 108 ∧ b (s + 1) = 97 ∧ b (s + 2) = 103) := by
  unfold wmA wmt
  simp only [Bool.and_eq_true, decide_eq_true_eq, show mj_sp (2 * 6 + 0) = 108 from rfl, show mj_sp (2 * 6 + 1) = 97 from rfl, show mj_sp (2 * 6 + 2) = 103 from rfl, show mj_sp (2 * 6 + 3) = 32 from rfl, show mj_sp (2 * 6 + 4) = 32 from rfl, show mj_sp (2 * 6 + 5) = 32 from rfl, show mj_sp (2 * 6) = 108 from rfl, Int.add_zero]
  apply propext
  have : len = 1 ∨ len = 2 ∨ len = 3 ∨ len = 4 ∨ len = 5 ∨ len = 6 := by omega
  rcases this with rfl | rfl | rfl | rfl | rfl | rfl
  all_goals (simp only [Int.reduceLT, if_true, if_false])
  · have h0 := hb 0 (by decide) (by decide); rw [Int.add_zero] at h0; first | omega | grind | simp
  · have h0 := hb 0 (by decide) (by decide); rw [Int.add_zero] at h0; have h1 := hb 1 (by decide) (by decide); first | omega | grind | simp
  · have h0 := hb 0 (by decide) (by decide); rw [Int.add_zero] at h0; have h1 := hb 1 (by decide) (by decide); have h2 := hb 2 (by decide) (by decide); first | omega | grind | simp
  · have h0 := hb 0 (by decide) (by decide); rw [Int.add_zero] at h0; have h1 := hb 1 (by decide) (by decide); have h2 := hb 2 (by decide) (by decide); have h3 := hb 3 (by decide) (by decide); first | omega | grind | simp
  · have h0 := hb 0 (by decide) (by decide); rw [Int.add_zero] at h0; have h1 := hb 1 (by decide) (by decide); have h2 := hb 2 (by decide) (by decide); have h3 := hb 3 (by decide) (by decide); have h4 := hb 4 (by decide) (by decide); first | omega | grind | simp
  · have h0 := hb 0 (by decide) (by decide); rw [Int.add_zero] at h0; have h1 := hb 1 (by decide) (by decide); have h2 := hb 2 (by decide) (by decide); have h3 := hb 3 (by decide) (by decide); have h4 := hb 4 (by decide) (by decide); have h5 := hb 5 (by decide) (by decide); first | omega | grind | simp
theorem im_2 {t : Int → Int} {s len : Int} : (ism t s len 3 108 97 103 0 0 0 = true) = (len = 3 ∧ t s = 108 ∧ t (s + 1) = 97 ∧ t (s + 2) = 103) := by
  unfold ism
  simp only [Bool.and_eq_true, Bool.or_eq_true, decide_eq_true_eq, Int.reduceLT, decide_false, decide_true, Bool.false_eq_true, false_or, true_or, and_true, Bool.false_or, Bool.true_or]
  apply propext
  omega
theorem wm_3 {b : Int → Int} {s len : Int} (hl : 1 ≤ len ∧ len ≤ 6) (hb : ∀ i, 0 ≤ i → i < len → 97 ≤ b (s + i) ∧ b (s + i) ≤ 122) : (wmA b s len 3 = true) = (len = 4 ∧ b s = 108 ∧ b (s + 1) = 105 ∧ b (s + 2) = 102 ∧ b (s + 3) = 101) := by
  unfold wmA wmt
  simp only [Bool.and_eq_true, decide_eq_true_eq, show mj_sp (3 * 6 + 0) = 108 from rfl, show mj_sp (3 * 6 + 1) = 105 from rfl, show mj_sp (3 * 6 + 2) = 102 from rfl, show mj_sp (3 * 6 + 3) = 101 from rfl, show mj_sp (3 * 6 + 4) = 32 from rfl, show mj_sp (3 * 6 + 5) = 32 from rfl, show mj_sp (3 * 6) = 108 from rfl, Int.add_zero]
  apply propext
  have : len = 1 ∨ len = 2 ∨ len = 3 ∨ len = 4 ∨ len = 5 ∨ len = 6 := by omega
  rcases this with rfl | rfl | rfl | rfl | rfl | rfl
  all_goals (simp only [Int.reduceLT, if_true, if_false])
  · have h0 := hb 0 (by decide) (by decide); rw [Int.add_zero] at h0; first | omega | grind | simp
  · have h0 := hb 0 (by decide) (by decide); rw [Int.add_zero] at h0; have h1 := hb 1 (by decide) (by decide); first | omega | grind | simp
  · have h0 := hb 0 (by decide) (by decide); rw [Int.add_zero] at h0; have h1 := hb 1 (by decide) (by decide); have h2 := hb 2 (by decide) (by decide); first | omega | grind | simp
  · have h0 := hb 0 (by decide) (by decide); rw [Int.add_zero] at h0; have h1 := hb 1 (by decide) (by decide); have h2 := hb 2 (by decide) (by decide); have h3 := hb 3 (by decide) (by decide); first | omega | grind | simp
  · have h0 := hb 0 (by decide) (by decide); rw [Int.add_zero] at h0; have h1 := hb 1 (by decide) (by decide); have h2 := hb 2 (by decide) (by decide); have h3 := hb 3 (by decide) (by decide); have h4 := hb 4 (by decide) (by decide); first | omega | grind | simp
  · have h0 := hb 0 (by decide) (by decide); rw [Int.add_zero] at h0; have h1 := hb 1 (by decide) (by decide); have h2 := hb 2 (by decide) (by decide); have h3 := hb 3 (by decide) (by decide); have h4 := hb 4 (by decide) (by decide); have h5 := hb 5 (by decide) (by decide); first | omega | grind | simp
theorem im_3 {t : Int → Int} {s len : Int} : (ism t s len 4 108 105 102 101 0 0 = true) = (len = 4 ∧ t s = 108 ∧ t (s + 1) = 105 ∧ t (s + 2) = 102 ∧ t (s + 3) = 101) := by
  unfold ism
  simp only [Bool.and_eq_true, Bool.or_eq_true, decide_eq_true_eq, Int.reduceLT, decide_false, decide_true, Bool.false_eq_true, false_or, true_or, and_true, Bool.false_or, Bool.true_or]
  apply propext
  omega
theorem wm_4 {b : Int → Int} {s len : Int} (hl : 1 ≤ len ∧ len ≤ 6) (hb : ∀ i, 0 ≤ i → i < len → 97 ≤ b (s + i) ∧ b (s + i) ≤ 122) : (wmA b s len 4 = true) = (len = 5 ∧ b s = 97 ∧ b (s + 1) = 103 ∧ b (s + 2) = 97 ∧ b (s + 3) = 105 ∧ b (s + 4) = 110) := by
  unfold wmA wmt
  simp only [Bool.and_eq_true, decide_eq_true_eq, show mj_sp (4 * 6 + 0) = 97 from rfl, show mj_sp (4 * 6 + 1) = 103 from rfl, show mj_sp (4 * 6 + 2) = 97 from rfl, show mj_sp (4 * 6 + 3) = 105 from rfl, show mj_sp (4 * 6 + 4) = 110 from rfl, show mj_sp (4 * 6 + 5) = 32 from rfl, show mj_sp (4 * 6) = 97 from rfl, Int.add_zero]
  apply propext
  have : len = 1 ∨ len = 2 ∨ len = 3 ∨ len = 4 ∨ len = 5 ∨ len = 6 := by omega
  rcases this with rfl | rfl | rfl | rfl | rfl | rfl
  all_goals (simp only [Int.reduceLT, if_true, if_false])
  · have h0 := hb 0 (by decide) (by decide); rw [Int.add_zero] at h0; first | omega | grind | simp
  · have h0 := hb 0 (by decide) (by decide); rw [Int.add_zero] at h0; have h1 := hb 1 (by decide) (by decide); first | omega | grind | simp
  · have h0 := hb 0 (by decide) (by decide); rw [Int.add_zero] at h0; have h1 := hb 1 (by decide) (by decide); have h2 := hb 2 (by decide) (by decide); first | omega | grind | simp
  · have h0 := hb 0 (by decide) (by decide); rw [Int.add_zero] at h0; have h1 := hb 1 (by decide) (by decide); have h2 := hb 2 (by decide) (by decide); have h3 := hb 3 (by decide) (by decide); first | omega | grind | simp
  · have h0 := hb 0 (by decide) (by decide); rw [Int.add_zero] at h0; have h1 := hb 1 (by decide) (by decide); have h2 := hb 2 (by decide) (by decide); have h3 := hb 3 (by decide) (by decide); have h4 := hb 4 (by decide) (by decide); first | omega | grind | simp
  · have h0 := hb 0 (by decide) (by decide); rw [Int.add_zero] at h0; have h1 := hb 1 (by decide) (by decide); have h2 := hb 2 (by decide) (by decide); have h3 := hb 3 (by decide) (by decide); have h4 := hb 4 (by decide) (by decide); have h5 := hb 5 (by decide) (by decide); first | omega | grind | simp
theorem im_4 {t : Int → Int} {s len : Int} : (ism t s len 5 97 103 97 105 110 0 = true) = (len = 5 ∧ t s = 97 ∧ t (s + 1) = 103 ∧ t (s + 2) = 97 ∧ t (s + 3) = 105 ∧ t (s + 4) = 110) := by
  unfold ism
  simp only [Bool.and_eq_true, Bool.or_eq_true, decide_eq_true_eq, Int.reduceLT, decide_false, decide_true, Bool.false_eq_true, false_or, true_or, and_true, Bool.false_or, Bool.true_or]
  apply propext
  omega
theorem wm_5 {b : Int → Int} {s len : Int} (hl : 1 ≤ len ∧ len ≤ 6) (hb : ∀ i, 0 ≤ i → i < len → 97 ≤ b (s + i) ∧ b (s + i) ≤ 122) : (wmA b s len 5 = true) = (len = 5 ∧ b s = 113 ∧ b (s + 1) = 117 ∧ b (s + 2) = 101 ∧ b (s + 3) = 117 ∧ b (s + 4) = 101) := by
  unfold wmA wmt
  simp only [Bool.and_eq_true, decide_eq_true_eq, show mj_sp (5 * 6 + 0) = 113 from rfl, show mj_sp (5 * 6 + 1) = 117 from rfl, show mj_sp (5 * 6 + 2) = 101 from rfl, show mj_sp (5 * 6 + 3) = 117 from rfl, show mj_sp (5 * 6 + 4) = 101 from rfl, show mj_sp (5 * 6 + 5) = 32 from rfl, show mj_sp (5 * 6) = 113 from rfl, Int.add_zero]
  apply propext
  have : len = 1 ∨ len = 2 ∨ len = 3 ∨ len = 4 ∨ len = 5 ∨ len = 6 := by omega
  rcases this with rfl | rfl | rfl | rfl | rfl | rfl
  all_goals (simp only [Int.reduceLT, if_true, if_false])
  · have h0 := hb 0 (by decide) (by decide); rw [Int.add_zero] at h0; first | omega | grind | simp
  · have h0 := hb 0 (by decide) (by decide); rw [Int.add_zero] at h0; have h1 := hb 1 (by decide) (by decide); first | omega | grind | simp
  · have h0 := hb 0 (by decide) (by decide); rw [Int.add_zero] at h0; have h1 := hb 1 (by decide) (by decide); have h2 := hb 2 (by decide) (by decide); first | omega | grind | simp
  · have h0 := hb 0 (by decide) (by decide); rw [Int.add_zero] at h0; have h1 := hb 1 (by decide) (by decide); have h2 := hb 2 (by decide) (by decide); have h3 := hb 3 (by decide) (by decide); first | omega | grind | simp
  · have h0 := hb 0 (by decide) (by decide); rw [Int.add_zero] at h0; have h1 := hb 1 (by decide) (by decide); have h2 := hb 2 (by decide) (by decide); have h3 := hb 3 (by decide) (by decide); have h4 := hb 4 (by decide) (by decide); first | omega | grind | simp
  · have h0 := hb 0 (by decide) (by decide); rw [Int.add_zero] at h0; have h1 := hb 1 (by decide) (by decide); have h2 := hb 2 (by decide) (by decide); have h3 := hb 3 (by decide) (by decide); have h4 := hb 4 (by decide) (by decide); have h5 := hb 5 (by decide) (by decide); first | omega | grind | simp
theorem im_5 {t : Int → Int} {s len : Int} : (ism t s len 5 113 117 101 117 101 0 = true) = (len = 5 ∧ t s = 113 ∧ t (s + 1) = 117 ∧ t (s + 2) = 101 ∧ t (s + 3) = 117 ∧ t (s + 4) = 101) := by
  unfold ism
  simp only [Bool.and_eq_true, Bool.or_eq_true, decide_eq_true_eq, Int.reduceLT, decide_false, decide_true, Bool.false_eq_true, false_or, true_or, and_true, Bool.false_or, Bool.true_or]
  apply propext
  omega
theorem wm_6 {b : Int → Int} {s len : Int} (hl : 1 ≤ len ∧ len ≤ 6) (hb : ∀ i, 0 ≤ i → i < len → 97 ≤ b (s + i) ∧ b (s + i) ≤ 122) : (wmA b s len 6 = true) = (len = 5 ∧ b s = 114 ∧ b (s + 1) = 105 ∧ b (s + 2) = 103 ∧ b (s + 3) = 104 ∧ b (s + 4) = 116) := by
  unfold wmA wmt
  simp only [Bool.and_eq_true, decide_eq_true_eq, show mj_sp (6 * 6 + 0) = 114 from rfl, show mj_sp (6 * 6 + 1) = 105 from rfl, show mj_sp (6 * 6 + 2) = 103 from rfl, show mj_sp (6 * 6 + 3) = 104 from rfl, show mj_sp (6 * 6 + 4) = 116 from rfl, show mj_sp (6 * 6 + 5) = 32 from rfl, show mj_sp (6 * 6) = 114 from rfl, Int.add_zero]
  apply propext
  have : len = 1 ∨ len = 2 ∨ len = 3 ∨ len = 4 ∨ len = 5 ∨ len = 6 := by omega
  rcases this with rfl | rfl | rfl | rfl | rfl | rfl
  all_goals (simp only [Int.reduceLT, if_true, if_false])
  · have h0 := hb 0 (by decide) (by decide); rw [Int.add_zero] at h0; first | omega | grind | simp
  · have h0 := hb 0 (by decide) (by decide); rw [Int.add_zero] at h0; have h1 := hb 1 (by decide) (by decide); first | omega | grind | simp
  · have h0 := hb 0 (by decide) (by decide); rw [Int.add_zero] at h0; have h1 := hb 1 (by decide) (by decide); have h2 := hb 2 (by decide) (by decide); first | omega | grind | simp
  · have h0 := hb 0 (by decide) (by decide); rw [Int.add_zero] at h0; have h1 := hb 1 (by decide) (by decide); have h2 := hb 2 (by decide) (by decide); have h3 := hb 3 (by decide) (by decide); first | omega | grind | simp
  · have h0 := hb 0 (by decide) (by decide); rw [Int.add_zero] at h0; have h1 := hb 1 (by decide) (by decide); have h2 := hb 2 (by decide) (by decide); have h3 := hb 3 (by decide) (by decide); have h4 := hb 4 (by decide) (by decide); first | omega | grind | simp
  · have h0 := hb 0 (by decide) (by decide); rw [Int.add_zero] at h0; have h1 := hb 1 (by decide) (by decide); have h2 := hb 2 (by decide) (by decide); have h3 := hb 3 (by decide) (by decide); have h4 := hb 4 (by decide) (by decide); have h5 := hb 5 (by decide) (by decide); first | omega | grind | simp
theorem im_6 {t : Int → Int} {s len : Int} : (ism t s len 5 114 105 103 104 116 0 = true) = (len = 5 ∧ t s = 114 ∧ t (s + 1) = 105 ∧ t (s + 2) = 103 ∧ t (s + 3) = 104 ∧ t (s + 4) = 116) := by
  unfold ism
  simp only [Bool.and_eq_true, Bool.or_eq_true, decide_eq_true_eq, Int.reduceLT, decide_false, decide_true, Bool.false_eq_true, false_or, true_or, and_true, Bool.false_or, Bool.true_or]
  apply propext
  omega
theorem wm_7 {b : Int → Int} {s len : Int} (hl : 1 ≤ len ∧ len ≤ 6) (hb : ∀ i, 0 ≤ i → i < len → 97 ≤ b (s + i) ∧ b (s + i) ≤ 122) : (wmA b s len 7 = true) = (len = 6 ∧ b s = 119 ∧ b (s + 1) = 97 ∧ b (s + 2) = 105 ∧ b (s + 3) = 116 ∧ b (s + 4) = 101 ∧ b (s + 5) = 100) := by
  unfold wmA wmt
  simp only [Bool.and_eq_true, decide_eq_true_eq, show mj_sp (7 * 6 + 0) = 119 from rfl, show mj_sp (7 * 6 + 1) = 97 from rfl, show mj_sp (7 * 6 + 2) = 105 from rfl, show mj_sp (7 * 6 + 3) = 116 from rfl, show mj_sp (7 * 6 + 4) = 101 from rfl, show mj_sp (7 * 6 + 5) = 100 from rfl, show mj_sp (7 * 6) = 119 from rfl, Int.add_zero]
  apply propext
  have : len = 1 ∨ len = 2 ∨ len = 3 ∨ len = 4 ∨ len = 5 ∨ len = 6 := by omega
  rcases this with rfl | rfl | rfl | rfl | rfl | rfl
  all_goals (simp only [Int.reduceLT, if_true, if_false])
  · have h0 := hb 0 (by decide) (by decide); rw [Int.add_zero] at h0; first | omega | grind | simp
  · have h0 := hb 0 (by decide) (by decide); rw [Int.add_zero] at h0; have h1 := hb 1 (by decide) (by decide); first | omega | grind | simp
  · have h0 := hb 0 (by decide) (by decide); rw [Int.add_zero] at h0; have h1 := hb 1 (by decide) (by decide); have h2 := hb 2 (by decide) (by decide); first | omega | grind | simp
  · have h0 := hb 0 (by decide) (by decide); rw [Int.add_zero] at h0; have h1 := hb 1 (by decide) (by decide); have h2 := hb 2 (by decide) (by decide); have h3 := hb 3 (by decide) (by decide); first | omega | grind | simp
  · have h0 := hb 0 (by decide) (by decide); rw [Int.add_zero] at h0; have h1 := hb 1 (by decide) (by decide); have h2 := hb 2 (by decide) (by decide); have h3 := hb 3 (by decide) (by decide); have h4 := hb 4 (by decide) (by decide); first | omega | grind | simp
  · have h0 := hb 0 (by decide) (by decide); rw [Int.add_zero] at h0; have h1 := hb 1 (by decide) (by decide); have h2 := hb 2 (by decide) (by decide); have h3 := hb 3 (by decide) (by decide); have h4 := hb 4 (by decide) (by decide); have h5 := hb 5 (by decide) (by decide); first | omega | grind | simp
theorem im_7 {t : Int → Int} {s len : Int} : (ism t s len 6 119 97 105 116 101 100 = true) = (len = 6 ∧ t s = 119 ∧ t (s + 1) = 97 ∧ t (s + 2) = 105 ∧ t (s + 3) = 116 ∧ t (s + 4) = 101 ∧ t (s + 5) = 100) := by
  unfold ism
  simp only [Bool.and_eq_true, Bool.or_eq_true, decide_eq_true_eq, Int.reduceLT, decide_false, decide_true, Bool.false_eq_true, false_or, true_or, and_true, Bool.false_or, Bool.true_or]
  apply propext
  omega
theorem wm_8 {b : Int → Int} {s len : Int} (hl : 1 ≤ len ∧ len ≤ 6) (hb : ∀ i, 0 ≤ i → i < len → 97 ≤ b (s + i) ∧ b (s + i) ≤ 122) : (wmA b s len 8 = true) = (len = 3 ∧ b s = 104 ∧ b (s + 1) = 97 ∧ b (s + 2) = 100) := by
  unfold wmA wmt
  simp only [Bool.and_eq_true, decide_eq_true_eq, show mj_sp (8 * 6 + 0) = 104 from rfl, show mj_sp (8 * 6 + 1) = 97 from rfl, show mj_sp (8 * 6 + 2) = 100 from rfl, show mj_sp (8 * 6 + 3) = 32 from rfl, show mj_sp (8 * 6 + 4) = 32 from rfl, show mj_sp (8 * 6 + 5) = 32 from rfl, show mj_sp (8 * 6) = 104 from rfl, Int.add_zero]
  apply propext
  have : len = 1 ∨ len = 2 ∨ len = 3 ∨ len = 4 ∨ len = 5 ∨ len = 6 := by omega
  rcases this with rfl | rfl | rfl | rfl | rfl | rfl
  all_goals (simp only [Int.reduceLT, if_true, if_false])
  · have h0 := hb 0 (by decide) (by decide); rw [Int.add_zero] at h0; first | omega | grind | simp
  · have h0 := hb 0 (by decide) (by decide); rw [Int.add_zero] at h0; have h1 := hb 1 (by decide) (by decide); first | omega | grind | simp
  · have h0 := hb 0 (by decide) (by decide); rw [Int.add_zero] at h0; have h1 := hb 1 (by decide) (by decide); have h2 := hb 2 (by decide) (by decide); first | omega | grind | simp
  · have h0 := hb 0 (by decide) (by decide); rw [Int.add_zero] at h0; have h1 := hb 1 (by decide) (by decide); have h2 := hb 2 (by decide) (by decide); have h3 := hb 3 (by decide) (by decide); first | omega | grind | simp
  · have h0 := hb 0 (by decide) (by decide); rw [Int.add_zero] at h0; have h1 := hb 1 (by decide) (by decide); have h2 := hb 2 (by decide) (by decide); have h3 := hb 3 (by decide) (by decide); have h4 := hb 4 (by decide) (by decide); first | omega | grind | simp
  · have h0 := hb 0 (by decide) (by decide); rw [Int.add_zero] at h0; have h1 := hb 1 (by decide) (by decide); have h2 := hb 2 (by decide) (by decide); have h3 := hb 3 (by decide) (by decide); have h4 := hb 4 (by decide) (by decide); have h5 := hb 5 (by decide) (by decide); first | omega | grind | simp
theorem im_8 {t : Int → Int} {s len : Int} : (ism t s len 3 104 97 100 0 0 0 = true) = (len = 3 ∧ t s = 104 ∧ t (s + 1) = 97 ∧ t (s + 2) = 100) := by
  unfold ism
  simp only [Bool.and_eq_true, Bool.or_eq_true, decide_eq_true_eq, Int.reduceLT, decide_false, decide_true, Bool.false_eq_true, false_or, true_or, and_true, Bool.false_or, Bool.true_or]
  apply propext
  omega
theorem wm_9 {b : Int → Int} {s len : Int} (hl : 1 ≤ len ∧ len ≤ 6) (hb : ∀ i, 0 ≤ i → i < len → 97 ≤ b (s + i) ∧ b (s + i) ≤ 122) : (wmA b s len 9 = true) = (len = 4 ∧ b s = 108 ∧ b (s + 1) = 97 ∧ b (s + 2) = 116 ∧ b (s + 3) = 101) := by
  unfold wmA wmt
  simp only [Bool.and_eq_true, decide_eq_true_eq, show mj_sp (9 * 6 + 0) = 108 from rfl, show mj_sp (9 * 6 + 1) = 97 from rfl, show mj_sp (9 * 6 + 2) = 116 from rfl, show mj_sp (9 * 6 + 3) = 101 from rfl, show mj_sp (9 * 6 + 4) = 32 from rfl, show mj_sp (9 * 6 + 5) = 32 from rfl, show mj_sp (9 * 6) = 108 from rfl, Int.add_zero]
  apply propext
  have : len = 1 ∨ len = 2 ∨ len = 3 ∨ len = 4 ∨ len = 5 ∨ len = 6 := by omega
  rcases this with rfl | rfl | rfl | rfl | rfl | rfl
  all_goals (simp only [Int.reduceLT, if_true, if_false])
  · have h0 := hb 0 (by decide) (by decide); rw [Int.add_zero] at h0; first | omega | grind | simp
  · have h0 := hb 0 (by decide) (by decide); rw [Int.add_zero] at h0; have h1 := hb 1 (by decide) (by decide); first | omega | grind | simp
  · have h0 := hb 0 (by decide) (by decide); rw [Int.add_zero] at h0; have h1 := hb 1 (by decide) (by decide); have h2 := hb 2 (by decide) (by decide); first | omega | grind | simp
  · have h0 := hb 0 (by decide) (by decide); rw [Int.add_zero] at h0; have h1 := hb 1 (by decide) (by decide); have h2 := hb 2 (by decide) (by decide); have h3 := hb 3 (by decide) (by decide); first | omega | grind | simp
  · have h0 := hb 0 (by decide) (by decide); rw [Int.add_zero] at h0; have h1 := hb 1 (by decide) (by decide); have h2 := hb 2 (by decide) (by decide); have h3 := hb 3 (by decide) (by decide); have h4 := hb 4 (by decide) (by decide); first | omega | grind | simp
  · have h0 := hb 0 (by decide) (by decide); rw [Int.add_zero] at h0; have h1 := hb 1 (by decide) (by decide); have h2 := hb 2 (by decide) (by decide); have h3 := hb 3 (by decide) (by decide); have h4 := hb 4 (by decide) (by decide); have h5 := hb 5 (by decide) (by decide); first | omega | grind | simp
theorem im_9 {t : Int → Int} {s len : Int} : (ism t s len 4 108 97 116 101 0 0 = true) = (len = 4 ∧ t s = 108 ∧ t (s + 1) = 97 ∧ t (s + 2) = 116 ∧ t (s + 3) = 101) := by
  unfold ism
  simp only [Bool.and_eq_true, Bool.or_eq_true, decide_eq_true_eq, Int.reduceLT, decide_false, decide_true, Bool.false_eq_true, false_or, true_or, and_true, Bool.false_or, Bool.true_or]
  apply propext
  omega
theorem wm_10 {b : Int → Int} {s len : Int} (hl : 1 ≤ len ∧ len ≤ 6) (hb : ∀ i, 0 ≤ i → i < len → 97 ≤ b (s + i) ∧ b (s + i) ≤ 122) : (wmA b s len 10 = true) = (len = 5 ∧ b s = 108 ∧ b (s + 1) = 105 ∧ b (s + 2) = 107 ∧ b (s + 3) = 101 ∧ b (s + 4) = 115) := by
  unfold wmA wmt
  simp only [Bool.and_eq_true, decide_eq_true_eq, show mj_sp (10 * 6 + 0) = 108 from rfl, show mj_sp (10 * 6 + 1) = 105 from rfl, show mj_sp (10 * 6 + 2) = 107 from rfl, show mj_sp (10 * 6 + 3) = 101 from rfl, show mj_sp (10 * 6 + 4) = 115 from rfl, show mj_sp (10 * 6 + 5) = 32 from rfl, show mj_sp (10 * 6) = 108 from rfl, Int.add_zero]
  apply propext
  have : len = 1 ∨ len = 2 ∨ len = 3 ∨ len = 4 ∨ len = 5 ∨ len = 6 := by omega
  rcases this with rfl | rfl | rfl | rfl | rfl | rfl
  all_goals (simp only [Int.reduceLT, if_true, if_false])
  · have h0 := hb 0 (by decide) (by decide); rw [Int.add_zero] at h0; first | omega | grind | simp
  · have h0 := hb 0 (by decide) (by decide); rw [Int.add_zero] at h0; have h1 := hb 1 (by decide) (by decide); first | omega | grind | simp
  · have h0 := hb 0 (by decide) (by decide); rw [Int.add_zero] at h0; have h1 := hb 1 (by decide) (by decide); have h2 := hb 2 (by decide) (by decide); first | omega | grind | simp
  · have h0 := hb 0 (by decide) (by decide); rw [Int.add_zero] at h0; have h1 := hb 1 (by decide) (by decide); have h2 := hb 2 (by decide) (by decide); have h3 := hb 3 (by decide) (by decide); first | omega | grind | simp
  · have h0 := hb 0 (by decide) (by decide); rw [Int.add_zero] at h0; have h1 := hb 1 (by decide) (by decide); have h2 := hb 2 (by decide) (by decide); have h3 := hb 3 (by decide) (by decide); have h4 := hb 4 (by decide) (by decide); first | omega | grind | simp
  · have h0 := hb 0 (by decide) (by decide); rw [Int.add_zero] at h0; have h1 := hb 1 (by decide) (by decide); have h2 := hb 2 (by decide) (by decide); have h3 := hb 3 (by decide) (by decide); have h4 := hb 4 (by decide) (by decide); have h5 := hb 5 (by decide) (by decide); first | omega | grind | simp
theorem im_10 {t : Int → Int} {s len : Int} : (ism t s len 5 108 105 107 101 115 0 = true) = (len = 5 ∧ t s = 108 ∧ t (s + 1) = 105 ∧ t (s + 2) = 107 ∧ t (s + 3) = 101 ∧ t (s + 4) = 115) := by
  unfold ism
  simp only [Bool.and_eq_true, Bool.or_eq_true, decide_eq_true_eq, Int.reduceLT, decide_false, decide_true, Bool.false_eq_true, false_or, true_or, and_true, Bool.false_or, Bool.true_or]
  apply propext
  omega
theorem wm_11 {b : Int → Int} {s len : Int} (hl : 1 ≤ len ∧ len ≤ 6) (hb : ∀ i, 0 ≤ i → i < len → 97 ≤ b (s + i) ∧ b (s + i) ≤ 122) : (wmA b s len 11 = true) = (len = 6 ∧ b s = 110 ∧ b (s + 1) = 117 ∧ b (s + 2) = 109 ∧ b (s + 3) = 98 ∧ b (s + 4) = 101 ∧ b (s + 5) = 114) := by
  unfold wmA wmt
  simp only [Bool.and_eq_true, decide_eq_true_eq, show mj_sp (11 * 6 + 0) = 110 from rfl, show mj_sp (11 * 6 + 1) = 117 from rfl, show mj_sp (11 * 6 + 2) = 109 from rfl, show mj_sp (11 * 6 + 3) = 98 from rfl, show mj_sp (11 * 6 + 4) = 101 from rfl, show mj_sp (11 * 6 + 5) = 114 from rfl, show mj_sp (11 * 6) = 110 from rfl, Int.add_zero]
  apply propext
  have : len = 1 ∨ len = 2 ∨ len = 3 ∨ len = 4 ∨ len = 5 ∨ len = 6 := by omega
  rcases this with rfl | rfl | rfl | rfl | rfl | rfl
  all_goals (simp only [Int.reduceLT, if_true, if_false])
  · have h0 := hb 0 (by decide) (by decide); rw [Int.add_zero] at h0; first | omega | grind | simp
  · have h0 := hb 0 (by decide) (by decide); rw [Int.add_zero] at h0; have h1 := hb 1 (by decide) (by decide); first | omega | grind | simp
  · have h0 := hb 0 (by decide) (by decide); rw [Int.add_zero] at h0; have h1 := hb 1 (by decide) (by decide); have h2 := hb 2 (by decide) (by decide); first | omega | grind | simp
  · have h0 := hb 0 (by decide) (by decide); rw [Int.add_zero] at h0; have h1 := hb 1 (by decide) (by decide); have h2 := hb 2 (by decide) (by decide); have h3 := hb 3 (by decide) (by decide); first | omega | grind | simp
  · have h0 := hb 0 (by decide) (by decide); rw [Int.add_zero] at h0; have h1 := hb 1 (by decide) (by decide); have h2 := hb 2 (by decide) (by decide); have h3 := hb 3 (by decide) (by decide); have h4 := hb 4 (by decide) (by decide); first | omega | grind | simp
  · have h0 := hb 0 (by decide) (by decide); rw [Int.add_zero] at h0; have h1 := hb 1 (by decide) (by decide); have h2 := hb 2 (by decide) (by decide); have h3 := hb 3 (by decide) (by decide); have h4 := hb 4 (by decide) (by decide); have h5 := hb 5 (by decide) (by decide); first | omega | grind | simp
theorem im_11 {t : Int → Int} {s len : Int} : (ism t s len 6 110 117 109 98 101 114 = true) = (len = 6 ∧ t s = 110 ∧ t (s + 1) = 117 ∧ t (s + 2) = 109 ∧ t (s + 3) = 98 ∧ t (s + 4) = 101 ∧ t (s + 5) = 114) := by
  unfold ism
  simp only [Bool.and_eq_true, Bool.or_eq_true, decide_eq_true_eq, Int.reduceLT, decide_false, decide_true, Bool.false_eq_true, false_or, true_or, and_true, Bool.false_or, Bool.true_or]
  apply propext
  omega
theorem wt_0 {b t : Int → Int} {s len : Int} (hl : 1 ≤ len ∧ len ≤ 6) (hb : ∀ i, 0 ≤ i → i < len → 97 ≤ b (s + i) ∧ b (s + i) ≤ 122) (he : ∀ i, 0 ≤ i → i < len → b (s + i) = t (s + i)) : (wmA b s len 0 = true) = (len = 4 ∧ t s = 108 ∧ t (s + 1) = 111 ∧ t (s + 2) = 97 ∧ t (s + 3) = 110) := by
  rw [wm_0 hl hb]
  apply propext
  by_cases q : len = 4
  · have e0 := he 0 (by decide) (by omega)
    rw [Int.add_zero] at e0
    have e1 := he 1 (by decide) (by omega)
    have e2 := he 2 (by decide) (by omega)
    have e3 := he 3 (by decide) (by omega)
    omega
  · omega
theorem wt_1 {b t : Int → Int} {s len : Int} (hl : 1 ≤ len ∧ len ≤ 6) (hb : ∀ i, 0 ≤ i → i < len → 97 ≤ b (s + i) ∧ b (s + i) ≤ 122) (he : ∀ i, 0 ≤ i → i < len → b (s + i) = t (s + i)) : (wmA b s len 1 = true) = (len = 4 ∧ t s = 100 ∧ t (s + 1) = 97 ∧ t (s + 2) = 121 ∧ t (s + 3) = 115) := by
  rw [wm_1 hl hb]
  apply propext
  by_cases q : len = 4
  · have e0 := he 0 (by decide) (by omega)
    rw [Int.add_zero] at e0
    have e1 := he 1 (by decide) (by omega)
    have e2 := he 2 (by decide) (by omega)
    have e3 := he 3 (by decide) (by omega)
    omega
  · omega
theorem wt_2 {b t : Int → Int} {s len : Int} (hl : 1 ≤ len ∧ len ≤ 6) (hb : ∀ i, 0 ≤ i → i < len → 97 ≤ b (s + i) ∧ b (s + i) ≤ 122) (he : ∀ i, 0 ≤ i → i < len → b (s + i) = t (s + i)) : (wmA b s len 2 = true) = (len = 3 ∧ t s = 108 ∧ t (s + 1) = 97 ∧ t (s + 2) = 103) := by
  rw [wm_2 hl hb]
  apply propext
  by_cases q : len = 3
  · have e0 := he 0 (by decide) (by omega)
    rw [Int.add_zero] at e0
    have e1 := he 1 (by decide) (by omega)
    have e2 := he 2 (by decide) (by omega)
    omega
  · omega
theorem wt_3 {b t : Int → Int} {s len : Int} (hl : 1 ≤ len ∧ len ≤ 6) (hb : ∀ i, 0 ≤ i → i < len → 97 ≤ b (s + i) ∧ b (s + i) ≤ 122) (he : ∀ i, 0 ≤ i → i < len → b (s + i) = t (s + i)) : (wmA b s len 3 = true) = (len = 4 ∧ t s = 108 ∧ t (s + 1) = 105 ∧ t (s + 2) = 102 ∧ t (s + 3) = 101) := by
  rw [wm_3 hl hb]
  apply propext
  by_cases q : len = 4
  · have e0 := he 0 (by decide) (by omega)
    rw [Int.add_zero] at e0
    have e1 := he 1 (by decide) (by omega)
    have e2 := he 2 (by decide) (by omega)
    have e3 := he 3 (by decide) (by omega)
    omega
  · omega
theorem wt_4 {b t : Int → Int} {s len : Int} (hl : 1 ≤ len ∧ len ≤ 6) (hb : ∀ i, 0 ≤ i → i < len → 97 ≤ b (s + i) ∧ b (s + i) ≤ 122) (he : ∀ i, 0 ≤ i → i < len → b (s + i) = t (s + i)) : (wmA b s len 4 = true) = (len = 5 ∧ t s = 97 ∧ t (s + 1) = 103 ∧ t (s + 2) = 97 ∧ t (s + 3) = 105 ∧ t (s + 4) = 110) := by
  rw [wm_4 hl hb]
  apply propext
  by_cases q : len = 5
  · have e0 := he 0 (by decide) (by omega)
    rw [Int.add_zero] at e0
    have e1 := he 1 (by decide) (by omega)
    have e2 := he 2 (by decide) (by omega)
    have e3 := he 3 (by decide) (by omega)
    have e4 := he 4 (by decide) (by omega)
    omega
  · omega
theorem wt_5 {b t : Int → Int} {s len : Int} (hl : 1 ≤ len ∧ len ≤ 6) (hb : ∀ i, 0 ≤ i → i < len → 97 ≤ b (s + i) ∧ b (s + i) ≤ 122) (he : ∀ i, 0 ≤ i → i < len → b (s + i) = t (s + i)) : (wmA b s len 5 = true) = (len = 5 ∧ t s = 113 ∧ t (s + 1) = 117 ∧ t (s + 2) = 101 ∧ t (s + 3) = 117 ∧ t (s + 4) = 101) := by
  rw [wm_5 hl hb]
  apply propext
  by_cases q : len = 5
  · have e0 := he 0 (by decide) (by omega)
    rw [Int.add_zero] at e0
    have e1 := he 1 (by decide) (by omega)
    have e2 := he 2 (by decide) (by omega)
    have e3 := he 3 (by decide) (by omega)
    have e4 := he 4 (by decide) (by omega)
    omega
  · omega
theorem wt_6 {b t : Int → Int} {s len : Int} (hl : 1 ≤ len ∧ len ≤ 6) (hb : ∀ i, 0 ≤ i → i < len → 97 ≤ b (s + i) ∧ b (s + i) ≤ 122) (he : ∀ i, 0 ≤ i → i < len → b (s + i) = t (s + i)) : (wmA b s len 6 = true) = (len = 5 ∧ t s = 114 ∧ t (s + 1) = 105 ∧ t (s + 2) = 103 ∧ t (s + 3) = 104 ∧ t (s + 4) = 116) := by
  rw [wm_6 hl hb]
  apply propext
  by_cases q : len = 5
  · have e0 := he 0 (by decide) (by omega)
    rw [Int.add_zero] at e0
    have e1 := he 1 (by decide) (by omega)
    have e2 := he 2 (by decide) (by omega)
    have e3 := he 3 (by decide) (by omega)
    have e4 := he 4 (by decide) (by omega)
    omega
  · omega
theorem wt_7 {b t : Int → Int} {s len : Int} (hl : 1 ≤ len ∧ len ≤ 6) (hb : ∀ i, 0 ≤ i → i < len → 97 ≤ b (s + i) ∧ b (s + i) ≤ 122) (he : ∀ i, 0 ≤ i → i < len → b (s + i) = t (s + i)) : (wmA b s len 7 = true) = (len = 6 ∧ t s = 119 ∧ t (s + 1) = 97 ∧ t (s + 2) = 105 ∧ t (s + 3) = 116 ∧ t (s + 4) = 101 ∧ t (s + 5) = 100) := by
  rw [wm_7 hl hb]
  apply propext
  by_cases q : len = 6
  · have e0 := he 0 (by decide) (by omega)
    rw [Int.add_zero] at e0
    have e1 := he 1 (by decide) (by omega)
    have e2 := he 2 (by decide) (by omega)
    have e3 := he 3 (by decide) (by omega)
    have e4 := he 4 (by decide) (by omega)
    have e5 := he 5 (by decide) (by omega)
    omega
  · omega
theorem wt_8 {b t : Int → Int} {s len : Int} (hl : 1 ≤ len ∧ len ≤ 6) (hb : ∀ i, 0 ≤ i → i < len → 97 ≤ b (s + i) ∧ b (s + i) ≤ 122) (he : ∀ i, 0 ≤ i → i < len → b (s + i) = t (s + i)) : (wmA b s len 8 = true) = (len = 3 ∧ t s = 104 ∧ t (s + 1) = 97 ∧ t (s + 2) = 100) := by
  rw [wm_8 hl hb]
  apply propext
  by_cases q : len = 3
  · have e0 := he 0 (by decide) (by omega)
    rw [Int.add_zero] at e0
    have e1 := he 1 (by decide) (by omega)
    have e2 := he 2 (by decide) (by omega)
    omega
  · omega
theorem wt_9 {b t : Int → Int} {s len : Int} (hl : 1 ≤ len ∧ len ≤ 6) (hb : ∀ i, 0 ≤ i → i < len → 97 ≤ b (s + i) ∧ b (s + i) ≤ 122) (he : ∀ i, 0 ≤ i → i < len → b (s + i) = t (s + i)) : (wmA b s len 9 = true) = (len = 4 ∧ t s = 108 ∧ t (s + 1) = 97 ∧ t (s + 2) = 116 ∧ t (s + 3) = 101) := by
  rw [wm_9 hl hb]
  apply propext
  by_cases q : len = 4
  · have e0 := he 0 (by decide) (by omega)
    rw [Int.add_zero] at e0
    have e1 := he 1 (by decide) (by omega)
    have e2 := he 2 (by decide) (by omega)
    have e3 := he 3 (by decide) (by omega)
    omega
  · omega
theorem wt_10 {b t : Int → Int} {s len : Int} (hl : 1 ≤ len ∧ len ≤ 6) (hb : ∀ i, 0 ≤ i → i < len → 97 ≤ b (s + i) ∧ b (s + i) ≤ 122) (he : ∀ i, 0 ≤ i → i < len → b (s + i) = t (s + i)) : (wmA b s len 10 = true) = (len = 5 ∧ t s = 108 ∧ t (s + 1) = 105 ∧ t (s + 2) = 107 ∧ t (s + 3) = 101 ∧ t (s + 4) = 115) := by
  rw [wm_10 hl hb]
  apply propext
  by_cases q : len = 5
  · have e0 := he 0 (by decide) (by omega)
    rw [Int.add_zero] at e0
    have e1 := he 1 (by decide) (by omega)
    have e2 := he 2 (by decide) (by omega)
    have e3 := he 3 (by decide) (by omega)
    have e4 := he 4 (by decide) (by omega)
    omega
  · omega
theorem wt_11 {b t : Int → Int} {s len : Int} (hl : 1 ≤ len ∧ len ≤ 6) (hb : ∀ i, 0 ≤ i → i < len → 97 ≤ b (s + i) ∧ b (s + i) ≤ 122) (he : ∀ i, 0 ≤ i → i < len → b (s + i) = t (s + i)) : (wmA b s len 11 = true) = (len = 6 ∧ t s = 110 ∧ t (s + 1) = 117 ∧ t (s + 2) = 109 ∧ t (s + 3) = 98 ∧ t (s + 4) = 101 ∧ t (s + 5) = 114) := by
  rw [wm_11 hl hb]
  apply propext
  by_cases q : len = 6
  · have e0 := he 0 (by decide) (by omega)
    rw [Int.add_zero] at e0
    have e1 := he 1 (by decide) (by omega)
    have e2 := he 2 (by decide) (by omega)
    have e3 := he 3 (by decide) (by omega)
    have e4 := he 4 (by decide) (by omega)
    have e5 := he 5 (by decide) (by omega)
    omega
  · omega
theorem ex_0_1 {t : Int → Int} {s len : Int} (h : len = 4 ∧ t s = 108 ∧ t (s + 1) = 111 ∧ t (s + 2) = 97 ∧ t (s + 3) = 110) : ¬ (len = 4 ∧ t s = 100 ∧ t (s + 1) = 97 ∧ t (s + 2) = 121 ∧ t (s + 3) = 115) := by omega
theorem ex_0_2 {t : Int → Int} {s len : Int} (h : len = 4 ∧ t s = 108 ∧ t (s + 1) = 111 ∧ t (s + 2) = 97 ∧ t (s + 3) = 110) : ¬ (len = 3 ∧ t s = 108 ∧ t (s + 1) = 97 ∧ t (s + 2) = 103) := by omega
theorem ex_0_3 {t : Int → Int} {s len : Int} (h : len = 4 ∧ t s = 108 ∧ t (s + 1) = 111 ∧ t (s + 2) = 97 ∧ t (s + 3) = 110) : ¬ (len = 4 ∧ t s = 108 ∧ t (s + 1) = 105 ∧ t (s + 2) = 102 ∧ t (s + 3) = 101) := by omega
theorem ex_0_4 {t : Int → Int} {s len : Int} (h : len = 4 ∧ t s = 108 ∧ t (s + 1) = 111 ∧ t (s + 2) = 97 ∧ t (s + 3) = 110) : ¬ (len = 5 ∧ t s = 97 ∧ t (s + 1) = 103 ∧ t (s + 2) = 97 ∧ t (s + 3) = 105 ∧ t (s + 4) = 110) := by omega
theorem ex_0_5 {t : Int → Int} {s len : Int} (h : len = 4 ∧ t s = 108 ∧ t (s + 1) = 111 ∧ t (s + 2) = 97 ∧ t (s + 3) = 110) : ¬ (len = 5 ∧ t s = 113 ∧ t (s + 1) = 117 ∧ t (s + 2) = 101 ∧ t (s + 3) = 117 ∧ t (s + 4) = 101) := by omega
theorem ex_0_6 {t : Int → Int} {s len : Int} (h : len = 4 ∧ t s = 108 ∧ t (s + 1) = 111 ∧ t (s + 2) = 97 ∧ t (s + 3) = 110) : ¬ (len = 5 ∧ t s = 114 ∧ t (s + 1) = 105 ∧ t (s + 2) = 103 ∧ t (s + 3) = 104 ∧ t (s + 4) = 116) := by omega
theorem ex_0_7 {t : Int → Int} {s len : Int} (h : len = 4 ∧ t s = 108 ∧ t (s + 1) = 111 ∧ t (s + 2) = 97 ∧ t (s + 3) = 110) : ¬ (len = 6 ∧ t s = 119 ∧ t (s + 1) = 97 ∧ t (s + 2) = 105 ∧ t (s + 3) = 116 ∧ t (s + 4) = 101 ∧ t (s + 5) = 100) := by omega
theorem ex_0_8 {t : Int → Int} {s len : Int} (h : len = 4 ∧ t s = 108 ∧ t (s + 1) = 111 ∧ t (s + 2) = 97 ∧ t (s + 3) = 110) : ¬ (len = 3 ∧ t s = 104 ∧ t (s + 1) = 97 ∧ t (s + 2) = 100) := by omega
theorem ex_0_9 {t : Int → Int} {s len : Int} (h : len = 4 ∧ t s = 108 ∧ t (s + 1) = 111 ∧ t (s + 2) = 97 ∧ t (s + 3) = 110) : ¬ (len = 4 ∧ t s = 108 ∧ t (s + 1) = 97 ∧ t (s + 2) = 116 ∧ t (s + 3) = 101) := by omega
theorem ex_0_10 {t : Int → Int} {s len : Int} (h : len = 4 ∧ t s = 108 ∧ t (s + 1) = 111 ∧ t (s + 2) = 97 ∧ t (s + 3) = 110) : ¬ (len = 5 ∧ t s = 108 ∧ t (s + 1) = 105 ∧ t (s + 2) = 107 ∧ t (s + 3) = 101 ∧ t (s + 4) = 115) := by omega
theorem ex_0_11 {t : Int → Int} {s len : Int} (h : len = 4 ∧ t s = 108 ∧ t (s + 1) = 111 ∧ t (s + 2) = 97 ∧ t (s + 3) = 110) : ¬ (len = 6 ∧ t s = 110 ∧ t (s + 1) = 117 ∧ t (s + 2) = 109 ∧ t (s + 3) = 98 ∧ t (s + 4) = 101 ∧ t (s + 5) = 114) := by omega
theorem ex_1_2 {t : Int → Int} {s len : Int} (h : len = 4 ∧ t s = 100 ∧ t (s + 1) = 97 ∧ t (s + 2) = 121 ∧ t (s + 3) = 115) : ¬ (len = 3 ∧ t s = 108 ∧ t (s + 1) = 97 ∧ t (s + 2) = 103) := by omega
theorem ex_1_3 {t : Int → Int} {s len : Int} (h : len = 4 ∧ t s = 100 ∧ t (s + 1) = 97 ∧ t (s + 2) = 121 ∧ t (s + 3) = 115) : ¬ (len = 4 ∧ t s = 108 ∧ t (s + 1) = 105 ∧ t (s + 2) = 102 ∧ t (s + 3) = 101) := by omega
theorem ex_1_4 {t : Int → Int} {s len : Int} (h : len = 4 ∧ t s = 100 ∧ t (s + 1) = 97 ∧ t (s + 2) = 121 ∧ t (s + 3) = 115) : ¬ (len = 5 ∧ t s = 97 ∧ t (s + 1) = 103 ∧ t (s + 2) = 97 ∧ t (s + 3) = 105 ∧ t (s + 4) = 110) := by omega
theorem ex_1_5 {t : Int → Int} {s len : Int} (h : len = 4 ∧ t s = 100 ∧ t (s + 1) = 97 ∧ t (s + 2) = 121 ∧ t (s + 3) = 115) : ¬ (len = 5 ∧ t s = 113 ∧ t (s + 1) = 117 ∧ t (s + 2) = 101 ∧ t (s + 3) = 117 ∧ t (s + 4) = 101) := by omega
theorem ex_1_6 {t : Int → Int} {s len : Int} (h : len = 4 ∧ t s = 100 ∧ t (s + 1) = 97 ∧ t (s + 2) = 121 ∧ t (s + 3) = 115) : ¬ (len = 5 ∧ t s = 114 ∧ t (s + 1) = 105 ∧ t (s + 2) = 103 ∧ t (s + 3) = 104 ∧ t (s + 4) = 116) := by omega
theorem ex_1_7 {t : Int → Int} {s len : Int} (h : len = 4 ∧ t s = 100 ∧ t (s + 1) = 97 ∧ t (s + 2) = 121 ∧ t (s + 3) = 115) : ¬ (len = 6 ∧ t s = 119 ∧ t (s + 1) = 97 ∧ t (s + 2) = 105 ∧ t (s + 3) = 116 ∧ t (s + 4) = 101 ∧ t (s + 5) = 100) := by omega
theorem ex_1_8 {t : Int → Int} {s len : Int} (h : len = 4 ∧ t s = 100 ∧ t (s + 1) = 97 ∧ t (s + 2) = 121 ∧ t (s + 3) = 115) : ¬ (len = 3 ∧ t s = 104 ∧ t (s + 1) = 97 ∧ t (s + 2) = 100) := by omega
theorem ex_1_9 {t : Int → Int} {s len : Int} (h : len = 4 ∧ t s = 100 ∧ t (s + 1) = 97 ∧ t (s + 2) = 121 ∧ t (s + 3) = 115) : ¬ (len = 4 ∧ t s = 108 ∧ t (s + 1) = 97 ∧ t (s + 2) = 116 ∧ t (s + 3) = 101) := by omega
theorem ex_1_10 {t : Int → Int} {s len : Int} (h : len = 4 ∧ t s = 100 ∧ t (s + 1) = 97 ∧ t (s + 2) = 121 ∧ t (s + 3) = 115) : ¬ (len = 5 ∧ t s = 108 ∧ t (s + 1) = 105 ∧ t (s + 2) = 107 ∧ t (s + 3) = 101 ∧ t (s + 4) = 115) := by omega
theorem ex_1_11 {t : Int → Int} {s len : Int} (h : len = 4 ∧ t s = 100 ∧ t (s + 1) = 97 ∧ t (s + 2) = 121 ∧ t (s + 3) = 115) : ¬ (len = 6 ∧ t s = 110 ∧ t (s + 1) = 117 ∧ t (s + 2) = 109 ∧ t (s + 3) = 98 ∧ t (s + 4) = 101 ∧ t (s + 5) = 114) := by omega
theorem ex_2_3 {t : Int → Int} {s len : Int} (h : len = 3 ∧ t s = 108 ∧ t (s + 1) = 97 ∧ t (s + 2) = 103) : ¬ (len = 4 ∧ t s = 108 ∧ t (s + 1) = 105 ∧ t (s + 2) = 102 ∧ t (s + 3) = 101) := by omega
theorem ex_2_4 {t : Int → Int} {s len : Int} (h : len = 3 ∧ t s = 108 ∧ t (s + 1) = 97 ∧ t (s + 2) = 103) : ¬ (len = 5 ∧ t s = 97 ∧ t (s + 1) = 103 ∧ t (s + 2) = 97 ∧ t (s + 3) = 105 ∧ t (s + 4) = 110) := by omega
theorem ex_2_5 {t : Int → Int} {s len : Int} (h : len = 3 ∧ t s = 108 ∧ t (s + 1) = 97 ∧ t (s + 2) = 103) : ¬ (len = 5 ∧ t s = 113 ∧ t (s + 1) = 117 ∧ t (s + 2) = 101 ∧ t (s + 3) = 117 ∧ t (s + 4) = 101) := by omega
theorem ex_2_6 {t : Int → Int} {s len : Int} (h : len = 3 ∧ t s = 108 ∧ t (s + 1) = 97 ∧ t (s + 2) = 103) : ¬ (len = 5 ∧ t s = 114 ∧ t (s + 1) = 105 ∧ t (s + 2) = 103 ∧ t (s + 3) = 104 ∧ t (s + 4) = 116) := by omega
theorem ex_2_7 {t : Int → Int} {s len : Int} (h : len = 3 ∧ t s = 108 ∧ t (s + 1) = 97 ∧ t (s + 2) = 103) : ¬ (len = 6 ∧ t s = 119 ∧ t (s + 1) = 97 ∧ t (s + 2) = 105 ∧ t (s + 3) = 116 ∧ t (s + 4) = 101 ∧ t (s + 5) = 100) := by omega
theorem ex_2_8 {t : Int → Int} {s len : Int} (h : len = 3 ∧ t s = 108 ∧ t (s + 1) = 97 ∧ t (s + 2) = 103) : ¬ (len = 3 ∧ t s = 104 ∧ t (s + 1) = 97 ∧ t (s + 2) = 100) := by omega
theorem ex_2_9 {t : Int → Int} {s len : Int} (h : len = 3 ∧ t s = 108 ∧ t (s + 1) = 97 ∧ t (s + 2) = 103) : ¬ (len = 4 ∧ t s = 108 ∧ t (s + 1) = 97 ∧ t (s + 2) = 116 ∧ t (s + 3) = 101) := by omega
theorem ex_2_10 {t : Int → Int} {s len : Int} (h : len = 3 ∧ t s = 108 ∧ t (s + 1) = 97 ∧ t (s + 2) = 103) : ¬ (len = 5 ∧ t s = 108 ∧ t (s + 1) = 105 ∧ t (s + 2) = 107 ∧ t (s + 3) = 101 ∧ t (s + 4) = 115) := by omega
theorem ex_2_11 {t : Int → Int} {s len : Int} (h : len = 3 ∧ t s = 108 ∧ t (s + 1) = 97 ∧ t (s + 2) = 103) : ¬ (len = 6 ∧ t s = 110 ∧ t (s + 1) = 117 ∧ t (s + 2) = 109 ∧ t (s + 3) = 98 ∧ t (s + 4) = 101 ∧ t (s + 5) = 114) := by omega
theorem ex_3_4 {t : Int → Int} {s len : Int} (h : len = 4 ∧ t s = 108 ∧ t (s + 1) = 105 ∧ t (s + 2) = 102 ∧ t (s + 3) = 101) : ¬ (len = 5 ∧ t s = 97 ∧ t (s + 1) = 103 ∧ t (s + 2) = 97 ∧ t (s + 3) = 105 ∧ t (s + 4) = 110) := by omega
theorem ex_3_5 {t : Int → Int} {s len : Int} (h : len = 4 ∧ t s = 108 ∧ t (s + 1) = 105 ∧ t (s + 2) = 102 ∧ t (s + 3) = 101) : ¬ (len = 5 ∧ t s = 113 ∧ t (s + 1) = 117 ∧ t (s + 2) = 101 ∧ t (s + 3) = 117 ∧ t (s + 4) = 101) := by omega
theorem ex_3_6 {t : Int → Int} {s len : Int} (h : len = 4 ∧ t s = 108 ∧ t (s + 1) = 105 ∧ t (s + 2) = 102 ∧ t (s + 3) = 101) : ¬ (len = 5 ∧ t s = 114 ∧ t (s + 1) = 105 ∧ t (s + 2) = 103 ∧ t (s + 3) = 104 ∧ t (s + 4) = 116) := by omega
theorem ex_3_7 {t : Int → Int} {s len : Int} (h : len = 4 ∧ t s = 108 ∧ t (s + 1) = 105 ∧ t (s + 2) = 102 ∧ t (s + 3) = 101) : ¬ (len = 6 ∧ t s = 119 ∧ t (s + 1) = 97 ∧ t (s + 2) = 105 ∧ t (s + 3) = 116 ∧ t (s + 4) = 101 ∧ t (s + 5) = 100) := by omega
theorem ex_3_8 {t : Int → Int} {s len : Int} (h : len = 4 ∧ t s = 108 ∧ t (s + 1) = 105 ∧ t (s + 2) = 102 ∧ t (s + 3) = 101) : ¬ (len = 3 ∧ t s = 104 ∧ t (s + 1) = 97 ∧ t (s + 2) = 100) := by omega
theorem ex_3_9 {t : Int → Int} {s len : Int} (h : len = 4 ∧ t s = 108 ∧ t (s + 1) = 105 ∧ t (s + 2) = 102 ∧ t (s + 3) = 101) : ¬ (len = 4 ∧ t s = 108 ∧ t (s + 1) = 97 ∧ t (s + 2) = 116 ∧ t (s + 3) = 101) := by omega
theorem ex_3_10 {t : Int → Int} {s len : Int} (h : len = 4 ∧ t s = 108 ∧ t (s + 1) = 105 ∧ t (s + 2) = 102 ∧ t (s + 3) = 101) : ¬ (len = 5 ∧ t s = 108 ∧ t (s + 1) = 105 ∧ t (s + 2) = 107 ∧ t (s + 3) = 101 ∧ t (s + 4) = 115) := by omega
theorem ex_3_11 {t : Int → Int} {s len : Int} (h : len = 4 ∧ t s = 108 ∧ t (s + 1) = 105 ∧ t (s + 2) = 102 ∧ t (s + 3) = 101) : ¬ (len = 6 ∧ t s = 110 ∧ t (s + 1) = 117 ∧ t (s + 2) = 109 ∧ t (s + 3) = 98 ∧ t (s + 4) = 101 ∧ t (s + 5) = 114) := by omega
theorem ex_4_5 {t : Int → Int} {s len : Int} (h : len = 5 ∧ t s = 97 ∧ t (s + 1) = 103 ∧ t (s + 2) = 97 ∧ t (s + 3) = 105 ∧ t (s + 4) = 110) : ¬ (len = 5 ∧ t s = 113 ∧ t (s + 1) = 117 ∧ t (s + 2) = 101 ∧ t (s + 3) = 117 ∧ t (s + 4) = 101) := by omega
theorem ex_4_6 {t : Int → Int} {s len : Int} (h : len = 5 ∧ t s = 97 ∧ t (s + 1) = 103 ∧ t (s + 2) = 97 ∧ t (s + 3) = 105 ∧ t (s + 4) = 110) : ¬ (len = 5 ∧ t s = 114 ∧ t (s + 1) = 105 ∧ t (s + 2) = 103 ∧ t (s + 3) = 104 ∧ t (s + 4) = 116) := by omega
theorem ex_4_7 {t : Int → Int} {s len : Int} (h : len = 5 ∧ t s = 97 ∧ t (s + 1) = 103 ∧ t (s + 2) = 97 ∧ t (s + 3) = 105 ∧ t (s + 4) = 110) : ¬ (len = 6 ∧ t s = 119 ∧ t (s + 1) = 97 ∧ t (s + 2) = 105 ∧ t (s + 3) = 116 ∧ t (s + 4) = 101 ∧ t (s + 5) = 100) := by omega
theorem ex_4_8 {t : Int → Int} {s len : Int} (h : len = 5 ∧ t s = 97 ∧ t (s + 1) = 103 ∧ t (s + 2) = 97 ∧ t (s + 3) = 105 ∧ t (s + 4) = 110) : ¬ (len = 3 ∧ t s = 104 ∧ t (s + 1) = 97 ∧ t (s + 2) = 100) := by omega
theorem ex_4_9 {t : Int → Int} {s len : Int} (h : len = 5 ∧ t s = 97 ∧ t (s + 1) = 103 ∧ t (s + 2) = 97 ∧ t (s + 3) = 105 ∧ t (s + 4) = 110) : ¬ (len = 4 ∧ t s = 108 ∧ t (s + 1) = 97 ∧ t (s + 2) = 116 ∧ t (s + 3) = 101) := by omega
theorem ex_4_10 {t : Int → Int} {s len : Int} (h : len = 5 ∧ t s = 97 ∧ t (s + 1) = 103 ∧ t (s + 2) = 97 ∧ t (s + 3) = 105 ∧ t (s + 4) = 110) : ¬ (len = 5 ∧ t s = 108 ∧ t (s + 1) = 105 ∧ t (s + 2) = 107 ∧ t (s + 3) = 101 ∧ t (s + 4) = 115) := by omega
theorem ex_4_11 {t : Int → Int} {s len : Int} (h : len = 5 ∧ t s = 97 ∧ t (s + 1) = 103 ∧ t (s + 2) = 97 ∧ t (s + 3) = 105 ∧ t (s + 4) = 110) : ¬ (len = 6 ∧ t s = 110 ∧ t (s + 1) = 117 ∧ t (s + 2) = 109 ∧ t (s + 3) = 98 ∧ t (s + 4) = 101 ∧ t (s + 5) = 114) := by omega
theorem ex_5_6 {t : Int → Int} {s len : Int} (h : len = 5 ∧ t s = 113 ∧ t (s + 1) = 117 ∧ t (s + 2) = 101 ∧ t (s + 3) = 117 ∧ t (s + 4) = 101) : ¬ (len = 5 ∧ t s = 114 ∧ t (s + 1) = 105 ∧ t (s + 2) = 103 ∧ t (s + 3) = 104 ∧ t (s + 4) = 116) := by omega
theorem ex_5_7 {t : Int → Int} {s len : Int} (h : len = 5 ∧ t s = 113 ∧ t (s + 1) = 117 ∧ t (s + 2) = 101 ∧ t (s + 3) = 117 ∧ t (s + 4) = 101) : ¬ (len = 6 ∧ t s = 119 ∧ t (s + 1) = 97 ∧ t (s + 2) = 105 ∧ t (s + 3) = 116 ∧ t (s + 4) = 101 ∧ t (s + 5) = 100) := by omega
theorem ex_5_8 {t : Int → Int} {s len : Int} (h : len = 5 ∧ t s = 113 ∧ t (s + 1) = 117 ∧ t (s + 2) = 101 ∧ t (s + 3) = 117 ∧ t (s + 4) = 101) : ¬ (len = 3 ∧ t s = 104 ∧ t (s + 1) = 97 ∧ t (s + 2) = 100) := by omega
theorem ex_5_9 {t : Int → Int} {s len : Int} (h : len = 5 ∧ t s = 113 ∧ t (s + 1) = 117 ∧ t (s + 2) = 101 ∧ t (s + 3) = 117 ∧ t (s + 4) = 101) : ¬ (len = 4 ∧ t s = 108 ∧ t (s + 1) = 97 ∧ t (s + 2) = 116 ∧ t (s + 3) = 101) := by omega
theorem ex_5_10 {t : Int → Int} {s len : Int} (h : len = 5 ∧ t s = 113 ∧ t (s + 1) = 117 ∧ t (s + 2) = 101 ∧ t (s + 3) = 117 ∧ t (s + 4) = 101) : ¬ (len = 5 ∧ t s = 108 ∧ t (s + 1) = 105 ∧ t (s + 2) = 107 ∧ t (s + 3) = 101 ∧ t (s + 4) = 115) := by omega
theorem ex_5_11 {t : Int → Int} {s len : Int} (h : len = 5 ∧ t s = 113 ∧ t (s + 1) = 117 ∧ t (s + 2) = 101 ∧ t (s + 3) = 117 ∧ t (s + 4) = 101) : ¬ (len = 6 ∧ t s = 110 ∧ t (s + 1) = 117 ∧ t (s + 2) = 109 ∧ t (s + 3) = 98 ∧ t (s + 4) = 101 ∧ t (s + 5) = 114) := by omega
theorem ex_6_7 {t : Int → Int} {s len : Int} (h : len = 5 ∧ t s = 114 ∧ t (s + 1) = 105 ∧ t (s + 2) = 103 ∧ t (s + 3) = 104 ∧ t (s + 4) = 116) : ¬ (len = 6 ∧ t s = 119 ∧ t (s + 1) = 97 ∧ t (s + 2) = 105 ∧ t (s + 3) = 116 ∧ t (s + 4) = 101 ∧ t (s + 5) = 100) := by omega
theorem ex_6_8 {t : Int → Int} {s len : Int} (h : len = 5 ∧ t s = 114 ∧ t (s + 1) = 105 ∧ t (s + 2) = 103 ∧ t (s + 3) = 104 ∧ t (s + 4) = 116) : ¬ (len = 3 ∧ t s = 104 ∧ t (s + 1) = 97 ∧ t (s + 2) = 100) := by omega
theorem ex_6_9 {t : Int → Int} {s len : Int} (h : len = 5 ∧ t s = 114 ∧ t (s + 1) = 105 ∧ t (s + 2) = 103 ∧ t (s + 3) = 104 ∧ t (s + 4) = 116) : ¬ (len = 4 ∧ t s = 108 ∧ t (s + 1) = 97 ∧ t (s + 2) = 116 ∧ t (s + 3) = 101) := by omega
theorem ex_6_10 {t : Int → Int} {s len : Int} (h : len = 5 ∧ t s = 114 ∧ t (s + 1) = 105 ∧ t (s + 2) = 103 ∧ t (s + 3) = 104 ∧ t (s + 4) = 116) : ¬ (len = 5 ∧ t s = 108 ∧ t (s + 1) = 105 ∧ t (s + 2) = 107 ∧ t (s + 3) = 101 ∧ t (s + 4) = 115) := by omega
theorem ex_6_11 {t : Int → Int} {s len : Int} (h : len = 5 ∧ t s = 114 ∧ t (s + 1) = 105 ∧ t (s + 2) = 103 ∧ t (s + 3) = 104 ∧ t (s + 4) = 116) : ¬ (len = 6 ∧ t s = 110 ∧ t (s + 1) = 117 ∧ t (s + 2) = 109 ∧ t (s + 3) = 98 ∧ t (s + 4) = 101 ∧ t (s + 5) = 114) := by omega
theorem ex_7_8 {t : Int → Int} {s len : Int} (h : len = 6 ∧ t s = 119 ∧ t (s + 1) = 97 ∧ t (s + 2) = 105 ∧ t (s + 3) = 116 ∧ t (s + 4) = 101 ∧ t (s + 5) = 100) : ¬ (len = 3 ∧ t s = 104 ∧ t (s + 1) = 97 ∧ t (s + 2) = 100) := by omega
theorem ex_7_9 {t : Int → Int} {s len : Int} (h : len = 6 ∧ t s = 119 ∧ t (s + 1) = 97 ∧ t (s + 2) = 105 ∧ t (s + 3) = 116 ∧ t (s + 4) = 101 ∧ t (s + 5) = 100) : ¬ (len = 4 ∧ t s = 108 ∧ t (s + 1) = 97 ∧ t (s + 2) = 116 ∧ t (s + 3) = 101) := by omega
theorem ex_7_10 {t : Int → Int} {s len : Int} (h : len = 6 ∧ t s = 119 ∧ t (s + 1) = 97 ∧ t (s + 2) = 105 ∧ t (s + 3) = 116 ∧ t (s + 4) = 101 ∧ t (s + 5) = 100) : ¬ (len = 5 ∧ t s = 108 ∧ t (s + 1) = 105 ∧ t (s + 2) = 107 ∧ t (s + 3) = 101 ∧ t (s + 4) = 115) := by omega
theorem ex_7_11 {t : Int → Int} {s len : Int} (h : len = 6 ∧ t s = 119 ∧ t (s + 1) = 97 ∧ t (s + 2) = 105 ∧ t (s + 3) = 116 ∧ t (s + 4) = 101 ∧ t (s + 5) = 100) : ¬ (len = 6 ∧ t s = 110 ∧ t (s + 1) = 117 ∧ t (s + 2) = 109 ∧ t (s + 3) = 98 ∧ t (s + 4) = 101 ∧ t (s + 5) = 114) := by omega
theorem ex_8_9 {t : Int → Int} {s len : Int} (h : len = 3 ∧ t s = 104 ∧ t (s + 1) = 97 ∧ t (s + 2) = 100) : ¬ (len = 4 ∧ t s = 108 ∧ t (s + 1) = 97 ∧ t (s + 2) = 116 ∧ t (s + 3) = 101) := by omega
theorem ex_8_10 {t : Int → Int} {s len : Int} (h : len = 3 ∧ t s = 104 ∧ t (s + 1) = 97 ∧ t (s + 2) = 100) : ¬ (len = 5 ∧ t s = 108 ∧ t (s + 1) = 105 ∧ t (s + 2) = 107 ∧ t (s + 3) = 101 ∧ t (s + 4) = 115) := by omega
theorem ex_8_11 {t : Int → Int} {s len : Int} (h : len = 3 ∧ t s = 104 ∧ t (s + 1) = 97 ∧ t (s + 2) = 100) : ¬ (len = 6 ∧ t s = 110 ∧ t (s + 1) = 117 ∧ t (s + 2) = 109 ∧ t (s + 3) = 98 ∧ t (s + 4) = 101 ∧ t (s + 5) = 114) := by omega
theorem ex_9_10 {t : Int → Int} {s len : Int} (h : len = 4 ∧ t s = 108 ∧ t (s + 1) = 97 ∧ t (s + 2) = 116 ∧ t (s + 3) = 101) : ¬ (len = 5 ∧ t s = 108 ∧ t (s + 1) = 105 ∧ t (s + 2) = 107 ∧ t (s + 3) = 101 ∧ t (s + 4) = 115) := by omega
theorem ex_9_11 {t : Int → Int} {s len : Int} (h : len = 4 ∧ t s = 108 ∧ t (s + 1) = 97 ∧ t (s + 2) = 116 ∧ t (s + 3) = 101) : ¬ (len = 6 ∧ t s = 110 ∧ t (s + 1) = 117 ∧ t (s + 2) = 109 ∧ t (s + 3) = 98 ∧ t (s + 4) = 101 ∧ t (s + 5) = 114) := by omega
theorem ex_10_11 {t : Int → Int} {s len : Int} (h : len = 5 ∧ t s = 108 ∧ t (s + 1) = 105 ∧ t (s + 2) = 107 ∧ t (s + 3) = 101 ∧ t (s + 4) = 115) : ¬ (len = 6 ∧ t s = 110 ∧ t (s + 1) = 117 ∧ t (s + 2) = 109 ∧ t (s + 3) = 98 ∧ t (s + 4) = 101 ∧ t (s + 5) = 114) := by omega
theorem w_link {b t : Int → Int} {s len : Int} (hl : 1 ≤ len) (hb : ∀ i, 0 ≤ i → i < len → 97 ≤ b (s + i) ∧ b (s + i) ≤ 122) (he : ∀ i, 0 ≤ i → i < len → b (s + i) = t (s + i)) : (wdv b s len = -4 ∧ nmM t s len = -4) ∨ ((0 ≤ wdv b s len ∧ wdv b s len ≤ 6) ∧ nmM t s len = wdv b s len) ∨ ((7 ≤ wdv b s len ∧ wdv b s len ≤ 11) ∧ nmM t s len = wdv b s len + 3) := by
  unfold wdv nmM
  simp only [im_0, im_1, im_2, im_3, im_4, im_5, im_6, im_7, im_8, im_9, im_10, im_11]
  by_cases h6 : len ≤ 6
  · have hl2 : 1 ≤ len ∧ len ≤ 6 := ⟨hl, h6⟩
    rw [if_pos h6]
    simp only [wlt_s, show wlt b s len 0 = -4 from rfl, show ((0 : Nat) : Int) = 0 from rfl, show ((1 : Nat) : Int) = 1 from rfl, show ((2 : Nat) : Int) = 2 from rfl, show ((3 : Nat) : Int) = 3 from rfl, show ((4 : Nat) : Int) = 4 from rfl, show ((5 : Nat) : Int) = 5 from rfl, show ((6 : Nat) : Int) = 6 from rfl, show ((7 : Nat) : Int) = 7 from rfl, show ((8 : Nat) : Int) = 8 from rfl, show ((9 : Nat) : Int) = 9 from rfl, show ((10 : Nat) : Int) = 10 from rfl, show ((11 : Nat) : Int) = 11 from rfl, wt_0 hl2 hb he, wt_1 hl2 hb he, wt_2 hl2 hb he, wt_3 hl2 hb he, wt_4 hl2 hb he, wt_5 hl2 hb he, wt_6 hl2 hb he, wt_7 hl2 hb he, wt_8 hl2 hb he, wt_9 hl2 hb he, wt_10 hl2 hb he, wt_11 hl2 hb he]
    clear hb he
    by_cases q0 : len = 4 ∧ t s = 108 ∧ t (s + 1) = 111 ∧ t (s + 2) = 97 ∧ t (s + 3) = 110
    · simp only [if_pos q0, if_neg (ex_0_1 q0), if_neg (ex_0_2 q0), if_neg (ex_0_3 q0), if_neg (ex_0_4 q0), if_neg (ex_0_5 q0), if_neg (ex_0_6 q0), if_neg (ex_0_7 q0), if_neg (ex_0_8 q0), if_neg (ex_0_9 q0), if_neg (ex_0_10 q0), if_neg (ex_0_11 q0)]
      decide
    by_cases q1 : len = 4 ∧ t s = 100 ∧ t (s + 1) = 97 ∧ t (s + 2) = 121 ∧ t (s + 3) = 115
    · simp only [if_pos q1, if_neg q0, if_neg (ex_1_2 q1), if_neg (ex_1_3 q1), if_neg (ex_1_4 q1), if_neg (ex_1_5 q1), if_neg (ex_1_6 q1), if_neg (ex_1_7 q1), if_neg (ex_1_8 q1), if_neg (ex_1_9 q1), if_neg (ex_1_10 q1), if_neg (ex_1_11 q1)]
      decide
    by_cases q2 : len = 3 ∧ t s = 108 ∧ t (s + 1) = 97 ∧ t (s + 2) = 103
    · simp only [if_pos q2, if_neg q0, if_neg q1, if_neg (ex_2_3 q2), if_neg (ex_2_4 q2), if_neg (ex_2_5 q2), if_neg (ex_2_6 q2), if_neg (ex_2_7 q2), if_neg (ex_2_8 q2), if_neg (ex_2_9 q2), if_neg (ex_2_10 q2), if_neg (ex_2_11 q2)]
      decide
    by_cases q3 : len = 4 ∧ t s = 108 ∧ t (s + 1) = 105 ∧ t (s + 2) = 102 ∧ t (s + 3) = 101
    · simp only [if_pos q3, if_neg q0, if_neg q1, if_neg q2, if_neg (ex_3_4 q3), if_neg (ex_3_5 q3), if_neg (ex_3_6 q3), if_neg (ex_3_7 q3), if_neg (ex_3_8 q3), if_neg (ex_3_9 q3), if_neg (ex_3_10 q3), if_neg (ex_3_11 q3)]
      decide
    by_cases q4 : len = 5 ∧ t s = 97 ∧ t (s + 1) = 103 ∧ t (s + 2) = 97 ∧ t (s + 3) = 105 ∧ t (s + 4) = 110
    · simp only [if_pos q4, if_neg q0, if_neg q1, if_neg q2, if_neg q3, if_neg (ex_4_5 q4), if_neg (ex_4_6 q4), if_neg (ex_4_7 q4), if_neg (ex_4_8 q4), if_neg (ex_4_9 q4), if_neg (ex_4_10 q4), if_neg (ex_4_11 q4)]
      decide
    by_cases q5 : len = 5 ∧ t s = 113 ∧ t (s + 1) = 117 ∧ t (s + 2) = 101 ∧ t (s + 3) = 117 ∧ t (s + 4) = 101
    · simp only [if_pos q5, if_neg q0, if_neg q1, if_neg q2, if_neg q3, if_neg q4, if_neg (ex_5_6 q5), if_neg (ex_5_7 q5), if_neg (ex_5_8 q5), if_neg (ex_5_9 q5), if_neg (ex_5_10 q5), if_neg (ex_5_11 q5)]
      decide
    by_cases q6 : len = 5 ∧ t s = 114 ∧ t (s + 1) = 105 ∧ t (s + 2) = 103 ∧ t (s + 3) = 104 ∧ t (s + 4) = 116
    · simp only [if_pos q6, if_neg q0, if_neg q1, if_neg q2, if_neg q3, if_neg q4, if_neg q5, if_neg (ex_6_7 q6), if_neg (ex_6_8 q6), if_neg (ex_6_9 q6), if_neg (ex_6_10 q6), if_neg (ex_6_11 q6)]
      decide
    by_cases q7 : len = 6 ∧ t s = 119 ∧ t (s + 1) = 97 ∧ t (s + 2) = 105 ∧ t (s + 3) = 116 ∧ t (s + 4) = 101 ∧ t (s + 5) = 100
    · simp only [if_pos q7, if_neg q0, if_neg q1, if_neg q2, if_neg q3, if_neg q4, if_neg q5, if_neg q6, if_neg (ex_7_8 q7), if_neg (ex_7_9 q7), if_neg (ex_7_10 q7), if_neg (ex_7_11 q7)]
      decide
    by_cases q8 : len = 3 ∧ t s = 104 ∧ t (s + 1) = 97 ∧ t (s + 2) = 100
    · simp only [if_pos q8, if_neg q0, if_neg q1, if_neg q2, if_neg q3, if_neg q4, if_neg q5, if_neg q6, if_neg q7, if_neg (ex_8_9 q8), if_neg (ex_8_10 q8), if_neg (ex_8_11 q8)]
      decide
    by_cases q9 : len = 4 ∧ t s = 108 ∧ t (s + 1) = 97 ∧ t (s + 2) = 116 ∧ t (s + 3) = 101
    · simp only [if_pos q9, if_neg q0, if_neg q1, if_neg q2, if_neg q3, if_neg q4, if_neg q5, if_neg q6, if_neg q7, if_neg q8, if_neg (ex_9_10 q9), if_neg (ex_9_11 q9)]
      decide
    by_cases q10 : len = 5 ∧ t s = 108 ∧ t (s + 1) = 105 ∧ t (s + 2) = 107 ∧ t (s + 3) = 101 ∧ t (s + 4) = 115
    · simp only [if_pos q10, if_neg q0, if_neg q1, if_neg q2, if_neg q3, if_neg q4, if_neg q5, if_neg q6, if_neg q7, if_neg q8, if_neg q9, if_neg (ex_10_11 q10)]
      decide
    by_cases q11 : len = 6 ∧ t s = 110 ∧ t (s + 1) = 117 ∧ t (s + 2) = 109 ∧ t (s + 3) = 98 ∧ t (s + 4) = 101 ∧ t (s + 5) = 114
    · simp only [if_pos q11, if_neg q0, if_neg q1, if_neg q2, if_neg q3, if_neg q4, if_neg q5, if_neg q6, if_neg q7, if_neg q8, if_neg q9, if_neg q10]
      decide
    simp only [if_neg q0, if_neg q1, if_neg q2, if_neg q3, if_neg q4, if_neg q5, if_neg q6, if_neg q7, if_neg q8, if_neg q9, if_neg q10, if_neg q11]
    decide
  · rw [if_neg h6]
    simp only [if_neg (show ¬ (len = 4 ∧ t s = 108 ∧ t (s + 1) = 111 ∧ t (s + 2) = 97 ∧ t (s + 3) = 110) by omega), if_neg (show ¬ (len = 4 ∧ t s = 100 ∧ t (s + 1) = 97 ∧ t (s + 2) = 121 ∧ t (s + 3) = 115) by omega), if_neg (show ¬ (len = 3 ∧ t s = 108 ∧ t (s + 1) = 97 ∧ t (s + 2) = 103) by omega), if_neg (show ¬ (len = 4 ∧ t s = 108 ∧ t (s + 1) = 105 ∧ t (s + 2) = 102 ∧ t (s + 3) = 101) by omega), if_neg (show ¬ (len = 5 ∧ t s = 97 ∧ t (s + 1) = 103 ∧ t (s + 2) = 97 ∧ t (s + 3) = 105 ∧ t (s + 4) = 110) by omega), if_neg (show ¬ (len = 5 ∧ t s = 113 ∧ t (s + 1) = 117 ∧ t (s + 2) = 101 ∧ t (s + 3) = 117 ∧ t (s + 4) = 101) by omega), if_neg (show ¬ (len = 5 ∧ t s = 114 ∧ t (s + 1) = 105 ∧ t (s + 2) = 103 ∧ t (s + 3) = 104 ∧ t (s + 4) = 116) by omega), if_neg (show ¬ (len = 6 ∧ t s = 119 ∧ t (s + 1) = 97 ∧ t (s + 2) = 105 ∧ t (s + 3) = 116 ∧ t (s + 4) = 101 ∧ t (s + 5) = 100) by omega), if_neg (show ¬ (len = 3 ∧ t s = 104 ∧ t (s + 1) = 97 ∧ t (s + 2) = 100) by omega), if_neg (show ¬ (len = 4 ∧ t s = 108 ∧ t (s + 1) = 97 ∧ t (s + 2) = 116 ∧ t (s + 3) = 101) by omega), if_neg (show ¬ (len = 5 ∧ t s = 108 ∧ t (s + 1) = 105 ∧ t (s + 2) = 107 ∧ t (s + 3) = 101 ∧ t (s + 4) = 115) by omega), if_neg (show ¬ (len = 6 ∧ t s = 110 ∧ t (s + 1) = 117 ∧ t (s + 2) = 109 ∧ t (s + 3) = 98 ∧ t (s + 4) = 101 ∧ t (s + 5) = 114) by omega)]
    decide
