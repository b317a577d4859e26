/-! What holds between the calls of the law: the class's state and the reference's, coupled. -/
theorem mj_run_cg {L d m pc : Nat} {ls ls' st st' : List mj_V} {c : Nat} {π : mj_P} {μ μ' : mj_M} {Q : mj_Q} (h : mj_run L d m pc ls st c π μ Q) (h1 : ls = ls') (h3 : μ = μ') (h2 : st = st') : mj_run L d m pc ls' st' c π μ' Q := by
  subst h1; subst h2; subst h3; exact h
theorem mj_pt_self {f : Int → Int} {i v : Int} (h : f i = v) : mj_pt f i v = f := by
  funext j
  unfold mj_pt
  split
  · next e => rw [e, h]
  · rfl
theorem mj_pt_pt {f : Int → Int} {i v w : Int} : mj_pt (mj_pt f i v) i w = mj_pt f i w := by
  funext j
  unfold mj_pt
  split <;> rfl
theorem mj_up_up {μ : mj_M} {k : Nat} {i v w : Int} : mj_up (mj_up μ k i v) k i w = mj_up μ k i w := by
  funext j
  unfold mj_up
  split
  · rw [if_pos rfl]; exact mj_pt_pt
  · rfl
/-- some run gives an equation -/
theorem mj_call_ex {L d m : Nat} {as : List mj_V} {c : Nat} {π : mj_P} {μ : mj_M} {P : mj_Q} (h : mj_call L d m as c π μ P) : ∃ r c' π' μ', P r c' π' μ' ∧ ∀ Q : mj_Q, mj_call L d m as c π μ Q = Q r c' π' μ' := by
  obtain ⟨n, hn⟩ := id h
  obtain ⟨r, c', π', μ', hd⟩ := mj_det n _ _ _ _ _ _ _ _ _ hn
  refine ⟨r, c', π', μ', (hd P).mpr hn, fun Q => ?_⟩
  exact mj_call_eq ⟨n, (hd _).mp ⟨rfl, rfl, rfl, rfl⟩⟩ Q
/-- rows of choices: what is left is k titles, the next one is 12 - k -/
def pf (m v f : Int → Int) : Nat → Int → Int → Prop
  | 0, _, _ => True
  | k + 1, a, b => (f (11 - k) = 0 ∧ pf m v f k a b) ∨ (f (11 - k) = 1 ∧ (v (11 - k) = 1 ∨ v (11 - k) = 3) ∧ m (11 - k) ≤ a ∧ pf m v f k (a - m (11 - k)) b) ∨ (f (11 - k) = 2 ∧ (v (11 - k) = 2 ∨ v (11 - k) = 3) ∧ m (11 - k) ≤ b ∧ pf m v f k a (b - m (11 - k)))
def pw (w m f : Int → Int) : Nat → Int
  | 0 => 0
  | k + 1 => (if 0 < f (11 - k) then w (11 - k) * 10000 - m (11 - k) else 0) + pw w m f k
def plt (f g : Int → Int) : Nat → Prop
  | 0 => False
  | k + 1 => f (11 - k) < g (11 - k) ∨ (f (11 - k) = g (11 - k) ∧ plt f g k)
def popt (w m v : Int → Int) (a b : Int) (f : Int → Int) : Prop := pf m v f 12 a b ∧ ∀ g, pf m v g 12 a b → pw w m g 12 < pw w m f 12 ∨ (pw w m g 12 = pw w m f 12 ∧ ¬ plt g f 12)
def zbt (w : Int) (n : Int) : Prop := 0 ≤ w ∧ w < 16777216 ∧ ∀ i : Nat, n ≤ i → (Int32.ofInt w).toBitVec.getLsbD i = false
def JN (r t c l q e d p : Int) : Prop := (0 ≤ r ∧ r ≤ 6) ∧ (0 ≤ t ∧ t ≤ 12) ∧ (0 ≤ c ∧ c ≤ 24) ∧ (0 ≤ l ∧ l ≤ 10) ∧ (0 ≤ q ∧ q ≤ 30) ∧ (0 ≤ e ∧ e ≤ 40) ∧ (0 ≤ d ∧ d ≤ 99) ∧ (0 ≤ p ∧ p ≤ 200)
def JT (r t : Int) (to ki re sc mi : Int → Int) : Prop := (∀ i, 0 ≤ i → i < t → (0 ≤ to i ∧ to i ≤ 3) ∧ (0 ≤ ki i ∧ ki i ≤ 7) ∧ (0 ≤ re i ∧ re i < r)) ∧ (∀ i, (0 ≤ sc i ∧ sc i ≤ 8) ∧ (t ≤ i → sc i = 0)) ∧ (∀ i, 0 ≤ mi i ∧ mi i ≤ 90)
def JC (t n l d : Int) (ti wh li pl si : Int → Int) : Prop := (∀ i, 0 ≤ i → i < n → (0 ≤ ti i ∧ ti i < t) ∧ (0 ≤ wh i ∧ wh i ≤ 5) ∧ (1 ≤ wh i ∧ wh i ≤ 3 → 0 ≤ li i ∧ li i < l) ∧ (¬ (1 ≤ wh i ∧ wh i ≤ 3) → li i = -4) ∧ (0 ≤ si i ∧ si i ≤ d)) ∧ ∀ i, n ≤ i → pl i = 0
def JW (n d : Int) (wb : Int → Int) : Prop := ∀ i, 0 ≤ i → i < d → zbt (wb i) n
def JL (n : Int) (to lk cs : Int → Int) : Prop := (∀ i, 0 ≤ i → i < n → (1 ≤ to i ∧ to i ≤ 15) ∧ (0 ≤ lk i ∧ lk i ≤ 255)) ∧ ∀ i, n ≤ i → cs i = 0
def JLt (n d : Int) (f g : Int → Int) : Prop := (∀ i, i < n * 12 → g i = f i) ∧ (∀ i, n * 12 ≤ i → i < 120 → f i = -4) ∧ ∀ i, f i = -4 ∨ (0 ≤ f i ∧ f i ≤ d)
def JQ (n l t d : Int) (li ti ca st : Int → Int) : Prop := ∀ i, 0 ≤ i → i < n → (0 ≤ li i ∧ li i < l) ∧ (0 ≤ ti i ∧ ti i < t) ∧ (0 ≤ ca i ∧ ca i ≤ d) ∧ (0 ≤ st i ∧ st i ≤ 2)
def JEr (n t d : Int) (ti ea ca : Int → Int) : Prop := ∀ i, 0 ≤ i → i < n → (0 ≤ ti i ∧ ti i < t) ∧ (1 ≤ ea i ∧ ea i ≤ 3) ∧ (0 ≤ ca i ∧ ca i ≤ d)
def JS (sz ln ce la ss cl : Int → Int) : Prop := ∀ k, 0 ≤ k → k ≤ 3 → (sz k = -4 ∧ la k = -4) ∨ ((0 ≤ sz k ∧ sz k ≤ 60) ∧ ss k = sz k ∧ la k = ln k ∧ (0 ≤ ln k ∧ ln k ≤ 2) ∧ ∀ i, 0 ≤ i → i < sz k → cl (60 * k + i) = ce (60 * k + i))
def JRu (r nu ke rf rt : Int → Int) (kc : Int) : Prop := (∀ i, 0 ≤ i → i < 5 → r i = nu i) ∧ r 5 = kc ∧ (∀ i, 0 ≤ i → i < kc → r (6 + i) = ke i) ∧ (∀ i, 0 ≤ i → i < 12 → r (11 + i) = rf i ∧ r (23 + i) = rt i) ∧ ((1 ≤ nu 0 ∧ nu 0 ≤ 6) ∧ (1 ≤ nu 1 ∧ nu 1 ≤ 60) ∧ (0 ≤ nu 2 ∧ nu 2 ≤ 9) ∧ (1 ≤ nu 3 ∧ nu 3 ≤ 99) ∧ (0 ≤ nu 4 ∧ nu 4 ≤ 99)) ∧ (1 ≤ kc ∧ kc ≤ 5) ∧ (∀ i, 0 ≤ i → i < kc → (0 ≤ ke i ∧ ke i ≤ 4) ∨ (10 ≤ ke i ∧ ke i ≤ 14)) ∧ ∀ i, 0 ≤ i → i < 12 → rf i = -4 ∨ (0 ≤ rf i ∧ rf i ≤ rt i ∧ rt i ≤ 999)
def JP (t : Int) (who w m v ch : Int → Int) (a b s : Int) : Prop := (∀ i, (0 ≤ w i ∧ w i ≤ 30) ∧ (0 ≤ m i ∧ m i ≤ 720) ∧ (0 ≤ v i ∧ v i ≤ 3) ∧ (v i ≠ 0 → 0 < w i) ∧ (t ≤ i → w i = 0 ∧ m i = 0 ∧ v i = 0)) ∧ (0 ≤ a ∧ a ≤ 2400) ∧ (0 ≤ b ∧ b ≤ 2400) ∧ (s ≠ 0 → popt w m v a b who) ∧ ∀ i, ch i = 0
def JST (le mo un : Int → Int) : Prop := (le 0 = 1 ∧ le 1 = 1 ∧ le 2 = 0 ∧ le 3 = 1 ∧ le 4 = 0) ∧ (mo 0 = 6 ∧ mo 1 = 60 ∧ mo 2 = 9 ∧ mo 3 = 99 ∧ mo 4 = 99) ∧ (un 0 = 2 ∧ un 1 = 14 ∧ un 2 = 2 ∧ un 3 = 20 ∧ un 4 = 0)
/-- the class's state alone -/
def JA (x y : Nat) (μ : mj_M) : Prop :=
  ((x = 31 ∧ y = 62) ∨ (x = 62 ∧ y = 31)) ∧
  (JN (μ 5 6) (μ 5 7) (μ 12 5) (μ 18 4) (μ 23 5) (μ 36 5) (μ 4 7) (μ 2 1)) ∧
  (JT (μ 5 6) (μ 5 7) (μ 7) (μ 8) (μ 9) (μ 10) (μ 11)) ∧
  (JC (μ 5 7) (μ 12 5) (μ 18 4) (μ 4 7) (μ 13) (μ 14) (μ 15) (μ 16) (μ 17)) ∧
  (JW (μ 12 5) (μ 4 7) (μ 30)) ∧
  (JL (μ 18 4) (μ 19) (μ 20) (μ 21)) ∧
  (JQ (μ 23 5) (μ 18 4) (μ 5 7) (μ 4 7) (μ 24) (μ 25) (μ 26) (μ 27)) ∧
  (JEr (μ 36 5) (μ 5 7) (μ 4 7) (μ 37) (μ 40) (μ 41)) ∧
  (JP (μ 5 7) (μ 53) (μ 54) (μ 55) (μ 56) (μ 109) (μ 52 8) (μ 52 9) (μ 52 11)) ∧
  (JST (μ 1001) (μ 1002) (μ 1003)) ∧
  (∀ i, -2147483648 ≤ μ 1000 i ∧ μ 1000 i < 2147483648)
theorem JA.xy {x y : Nat} {μ : mj_M} (h : JA x y μ) : (x = 31 ∧ y = 62) ∨ (x = 62 ∧ y = 31) := h.1
theorem JA.n {x y : Nat} {μ : mj_M} (h : JA x y μ) : JN (μ 5 6) (μ 5 7) (μ 12 5) (μ 18 4) (μ 23 5) (μ 36 5) (μ 4 7) (μ 2 1) := h.2.1
theorem JA.ti {x y : Nat} {μ : mj_M} (h : JA x y μ) : JT (μ 5 6) (μ 5 7) (μ 7) (μ 8) (μ 9) (μ 10) (μ 11) := h.2.2.1
theorem JA.co {x y : Nat} {μ : mj_M} (h : JA x y μ) : JC (μ 5 7) (μ 12 5) (μ 18 4) (μ 4 7) (μ 13) (μ 14) (μ 15) (μ 16) (μ 17) := h.2.2.2.1
theorem JA.wb {x y : Nat} {μ : mj_M} (h : JA x y μ) : JW (μ 12 5) (μ 4 7) (μ 30) := h.2.2.2.2.1
theorem JA.li {x y : Nat} {μ : mj_M} (h : JA x y μ) : JL (μ 18 4) (μ 19) (μ 20) (μ 21) := h.2.2.2.2.2.1
theorem JA.rq {x y : Nat} {μ : mj_M} (h : JA x y μ) : JQ (μ 23 5) (μ 18 4) (μ 5 7) (μ 4 7) (μ 24) (μ 25) (μ 26) (μ 27) := h.2.2.2.2.2.2.1
theorem JA.er {x y : Nat} {μ : mj_M} (h : JA x y μ) : JEr (μ 36 5) (μ 5 7) (μ 4 7) (μ 37) (μ 40) (μ 41) := h.2.2.2.2.2.2.2.1
theorem JA.pc {x y : Nat} {μ : mj_M} (h : JA x y μ) : JP (μ 5 7) (μ 53) (μ 54) (μ 55) (μ 56) (μ 109) (μ 52 8) (μ 52 9) (μ 52 11) := h.2.2.2.2.2.2.2.2.1
theorem JA.st {x y : Nat} {μ : mj_M} (h : JA x y μ) : JST (μ 1001) (μ 1002) (μ 1003) := h.2.2.2.2.2.2.2.2.2.1
theorem JA.sc {x y : Nat} {μ : mj_M} (h : JA x y μ) : ∀ i, -2147483648 ≤ μ 1000 i ∧ μ 1000 i < 2147483648 := h.2.2.2.2.2.2.2.2.2.2
/-- the reference's numbers and arrays are the class's -/
def J (x y : Nat) (μ : mj_M) : Prop :=
  (JA x y μ) ∧
  (μ 67 12 = μ 5 6 ∧ μ 67 14 = μ 5 7 ∧ μ 67 20 = μ 12 5 ∧ μ 67 27 = μ 18 4 ∧ μ 67 32 = μ 23 5 ∧ μ 67 47 = μ 36 5 ∧ μ 67 0 = μ 4 7 ∧ μ 67 5 = μ 2 1 ∧ μ 67 10 = μ 2 2) ∧
  (μ 72 = μ 6 ∧ μ 73 = μ 7 ∧ μ 74 = μ 8 ∧ μ 75 = μ 9 ∧ μ 76 = μ 10 ∧ μ 77 = μ 11) ∧
  (μ 78 = μ 13 ∧ μ 79 = μ 14 ∧ μ 80 = μ 15 ∧ μ 81 = μ 16 ∧ μ 82 = μ 17 ∧ μ 83 = μ 30) ∧
  (μ 84 = μ 19 ∧ μ 85 = μ 20 ∧ μ 86 = μ 21) ∧
  (μ 88 = μ 24 ∧ μ 89 = μ 25 ∧ μ 90 = μ 26 ∧ μ 91 = μ 27 ∧ μ 92 = μ 28) ∧
  (μ 100 = μ 37 ∧ μ 101 = μ 38 ∧ μ 102 = μ 39 ∧ μ 103 = μ 40 ∧ μ 104 = μ 41) ∧
  (JLt (μ 18 4) (μ 4 7) (μ 22) (μ 87)) ∧
  (∀ i, μ 3 i = mj_b (μ 71 i) ∧ 0 ≤ μ 71 i ∧ μ 71 i ≤ 255) ∧
  (JRu (μ 68) (μ (x + 1)) (μ (x + 2)) (μ (x + 3)) (μ (x + 4)) (μ x 4)) ∧
  (JS (μ 59) (μ 60) (μ 61) (μ 105) (μ 106) (μ 107))
theorem J.a {x y : Nat} {μ : mj_M} (h : J x y μ) : JA x y μ := h.1
theorem J.en {x y : Nat} {μ : mj_M} (h : J x y μ) : μ 67 12 = μ 5 6 ∧ μ 67 14 = μ 5 7 ∧ μ 67 20 = μ 12 5 ∧ μ 67 27 = μ 18 4 ∧ μ 67 32 = μ 23 5 ∧ μ 67 47 = μ 36 5 ∧ μ 67 0 = μ 4 7 ∧ μ 67 5 = μ 2 1 ∧ μ 67 10 = μ 2 2 := h.2.1
theorem J.et {x y : Nat} {μ : mj_M} (h : J x y μ) : μ 72 = μ 6 ∧ μ 73 = μ 7 ∧ μ 74 = μ 8 ∧ μ 75 = μ 9 ∧ μ 76 = μ 10 ∧ μ 77 = μ 11 := h.2.2.1
theorem J.ec {x y : Nat} {μ : mj_M} (h : J x y μ) : μ 78 = μ 13 ∧ μ 79 = μ 14 ∧ μ 80 = μ 15 ∧ μ 81 = μ 16 ∧ μ 82 = μ 17 ∧ μ 83 = μ 30 := h.2.2.2.1
theorem J.el {x y : Nat} {μ : mj_M} (h : J x y μ) : μ 84 = μ 19 ∧ μ 85 = μ 20 ∧ μ 86 = μ 21 := h.2.2.2.2.1
theorem J.eq {x y : Nat} {μ : mj_M} (h : J x y μ) : μ 88 = μ 24 ∧ μ 89 = μ 25 ∧ μ 90 = μ 26 ∧ μ 91 = μ 27 ∧ μ 92 = μ 28 := h.2.2.2.2.2.1
theorem J.ee {x y : Nat} {μ : mj_M} (h : J x y μ) : μ 100 = μ 37 ∧ μ 101 = μ 38 ∧ μ 102 = μ 39 ∧ μ 103 = μ 40 ∧ μ 104 = μ 41 := h.2.2.2.2.2.2.1
theorem J.lt {x y : Nat} {μ : mj_M} (h : J x y μ) : JLt (μ 18 4) (μ 4 7) (μ 22) (μ 87) := h.2.2.2.2.2.2.2.1
theorem J.tp {x y : Nat} {μ : mj_M} (h : J x y μ) : ∀ i, μ 3 i = mj_b (μ 71 i) ∧ 0 ≤ μ 71 i ∧ μ 71 i ≤ 255 := h.2.2.2.2.2.2.2.2.1
theorem J.ru {x y : Nat} {μ : mj_M} (h : J x y μ) : JRu (μ 68) (μ (x + 1)) (μ (x + 2)) (μ (x + 3)) (μ (x + 4)) (μ x 4) := h.2.2.2.2.2.2.2.2.2.1
theorem J.sh {x y : Nat} {μ : mj_M} (h : J x y μ) : JS (μ 59) (μ 60) (μ 61) (μ 105) (μ 106) (μ 107) := h.2.2.2.2.2.2.2.2.2.2
/-- after both calls: the same answer, coupled again -/
def KE (a : Int) : mj_Q := fun r c π μ => r = [.inl a] ∧ c = 110 ∧ ∃ x y z, π = pz x y z ∧ J x y μ
/-- after the class's call: the reference's -/
noncomputable def K2 (L m : Nat) (as : List mj_V) : mj_Q := fun r c π μ => match r with
  | [.inl a] => mj_call L 99 m as c π μ (KE a)
  | _ => False
theorem k_2 {L m : Nat} {as : List mj_V} {c : Nat} {π : mj_P} {μ : mj_M} {a : Int} : K2 L m as [.inl a] c π μ = mj_call L 99 m as c π μ (KE a) := rfl
theorem k_e {a v : Int} {x y z : Nat} {μ : mj_M} (h : v = a) (hJ : J x y μ) : KE a [.inl v] 110 (pz x y z) μ := ⟨by rw [h], rfl, x, y, z, rfl, hJ⟩
/-- a pair of calls of the law -/
def KK (L m1 m2 : Nat) (as : List mj_V) (x y z : Nat) (μ : mj_M) : Prop := mj_call L 99 m1 (.inr (.inr 1) :: as) 110 (pz x y z) μ (K2 L m2 (.inr (.inr 67) :: as))
