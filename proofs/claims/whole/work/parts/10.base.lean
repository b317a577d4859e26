/-- counting -/
def zc (p : Int → Bool) : Nat → Int
  | 0 => 0
  | n + 1 => zc p n + if p (n : Int) then 1 else 0
theorem zc_bd (p : Int → Bool) : ∀ n, 0 ≤ zc p n ∧ zc p n ≤ n
  | 0 => by simp [zc]
  | n + 1 => by
    have h := zc_bd p n
    simp only [zc]
    split <;> omega
theorem mj_down {n : Nat} {S : Nat → Prop} (hb : S n) (hs : ∀ j, j < n → S (j + 1) → S j) : ∀ j, j ≤ n → S j := by
  have h : ∀ k j, j + k = n → S j := by
    intro k
    induction k with
    | zero => intro j e; have : j = n := by omega
              rw [this]; exact hb
    | succ k ih => intro j e; exact hs j (by omega) (ih (j + 1) (by omega))
  intro j hj
  exact h (n - j) j (by omega)
theorem mj_w_id {x : Int} (h1 : -2147483648 ≤ x) (h2 : x < 2147483648) : mj_w x = x := by unfold mj_w; omega
