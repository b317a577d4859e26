theorem mj_ifs {α : Type} {p : Prop} [Decidable p] {x z y : α} (h : (if p then some x else some z) = some y) : (if p then x else z) = y := by
  by_cases hp : p
  · rw [if_pos hp] at h ⊢; exact Option.some.inj h
  · rw [if_neg hp] at h ⊢; exact Option.some.inj h
section
variable {L m pc npc c : Nat} {a b : Int} {ls : List mj_V} {π : mj_P} {μ : mj_M}
theorem n_10 : ∀ {st : List mj_V} {X : mj_N}, mj_nx L m pc npc 10 a b ls st c π μ = some X → ∃ (y : Int) (x : Int) (st' : List mj_V), st = .inl y :: .inl x :: st' ∧ (npc, ls, .inl (mj_w (x + y)) :: st', π, μ) = X
  | .inl y :: .inl x :: st', _, h => ⟨y, x, _, rfl, Option.some.inj (show some (npc, ls, .inl (mj_w (x + y)) :: st', π, μ) = some _ from h)⟩
  | [], _, h => nomatch (show (none : Option mj_N) = some _ from h)
  | .inr (.inl _) :: _, _, h => nomatch (show (none : Option mj_N) = some _ from h)
  | .inr (.inr _) :: _, _, h => nomatch (show (none : Option mj_N) = some _ from h)
  | .inl y :: [], _, h => nomatch (show (none : Option mj_N) = some _ from h)
  | .inl y :: .inr (.inl _) :: _, _, h => nomatch (show (none : Option mj_N) = some _ from h)
  | .inl y :: .inr (.inr _) :: _, _, h => nomatch (show (none : Option mj_N) = some _ from h)
theorem n_11 : ∀ {st : List mj_V} {X : mj_N}, mj_nx L m pc npc 11 a b ls st c π μ = some X → ∃ (y : Int) (x : Int) (st' : List mj_V), st = .inl y :: .inl x :: st' ∧ (npc, ls, .inl (mj_w (x - y)) :: st', π, μ) = X
  | .inl y :: .inl x :: st', _, h => ⟨y, x, _, rfl, Option.some.inj (show some (npc, ls, .inl (mj_w (x - y)) :: st', π, μ) = some _ from h)⟩
  | [], _, h => nomatch (show (none : Option mj_N) = some _ from h)
  | .inr (.inl _) :: _, _, h => nomatch (show (none : Option mj_N) = some _ from h)
  | .inr (.inr _) :: _, _, h => nomatch (show (none : Option mj_N) = some _ from h)
  | .inl y :: [], _, h => nomatch (show (none : Option mj_N) = some _ from h)
  | .inl y :: .inr (.inl _) :: _, _, h => nomatch (show (none : Option mj_N) = some _ from h)
  | .inl y :: .inr (.inr _) :: _, _, h => nomatch (show (none : Option mj_N) = some _ from h)
theorem n_12 : ∀ {st : List mj_V} {X : mj_N}, mj_nx L m pc npc 12 a b ls st c π μ = some X → ∃ (y : Int) (x : Int) (st' : List mj_V), st = .inl y :: .inl x :: st' ∧ (npc, ls, .inl (mj_w (x * y)) :: st', π, μ) = X
  | .inl y :: .inl x :: st', _, h => ⟨y, x, _, rfl, Option.some.inj (show some (npc, ls, .inl (mj_w (x * y)) :: st', π, μ) = some _ from h)⟩
  | [], _, h => nomatch (show (none : Option mj_N) = some _ from h)
  | .inr (.inl _) :: _, _, h => nomatch (show (none : Option mj_N) = some _ from h)
  | .inr (.inr _) :: _, _, h => nomatch (show (none : Option mj_N) = some _ from h)
  | .inl y :: [], _, h => nomatch (show (none : Option mj_N) = some _ from h)
  | .inl y :: .inr (.inl _) :: _, _, h => nomatch (show (none : Option mj_N) = some _ from h)
  | .inl y :: .inr (.inr _) :: _, _, h => nomatch (show (none : Option mj_N) = some _ from h)
theorem n_15 : ∀ {st : List mj_V} {X : mj_N}, mj_nx L m pc npc 15 a b ls st c π μ = some X → ∃ (y : Int) (x : Int) (st' : List mj_V), st = .inl y :: .inl x :: st' ∧ (npc, ls, .inl (mj_and x y) :: st', π, μ) = X
  | .inl y :: .inl x :: st', _, h => ⟨y, x, _, rfl, Option.some.inj (show some (npc, ls, .inl (mj_and x y) :: st', π, μ) = some _ from h)⟩
  | [], _, h => nomatch (show (none : Option mj_N) = some _ from h)
  | .inr (.inl _) :: _, _, h => nomatch (show (none : Option mj_N) = some _ from h)
  | .inr (.inr _) :: _, _, h => nomatch (show (none : Option mj_N) = some _ from h)
  | .inl y :: [], _, h => nomatch (show (none : Option mj_N) = some _ from h)
  | .inl y :: .inr (.inl _) :: _, _, h => nomatch (show (none : Option mj_N) = some _ from h)
  | .inl y :: .inr (.inr _) :: _, _, h => nomatch (show (none : Option mj_N) = some _ from h)
theorem n_16 : ∀ {st : List mj_V} {X : mj_N}, mj_nx L m pc npc 16 a b ls st c π μ = some X → ∃ (y : Int) (x : Int) (st' : List mj_V), st = .inl y :: .inl x :: st' ∧ (npc, ls, .inl (mj_or x y) :: st', π, μ) = X
  | .inl y :: .inl x :: st', _, h => ⟨y, x, _, rfl, Option.some.inj (show some (npc, ls, .inl (mj_or x y) :: st', π, μ) = some _ from h)⟩
  | [], _, h => nomatch (show (none : Option mj_N) = some _ from h)
  | .inr (.inl _) :: _, _, h => nomatch (show (none : Option mj_N) = some _ from h)
  | .inr (.inr _) :: _, _, h => nomatch (show (none : Option mj_N) = some _ from h)
  | .inl y :: [], _, h => nomatch (show (none : Option mj_N) = some _ from h)
  | .inl y :: .inr (.inl _) :: _, _, h => nomatch (show (none : Option mj_N) = some _ from h)
  | .inl y :: .inr (.inr _) :: _, _, h => nomatch (show (none : Option mj_N) = some _ from h)
theorem n_17 : ∀ {st : List mj_V} {X : mj_N}, mj_nx L m pc npc 17 a b ls st c π μ = some X → ∃ (y : Int) (x : Int) (st' : List mj_V), st = .inl y :: .inl x :: st' ∧ (npc, ls, .inl (mj_xor x y) :: st', π, μ) = X
  | .inl y :: .inl x :: st', _, h => ⟨y, x, _, rfl, Option.some.inj (show some (npc, ls, .inl (mj_xor x y) :: st', π, μ) = some _ from h)⟩
  | [], _, h => nomatch (show (none : Option mj_N) = some _ from h)
  | .inr (.inl _) :: _, _, h => nomatch (show (none : Option mj_N) = some _ from h)
  | .inr (.inr _) :: _, _, h => nomatch (show (none : Option mj_N) = some _ from h)
  | .inl y :: [], _, h => nomatch (show (none : Option mj_N) = some _ from h)
  | .inl y :: .inr (.inl _) :: _, _, h => nomatch (show (none : Option mj_N) = some _ from h)
  | .inl y :: .inr (.inr _) :: _, _, h => nomatch (show (none : Option mj_N) = some _ from h)
theorem n_18 : ∀ {st : List mj_V} {X : mj_N}, mj_nx L m pc npc 18 a b ls st c π μ = some X → ∃ (y : Int) (x : Int) (st' : List mj_V), st = .inl y :: .inl x :: st' ∧ (npc, ls, .inl (mj_shl x y) :: st', π, μ) = X
  | .inl y :: .inl x :: st', _, h => ⟨y, x, _, rfl, Option.some.inj (show some (npc, ls, .inl (mj_shl x y) :: st', π, μ) = some _ from h)⟩
  | [], _, h => nomatch (show (none : Option mj_N) = some _ from h)
  | .inr (.inl _) :: _, _, h => nomatch (show (none : Option mj_N) = some _ from h)
  | .inr (.inr _) :: _, _, h => nomatch (show (none : Option mj_N) = some _ from h)
  | .inl y :: [], _, h => nomatch (show (none : Option mj_N) = some _ from h)
  | .inl y :: .inr (.inl _) :: _, _, h => nomatch (show (none : Option mj_N) = some _ from h)
  | .inl y :: .inr (.inr _) :: _, _, h => nomatch (show (none : Option mj_N) = some _ from h)
theorem n_19 : ∀ {st : List mj_V} {X : mj_N}, mj_nx L m pc npc 19 a b ls st c π μ = some X → ∃ (y : Int) (x : Int) (st' : List mj_V), st = .inl y :: .inl x :: st' ∧ (npc, ls, .inl (mj_shr x y) :: st', π, μ) = X
  | .inl y :: .inl x :: st', _, h => ⟨y, x, _, rfl, Option.some.inj (show some (npc, ls, .inl (mj_shr x y) :: st', π, μ) = some _ from h)⟩
  | [], _, h => nomatch (show (none : Option mj_N) = some _ from h)
  | .inr (.inl _) :: _, _, h => nomatch (show (none : Option mj_N) = some _ from h)
  | .inr (.inr _) :: _, _, h => nomatch (show (none : Option mj_N) = some _ from h)
  | .inl y :: [], _, h => nomatch (show (none : Option mj_N) = some _ from h)
  | .inl y :: .inr (.inl _) :: _, _, h => nomatch (show (none : Option mj_N) = some _ from h)
  | .inl y :: .inr (.inr _) :: _, _, h => nomatch (show (none : Option mj_N) = some _ from h)
theorem n_20 : ∀ {st : List mj_V} {X : mj_N}, mj_nx L m pc npc 20 a b ls st c π μ = some X → ∃ (y : Int) (x : Int) (st' : List mj_V), st = .inl y :: .inl x :: st' ∧ (npc, ls, .inl (mj_ushr x y) :: st', π, μ) = X
  | .inl y :: .inl x :: st', _, h => ⟨y, x, _, rfl, Option.some.inj (show some (npc, ls, .inl (mj_ushr x y) :: st', π, μ) = some _ from h)⟩
  | [], _, h => nomatch (show (none : Option mj_N) = some _ from h)
  | .inr (.inl _) :: _, _, h => nomatch (show (none : Option mj_N) = some _ from h)
  | .inr (.inr _) :: _, _, h => nomatch (show (none : Option mj_N) = some _ from h)
  | .inl y :: [], _, h => nomatch (show (none : Option mj_N) = some _ from h)
  | .inl y :: .inr (.inl _) :: _, _, h => nomatch (show (none : Option mj_N) = some _ from h)
  | .inl y :: .inr (.inr _) :: _, _, h => nomatch (show (none : Option mj_N) = some _ from h)
theorem n_13 : ∀ {st : List mj_V} {X : mj_N}, mj_nx L m pc npc 13 a b ls st c π μ = some X → ∃ (y : Int) (x : Int) (st' : List mj_V), st = .inl y :: .inl x :: st' ∧ (¬ y = 0) ∧ (npc, ls, .inl (mj_w (x.tdiv y)) :: st', π, μ) = X
  | .inl y :: .inl x :: st', _, h => ⟨y, x, _, rfl, mj_ifn (show (if y = 0 then none else some (npc, ls, .inl (mj_w (x.tdiv y)) :: st', π, μ)) = some _ from h)⟩
  | [], _, h => nomatch (show (none : Option mj_N) = some _ from h)
  | .inr (.inl _) :: _, _, h => nomatch (show (none : Option mj_N) = some _ from h)
  | .inr (.inr _) :: _, _, h => nomatch (show (none : Option mj_N) = some _ from h)
  | .inl y :: [], _, h => nomatch (show (none : Option mj_N) = some _ from h)
  | .inl y :: .inr (.inl _) :: _, _, h => nomatch (show (none : Option mj_N) = some _ from h)
  | .inl y :: .inr (.inr _) :: _, _, h => nomatch (show (none : Option mj_N) = some _ from h)
theorem n_14 : ∀ {st : List mj_V} {X : mj_N}, mj_nx L m pc npc 14 a b ls st c π μ = some X → ∃ (y : Int) (x : Int) (st' : List mj_V), st = .inl y :: .inl x :: st' ∧ (¬ y = 0) ∧ (npc, ls, .inl (x.tmod y) :: st', π, μ) = X
  | .inl y :: .inl x :: st', _, h => ⟨y, x, _, rfl, mj_ifn (show (if y = 0 then none else some (npc, ls, .inl (x.tmod y) :: st', π, μ)) = some _ from h)⟩
  | [], _, h => nomatch (show (none : Option mj_N) = some _ from h)
  | .inr (.inl _) :: _, _, h => nomatch (show (none : Option mj_N) = some _ from h)
  | .inr (.inr _) :: _, _, h => nomatch (show (none : Option mj_N) = some _ from h)
  | .inl y :: [], _, h => nomatch (show (none : Option mj_N) = some _ from h)
  | .inl y :: .inr (.inl _) :: _, _, h => nomatch (show (none : Option mj_N) = some _ from h)
  | .inl y :: .inr (.inr _) :: _, _, h => nomatch (show (none : Option mj_N) = some _ from h)
theorem n_21 : ∀ {st : List mj_V} {X : mj_N}, mj_nx L m pc npc 21 a b ls st c π μ = some X → ∃ (x : Int) (st' : List mj_V), st = .inl x :: st' ∧ (npc, ls, .inl (mj_w (-x)) :: st', π, μ) = X
  | .inl x :: st', _, h => ⟨x, _, rfl, Option.some.inj (show some (npc, ls, .inl (mj_w (-x)) :: st', π, μ) = some _ from h)⟩
  | [], _, h => nomatch (show (none : Option mj_N) = some _ from h)
  | .inr (.inl _) :: _, _, h => nomatch (show (none : Option mj_N) = some _ from h)
  | .inr (.inr _) :: _, _, h => nomatch (show (none : Option mj_N) = some _ from h)
theorem n_22 : ∀ {st : List mj_V} {X : mj_N}, mj_nx L m pc npc 22 a b ls st c π μ = some X → ∃ (x : Int) (st' : List mj_V), st = .inl x :: st' ∧ (npc, ls, .inr (.inl x) :: st', π, μ) = X
  | .inl x :: st', _, h => ⟨x, _, rfl, Option.some.inj (show some (npc, ls, .inr (.inl x) :: st', π, μ) = some _ from h)⟩
  | [], _, h => nomatch (show (none : Option mj_N) = some _ from h)
  | .inr (.inl _) :: _, _, h => nomatch (show (none : Option mj_N) = some _ from h)
  | .inr (.inr _) :: _, _, h => nomatch (show (none : Option mj_N) = some _ from h)
theorem n_23 : ∀ {st : List mj_V} {X : mj_N}, mj_nx L m pc npc 23 a b ls st c π μ = some X → ∃ (x : Int) (st' : List mj_V), st = .inr (.inl x) :: st' ∧ (npc, ls, .inl (mj_w x) :: st', π, μ) = X
  | .inr (.inl x) :: st', _, h => ⟨x, _, rfl, Option.some.inj (show some (npc, ls, .inl (mj_w x) :: st', π, μ) = some _ from h)⟩
  | [], _, h => nomatch (show (none : Option mj_N) = some _ from h)
  | .inl _ :: _, _, h => nomatch (show (none : Option mj_N) = some _ from h)
  | .inr (.inr _) :: _, _, h => nomatch (show (none : Option mj_N) = some _ from h)
theorem n_24 : ∀ {st : List mj_V} {X : mj_N}, mj_nx L m pc npc 24 a b ls st c π μ = some X → ∃ (x : Int) (st' : List mj_V), st = .inl x :: st' ∧ (npc, ls, .inl (mj_b x) :: st', π, μ) = X
  | .inl x :: st', _, h => ⟨x, _, rfl, Option.some.inj (show some (npc, ls, .inl (mj_b x) :: st', π, μ) = some _ from h)⟩
  | [], _, h => nomatch (show (none : Option mj_N) = some _ from h)
  | .inr (.inl _) :: _, _, h => nomatch (show (none : Option mj_N) = some _ from h)
  | .inr (.inr _) :: _, _, h => nomatch (show (none : Option mj_N) = some _ from h)
theorem n_25 : ∀ {st : List mj_V} {X : mj_N}, mj_nx L m pc npc 25 a b ls st c π μ = some X → ∃ (x : Int) (st' : List mj_V), st = .inl x :: st' ∧ (npc, ls, .inl (mj_s x) :: st', π, μ) = X
  | .inl x :: st', _, h => ⟨x, _, rfl, Option.some.inj (show some (npc, ls, .inl (mj_s x) :: st', π, μ) = some _ from h)⟩
  | [], _, h => nomatch (show (none : Option mj_N) = some _ from h)
  | .inr (.inl _) :: _, _, h => nomatch (show (none : Option mj_N) = some _ from h)
  | .inr (.inr _) :: _, _, h => nomatch (show (none : Option mj_N) = some _ from h)
theorem n_26 : ∀ {st : List mj_V} {X : mj_N}, mj_nx L m pc npc 26 a b ls st c π μ = some X → ∃ (y : Int) (x : Int) (st' : List mj_V), st = .inr (.inl y) :: .inr (.inl x) :: st' ∧ (npc, ls, .inr (.inl (mj_wl (x + y))) :: st', π, μ) = X
  | .inr (.inl y) :: .inr (.inl x) :: st', _, h => ⟨y, x, _, rfl, Option.some.inj (show some (npc, ls, .inr (.inl (mj_wl (x + y))) :: st', π, μ) = some _ from h)⟩
  | [], _, h => nomatch (show (none : Option mj_N) = some _ from h)
  | .inl _ :: _, _, h => nomatch (show (none : Option mj_N) = some _ from h)
  | .inr (.inr _) :: _, _, h => nomatch (show (none : Option mj_N) = some _ from h)
  | .inr (.inl y) :: [], _, h => nomatch (show (none : Option mj_N) = some _ from h)
  | .inr (.inl y) :: .inl _ :: _, _, h => nomatch (show (none : Option mj_N) = some _ from h)
  | .inr (.inl y) :: .inr (.inr _) :: _, _, h => nomatch (show (none : Option mj_N) = some _ from h)
theorem n_27 : ∀ {st : List mj_V} {X : mj_N}, mj_nx L m pc npc 27 a b ls st c π μ = some X → ∃ (y : Int) (x : Int) (st' : List mj_V), st = .inr (.inl y) :: .inr (.inl x) :: st' ∧ (npc, ls, .inr (.inl (mj_wl (x * y))) :: st', π, μ) = X
  | .inr (.inl y) :: .inr (.inl x) :: st', _, h => ⟨y, x, _, rfl, Option.some.inj (show some (npc, ls, .inr (.inl (mj_wl (x * y))) :: st', π, μ) = some _ from h)⟩
  | [], _, h => nomatch (show (none : Option mj_N) = some _ from h)
  | .inl _ :: _, _, h => nomatch (show (none : Option mj_N) = some _ from h)
  | .inr (.inr _) :: _, _, h => nomatch (show (none : Option mj_N) = some _ from h)
  | .inr (.inl y) :: [], _, h => nomatch (show (none : Option mj_N) = some _ from h)
  | .inr (.inl y) :: .inl _ :: _, _, h => nomatch (show (none : Option mj_N) = some _ from h)
  | .inr (.inl y) :: .inr (.inr _) :: _, _, h => nomatch (show (none : Option mj_N) = some _ from h)
theorem n_29 : ∀ {st : List mj_V} {X : mj_N}, mj_nx L m pc npc 29 a b ls st c π μ = some X → ∃ (y : Int) (x : Int) (st' : List mj_V), st = .inr (.inl y) :: .inr (.inl x) :: st' ∧ (npc, ls, .inr (.inl (mj_andl x y)) :: st', π, μ) = X
  | .inr (.inl y) :: .inr (.inl x) :: st', _, h => ⟨y, x, _, rfl, Option.some.inj (show some (npc, ls, .inr (.inl (mj_andl x y)) :: st', π, μ) = some _ from h)⟩
  | [], _, h => nomatch (show (none : Option mj_N) = some _ from h)
  | .inl _ :: _, _, h => nomatch (show (none : Option mj_N) = some _ from h)
  | .inr (.inr _) :: _, _, h => nomatch (show (none : Option mj_N) = some _ from h)
  | .inr (.inl y) :: [], _, h => nomatch (show (none : Option mj_N) = some _ from h)
  | .inr (.inl y) :: .inl _ :: _, _, h => nomatch (show (none : Option mj_N) = some _ from h)
  | .inr (.inl y) :: .inr (.inr _) :: _, _, h => nomatch (show (none : Option mj_N) = some _ from h)
theorem n_30 : ∀ {st : List mj_V} {X : mj_N}, mj_nx L m pc npc 30 a b ls st c π μ = some X → ∃ (y : Int) (x : Int) (st' : List mj_V), st = .inr (.inl y) :: .inr (.inl x) :: st' ∧ (npc, ls, .inr (.inl (mj_orl x y)) :: st', π, μ) = X
  | .inr (.inl y) :: .inr (.inl x) :: st', _, h => ⟨y, x, _, rfl, Option.some.inj (show some (npc, ls, .inr (.inl (mj_orl x y)) :: st', π, μ) = some _ from h)⟩
  | [], _, h => nomatch (show (none : Option mj_N) = some _ from h)
  | .inl _ :: _, _, h => nomatch (show (none : Option mj_N) = some _ from h)
  | .inr (.inr _) :: _, _, h => nomatch (show (none : Option mj_N) = some _ from h)
  | .inr (.inl y) :: [], _, h => nomatch (show (none : Option mj_N) = some _ from h)
  | .inr (.inl y) :: .inl _ :: _, _, h => nomatch (show (none : Option mj_N) = some _ from h)
  | .inr (.inl y) :: .inr (.inr _) :: _, _, h => nomatch (show (none : Option mj_N) = some _ from h)
theorem n_28 : ∀ {st : List mj_V} {X : mj_N}, mj_nx L m pc npc 28 a b ls st c π μ = some X → ∃ (y : Int) (x : Int) (st' : List mj_V), st = .inr (.inl y) :: .inr (.inl x) :: st' ∧ (¬ y = 0) ∧ (npc, ls, .inr (.inl (mj_wl (x.tdiv y))) :: st', π, μ) = X
  | .inr (.inl y) :: .inr (.inl x) :: st', _, h => ⟨y, x, _, rfl, mj_ifn (show (if y = 0 then none else some (npc, ls, .inr (.inl (mj_wl (x.tdiv y))) :: st', π, μ)) = some _ from h)⟩
  | [], _, h => nomatch (show (none : Option mj_N) = some _ from h)
  | .inl _ :: _, _, h => nomatch (show (none : Option mj_N) = some _ from h)
  | .inr (.inr _) :: _, _, h => nomatch (show (none : Option mj_N) = some _ from h)
  | .inr (.inl y) :: [], _, h => nomatch (show (none : Option mj_N) = some _ from h)
  | .inr (.inl y) :: .inl _ :: _, _, h => nomatch (show (none : Option mj_N) = some _ from h)
  | .inr (.inl y) :: .inr (.inr _) :: _, _, h => nomatch (show (none : Option mj_N) = some _ from h)
theorem n_31 : ∀ {st : List mj_V} {X : mj_N}, mj_nx L m pc npc 31 a b ls st c π μ = some X → ∃ (y : Int) (x : Int) (st' : List mj_V), st = .inl y :: .inr (.inl x) :: st' ∧ (npc, ls, .inr (.inl (mj_shll x y)) :: st', π, μ) = X
  | .inl y :: .inr (.inl x) :: st', _, h => ⟨y, x, _, rfl, Option.some.inj (show some (npc, ls, .inr (.inl (mj_shll x y)) :: st', π, μ) = some _ from h)⟩
  | [], _, h => nomatch (show (none : Option mj_N) = some _ from h)
  | .inr (.inl _) :: _, _, h => nomatch (show (none : Option mj_N) = some _ from h)
  | .inr (.inr _) :: _, _, h => nomatch (show (none : Option mj_N) = some _ from h)
  | .inl y :: [], _, h => nomatch (show (none : Option mj_N) = some _ from h)
  | .inl y :: .inl _ :: _, _, h => nomatch (show (none : Option mj_N) = some _ from h)
  | .inl y :: .inr (.inr _) :: _, _, h => nomatch (show (none : Option mj_N) = some _ from h)
theorem n_32 : ∀ {st : List mj_V} {X : mj_N}, mj_nx L m pc npc 32 a b ls st c π μ = some X → ∃ (y : Int) (x : Int) (st' : List mj_V), st = .inl y :: .inr (.inl x) :: st' ∧ (npc, ls, .inr (.inl (mj_shrl x y)) :: st', π, μ) = X
  | .inl y :: .inr (.inl x) :: st', _, h => ⟨y, x, _, rfl, Option.some.inj (show some (npc, ls, .inr (.inl (mj_shrl x y)) :: st', π, μ) = some _ from h)⟩
  | [], _, h => nomatch (show (none : Option mj_N) = some _ from h)
  | .inr (.inl _) :: _, _, h => nomatch (show (none : Option mj_N) = some _ from h)
  | .inr (.inr _) :: _, _, h => nomatch (show (none : Option mj_N) = some _ from h)
  | .inl y :: [], _, h => nomatch (show (none : Option mj_N) = some _ from h)
  | .inl y :: .inl _ :: _, _, h => nomatch (show (none : Option mj_N) = some _ from h)
  | .inl y :: .inr (.inr _) :: _, _, h => nomatch (show (none : Option mj_N) = some _ from h)
theorem n_33 : ∀ {st : List mj_V} {X : mj_N}, mj_nx L m pc npc 33 a b ls st c π μ = some X → ∃ (y : Int) (x : Int) (st' : List mj_V), st = .inr (.inl y) :: .inr (.inl x) :: st' ∧ (npc, ls, .inl (if x = y then 0 else if x < y then -1 else 1) :: st', π, μ) = X
  | .inr (.inl y) :: .inr (.inl x) :: st', _, h => ⟨y, x, _, rfl, Option.some.inj (show some (npc, ls, .inl (if x = y then 0 else if x < y then -1 else 1) :: st', π, μ) = some _ from h)⟩
  | [], _, h => nomatch (show (none : Option mj_N) = some _ from h)
  | .inl _ :: _, _, h => nomatch (show (none : Option mj_N) = some _ from h)
  | .inr (.inr _) :: _, _, h => nomatch (show (none : Option mj_N) = some _ from h)
  | .inr (.inl y) :: [], _, h => nomatch (show (none : Option mj_N) = some _ from h)
  | .inr (.inl y) :: .inl _ :: _, _, h => nomatch (show (none : Option mj_N) = some _ from h)
  | .inr (.inl y) :: .inr (.inr _) :: _, _, h => nomatch (show (none : Option mj_N) = some _ from h)
theorem n_40 : ∀ {st : List mj_V} {X : mj_N}, mj_nx L m pc npc 40 a b ls st c π μ = some X → ∃ (y x : Int) (st' : List mj_V), st = .inl y :: .inl x :: st' ∧ (if x = y then (a.toNat, ls, st', π, μ) else (npc, ls, st', π, μ)) = X
  | .inl y :: .inl x :: st', X, h => ⟨y, x, st', rfl, mj_ifs (show (if x = y then some (a.toNat, ls, st', π, μ) else some (npc, ls, st', π, μ)) = some X from h)⟩
  | [], _, h => nomatch (show (none : Option mj_N) = some _ from h)
  | .inr (.inl _) :: _, _, h => nomatch (show (none : Option mj_N) = some _ from h)
  | .inr (.inr _) :: _, _, h => nomatch (show (none : Option mj_N) = some _ from h)
  | .inl y :: [], _, h => nomatch (show (none : Option mj_N) = some _ from h)
  | .inl y :: .inr (.inl _) :: _, _, h => nomatch (show (none : Option mj_N) = some _ from h)
  | .inl y :: .inr (.inr _) :: _, _, h => nomatch (show (none : Option mj_N) = some _ from h)
theorem n_41 : ∀ {st : List mj_V} {X : mj_N}, mj_nx L m pc npc 41 a b ls st c π μ = some X → ∃ (y x : Int) (st' : List mj_V), st = .inl y :: .inl x :: st' ∧ (if x = y then (npc, ls, st', π, μ) else (a.toNat, ls, st', π, μ)) = X
  | .inl y :: .inl x :: st', X, h => ⟨y, x, st', rfl, mj_ifs (show (if x = y then some (npc, ls, st', π, μ) else some (a.toNat, ls, st', π, μ)) = some X from h)⟩
  | [], _, h => nomatch (show (none : Option mj_N) = some _ from h)
  | .inr (.inl _) :: _, _, h => nomatch (show (none : Option mj_N) = some _ from h)
  | .inr (.inr _) :: _, _, h => nomatch (show (none : Option mj_N) = some _ from h)
  | .inl y :: [], _, h => nomatch (show (none : Option mj_N) = some _ from h)
  | .inl y :: .inr (.inl _) :: _, _, h => nomatch (show (none : Option mj_N) = some _ from h)
  | .inl y :: .inr (.inr _) :: _, _, h => nomatch (show (none : Option mj_N) = some _ from h)
theorem n_42 : ∀ {st : List mj_V} {X : mj_N}, mj_nx L m pc npc 42 a b ls st c π μ = some X → ∃ (y x : Int) (st' : List mj_V), st = .inl y :: .inl x :: st' ∧ (if x < y then (a.toNat, ls, st', π, μ) else (npc, ls, st', π, μ)) = X
  | .inl y :: .inl x :: st', X, h => ⟨y, x, st', rfl, mj_ifs (show (if x < y then some (a.toNat, ls, st', π, μ) else some (npc, ls, st', π, μ)) = some X from h)⟩
  | [], _, h => nomatch (show (none : Option mj_N) = some _ from h)
  | .inr (.inl _) :: _, _, h => nomatch (show (none : Option mj_N) = some _ from h)
  | .inr (.inr _) :: _, _, h => nomatch (show (none : Option mj_N) = some _ from h)
  | .inl y :: [], _, h => nomatch (show (none : Option mj_N) = some _ from h)
  | .inl y :: .inr (.inl _) :: _, _, h => nomatch (show (none : Option mj_N) = some _ from h)
  | .inl y :: .inr (.inr _) :: _, _, h => nomatch (show (none : Option mj_N) = some _ from h)
theorem n_43 : ∀ {st : List mj_V} {X : mj_N}, mj_nx L m pc npc 43 a b ls st c π μ = some X → ∃ (y x : Int) (st' : List mj_V), st = .inl y :: .inl x :: st' ∧ (if x < y then (npc, ls, st', π, μ) else (a.toNat, ls, st', π, μ)) = X
  | .inl y :: .inl x :: st', X, h => ⟨y, x, st', rfl, mj_ifs (show (if x < y then some (npc, ls, st', π, μ) else some (a.toNat, ls, st', π, μ)) = some X from h)⟩
  | [], _, h => nomatch (show (none : Option mj_N) = some _ from h)
  | .inr (.inl _) :: _, _, h => nomatch (show (none : Option mj_N) = some _ from h)
  | .inr (.inr _) :: _, _, h => nomatch (show (none : Option mj_N) = some _ from h)
  | .inl y :: [], _, h => nomatch (show (none : Option mj_N) = some _ from h)
  | .inl y :: .inr (.inl _) :: _, _, h => nomatch (show (none : Option mj_N) = some _ from h)
  | .inl y :: .inr (.inr _) :: _, _, h => nomatch (show (none : Option mj_N) = some _ from h)
theorem n_44 : ∀ {st : List mj_V} {X : mj_N}, mj_nx L m pc npc 44 a b ls st c π μ = some X → ∃ (y x : Int) (st' : List mj_V), st = .inl y :: .inl x :: st' ∧ (if y < x then (a.toNat, ls, st', π, μ) else (npc, ls, st', π, μ)) = X
  | .inl y :: .inl x :: st', X, h => ⟨y, x, st', rfl, mj_ifs (show (if y < x then some (a.toNat, ls, st', π, μ) else some (npc, ls, st', π, μ)) = some X from h)⟩
  | [], _, h => nomatch (show (none : Option mj_N) = some _ from h)
  | .inr (.inl _) :: _, _, h => nomatch (show (none : Option mj_N) = some _ from h)
  | .inr (.inr _) :: _, _, h => nomatch (show (none : Option mj_N) = some _ from h)
  | .inl y :: [], _, h => nomatch (show (none : Option mj_N) = some _ from h)
  | .inl y :: .inr (.inl _) :: _, _, h => nomatch (show (none : Option mj_N) = some _ from h)
  | .inl y :: .inr (.inr _) :: _, _, h => nomatch (show (none : Option mj_N) = some _ from h)
theorem n_45 : ∀ {st : List mj_V} {X : mj_N}, mj_nx L m pc npc 45 a b ls st c π μ = some X → ∃ (y x : Int) (st' : List mj_V), st = .inl y :: .inl x :: st' ∧ (if y < x then (npc, ls, st', π, μ) else (a.toNat, ls, st', π, μ)) = X
  | .inl y :: .inl x :: st', X, h => ⟨y, x, st', rfl, mj_ifs (show (if y < x then some (npc, ls, st', π, μ) else some (a.toNat, ls, st', π, μ)) = some X from h)⟩
  | [], _, h => nomatch (show (none : Option mj_N) = some _ from h)
  | .inr (.inl _) :: _, _, h => nomatch (show (none : Option mj_N) = some _ from h)
  | .inr (.inr _) :: _, _, h => nomatch (show (none : Option mj_N) = some _ from h)
  | .inl y :: [], _, h => nomatch (show (none : Option mj_N) = some _ from h)
  | .inl y :: .inr (.inl _) :: _, _, h => nomatch (show (none : Option mj_N) = some _ from h)
  | .inl y :: .inr (.inr _) :: _, _, h => nomatch (show (none : Option mj_N) = some _ from h)
theorem n_46 : ∀ {st : List mj_V} {X : mj_N}, mj_nx L m pc npc 46 a b ls st c π μ = some X → ∃ (x : Int) (st' : List mj_V), st = .inl x :: st' ∧ (if x = 0 then (a.toNat, ls, st', π, μ) else (npc, ls, st', π, μ)) = X
  | .inl x :: st', X, h => ⟨x, st', rfl, mj_ifs (show (if x = 0 then some (a.toNat, ls, st', π, μ) else some (npc, ls, st', π, μ)) = some X from h)⟩
  | [], _, h => nomatch (show (none : Option mj_N) = some _ from h)
  | .inr (.inl _) :: _, _, h => nomatch (show (none : Option mj_N) = some _ from h)
  | .inr (.inr _) :: _, _, h => nomatch (show (none : Option mj_N) = some _ from h)
theorem n_47 : ∀ {st : List mj_V} {X : mj_N}, mj_nx L m pc npc 47 a b ls st c π μ = some X → ∃ (x : Int) (st' : List mj_V), st = .inl x :: st' ∧ (if x = 0 then (npc, ls, st', π, μ) else (a.toNat, ls, st', π, μ)) = X
  | .inl x :: st', X, h => ⟨x, st', rfl, mj_ifs (show (if x = 0 then some (npc, ls, st', π, μ) else some (a.toNat, ls, st', π, μ)) = some X from h)⟩
  | [], _, h => nomatch (show (none : Option mj_N) = some _ from h)
  | .inr (.inl _) :: _, _, h => nomatch (show (none : Option mj_N) = some _ from h)
  | .inr (.inr _) :: _, _, h => nomatch (show (none : Option mj_N) = some _ from h)
theorem n_48 : ∀ {st : List mj_V} {X : mj_N}, mj_nx L m pc npc 48 a b ls st c π μ = some X → ∃ (x : Int) (st' : List mj_V), st = .inl x :: st' ∧ (if x < 0 then (a.toNat, ls, st', π, μ) else (npc, ls, st', π, μ)) = X
  | .inl x :: st', X, h => ⟨x, st', rfl, mj_ifs (show (if x < 0 then some (a.toNat, ls, st', π, μ) else some (npc, ls, st', π, μ)) = some X from h)⟩
  | [], _, h => nomatch (show (none : Option mj_N) = some _ from h)
  | .inr (.inl _) :: _, _, h => nomatch (show (none : Option mj_N) = some _ from h)
  | .inr (.inr _) :: _, _, h => nomatch (show (none : Option mj_N) = some _ from h)
theorem n_49 : ∀ {st : List mj_V} {X : mj_N}, mj_nx L m pc npc 49 a b ls st c π μ = some X → ∃ (x : Int) (st' : List mj_V), st = .inl x :: st' ∧ (if x < 0 then (npc, ls, st', π, μ) else (a.toNat, ls, st', π, μ)) = X
  | .inl x :: st', X, h => ⟨x, st', rfl, mj_ifs (show (if x < 0 then some (npc, ls, st', π, μ) else some (a.toNat, ls, st', π, μ)) = some X from h)⟩
  | [], _, h => nomatch (show (none : Option mj_N) = some _ from h)
  | .inr (.inl _) :: _, _, h => nomatch (show (none : Option mj_N) = some _ from h)
  | .inr (.inr _) :: _, _, h => nomatch (show (none : Option mj_N) = some _ from h)
theorem n_50 : ∀ {st : List mj_V} {X : mj_N}, mj_nx L m pc npc 50 a b ls st c π μ = some X → ∃ (x : Int) (st' : List mj_V), st = .inl x :: st' ∧ (if 0 < x then (a.toNat, ls, st', π, μ) else (npc, ls, st', π, μ)) = X
  | .inl x :: st', X, h => ⟨x, st', rfl, mj_ifs (show (if 0 < x then some (a.toNat, ls, st', π, μ) else some (npc, ls, st', π, μ)) = some X from h)⟩
  | [], _, h => nomatch (show (none : Option mj_N) = some _ from h)
  | .inr (.inl _) :: _, _, h => nomatch (show (none : Option mj_N) = some _ from h)
  | .inr (.inr _) :: _, _, h => nomatch (show (none : Option mj_N) = some _ from h)
theorem n_51 : ∀ {st : List mj_V} {X : mj_N}, mj_nx L m pc npc 51 a b ls st c π μ = some X → ∃ (x : Int) (st' : List mj_V), st = .inl x :: st' ∧ (if 0 < x then (npc, ls, st', π, μ) else (a.toNat, ls, st', π, μ)) = X
  | .inl x :: st', X, h => ⟨x, st', rfl, mj_ifs (show (if 0 < x then some (npc, ls, st', π, μ) else some (a.toNat, ls, st', π, μ)) = some X from h)⟩
  | [], _, h => nomatch (show (none : Option mj_N) = some _ from h)
  | .inr (.inl _) :: _, _, h => nomatch (show (none : Option mj_N) = some _ from h)
  | .inr (.inr _) :: _, _, h => nomatch (show (none : Option mj_N) = some _ from h)
theorem n_4 : ∀ {st : List mj_V} {X : mj_N}, mj_nx L m pc npc 4 a b ls st c π μ = some X → ∃ (x : Int) (st' : List mj_V), st = .inr (.inl x) :: st' ∧ (npc, mj_sto2 ls a.toNat (.inr (.inl x)), st', π, μ) = X
  | .inr (.inl x) :: st', _, h => ⟨x, _, rfl, Option.some.inj (show some (npc, mj_sto2 ls a.toNat (.inr (.inl x)), st', π, μ) = some _ from h)⟩
  | [], _, h => nomatch (show (none : Option mj_N) = some _ from h)
  | .inl _ :: _, _, h => nomatch (show (none : Option mj_N) = some _ from h)
  | .inr (.inr _) :: _, _, h => nomatch (show (none : Option mj_N) = some _ from h)
theorem n_53 : ∀ {st : List mj_V} {X : mj_N}, mj_nx L m pc npc 53 a b ls st c π μ = some X → ∃ (x : Int) (st' : List mj_V), st = .inl x :: st' ∧ (mj_sel (mj_sw m pc).1 (mj_sw m pc).2 x, ls, st', π, μ) = X
  | .inl x :: st', _, h => ⟨x, _, rfl, Option.some.inj (show some (mj_sel (mj_sw m pc).1 (mj_sw m pc).2 x, ls, st', π, μ) = some _ from h)⟩
  | [], _, h => nomatch (show (none : Option mj_N) = some _ from h)
  | .inr (.inl _) :: _, _, h => nomatch (show (none : Option mj_N) = some _ from h)
  | .inr (.inr _) :: _, _, h => nomatch (show (none : Option mj_N) = some _ from h)
theorem n_57 : ∀ {st : List mj_V} {X : mj_N}, mj_nx L m pc npc 57 a b ls st c π μ = some X → ∃ (k : Nat) (st' : List mj_V), st = .inr (.inr k) :: st' ∧ ((mj_lay L k).1 = 1) ∧ (npc, ls, .inl (mj_lay L k).2 :: st', π, μ) = X
  | .inr (.inr k) :: st', _, h => ⟨k, _, rfl, mj_if (show (if (mj_lay L k).1 = 1 then some (npc, ls, .inl (mj_lay L k).2 :: st', π, μ) else none) = some _ from h)⟩
  | [], _, h => nomatch (show (none : Option mj_N) = some _ from h)
  | .inl _ :: _, _, h => nomatch (show (none : Option mj_N) = some _ from h)
  | .inr (.inl _) :: _, _, h => nomatch (show (none : Option mj_N) = some _ from h)
theorem n_60 : ∀ {st : List mj_V} {X : mj_N}, mj_nx L m pc npc 60 a b ls st c π μ = some X → ∃ (k : Nat) (st' : List mj_V), st = .inr (.inr k) :: st' ∧ (((mj_lay L k).1 : Int) = 10 + b) ∧ (npc, ls, .inl (μ k a) :: st', π, μ) = X
  | .inr (.inr k) :: st', _, h => ⟨k, _, rfl, mj_if (show (if ((mj_lay L k).1 : Int) = 10 + b then some (npc, ls, .inl (μ k a) :: st', π, μ) else none) = some _ from h)⟩
  | [], _, h => nomatch (show (none : Option mj_N) = some _ from h)
  | .inl _ :: _, _, h => nomatch (show (none : Option mj_N) = some _ from h)
  | .inr (.inl _) :: _, _, h => nomatch (show (none : Option mj_N) = some _ from h)
theorem n_61 : ∀ {st : List mj_V} {X : mj_N}, mj_nx L m pc npc 61 a b ls st c π μ = some X → ∃ (k : Nat) (st' : List mj_V), st = .inr (.inr k) :: st' ∧ (((mj_lay L k).1 : Int) = 10 + b) ∧ (npc, ls, .inr (.inr (π k a.toNat)) :: st', π, μ) = X
  | .inr (.inr k) :: st', _, h => ⟨k, _, rfl, mj_if (show (if ((mj_lay L k).1 : Int) = 10 + b then some (npc, ls, .inr (.inr (π k a.toNat)) :: st', π, μ) else none) = some _ from h)⟩
  | [], _, h => nomatch (show (none : Option mj_N) = some _ from h)
  | .inl _ :: _, _, h => nomatch (show (none : Option mj_N) = some _ from h)
  | .inr (.inl _) :: _, _, h => nomatch (show (none : Option mj_N) = some _ from h)
theorem n_62 : ∀ {st : List mj_V} {X : mj_N}, mj_nx L m pc npc 62 a b ls st c π μ = some X → ∃ (v : Int) (k : Nat) (st' : List mj_V), st = .inl v :: .inr (.inr k) :: st' ∧ (((mj_lay L k).1 : Int) = 10 + b) ∧ (npc, ls, st', π, mj_up μ k a v) = X
  | .inl v :: .inr (.inr k) :: st', _, h => ⟨v, k, _, rfl, mj_if (show (if ((mj_lay L k).1 : Int) = 10 + b then some (npc, ls, st', π, mj_up μ k a v) else none) = some _ from h)⟩
  | [], _, h => nomatch (show (none : Option mj_N) = some _ from h)
  | .inr (.inl _) :: _, _, h => nomatch (show (none : Option mj_N) = some _ from h)
  | .inr (.inr _) :: _, _, h => nomatch (show (none : Option mj_N) = some _ from h)
  | .inl v :: [], _, h => nomatch (show (none : Option mj_N) = some _ from h)
  | .inl v :: .inl _ :: _, _, h => nomatch (show (none : Option mj_N) = some _ from h)
  | .inl v :: .inr (.inl _) :: _, _, h => nomatch (show (none : Option mj_N) = some _ from h)
theorem n_59 : ∀ {st : List mj_V} {X : mj_N}, mj_nx L m pc npc 59 a b ls st c π μ = some X → ∃ (v : Int) (k : Nat) (st' : List mj_V), st = .inl v :: .inr (.inr k) :: st' ∧ (((mj_lay L k).1 : Int) = 10 + b ∧ 0 ≤ v ∧ v ≤ 1) ∧ (npc, ls, st', π, mj_up μ k a v) = X
  | .inl v :: .inr (.inr k) :: st', _, h => ⟨v, k, _, rfl, mj_if (show (if ((mj_lay L k).1 : Int) = 10 + b ∧ 0 ≤ v ∧ v ≤ 1 then some (npc, ls, st', π, mj_up μ k a v) else none) = some _ from h)⟩
  | [], _, h => nomatch (show (none : Option mj_N) = some _ from h)
  | .inr (.inl _) :: _, _, h => nomatch (show (none : Option mj_N) = some _ from h)
  | .inr (.inr _) :: _, _, h => nomatch (show (none : Option mj_N) = some _ from h)
  | .inl v :: [], _, h => nomatch (show (none : Option mj_N) = some _ from h)
  | .inl v :: .inl _ :: _, _, h => nomatch (show (none : Option mj_N) = some _ from h)
  | .inl v :: .inr (.inl _) :: _, _, h => nomatch (show (none : Option mj_N) = some _ from h)
theorem n_63 : ∀ {st : List mj_V} {X : mj_N}, mj_nx L m pc npc 63 a b ls st c π μ = some X → ∃ (r : Nat) (k : Nat) (st' : List mj_V), st = .inr (.inr r) :: .inr (.inr k) :: st' ∧ (((mj_lay L k).1 : Int) = 10 + b) ∧ (npc, ls, st', mj_pp π k a.toNat r, μ) = X
  | .inr (.inr r) :: .inr (.inr k) :: st', _, h => ⟨r, k, _, rfl, mj_if (show (if ((mj_lay L k).1 : Int) = 10 + b then some (npc, ls, st', mj_pp π k a.toNat r, μ) else none) = some _ from h)⟩
  | [], _, h => nomatch (show (none : Option mj_N) = some _ from h)
  | .inl _ :: _, _, h => nomatch (show (none : Option mj_N) = some _ from h)
  | .inr (.inl _) :: _, _, h => nomatch (show (none : Option mj_N) = some _ from h)
  | .inr (.inr r) :: [], _, h => nomatch (show (none : Option mj_N) = some _ from h)
  | .inr (.inr r) :: .inl _ :: _, _, h => nomatch (show (none : Option mj_N) = some _ from h)
  | .inr (.inr r) :: .inr (.inl _) :: _, _, h => nomatch (show (none : Option mj_N) = some _ from h)
theorem n_58 : ∀ {st : List mj_V} {X : mj_N}, mj_nx L m pc npc 58 a b ls st c π μ = some X → ∃ (r : Nat) (k : Nat) (st' : List mj_V), st = .inr (.inr r) :: .inr (.inr k) :: st' ∧ (((mj_lay L k).1 : Int) = 10 + b) ∧ (npc, ls, st', mj_pp π k a.toNat r, μ) = X
  | .inr (.inr r) :: .inr (.inr k) :: st', _, h => ⟨r, k, _, rfl, mj_if (show (if ((mj_lay L k).1 : Int) = 10 + b then some (npc, ls, st', mj_pp π k a.toNat r, μ) else none) = some _ from h)⟩
  | [], _, h => nomatch (show (none : Option mj_N) = some _ from h)
  | .inl _ :: _, _, h => nomatch (show (none : Option mj_N) = some _ from h)
  | .inr (.inl _) :: _, _, h => nomatch (show (none : Option mj_N) = some _ from h)
  | .inr (.inr r) :: [], _, h => nomatch (show (none : Option mj_N) = some _ from h)
  | .inr (.inr r) :: .inl _ :: _, _, h => nomatch (show (none : Option mj_N) = some _ from h)
  | .inr (.inr r) :: .inr (.inl _) :: _, _, h => nomatch (show (none : Option mj_N) = some _ from h)
theorem n_64 : ∀ {st : List mj_V} {X : mj_N}, mj_nx L m pc npc 64 a b ls st c π μ = some X → ∃ (i : Int) (k : Nat) (st' : List mj_V), st = .inl i :: .inr (.inr k) :: st' ∧ ((mj_lay L k).1 = 1 ∧ 0 ≤ i ∧ i < (mj_lay L k).2) ∧ (npc, ls, .inl (μ k i) :: st', π, μ) = X
  | .inl i :: .inr (.inr k) :: st', _, h => ⟨i, k, _, rfl, mj_if (show (if (mj_lay L k).1 = 1 ∧ 0 ≤ i ∧ i < (mj_lay L k).2 then some (npc, ls, .inl (μ k i) :: st', π, μ) else none) = some _ from h)⟩
  | [], _, h => nomatch (show (none : Option mj_N) = some _ from h)
  | .inr (.inl _) :: _, _, h => nomatch (show (none : Option mj_N) = some _ from h)
  | .inr (.inr _) :: _, _, h => nomatch (show (none : Option mj_N) = some _ from h)
  | .inl i :: [], _, h => nomatch (show (none : Option mj_N) = some _ from h)
  | .inl i :: .inl _ :: _, _, h => nomatch (show (none : Option mj_N) = some _ from h)
  | .inl i :: .inr (.inl _) :: _, _, h => nomatch (show (none : Option mj_N) = some _ from h)
theorem n_65 : ∀ {st : List mj_V} {X : mj_N}, mj_nx L m pc npc 65 a b ls st c π μ = some X → ∃ (v : Int) (i : Int) (k : Nat) (st' : List mj_V), st = .inl v :: .inl i :: .inr (.inr k) :: st' ∧ ((mj_lay L k).1 = 1 ∧ k < 1000 ∧ 0 ≤ i ∧ i < (mj_lay L k).2) ∧ (npc, ls, st', π, mj_up μ k i v) = X
  | .inl v :: .inl i :: .inr (.inr k) :: st', _, h => ⟨v, i, k, _, rfl, mj_if (show (if (mj_lay L k).1 = 1 ∧ k < 1000 ∧ 0 ≤ i ∧ i < (mj_lay L k).2 then some (npc, ls, st', π, mj_up μ k i v) else none) = some _ from h)⟩
  | [], _, h => nomatch (show (none : Option mj_N) = some _ from h)
  | .inr (.inl _) :: _, _, h => nomatch (show (none : Option mj_N) = some _ from h)
  | .inr (.inr _) :: _, _, h => nomatch (show (none : Option mj_N) = some _ from h)
  | .inl v :: [], _, h => nomatch (show (none : Option mj_N) = some _ from h)
  | .inl v :: .inr (.inl _) :: _, _, h => nomatch (show (none : Option mj_N) = some _ from h)
  | .inl v :: .inr (.inr _) :: _, _, h => nomatch (show (none : Option mj_N) = some _ from h)
  | .inl v :: .inl i :: [], _, h => nomatch (show (none : Option mj_N) = some _ from h)
  | .inl v :: .inl i :: .inl _ :: _, _, h => nomatch (show (none : Option mj_N) = some _ from h)
  | .inl v :: .inl i :: .inr (.inl _) :: _, _, h => nomatch (show (none : Option mj_N) = some _ from h)
theorem n_66 : ∀ {st : List mj_V} {X : mj_N}, mj_nx L m pc npc 66 a b ls st c π μ = some X → ∃ (i : Int) (k : Nat) (st' : List mj_V), st = .inl i :: .inr (.inr k) :: st' ∧ (((mj_lay L k).1 = 2 ∨ (mj_lay L k).1 = 3) ∧ 0 ≤ i ∧ i < (mj_lay L k).2) ∧ (npc, ls, .inl (μ k i) :: st', π, μ) = X
  | .inl i :: .inr (.inr k) :: st', _, h => ⟨i, k, _, rfl, mj_if (show (if ((mj_lay L k).1 = 2 ∨ (mj_lay L k).1 = 3) ∧ 0 ≤ i ∧ i < (mj_lay L k).2 then some (npc, ls, .inl (μ k i) :: st', π, μ) else none) = some _ from h)⟩
  | [], _, h => nomatch (show (none : Option mj_N) = some _ from h)
  | .inr (.inl _) :: _, _, h => nomatch (show (none : Option mj_N) = some _ from h)
  | .inr (.inr _) :: _, _, h => nomatch (show (none : Option mj_N) = some _ from h)
  | .inl i :: [], _, h => nomatch (show (none : Option mj_N) = some _ from h)
  | .inl i :: .inl _ :: _, _, h => nomatch (show (none : Option mj_N) = some _ from h)
  | .inl i :: .inr (.inl _) :: _, _, h => nomatch (show (none : Option mj_N) = some _ from h)
theorem n_67 : ∀ {st : List mj_V} {X : mj_N}, mj_nx L m pc npc 67 a b ls st c π μ = some X → ∃ (v i : Int) (k : Nat) (st' : List mj_V), st = .inl v :: .inl i :: .inr (.inr k) :: st' ∧ (((mj_lay L k).1 = 2 ∧ 0 ≤ i ∧ i < (mj_lay L k).2 ∧ (npc, ls, st', π, mj_up μ k i (mj_b v)) = X) ∨ ((mj_lay L k).1 = 3 ∧ 0 ≤ v ∧ v ≤ 1 ∧ 0 ≤ i ∧ i < (mj_lay L k).2 ∧ (npc, ls, st', π, mj_up μ k i v) = X))
  | .inl v :: .inl i :: .inr (.inr k) :: st', X, h => ⟨v, i, k, st', rfl, by
      have h2 : (if (mj_lay L k).1 = 2 ∧ 0 ≤ i ∧ i < (mj_lay L k).2 then some (npc, ls, st', π, mj_up μ k i (mj_b v)) else if (mj_lay L k).1 = 3 ∧ 0 ≤ v ∧ v ≤ 1 ∧ 0 ≤ i ∧ i < (mj_lay L k).2 then some (npc, ls, st', π, mj_up μ k i v) else none) = some X := h
      by_cases q : (mj_lay L k).1 = 2 ∧ 0 ≤ i ∧ i < (mj_lay L k).2
      · rw [if_pos q] at h2
        exact Or.inl ⟨q.1, q.2.1, q.2.2, Option.some.inj h2⟩
      · rw [if_neg q] at h2
        obtain ⟨q2, e⟩ := mj_if h2
        exact Or.inr ⟨q2.1, q2.2.1, q2.2.2.1, q2.2.2.2.1, q2.2.2.2.2, e⟩⟩
  | [], _, h => nomatch (show (none : Option mj_N) = some _ from h)
  | .inr (.inl _) :: _, _, h => nomatch (show (none : Option mj_N) = some _ from h)
  | .inr (.inr _) :: _, _, h => nomatch (show (none : Option mj_N) = some _ from h)
  | .inl v :: [], _, h => nomatch (show (none : Option mj_N) = some _ from h)
  | .inl v :: .inr (.inl _) :: _, _, h => nomatch (show (none : Option mj_N) = some _ from h)
  | .inl v :: .inr (.inr _) :: _, _, h => nomatch (show (none : Option mj_N) = some _ from h)
  | .inl v :: .inl i :: [], _, h => nomatch (show (none : Option mj_N) = some _ from h)
  | .inl v :: .inl i :: .inl _ :: _, _, h => nomatch (show (none : Option mj_N) = some _ from h)
  | .inl v :: .inl i :: .inr (.inl _) :: _, _, h => nomatch (show (none : Option mj_N) = some _ from h)
theorem n_79 : ∀ {st : List mj_V} {X : mj_N}, mj_nx L m pc npc 79 a b ls st c π μ = some X → ∃ (x : Int) (st' : List mj_V), st = .inl x :: st' ∧ (npc, ls, st', π, μ) = X
  | .inl x :: st', _, h => ⟨x, _, rfl, Option.some.inj (show some (npc, ls, st', π, μ) = some _ from h)⟩
  | [], _, h => nomatch (show (none : Option mj_N) = some _ from h)
  | .inr (.inl _) :: _, _, h => nomatch (show (none : Option mj_N) = some _ from h)
  | .inr (.inr _) :: _, _, h => nomatch (show (none : Option mj_N) = some _ from h)
theorem n_3 : ∀ {st : List mj_V} {X : mj_N}, mj_nx L m pc npc 3 a b ls st c π μ = some X → ∃ (x : Int) (st' : List mj_V), st = .inl x :: st' ∧ (npc, mj_sto ls a.toNat (.inl x), st', π, μ) = X
  | .inl x :: st', _, h => ⟨x, _, rfl, Option.some.inj (show some (npc, mj_sto ls a.toNat (.inl x), st', π, μ) = some _ from h)⟩
  | [], _, h => nomatch (show (none : Option mj_N) = some _ from h)
  | .inr (.inl _) :: _, _, h => nomatch (show (none : Option mj_N) = some _ from h)
  | .inr (.inr _) :: _, _, h => nomatch (show (none : Option mj_N) = some _ from h)
theorem n_8 : ∀ {st : List mj_V} {X : mj_N}, mj_nx L m pc npc 8 a b ls st c π μ = some X → ∃ (k : Nat) (st' : List mj_V), st = .inr (.inr (k + 1)) :: st' ∧ (npc, mj_sto ls a.toNat (.inr (.inr (k + 1))), st', π, μ) = X
  | .inr (.inr (k + 1)) :: st', _, h => ⟨k, st', rfl, Option.some.inj (show some (npc, mj_sto ls a.toNat (.inr (.inr (k + 1))), st', π, μ) = some _ from h)⟩
  | [], _, h => nomatch (show (none : Option mj_N) = some _ from h)
  | .inl _ :: _, _, h => nomatch (show (none : Option mj_N) = some _ from h)
  | .inr (.inl _) :: _, _, h => nomatch (show (none : Option mj_N) = some _ from h)
  | .inr (.inr 0) :: _, _, h => nomatch (show (none : Option mj_N) = some _ from h)
theorem n_78 : ∀ {st : List mj_V} {X : mj_N}, mj_nx L m pc npc 78 a b ls st c π μ = some X → ∃ (v : mj_V) (st' : List mj_V), ((∃ x, v = .inl x) ∨ (∃ k, v = .inr (.inr k))) ∧ st = v :: st' ∧ (npc, ls, v :: v :: st', π, μ) = X
  | .inl x :: st', _, h => ⟨.inl x, st', Or.inl ⟨x, rfl⟩, rfl, Option.some.inj (show some (npc, ls, .inl x :: .inl x :: st', π, μ) = some _ from h)⟩
  | .inr (.inr k) :: st', _, h => ⟨.inr (.inr k), st', Or.inr ⟨k, rfl⟩, rfl, Option.some.inj (show some (npc, ls, .inr (.inr k) :: .inr (.inr k) :: st', π, μ) = some _ from h)⟩
  | [], _, h => nomatch (show (none : Option mj_N) = some _ from h)
  | .inr (.inl _) :: _, _, h => nomatch (show (none : Option mj_N) = some _ from h)
theorem n_80 : ∀ {st : List mj_V} {X : mj_N}, mj_nx L m pc npc 80 a b ls st c π μ = some X → ∃ (y : Int) (v : mj_V) (st' : List mj_V), ((∃ x, v = .inl x) ∨ (∃ k, v = .inr (.inr k))) ∧ st = .inl y :: v :: st' ∧ (npc, ls, .inl y :: v :: .inl y :: v :: st', π, μ) = X
  | .inl y :: .inl x :: st', _, h => ⟨y, .inl x, st', Or.inl ⟨x, rfl⟩, rfl, Option.some.inj (show some (npc, ls, .inl y :: .inl x :: .inl y :: .inl x :: st', π, μ) = some _ from h)⟩
  | .inl y :: .inr (.inr k) :: st', _, h => ⟨y, .inr (.inr k), st', Or.inr ⟨k, rfl⟩, rfl, Option.some.inj (show some (npc, ls, .inl y :: .inr (.inr k) :: .inl y :: .inr (.inr k) :: st', π, μ) = some _ from h)⟩
  | [], _, h => nomatch (show (none : Option mj_N) = some _ from h)
  | [.inl _], _, h => nomatch (show (none : Option mj_N) = some _ from h)
  | .inl _ :: .inr (.inl _) :: _, _, h => nomatch (show (none : Option mj_N) = some _ from h)
  | .inr (.inl _) :: _, _, h => nomatch (show (none : Option mj_N) = some _ from h)
  | .inr (.inr _) :: _, _, h => nomatch (show (none : Option mj_N) = some _ from h)
theorem n_2 {st : List mj_V} {X : mj_N} (h : mj_nx L m pc npc 2 a b ls st c π μ = some X) : ∃ x, ls.getD a.toNat mj_nul = .inl x ∧ (npc, ls, .inl x :: st, π, μ) = X := by
  have h2 : (match ls.getD a.toNat mj_nul with
    | .inl x => some (npc, ls, .inl x :: st, π, μ)
    | _ => none) = some X := h
  split at h2
  · rename_i x hx
    exact ⟨x, hx, Option.some.inj h2⟩
  · cases h2
theorem n_6 {st : List mj_V} {X : mj_N} (h : mj_nx L m pc npc 6 a b ls st c π μ = some X) : ∃ x, ls.getD a.toNat mj_nul = .inr (.inr (x + 1)) ∧ (npc, ls, .inr (.inr (x + 1)) :: st, π, μ) = X := by
  have h2 : (match ls.getD a.toNat mj_nul with
    | .inr (.inr (x + 1)) => some (npc, ls, .inr (.inr (x + 1)) :: st, π, μ)
    | _ => none) = some X := h
  split at h2
  · rename_i x hx
    exact ⟨x, hx, Option.some.inj h2⟩
  · cases h2
theorem n_7 {st : List mj_V} {X : mj_N} (h : mj_nx L m pc npc 7 a b ls st c π μ = some X) : ∃ x, ls.getD a.toNat mj_nul = .inr (.inl x) ∧ (npc, ls, .inr (.inl x) :: st, π, μ) = X := by
  have h2 : (match ls.getD a.toNat mj_nul with
    | .inr (.inl x) => some (npc, ls, .inr (.inl x) :: st, π, μ)
    | _ => none) = some X := h
  split at h2
  · rename_i x hx
    exact ⟨x, hx, Option.some.inj h2⟩
  · cases h2
theorem n_5 {st : List mj_V} {X : mj_N} (h : mj_nx L m pc npc 5 a b ls st c π μ = some X) : ∃ x, ls.getD a.toNat mj_nul = .inl x ∧ (npc, mj_sto ls a.toNat (.inl (mj_w (x + b))), st, π, μ) = X := by
  have h2 : (match ls.getD a.toNat mj_nul with
    | .inl x => some (npc, mj_sto ls a.toNat (.inl (mj_w (x + b))), st, π, μ)
    | _ => none) = some X := h
  split at h2
  · rename_i x hx
    exact ⟨x, hx, Option.some.inj h2⟩
  · cases h2
end
