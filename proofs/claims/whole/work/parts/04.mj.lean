/-! A small machine M over Int: cells of ints (mu), cells of references (pi); values: int, long, reference (0: null, or nothing). -/
abbrev mj_V : Type := Int ⊕ (Int ⊕ Nat)
abbrev mj_M : Type := Nat → Int → Int
abbrev mj_P : Type := Nat → Nat → Nat
abbrev mj_Q : Type := List mj_V → Nat → mj_P → mj_M → Prop
noncomputable def mj_nul : mj_V := Sum.inr (Sum.inr 0)
noncomputable def mj_w (x : Int) : Int := (x + 2147483648) % 4294967296 - 2147483648
noncomputable def mj_wl (x : Int) : Int := (x + 9223372036854775808) % 18446744073709551616 - 9223372036854775808
noncomputable def mj_b (x : Int) : Int := (x + 128) % 256 - 128
noncomputable def mj_s (x : Int) : Int := (x + 32768) % 65536 - 32768
noncomputable def mj_and (x y : Int) : Int := (Int32.ofInt x &&& Int32.ofInt y).toInt
noncomputable def mj_or (x y : Int) : Int := (Int32.ofInt x ||| Int32.ofInt y).toInt
noncomputable def mj_xor (x y : Int) : Int := (Int32.ofInt x ^^^ Int32.ofInt y).toInt
noncomputable def mj_shl (x y : Int) : Int := (Int32.ofInt x <<< (Int32.ofInt y &&& 31)).toInt
noncomputable def mj_shr (x y : Int) : Int := (Int32.ofInt x >>> (Int32.ofInt y &&& 31)).toInt
noncomputable def mj_ushr (x y : Int) : Int := ((Int32.ofInt x).toUInt32 >>> ((Int32.ofInt y).toUInt32 &&& Int32.toUInt32 31)).toInt32.toInt
noncomputable def mj_andl (x y : Int) : Int := (Int64.ofInt x &&& Int64.ofInt y).toInt
noncomputable def mj_orl (x y : Int) : Int := (Int64.ofInt x ||| Int64.ofInt y).toInt
noncomputable def mj_shll (x y : Int) : Int := (Int64.ofInt x <<< ((Int32.ofInt y).toInt64 &&& 63)).toInt
noncomputable def mj_shrl (x y : Int) : Int := (Int64.ofInt x >>> ((Int32.ofInt y).toInt64 &&& 63)).toInt
noncomputable def mj_pt (f : Int → Int) (i v : Int) : Int → Int := fun j => if j = i then v else f j
noncomputable def mj_up (μ : mj_M) (a : Nat) (i v : Int) : mj_M := fun k => if k = a then mj_pt (μ a) i v else μ k
noncomputable def mj_pp (π : mj_P) (a j v : Nat) : mj_P := fun k i => if k = a ∧ i = j then v else π k i
noncomputable def mj_spT : List Int := [108, 111, 97, 110, 32, 32, 100, 97, 121, 115, 32, 32, 108, 97, 103, 32, 32, 32, 108, 105, 102, 101, 32, 32, 97, 103, 97, 105, 110, 32, 113, 117, 101, 117, 101, 32, 114, 105, 103, 104, 116, 32, 119, 97, 105, 116, 101, 100, 104, 97, 100, 32, 32, 32, 108, 97, 116, 101, 32, 32, 108, 105, 107, 101, 115, 32, 110, 117, 109, 98, 101, 114]
noncomputable def mj_sp (i : Int) : Int := mj_spT.getD i.toNat 0
noncomputable def mj_clr : mj_V → mj_V
  | .inl x => .inl x
  | .inr (.inl _) => mj_nul
  | .inr (.inr k) => .inr (.inr k)
noncomputable def mj_sto : List mj_V → Nat → mj_V → List mj_V
  | [], _, _ => []
  | _ :: l, 0, v => v :: l
  | x :: y :: l, 1, v => mj_clr x :: v :: l
  | x :: l, n + 1, v => x :: mj_sto l n v
noncomputable def mj_sto2 (l : List mj_V) (i : Nat) (v : mj_V) : List mj_V := (mj_sto l i v).set (i + 1) mj_nul
noncomputable def mj_sel : List (Int × Nat) → Nat → Int → Nat
  | [], d, _ => d
  | (x, t) :: l, d, v => if v = x then t else mj_sel l d v
abbrev mj_N : Type := Nat × List mj_V × List mj_V × mj_P × mj_M
/-- instructions that neither call nor return -/
noncomputable def mj_nx (L m pc npc op : Nat) (a b : Int) (ls st : List mj_V) (c : Nat) (π : mj_P) (μ : mj_M) : Option mj_N :=
  match op, st with
  | 0, st => some (npc, ls, .inl a :: st, π, μ)
  | 1, st => some (npc, ls, .inr (.inl a) :: st, π, μ)
  | 2, st => match ls.getD a.toNat mj_nul with
    | .inl x => some (npc, ls, .inl x :: st, π, μ)
    | _ => none
  | 6, st => match ls.getD a.toNat mj_nul with
    | .inr (.inr (k + 1)) => some (npc, ls, .inr (.inr (k + 1)) :: st, π, μ)
    | _ => none
  | 7, st => match ls.getD a.toNat mj_nul with
    | .inr (.inl x) => some (npc, ls, .inr (.inl x) :: st, π, μ)
    | _ => none
  | 3, .inl x :: st => some (npc, mj_sto ls a.toNat (.inl x), st, π, μ)
  | 8, .inr (.inr (k + 1)) :: st => some (npc, mj_sto ls a.toNat (.inr (.inr (k + 1))), st, π, μ)
  | 4, .inr (.inl x) :: st => some (npc, mj_sto2 ls a.toNat (.inr (.inl x)), st, π, μ)
  | 5, st => match ls.getD a.toNat mj_nul with
    | .inl x => some (npc, mj_sto ls a.toNat (.inl (mj_w (x + b))), st, π, μ)
    | _ => none
  | 10, .inl y :: .inl x :: st => some (npc, ls, .inl (mj_w (x + y)) :: st, π, μ)
  | 11, .inl y :: .inl x :: st => some (npc, ls, .inl (mj_w (x - y)) :: st, π, μ)
  | 12, .inl y :: .inl x :: st => some (npc, ls, .inl (mj_w (x * y)) :: st, π, μ)
  | 13, .inl y :: .inl x :: st => if y = 0 then none else some (npc, ls, .inl (mj_w (x.tdiv y)) :: st, π, μ)
  | 14, .inl y :: .inl x :: st => if y = 0 then none else some (npc, ls, .inl (x.tmod y) :: st, π, μ)
  | 15, .inl y :: .inl x :: st => some (npc, ls, .inl (mj_and x y) :: st, π, μ)
  | 16, .inl y :: .inl x :: st => some (npc, ls, .inl (mj_or x y) :: st, π, μ)
  | 17, .inl y :: .inl x :: st => some (npc, ls, .inl (mj_xor x y) :: st, π, μ)
  | 18, .inl y :: .inl x :: st => some (npc, ls, .inl (mj_shl x y) :: st, π, μ)
  | 19, .inl y :: .inl x :: st => some (npc, ls, .inl (mj_shr x y) :: st, π, μ)
  | 20, .inl y :: .inl x :: st => some (npc, ls, .inl (mj_ushr x y) :: st, π, μ)
  | 21, .inl x :: st => some (npc, ls, .inl (mj_w (-x)) :: st, π, μ)
  | 22, .inl x :: st => some (npc, ls, .inr (.inl x) :: st, π, μ)
  | 23, .inr (.inl x) :: st => some (npc, ls, .inl (mj_w x) :: st, π, μ)
  | 24, .inl x :: st => some (npc, ls, .inl (mj_b x) :: st, π, μ)
  | 25, .inl x :: st => some (npc, ls, .inl (mj_s x) :: st, π, μ)
  | 26, .inr (.inl y) :: .inr (.inl x) :: st => some (npc, ls, .inr (.inl (mj_wl (x + y))) :: st, π, μ)
  | 27, .inr (.inl y) :: .inr (.inl x) :: st => some (npc, ls, .inr (.inl (mj_wl (x * y))) :: st, π, μ)
  | 28, .inr (.inl y) :: .inr (.inl x) :: st => if y = 0 then none else some (npc, ls, .inr (.inl (mj_wl (x.tdiv y))) :: st, π, μ)
  | 29, .inr (.inl y) :: .inr (.inl x) :: st => some (npc, ls, .inr (.inl (mj_andl x y)) :: st, π, μ)
  | 30, .inr (.inl y) :: .inr (.inl x) :: st => some (npc, ls, .inr (.inl (mj_orl x y)) :: st, π, μ)
  | 31, .inl y :: .inr (.inl x) :: st => some (npc, ls, .inr (.inl (mj_shll x y)) :: st, π, μ)
  | 32, .inl y :: .inr (.inl x) :: st => some (npc, ls, .inr (.inl (mj_shrl x y)) :: st, π, μ)
  | 33, .inr (.inl y) :: .inr (.inl x) :: st => some (npc, ls, .inl (if x = y then 0 else if x < y then -1 else 1) :: st, π, μ)
  | 40, .inl y :: .inl x :: st => if x = y then some (a.toNat, ls, st, π, μ) else some (npc, ls, st, π, μ)
  | 41, .inl y :: .inl x :: st => if x = y then some (npc, ls, st, π, μ) else some (a.toNat, ls, st, π, μ)
  | 42, .inl y :: .inl x :: st => if x < y then some (a.toNat, ls, st, π, μ) else some (npc, ls, st, π, μ)
  | 43, .inl y :: .inl x :: st => if x < y then some (npc, ls, st, π, μ) else some (a.toNat, ls, st, π, μ)
  | 44, .inl y :: .inl x :: st => if y < x then some (a.toNat, ls, st, π, μ) else some (npc, ls, st, π, μ)
  | 45, .inl y :: .inl x :: st => if y < x then some (npc, ls, st, π, μ) else some (a.toNat, ls, st, π, μ)
  | 46, .inl x :: st => if x = 0 then some (a.toNat, ls, st, π, μ) else some (npc, ls, st, π, μ)
  | 47, .inl x :: st => if x = 0 then some (npc, ls, st, π, μ) else some (a.toNat, ls, st, π, μ)
  | 48, .inl x :: st => if x < 0 then some (a.toNat, ls, st, π, μ) else some (npc, ls, st, π, μ)
  | 49, .inl x :: st => if x < 0 then some (npc, ls, st, π, μ) else some (a.toNat, ls, st, π, μ)
  | 50, .inl x :: st => if 0 < x then some (a.toNat, ls, st, π, μ) else some (npc, ls, st, π, μ)
  | 51, .inl x :: st => if 0 < x then some (npc, ls, st, π, μ) else some (a.toNat, ls, st, π, μ)
  | 52, st => some (a.toNat, ls, st, π, μ)
  | 53, .inl x :: st => some (mj_sel (mj_sw m pc).1 (mj_sw m pc).2 x, ls, st, π, μ)
  | 57, .inr (.inr k) :: st => if (mj_lay L k).1 = 1 then some (npc, ls, .inl (mj_lay L k).2 :: st, π, μ) else none
  | 60, .inr (.inr k) :: st => if ((mj_lay L k).1 : Int) = 10 + b then some (npc, ls, .inl (μ k a) :: st, π, μ) else none
  | 61, .inr (.inr k) :: st => if ((mj_lay L k).1 : Int) = 10 + b then some (npc, ls, .inr (.inr (π k a.toNat)) :: st, π, μ) else none
  | 62, .inl v :: .inr (.inr k) :: st => if ((mj_lay L k).1 : Int) = 10 + b then some (npc, ls, st, π, mj_up μ k a v) else none
  | 59, .inl v :: .inr (.inr k) :: st => if ((mj_lay L k).1 : Int) = 10 + b ∧ 0 ≤ v ∧ v ≤ 1 then some (npc, ls, st, π, mj_up μ k a v) else none
  | 63, .inr (.inr r) :: .inr (.inr k) :: st => if ((mj_lay L k).1 : Int) = 10 + b then some (npc, ls, st, mj_pp π k a.toNat r, μ) else none
  | 58, .inr (.inr r) :: .inr (.inr k) :: st => if ((mj_lay L k).1 : Int) = 10 + b then some (npc, ls, st, mj_pp π k a.toNat r, μ) else none
  | 64, .inl i :: .inr (.inr k) :: st => if (mj_lay L k).1 = 1 ∧ 0 ≤ i ∧ i < (mj_lay L k).2 then some (npc, ls, .inl (μ k i) :: st, π, μ) else none
  | 65, .inl v :: .inl i :: .inr (.inr k) :: st => if (mj_lay L k).1 = 1 ∧ k < 1000 ∧ 0 ≤ i ∧ i < (mj_lay L k).2 then some (npc, ls, st, π, mj_up μ k i v) else none
  | 66, .inl i :: .inr (.inr k) :: st => if ((mj_lay L k).1 = 2 ∨ (mj_lay L k).1 = 3) ∧ 0 ≤ i ∧ i < (mj_lay L k).2 then some (npc, ls, .inl (μ k i) :: st, π, μ) else none
  | 67, .inl v :: .inl i :: .inr (.inr k) :: st => if (mj_lay L k).1 = 2 ∧ 0 ≤ i ∧ i < (mj_lay L k).2 then some (npc, ls, st, π, mj_up μ k i (mj_b v)) else if (mj_lay L k).1 = 3 ∧ 0 ≤ v ∧ v ≤ 1 ∧ 0 ≤ i ∧ i < (mj_lay L k).2 then some (npc, ls, st, π, mj_up μ k i v) else none
  | 70, st => some (npc, ls, .inr (.inr a.toNat) :: st, π, μ)
  | 71, st => some (npc, ls, .inr (.inr 1004) :: st, π, μ)
  | 78, .inl x :: st => some (npc, ls, .inl x :: .inl x :: st, π, μ)
  | 78, .inr (.inr k) :: st => some (npc, ls, .inr (.inr k) :: .inr (.inr k) :: st, π, μ)
  | 79, .inl _ :: st => some (npc, ls, st, π, μ)
  | 80, .inl y :: .inl x :: st => some (npc, ls, .inl y :: .inl x :: .inl y :: .inl x :: st, π, μ)
  | 80, .inl y :: .inr (.inr k) :: st => some (npc, ls, .inl y :: .inr (.inr k) :: .inl y :: .inr (.inr k) :: st, π, μ)
  | _, _ => none
noncomputable def mj_spl : Nat → List mj_V → List mj_V → Option (List mj_V × List mj_V)
  | 0, acc, st => some (acc, st)
  | _ + 1, _, [] => none
  | n + 1, acc, v :: st => mj_spl n (v :: acc) st
noncomputable def mj_wok : List mj_V → Bool
  | [] => true
  | [_] => true
  | [_, _] => true
  | [_, _, _] => true
  | [_, _, _, _] => true
  | _ => false
noncomputable def mj_exp : List mj_V → List mj_V
  | [] => []
  | .inl x :: l => .inl x :: mj_exp l
  | .inr (.inl x) :: l => .inr (.inl x) :: mj_nul :: mj_exp l
  | .inr (.inr k) :: l => .inr (.inr k) :: mj_exp l
noncomputable def mj_rcv (m : Nat) : List mj_V → Bool
  | .inr (.inr k) :: _ => if mj_mk m = 0 then decide ((mj_lay 0 k).1 = 10 + mj_cno m) && decide (k < 1000) else decide (k ≠ 0)
  | _ => false
/-- the arguments fit: their words, the receiver -/
noncomputable def mj_aok (m : Nat) (as : List mj_V) : Bool := decide ((mj_exp as).length ≤ mj_maxl m) && (if mj_mk m = 0 ∨ mj_mk m = 2 then mj_rcv m as else true)
noncomputable def mj_on (c : Nat) (o : Option mj_N) (K : Nat → List mj_V → List mj_V → Nat → mj_P → mj_M → Prop) : Prop :=
  match o with
  | some (pc', ls', st', π', μ') => K pc' ls' st' c π' μ'
  | none => False
/-- the cell c is fresh: its layout, nothing in it -/
noncomputable def mj_new (L : Nat) (c : Nat) (π : mj_P) (μ : mj_M) (k n : Nat) : Prop := mj_lay L (mj_nm c) = (k, n) ∧ c < 1000 ∧ (∀ j, π (mj_nm c) j = 0) ∧ ∀ j, μ (mj_nm c) j = 0
noncomputable def mj_F (C : Nat → Nat → List mj_V → Nat → mj_P → mj_M → mj_Q → Prop) (K : Nat → List mj_V → List mj_V → Nat → mj_P → mj_M → Prop) (KQ : Nat → List mj_V → List mj_V → mj_Q)
    (L d m pc : Nat) (ls st : List mj_V) (c : Nat) (π : mj_P) (μ : mj_M) (Q : mj_Q) (e : mj_E) : Prop :=
  if 100 ≤ e.2.1 then
    match d, mj_spl (e.2.1 - 100) [] st with
    | d' + 1, some (as, rest) => (mj_wok rest = true ∧ mj_aok e.2.2.1.toNat as = true) ∧ C d' e.2.2.1.toNat as c π μ (KQ e.2.2.2.2 ls rest)
    | _, _ => False
  else if e.2.1 = 75 then match st with
    | [.inl v] => Q [.inl v] c π μ
    | _ => False
  else if e.2.1 = 77 then match st with
    | [.inl v] => (0 ≤ v ∧ v ≤ 1) ∧ Q [.inl v] c π μ
    | _ => False
  else if e.2.1 = 76 then match st with
    | [] => Q [] c π μ
    | _ => False
  else if e.2.1 = 73 then match d, st with
    | _ + 1, .inr (.inr (_ + 1)) :: rest => mj_wok rest = true ∧ K e.2.2.2.2 ls rest c π μ
    | _, _ => False
  else if e.2.1 = 74 then match d, st with
    | _ + 4, .inl i :: .inr (.inr k) :: rest => (k = 1004 ∧ 0 ≤ i ∧ i < 72 ∧ mj_wok rest = true) ∧ K e.2.2.2.2 ls (.inl (mj_sp i) :: rest) c π μ
    | _, _ => False
  else if e.2.1 = 68 then mj_new L c π μ (10 + e.2.2.1.toNat) (mj_lay L (mj_nm c)).2 ∧ K e.2.2.2.2 ls (.inr (.inr (mj_nm c)) :: st) (c + 1) π μ
  else if e.2.1 = 69 then match st with
    | .inl n :: st => (0 ≤ n ∧ mj_new L c π μ e.2.2.1.toNat n.toNat) ∧ K e.2.2.2.2 ls (.inr (.inr (mj_nm c)) :: st) (c + 1) π μ
    | _ => False
  else mj_on c (mj_nx L m pc e.2.2.2.2 e.2.1 e.2.2.1 e.2.2.2.1 ls st c π μ) K
noncomputable def mj_pad (m : Nat) (as : List mj_V) : List mj_V := mj_exp as ++ List.replicate (mj_maxl m - (mj_exp as).length) mj_nul
noncomputable def mj_ex (L : Nat) : Nat → Nat → Nat → Nat → List mj_V → List mj_V → Nat → mj_P → mj_M → mj_Q → Prop
  | 0, _, _, _, _, _, _, _, _, _ => False
  | n + 1, d, m, pc, ls, st, c, π, μ, Q => mj_F (fun d' m' as c π μ Q' => mj_ex L n d' m' 0 (mj_pad m' as) [] c π μ Q') (fun pc ls st c π μ => mj_ex L n d m pc ls st c π μ Q) (fun npc ls rest r c π μ => mj_ex L n d m npc ls (r ++ rest) c π μ Q) L d m pc ls st c π μ Q (mj_at m pc)
noncomputable def mj_run (L d m pc : Nat) (ls st : List mj_V) (c : Nat) (π : mj_P) (μ : mj_M) (Q : mj_Q) : Prop := ∃ n, mj_ex L n d m pc ls st c π μ Q
noncomputable def mj_go (L d m pc : Nat) (ls st : List mj_V) (c : Nat) (π : mj_P) (μ : mj_M) (Q : mj_Q) : Prop := mj_run L d m pc ls st c π μ Q
noncomputable def mj_call (L d m : Nat) (as : List mj_V) (c : Nat) (π : mj_P) (μ : mj_M) (Q : mj_Q) : Prop := mj_run L d m 0 (mj_pad m as) [] c π μ Q
noncomputable def mj_k (L d m : Nat) (Q : mj_Q) (npc : Nat) (ls rest : List mj_V) : mj_Q := fun r c π μ => mj_go L d m npc ls (r ++ rest) c π μ Q
theorem mj_F_mono {C C' : Nat → Nat → List mj_V → Nat → mj_P → mj_M → mj_Q → Prop} {K K' : Nat → List mj_V → List mj_V → Nat → mj_P → mj_M → Prop} {KQ KQ' : Nat → List mj_V → List mj_V → mj_Q}
    {L d m pc : Nat} {ls st : List mj_V} {c : Nat} {π : mj_P} {μ : mj_M} {Q Q' : mj_Q} {e : mj_E}
    (hC : ∀ d m as c π μ (Q Q' : mj_Q), (∀ r c π μ, Q r c π μ → Q' r c π μ) → C d m as c π μ Q → C' d m as c π μ Q')
    (hK : ∀ pc ls st c π μ, K pc ls st c π μ → K' pc ls st c π μ) (hKQ : ∀ n ls rest r c π μ, KQ n ls rest r c π μ → KQ' n ls rest r c π μ) (hQ : ∀ r c π μ, Q r c π μ → Q' r c π μ)
    (h : mj_F C K KQ L d m pc ls st c π μ Q e) : mj_F C' K' KQ' L d m pc ls st c π μ Q' e := by
  unfold mj_F at h ⊢
  split
  · rw [if_pos ‹_›] at h
    split at h
    · exact ⟨h.1, hC _ _ _ _ _ _ _ _ (hKQ _ _ _) h.2⟩
    · exact h
  · rw [if_neg ‹_›] at h
    split
    · rw [if_pos ‹_›] at h
      split at h
      · exact hQ _ _ _ _ h
      · exact h
    · rw [if_neg ‹_›] at h
      split
      · rw [if_pos ‹_›] at h
        split at h
        · exact ⟨h.1, hQ _ _ _ _ h.2⟩
        · exact h
      · rw [if_neg ‹_›] at h
        split
        · rw [if_pos ‹_›] at h
          split at h
          · exact hQ _ _ _ _ h
          · exact h
        · rw [if_neg ‹_›] at h
          split
          · rw [if_pos ‹_›] at h
            split at h
            · exact ⟨h.1, hK _ _ _ _ _ _ h.2⟩
            · exact h
          · rw [if_neg ‹_›] at h
            split
            · rw [if_pos ‹_›] at h
              split at h
              · exact ⟨h.1, hK _ _ _ _ _ _ h.2⟩
              · exact h
            · rw [if_neg ‹_›] at h
              split
              · rw [if_pos ‹_›] at h
                exact ⟨h.1, hK _ _ _ _ _ _ h.2⟩
              · rw [if_neg ‹_›] at h
                split
                · rw [if_pos ‹_›] at h
                  split at h
                  · exact ⟨h.1, hK _ _ _ _ _ _ h.2⟩
                  · exact h
                · rw [if_neg ‹_›] at h
                  unfold mj_on at h ⊢
                  split at h
                  · exact hK _ _ _ _ _ _ h
                  · exact h
