/-! bits as numbers -/
theorem mj_and_nat {a b : Nat} (ha : a < 2147483648) (hb : b < 2147483648) : mj_and (a : Int) (b : Int) = ((a &&& b : Nat) : Int) := by
  have h : (a &&& b) < 2147483648 := Nat.lt_of_le_of_lt Nat.and_le_left ha
  unfold mj_and
  rw [Int32.toInt, Int32.toBitVec_and, Int32.toBitVec_ofInt, Int32.toBitVec_ofInt, BitVec.ofInt_natCast, BitVec.ofInt_natCast]
  rw [BitVec.toInt_eq_toNat_of_lt]
  · rw [BitVec.toNat_and, BitVec.toNat_ofNat, BitVec.toNat_ofNat, Nat.mod_eq_of_lt (by omega), Nat.mod_eq_of_lt (by omega)]
  · rw [BitVec.toNat_and, BitVec.toNat_ofNat, BitVec.toNat_ofNat, Nat.mod_eq_of_lt (by omega), Nat.mod_eq_of_lt (by omega)]
    omega
theorem mj_or_nat {a b : Nat} (ha : a < 2147483648) (hb : b < 2147483648) : mj_or (a : Int) (b : Int) = ((a ||| b : Nat) : Int) := by
  have h : (a ||| b) < 2147483648 := Nat.or_lt_two_pow (n := 31) ha hb
  unfold mj_or
  rw [Int32.toInt, Int32.toBitVec_or, Int32.toBitVec_ofInt, Int32.toBitVec_ofInt, BitVec.ofInt_natCast, BitVec.ofInt_natCast]
  rw [BitVec.toInt_eq_toNat_of_lt]
  · rw [BitVec.toNat_or, BitVec.toNat_ofNat, BitVec.toNat_ofNat, Nat.mod_eq_of_lt (by omega), Nat.mod_eq_of_lt (by omega)]
  · rw [BitVec.toNat_or, BitVec.toNat_ofNat, BitVec.toNat_ofNat, Nat.mod_eq_of_lt (by omega), Nat.mod_eq_of_lt (by omega)]
    omega
theorem mj_31 {k : Nat} (h : k < 32) : (Int32.ofInt (k : Int) &&& 31).toBitVec = BitVec.ofNat 32 k := by
  rw [Int32.toBitVec_and, Int32.toBitVec_ofInt, BitVec.ofInt_natCast]
  apply BitVec.eq_of_toNat_eq
  rw [BitVec.toNat_and, BitVec.toNat_ofNat]
  show k % 2 ^ 32 &&& 31 = k % 2 ^ 32
  rw [Nat.mod_eq_of_lt (by omega), Nat.and_two_pow_sub_one_eq_mod k 5]
  omega
theorem mj_shl_nat {k : Nat} (h : k < 31) : mj_shl 1 (k : Int) = ((2 ^ k : Nat) : Int) := by
  have h2 : 2 ^ k < 2147483648 := Nat.pow_lt_pow_right (by omega) (n := 31) h
  unfold mj_shl
  rw [Int32.toInt, Int32.toBitVec_shiftLeft, mj_31 (by omega)]
  have e : ((Int32.ofInt 1).toBitVec <<< (BitVec.ofNat 32 k).smod 32) = BitVec.ofNat 32 (2 ^ k) := by
    have : ∀ q : Fin 31, ((Int32.ofInt 1).toBitVec <<< (BitVec.ofNat 32 q.1).smod 32) = BitVec.ofNat 32 (2 ^ q.1) := by decide
    exact this ⟨k, h⟩
  rw [e, BitVec.toInt_eq_toNat_of_lt]
  · rw [BitVec.toNat_ofNat, Nat.mod_eq_of_lt (by omega)]
  · rw [BitVec.toNat_ofNat, Nat.mod_eq_of_lt (by omega)]; omega
theorem mj_shr_nat {a k : Nat} (ha : a < 2147483648) (h : k < 31) : mj_shr (a : Int) (k : Int) = ((a / 2 ^ k : Nat) : Int) := by
  unfold mj_shr
  rw [Int32.toInt, Int32.toBitVec_shiftRight, mj_31 (by omega), Int32.toBitVec_ofInt, BitVec.ofInt_natCast]
  have e : ((BitVec.ofNat 32 k).smod 32) = BitVec.ofNat 32 k := by
    have : ∀ q : Fin 31, ((BitVec.ofNat 32 q.1).smod 32) = BitVec.ofNat 32 q.1 := by decide
    exact this ⟨k, h⟩
  have hd : a / 2 ^ k ≤ a := Nat.div_le_self _ _
  rw [e]
  show (BitVec.sshiftRight (BitVec.ofNat 32 a) (BitVec.ofNat 32 k).toNat).toInt = _
  rw [BitVec.toNat_ofNat, Nat.mod_eq_of_lt (show k < 2 ^ 32 by omega), BitVec.toInt_sshiftRight, BitVec.toInt_eq_toNat_of_lt (by rw [BitVec.toNat_ofNat, Nat.mod_eq_of_lt (by omega)]; omega), BitVec.toNat_ofNat, Nat.mod_eq_of_lt (by omega), Int.shiftRight_eq_div_pow]
  norm_cast
theorem mj_ushr_nat {a k : Nat} (ha : a < 2147483648) (h : k < 31) : mj_ushr (a : Int) (k : Int) = ((a / 2 ^ k : Nat) : Int) := by
  have hd : a / 2 ^ k ≤ a := Nat.div_le_self _ _
  unfold mj_ushr
  have e : ((Int32.ofInt (a : Int)).toUInt32 >>> ((Int32.ofInt (k : Int)).toUInt32 &&& Int32.toUInt32 31)).toNat = a / 2 ^ k := by
    rw [UInt32.toNat_shiftRight]
    have e1 : (Int32.ofInt (a : Int)).toUInt32.toNat = a := by
      show (BitVec.ofInt 32 (a : Int)).toNat = a
      rw [BitVec.ofInt_natCast, BitVec.toNat_ofNat, Nat.mod_eq_of_lt (by omega)]
    have e2 : ((Int32.ofInt (k : Int)).toUInt32 &&& Int32.toUInt32 31).toNat = k := by
      rw [UInt32.toNat_and]
      have e3 : (Int32.ofInt (k : Int)).toUInt32.toNat = k := by
        show (BitVec.ofInt 32 (k : Int)).toNat = k
        rw [BitVec.ofInt_natCast, BitVec.toNat_ofNat, Nat.mod_eq_of_lt (by omega)]
      rw [e3]
      show k &&& 31 = k
      rw [Nat.and_two_pow_sub_one_eq_mod k 5]
      omega
    rw [e1, e2, Nat.mod_eq_of_lt (by omega), Nat.shiftRight_eq_div_pow]
  generalize ((Int32.ofInt (a : Int)).toUInt32 >>> ((Int32.ofInt (k : Int)).toUInt32 &&& Int32.toUInt32 31)) = u at e
  show u.toBitVec.toInt = _
  have e' : u.toBitVec.toNat = a / 2 ^ k := e
  rw [BitVec.toInt_eq_toNat_of_lt (by omega), e']
/-- the bits of a predicate, as a number -/
def zB (p : Int → Bool) : Nat → Nat
  | 0 => 0
  | n + 1 => zB p n + if p n then 2 ^ n else 0
theorem zB_s (p : Int → Bool) (n : Nat) : zB p (n + 1) = zB p n + if p n then 2 ^ n else 0 := rfl
theorem zB_lt (p : Int → Bool) : ∀ n, zB p n < 2 ^ n
  | 0 => by simp [zB]
  | n + 1 => by
    have h := zB_lt p n
    rw [zB_s, Nat.pow_succ]
    split <;> omega
theorem zb_nat (p : Int → Bool) : ∀ n, n ≤ 30 → zb p n = (zB p n : Int)
  | 0, _ => rfl
  | n + 1, h => by
    have ih := zb_nat p n (by omega)
    have hl := zB_lt p n
    have h2 : 2 ^ n < 2147483648 := Nat.pow_lt_pow_right (by omega) (n := 31) (by omega)
    rw [zb_s, ih, zB_s]
    split
    · rw [mj_shl_nat (by omega), mj_or_nat (by omega) h2, Nat.or_comm]
      have := Nat.two_pow_add_eq_or_of_lt hl 1
      rw [Nat.mul_one] at this
      rw [← this, Nat.add_comm]
    · rfl
theorem zB_bit (p : Int → Bool) (k : Nat) : ∀ n, zB p n / 2 ^ k % 2 = if k < n ∧ p k = true then 1 else 0
  | 0 => by simp [zB]
  | n + 1 => by
    have ih := zB_bit p k n
    have hl := zB_lt p n
    rw [zB_s]
    by_cases hk : k < n
    · have e : (zB p n + if p n then 2 ^ n else 0) / 2 ^ k % 2 = zB p n / 2 ^ k % 2 := by
        split
        · obtain ⟨m, rfl⟩ : ∃ m, n = k + 1 + m := ⟨n - k - 1, by omega⟩
          rw [Nat.pow_add, Nat.pow_succ, Nat.mul_assoc, Nat.add_mul_div_left _ _ (Nat.two_pow_pos k)]
          omega
        · rfl
      rw [e, ih]
      simp [hk, show k < n + 1 by omega]
    · by_cases hn : k = n
      · subst hn
        by_cases hp : p k = true
        · simp only [hp, if_true]
          rw [Nat.add_div_right _ (Nat.two_pow_pos k), Nat.div_eq_of_lt hl]
          simp
        · simp only [hp]
          simp [Nat.div_eq_of_lt hl]
      · have hlt : (zB p n + if p n then 2 ^ n else 0) < 2 ^ k := by
          have h1 : 2 ^ (n + 1) ≤ 2 ^ k := Nat.pow_le_pow_right (by omega) (by omega)
          rw [Nat.pow_succ] at h1
          split <;> omega
        rw [Nat.div_eq_of_lt hlt]
        simp [show ¬ k < n + 1 by omega]
theorem zc_cg {p q : Int → Bool} : ∀ {n : Nat}, (∀ i : Nat, i < n → p i = q i) → zc p n = zc q n
  | 0, _ => rfl
  | n + 1, h => by
    unfold zc
    rw [zc_cg (n := n) (fun i hi => h i (by omega)), h n (by omega)]
theorem zc_lt (p : Int → Bool) (n : Nat) : ∀ m, n ≤ m → zc (fun i => decide (i < n) && p i) m = zc p n
  | 0, h => by
    have : n = 0 := by omega
    subst this; rfl
  | m + 1, h => by
    by_cases e : n = m + 1
    · subst e
      exact zc_cg (fun i hi => by rw [show decide ((i : Int) < ((m + 1 : Nat) : Int)) = true by rw [decide_eq_true_eq]; omega, Bool.true_and])
    · rw [show zc (fun i => decide (i < n) && p i) (m + 1) = zc (fun i => decide (i < n) && p i) m + if (decide ((m : Int) < n) && p m) = true then 1 else 0 from rfl, zc_lt p n m (by omega)]
      simp [show ¬ (m : Int) < (n : Int) by omega]
theorem zs_cg {p q : Int → Int} : ∀ {n : Nat}, (∀ i : Nat, i < n → p i = q i) → zs p n = zs q n
  | 0, _ => rfl
  | n + 1, h => by
    unfold zs
    rw [zs_cg (n := n) (fun i hi => h i (by omega)), h n (by omega)]
theorem zs_zc (p : Int → Bool) : ∀ n, zs (fun i => if p i then 1 else 0) n = zc p n
  | 0 => rfl
  | n + 1 => by unfold zs zc; rw [zs_zc p n]
theorem zb_pop (p : Int → Bool) {n : Nat} (hn : n ≤ 24) : zs (fun k => mj_and (mj_shr (zb p n) k) 1) 24 = zc p n := by
  rw [← zc_lt p n 24 hn, ← zs_zc]
  refine zs_cg fun k hk => ?_
  have hl := zB_lt p n
  have h2 : 2 ^ n ≤ 2 ^ 24 := Nat.pow_le_pow_right (by omega) hn
  have h3 : zB p n / 2 ^ k ≤ zB p n := Nat.div_le_self _ _
  rw [zb_nat p n (by omega), mj_shr_nat (by omega) (by omega)]
  have := mj_and_nat (a := zB p n / 2 ^ k) (b := 1) (by omega) (by omega)
  rw [show (1 : Int) = ((1 : Nat) : Int) from rfl, this, Nat.and_one_is_mod, zB_bit]
  by_cases h : k < n ∧ p k = true
  · simp [h.1, h.2]
  · rw [if_neg h]
    simp only [Bool.and_eq_true, decide_eq_true_eq]
    rw [if_neg (fun q => h ⟨by omega, q.2⟩)]; rfl
theorem sw_and (q m : Nat) {r s : Nat} (hr : r < 256) (hs : s < 256) : (r + 256 * q) &&& (s + 256 * m) = (r &&& s) + 256 * (q &&& m) := by
  have h1 : (r &&& s) < 256 := Nat.lt_of_le_of_lt Nat.and_le_left hr
  have hd := Nat.and_div_two_pow (a := r + 256 * q) (b := s + 256 * m) (n := 8)
  have hm := Nat.and_mod_two_pow (a := r + 256 * q) (b := s + 256 * m) (n := 8)
  rw [show (r + 256 * q) / 2 ^ 8 = q by omega, show (s + 256 * m) / 2 ^ 8 = m by omega] at hd
  rw [show (r + 256 * q) % 2 ^ 8 = r by omega, show (s + 256 * m) % 2 ^ 8 = s by omega] at hm
  generalize ((r + 256 * q) &&& (s + 256 * m)) = u at *
  generalize (r &&& s) = u1 at *
  generalize (q &&& m) = u2 at *
  omega
def pop8 (a : Nat) : Nat := a % 2 + a / 2 % 2 + a / 4 % 2 + a / 8 % 2 + a / 16 % 2 + a / 32 % 2 + a / 64 % 2 + a / 128 % 2
theorem sw_a : ∀ a : Fin 256, (a.1 / 2 &&& 85) ≤ a.1 ∧ ((a.1 - (a.1 / 2 &&& 85) &&& 51) + ((a.1 - (a.1 / 2 &&& 85)) / 4 &&& 51)) ≤ 68 ∧ (((a.1 - (a.1 / 2 &&& 85) &&& 51) + ((a.1 - (a.1 / 2 &&& 85)) / 4 &&& 51)) % 16 ≤ 4) ∧ ((((a.1 - (a.1 / 2 &&& 85) &&& 51) + ((a.1 - (a.1 / 2 &&& 85)) / 4 &&& 51)) + ((a.1 - (a.1 / 2 &&& 85) &&& 51) + ((a.1 - (a.1 / 2 &&& 85)) / 4 &&& 51)) / 16) % 16 = pop8 a.1) := by decide +kernel
theorem sw_b : ∀ a : Fin 128, ∀ b : Fin 2, (a.1 + 128 * b.1) &&& 85 = a.1 &&& 85 := by decide +kernel
theorem sw_c : ∀ a : Fin 64, ∀ b : Fin 4, (a.1 + 64 * b.1) &&& 51 = a.1 &&& 51 := by decide +kernel
theorem sw_1 {a b c : Nat} (ha : a < 256) (hb : b < 256) (hc : c < 256) : (a + 256 * (b + 256 * c)) / 2 &&& 1431655765 = (a / 2 &&& 85) + 256 * ((b / 2 &&& 85) + 256 * (c / 2 &&& 85)) := by
  have e : (a + 256 * (b + 256 * c)) / 2 = (a / 2 + 128 * (b % 2)) + 256 * ((b / 2 + 128 * (c % 2)) + 256 * (c / 2 + 256 * 0)) := by omega
  have e2 : (1431655765 : Nat) = 85 + 256 * (85 + 256 * (85 + 256 * 85)) := rfl
  rw [e, e2, sw_and _ _ (by omega) (by omega), sw_and _ _ (by omega) (by omega), sw_and _ _ (by omega) (by omega), sw_b ⟨a / 2, by omega⟩ ⟨b % 2, by omega⟩, sw_b ⟨b / 2, by omega⟩ ⟨c % 2, by omega⟩, Nat.zero_and]
  simp only [Nat.mul_zero, Nat.add_zero]
theorem sw_2 {a b c : Nat} (ha : a < 256) (hb : b < 256) (hc : c < 256) : (a + 256 * (b + 256 * c)) &&& 858993459 = (a &&& 51) + 256 * ((b &&& 51) + 256 * (c &&& 51)) := by
  have e : a + 256 * (b + 256 * c) = a + 256 * (b + 256 * (c + 256 * 0)) := by omega
  have e2 : (858993459 : Nat) = 51 + 256 * (51 + 256 * (51 + 256 * 51)) := rfl
  rw [e, e2, sw_and _ _ (by omega) (by omega), sw_and _ _ (by omega) (by omega), sw_and _ _ (by omega) (by omega), Nat.zero_and]
  omega
theorem sw_3 {a b c : Nat} (ha : a < 256) (hb : b < 256) (hc : c < 256) : (a + 256 * (b + 256 * c)) / 4 &&& 858993459 = (a / 4 &&& 51) + 256 * ((b / 4 &&& 51) + 256 * (c / 4 &&& 51)) := by
  have e : (a + 256 * (b + 256 * c)) / 4 = (a / 4 + 64 * (b % 4)) + 256 * ((b / 4 + 64 * (c % 4)) + 256 * (c / 4)) := by omega
  rw [e, sw_2 (by omega) (by omega) (by omega), sw_c ⟨a / 4, by omega⟩ ⟨b % 4, by omega⟩, sw_c ⟨b / 4, by omega⟩ ⟨c % 4, by omega⟩]
theorem sw_4 {a b c : Nat} (ha : a < 256) (hb : b < 256) (hc : c < 256) : (a + 256 * (b + 256 * c)) &&& 252645135 = (a % 16) + 256 * ((b % 16) + 256 * (c % 16)) := by
  have e : a + 256 * (b + 256 * c) = a + 256 * (b + 256 * (c + 256 * 0)) := by omega
  have e2 : (252645135 : Nat) = 15 + 256 * (15 + 256 * (15 + 256 * 15)) := rfl
  rw [e, e2, sw_and _ _ (by omega) (by omega), sw_and _ _ (by omega) (by omega), sw_and _ _ (by omega) (by omega), Nat.zero_and]
  rw [Nat.and_two_pow_sub_one_eq_mod a 4, Nat.and_two_pow_sub_one_eq_mod b 4, Nat.and_two_pow_sub_one_eq_mod c 4]
  omega
theorem sw_w {n : Nat} {x : Int} (h : x = n) (hn : n < 2147483648) : mj_w x = (n : Int) := by
  rw [h]; exact mj_w_id (by omega) (by omega)
theorem sw_l1 {A B E : Nat} (hA : A ≤ 68) (hB : B ≤ 68) (hE : E ≤ 68) : A + 256 * (B + 256 * E) < 2147483648 := by omega
theorem sw_l2 {A B E : Nat} (hA : A ≤ 68) (hB : B ≤ 68) (hE : E ≤ 68) : (A + A / 16 + 16 * (B % 16)) + 256 * ((B + B / 16 + 16 * (E % 16)) + 256 * (E + E / 16)) < 2147483648 := by omega
theorem sw_l3 {A B E : Nat} (hA : A < 16) (hB : B < 16) (hE : E < 16) : A + 256 * (B + 256 * E) < 2147483648 := by omega
theorem sw_l4 {A B E : Nat} (hA : A < 16) (hB : B < 16) (hE : E < 16) : (A + B) + 256 * ((B + E) + 256 * E) < 2147483648 := by omega
theorem sw_l5 {A B E : Nat} (hA : A < 16) (hB : B < 16) (hE : E < 16) : (A + B + E) + 256 * ((B + E) + 256 * E) < 2147483648 := by omega
theorem sw_m1 (A B : Nat) : (A + A / 16 + 16 * (B % 16)) % 16 = (A + A / 16) % 16 := by omega
theorem sw_d3 (A B E : Nat) : ((A + 256 * (B + 256 * E) : Nat) : Int) + (((A + 256 * (B + 256 * E)) / 16 : Nat) : Int) = (((A + A / 16 + 16 * (B % 16)) + 256 * ((B + B / 16 + 16 * (E % 16)) + 256 * (E + E / 16)) : Nat) : Int) := by
  rw [← Int.natCast_add]
  refine congrArg _ ?_
  have h1 : (A + 256 * (B + 256 * E)) / 16 = A / 16 + 16 * B + 4096 * E := by omega
  rw [h1]
  generalize A / 16 = q
  omega
theorem sw_d4 {A B E : Nat} (hA : A < 16) (hB : B < 16) (hE : E < 16) : ((A + 256 * (B + 256 * E) : Nat) : Int) + (((A + 256 * (B + 256 * E)) / 256 : Nat) : Int) = (((A + B) + 256 * ((B + E) + 256 * E) : Nat) : Int) := by omega
theorem sw_d5 {A B E : Nat} (hA : A < 16) (hB : B < 16) (hE : E < 16) : (((A + B) + 256 * ((B + E) + 256 * E) : Nat) : Int) + ((((A + B) + 256 * ((B + E) + 256 * E)) / 65536 : Nat) : Int) = (((A + B + E) + 256 * ((B + E) + 256 * E) : Nat) : Int) := by omega
theorem sw_d6 {A B E : Nat} (hA : A < 16) (hB : B < 16) (hE : E < 16) : ((A + B + E) + 256 * ((B + E) + 256 * E)) % 2 ^ 6 = A + B + E := by omega
theorem pop24 (w : Nat) : w % 2 + w / 2 % 2 + w / 4 % 2 + w / 8 % 2 + w / 16 % 2 + w / 32 % 2 + w / 64 % 2 + w / 128 % 2 + w / 256 % 2 + w / 512 % 2 + w / 1024 % 2 + w / 2048 % 2 + w / 4096 % 2 + w / 8192 % 2 + w / 16384 % 2 + w / 32768 % 2 + w / 65536 % 2 + w / 131072 % 2 + w / 262144 % 2 + w / 524288 % 2 + w / 1048576 % 2 + w / 2097152 % 2 + w / 4194304 % 2 + w / 8388608 % 2 = pop8 (w % 256) + pop8 (w / 256 % 256) + pop8 (w / 65536) := by
  unfold pop8
  rw [show w % 256 % 2 = w % 2 by omega, show w % 256 / 2 % 2 = w / 2 % 2 by omega, show w % 256 / 4 % 2 = w / 4 % 2 by omega, show w % 256 / 8 % 2 = w / 8 % 2 by omega, show w % 256 / 16 % 2 = w / 16 % 2 by omega, show w % 256 / 32 % 2 = w / 32 % 2 by omega, show w % 256 / 64 % 2 = w / 64 % 2 by omega, show w % 256 / 128 % 2 = w / 128 % 2 by omega]
  rw [show w / 256 % 256 % 2 = w / 256 % 2 by omega, show w / 256 % 256 / 2 % 2 = w / 512 % 2 by omega, show w / 256 % 256 / 4 % 2 = w / 1024 % 2 by omega, show w / 256 % 256 / 8 % 2 = w / 2048 % 2 by omega, show w / 256 % 256 / 16 % 2 = w / 4096 % 2 by omega, show w / 256 % 256 / 32 % 2 = w / 8192 % 2 by omega, show w / 256 % 256 / 64 % 2 = w / 16384 % 2 by omega, show w / 256 % 256 / 128 % 2 = w / 32768 % 2 by omega]
  rw [show w / 65536 / 2 = w / 131072 by omega, show w / 65536 / 4 = w / 262144 by omega, show w / 65536 / 8 = w / 524288 by omega, show w / 65536 / 16 = w / 1048576 by omega, show w / 65536 / 32 = w / 2097152 by omega, show w / 65536 / 64 = w / 4194304 by omega, show w / 65536 / 128 = w / 8388608 by omega]
  simp only [Nat.add_assoc]
theorem c_Jx_bitCount {L d c : Nat} {π : mj_P} {μ : mj_M} {w : Nat} (hw : w < 16777216) (Q : mj_Q) : mj_call L d 227 [.inl (w : Int)] c π μ Q = Q [.inl (zs (fun k => mj_and (mj_shr w k) 1) 24)] c π μ := by
  have hz : zs (fun k => mj_and (mj_shr w k) 1) 24 = zs (fun k => ((w / 2 ^ k.toNat % 2 : Nat) : Int)) 24 := by
    refine zs_cg fun k hk => ?_
    have h3 : w / 2 ^ k ≤ w := Nat.div_le_self _ _
    have := mj_and_nat (a := w / 2 ^ k) (b := 1) (by omega) (by omega)
    rw [mj_shr_nat (by omega) (by omega), show (1 : Int) = ((1 : Nat) : Int) from rfl, this, Nat.and_one_is_mod]
    rfl
  rw [hz]
  have hs : zs (fun k => ((w / 2 ^ k.toNat % 2 : Nat) : Int)) 24 = ((w % 2 + w / 2 % 2 + w / 4 % 2 + w / 8 % 2 + w / 16 % 2 + w / 32 % 2 + w / 64 % 2 + w / 128 % 2 + w / 256 % 2 + w / 512 % 2 + w / 1024 % 2 + w / 2048 % 2 + w / 4096 % 2 + w / 8192 % 2 + w / 16384 % 2 + w / 32768 % 2 + w / 65536 % 2 + w / 131072 % 2 + w / 262144 % 2 + w / 524288 % 2 + w / 1048576 % 2 + w / 2097152 % 2 + w / 4194304 % 2 + w / 8388608 % 2 : Nat) : Int) := by
    simp only [zs, Int.toNat_natCast]
    simp
  have hp : zs (fun k => ((w / 2 ^ k.toNat % 2 : Nat) : Int)) 24 = ((pop8 (w % 256) + pop8 (w / 256 % 256) + pop8 (w / 65536) : Nat) : Int) := by
    rw [hs, pop24]
  rw [hp]
  clear hs hz hp
  obtain ⟨a, b, e, ha, hb, he, rfl⟩ : ∃ a b e, a < 256 ∧ b < 256 ∧ e < 256 ∧ w = a + 256 * (b + 256 * e) := ⟨w % 256, w / 256 % 256, w / 65536, by omega, by omega, by omega, by omega⟩
  obtain ⟨a1, a2, a3, a4⟩ := sw_a ⟨a, ha⟩
  obtain ⟨b1, b2, b3, b4⟩ := sw_a ⟨b, hb⟩
  obtain ⟨e1, e2, e3, e4⟩ := sw_a ⟨e, he⟩
  have hq : pop8 ((a + 256 * (b + 256 * e)) % 256) + pop8 ((a + 256 * (b + 256 * e)) / 256 % 256) + pop8 ((a + 256 * (b + 256 * e)) / 65536) = pop8 a + pop8 b + pop8 e := by
    rw [show (a + 256 * (b + 256 * e)) % 256 = a by omega, show (a + 256 * (b + 256 * e)) / 256 % 256 = b by omega, show (a + 256 * (b + 256 * e)) / 65536 = e by omega]
  rw [hq]
  clear hq
  simp only at a1 a2 a3 a4 b1 b2 b3 b4 e1 e2 e3 e4
  have s1 := sw_1 ha hb he
  generalize (a / 2 &&& 85) = ga at *
  generalize (b / 2 &&& 85) = gb at *
  generalize (e / 2 &&& 85) = ge at *
  have s2 := sw_2 (a := a - ga) (b := b - gb) (c := e - ge) (by omega) (by omega) (by omega)
  have s3 := sw_3 (a := a - ga) (b := b - gb) (c := e - ge) (by omega) (by omega) (by omega)
  generalize hA : (a - ga &&& 51) + ((a - ga) / 4 &&& 51) = A at *
  generalize hB : (b - gb &&& 51) + ((b - gb) / 4 &&& 51) = B at *
  generalize hE : (e - ge &&& 51) + ((e - ge) / 4 &&& 51) = E at *
  have s4 := sw_4 (a := A + A / 16 + 16 * (B % 16)) (b := B + B / 16 + 16 * (E % 16)) (c := E + E / 16) (by omega) (by omega) (by omega)
  have i1 : ((1 : Nat) : Int) = 1 := rfl
  have u1 := mj_ushr_nat (a := a + 256 * (b + 256 * e)) (k := 1) (by omega) (by omega)
  have n1 := mj_and_nat (a := (a + 256 * (b + 256 * e)) / 2) (b := 1431655765) (by omega) (by omega)
  rw [s1] at n1
  have w1 := sw_w (n := (a - ga) + 256 * ((b - gb) + 256 * (e - ge))) (x := ((a + 256 * (b + 256 * e) : Nat) : Int) - ((ga + 256 * (gb + 256 * ge) : Nat) : Int)) (by omega) (by omega)
  have n2 := mj_and_nat (a := (a - ga) + 256 * ((b - gb) + 256 * (e - ge))) (b := 858993459) (by omega) (by omega)
  have u2 := mj_ushr_nat (a := (a - ga) + 256 * ((b - gb) + 256 * (e - ge))) (k := 2) (by omega) (by omega)
  have n3 := mj_and_nat (a := ((a - ga) + 256 * ((b - gb) + 256 * (e - ge))) / 4) (b := 858993459) (by omega) (by omega)
  have w2 := sw_w (n := A + 256 * (B + 256 * E)) (x := ((((a - ga) + 256 * ((b - gb) + 256 * (e - ge))) &&& 858993459 : Nat) : Int) + (((((a - ga) + 256 * ((b - gb) + 256 * (e - ge))) / 4) &&& 858993459 : Nat) : Int)) (by rw [s2, s3]; omega) (by omega)
  have u3 := mj_ushr_nat (a := A + 256 * (B + 256 * E)) (k := 4) (sw_l1 a2 b2 e2) (by decide)
  have w3 := sw_w (n := (A + A / 16 + 16 * (B % 16)) + 256 * ((B + B / 16 + 16 * (E % 16)) + 256 * (E + E / 16))) (sw_d3 A B E) (sw_l2 a2 b2 e2)
  have n4 := mj_and_nat (a := (A + A / 16 + 16 * (B % 16)) + 256 * ((B + B / 16 + 16 * (E % 16)) + 256 * (E + E / 16))) (b := 252645135) (sw_l2 a2 b2 e2) (by decide)
  rw [s4, sw_m1, sw_m1] at n4
  have p1 : (A + A / 16) % 16 < 16 := Nat.mod_lt _ (by omega)
  have p2 : (B + B / 16) % 16 < 16 := Nat.mod_lt _ (by omega)
  have p3 : (E + E / 16) % 16 < 16 := Nat.mod_lt _ (by omega)
  have w3x := w3
  clear s4
  generalize (A + A / 16) % 16 = PA at *
  generalize (B + B / 16) % 16 = PB at *
  generalize (E + E / 16) % 16 = PE at *
  have u4 := mj_ushr_nat (a := PA + 256 * (PB + 256 * PE)) (k := 8) (sw_l3 p1 p2 p3) (by decide)
  have w4 := sw_w (n := (PA + PB) + 256 * ((PB + PE) + 256 * PE)) (sw_d4 p1 p2 p3) (sw_l4 p1 p2 p3)
  have u5 := mj_ushr_nat (a := (PA + PB) + 256 * ((PB + PE) + 256 * PE)) (k := 16) (sw_l4 p1 p2 p3) (by decide)
  have w5 := sw_w (n := (PA + PB + PE) + 256 * ((PB + PE) + 256 * PE)) (sw_d5 p1 p2 p3) (sw_l5 p1 p2 p3)
  have n5 := mj_and_nat (a := (PA + PB + PE) + 256 * ((PB + PE) + 256 * PE)) (b := 63) (sw_l5 p1 p2 p3) (by decide)
  rw [Nat.and_two_pow_sub_one_eq_mod _ 6, sw_d6 p1 p2 p3] at n5
  simp only [Nat.reducePow, Int.cast_ofNat_Int, i1] at u1 n1 n2 u2 n3 u3 n4 u4 u5 n5
  refine mj_call_eq ?_ Q
  simp only [e_227, mj_go_eq, g_cut, g_k0, g_k1, g_w0, g_w1, g_w2, g_w3, g_w4, g_c1, g_c2, g_c3, g_us, g_ldi_0, g_const, g_iushr, g_iand, g_isub, g_sti_0, g_iadd, g_ret, a_227_0, a_227_1, a_227_2, a_227_3, a_227_4, a_227_7, a_227_8, a_227_9, a_227_10, a_227_11, a_227_14, a_227_15, a_227_16, a_227_17, a_227_18, a_227_21, a_227_22, a_227_23, a_227_24, a_227_25, a_227_26, a_227_27, a_227_28, a_227_29, a_227_32, a_227_33, a_227_34, a_227_35, a_227_36, a_227_38, a_227_39, a_227_40, a_227_41, a_227_42, a_227_43, a_227_45, a_227_46, a_227_47, a_227_48, a_227_49, a_227_51, a_227_52, ne_eq, not_false_eq_true, true_and, and_true, and_self, Int.cast_ofNat_Int, reduceCtorEq, or_false, false_or, not_true_eq_false, or_true, true_or, Int.reduceToNat, Int.reduceAdd, Int.reduceEq, Int.reduceNe, Int.reduceLT, Int.reduceLE, Int.reduceNeg, Int.reduceSub, Int.reduceMul, Nat.reduceAdd, Nat.reduceLT, Nat.reduceLeDiff, Nat.reduceEqDiff, forall_const, false_implies, true_implies, p_1_0, p_1_1, p_1_2, p_1_3, p_1_4, p_1_5, p_1_6, p_1_7, p_1_8, p_1_9, p_2_0, p_4_0, p_4_1, p_4_2, p_4_3, p_4_4, p_4_5, p_5_0, p_5_1, p_5_2, p_5_3, p_5_4, p_5_5, p_12_0, p_12_1, p_12_2, p_12_3, p_12_4, p_18_0, p_18_1, p_18_2, p_18_3, p_23_0, p_23_1, p_23_2, p_23_3, p_23_4, p_31_0, p_31_1, p_31_2, p_31_3, p_36_0, p_36_1, p_36_2, p_36_3, p_36_4, p_42_0, p_42_1, p_42_2, p_42_3, p_42_4, p_42_5, p_42_6, p_42_7, p_42_8, p_52_0, p_52_1, p_52_2, p_52_3, p_52_4, p_52_5, p_52_6, p_58_0, p_58_1, p_58_2, p_62_0, p_62_1, p_62_2, p_62_3, p_67_1, p_67_2, p_67_3, p_67_4, p_67_13, p_67_15, p_67_16, p_67_17, p_67_18, p_67_19, p_67_21, p_67_22, p_67_23, p_67_24, p_67_25, p_67_26, p_67_28, p_67_29, p_67_30, p_67_31, p_67_33, p_67_34, p_67_35, p_67_36, p_67_37, p_67_38, p_67_39, p_67_40, p_67_41, p_67_42, p_67_43, p_67_44, p_67_48, p_67_49, p_67_50, p_67_51, p_67_52, p_67_53, p_67_54, p_67_55, p_x, p_y, p_z, p_sx, p_sy, p_sz, y_1, y_2, y_3, y_4, y_5, y_6, y_7, y_8, y_9, y_10, y_11, y_12, y_13, y_14, y_15, y_16, y_17, y_18, y_19, y_20, y_21, y_22, y_23, y_24, y_25, y_26, y_27, y_28, y_29, y_30, y_31, y_32, y_33, y_34, y_35, y_36, y_37, y_38, y_39, y_40, y_41, y_42, y_43, y_44, y_45, y_46, y_47, y_48, y_49, y_50, y_51, y_52, y_53, y_54, y_55, y_56, y_57, y_58, y_59, y_60, y_61, y_62, y_63, y_64, y_65, y_66, y_67, y_68, y_69, y_70, y_71, y_72, y_73, y_74, y_75, y_76, y_77, y_78, y_79, y_80, y_81, y_82, y_83, y_84, y_85, y_86, y_87, y_88, y_89, y_90, y_91, y_92, y_93, y_94, y_95, y_96, y_97, y_98, y_99, y_100, y_101, y_102, y_103, y_104, y_105, y_106, y_107, y_108, y_109, y_1000, y_1001, y_1002, y_1003, u1, n1, w1, n2, u2, n3, w2, u3, w3, n4, u4, w4, u5, w5, n5]
  refine congrArg (fun q : Int => [Sum.inl q]) ?_
  rw [a4, b4, e4]
