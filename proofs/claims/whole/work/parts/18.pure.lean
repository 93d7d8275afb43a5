/-! ===== numbers: what is said of Int32 by naturals ===== -/
theorem q_clamp {n : Nat} (h : n < 100000) : (nI n).toNatClampNeg = n := nI_clamp (by omega)
theorem q_lt {a b : Nat} (ha : a < 100000) (hb : b < 100000) : (nI a < nI b) = (a < b) := propext (nI_ltI (by omega) (by omega))
theorem q_le {a b : Nat} (ha : a < 100000) (hb : b < 100000) : (nI a ≤ nI b) = (a ≤ b) := propext (nI_leI (by omega) (by omega))
theorem q_eq {a b : Nat} (ha : a < 100000) (hb : b < 100000) : (nI a = nI b) = (a = b) := propext (nI_eq (by omega) (by omega))
theorem q_in {a n : Nat} (h : a < n) (hn : n < 100000 := by omega) : vp_in (nI a) n = True := eq_true (vp_in_nI h (by omega))
theorem q_0 : (0 : Int32) = nI 0 := rfl
theorem q_1 : (1 : Int32) = nI 1 := rfl
theorem q_toInt {n : Nat} (h : n < 100000) : (nI n).toInt = (n : Int) := nI_toInt (by omega)
/-- |a - b| of two naturals -/
def ad2 (a b : Nat) : Nat := (a - b) + (b - a)
theorem q_abs {a b : Nat} (ha : a < 100000) (hb : b < 100000) : (if 0 ≤ nI a - nI b then nI a - nI b else 0 - (nI a - nI b)) = nI (ad2 a b) := by
  have h1 : (nI a - nI b).toInt = (a : Int) - b := pk_sub_toInt (by omega) (by omega)
  have e0 : (0 : Int32).toInt = 0 := rfl
  by_cases h : b ≤ a
  · rw [if_pos (by rw [Int32.le_iff_toInt_le, h1, e0]; omega), pk_sub h]
    congr 1
    unfold ad2
    omega
  · rw [if_neg (by rw [Int32.le_iff_toInt_le, h1, e0]; omega)]
    have h2 : nI a - nI b = 0 - (nI b - nI a) := by
      rw [Int32.zero_sub, Int32.neg_sub]
    rw [h2, Int32.zero_sub, Int32.zero_sub, Int32.neg_neg, pk_sub (by omega)]
    congr 1
    unfold ad2
    omega
/-! sets as naturals -/
theorem q_or (a b : Nat) : nI a ||| nI b = nI (a ||| b) := by
  apply Int32.toBitVec_inj.mp
  rw [Int32.toBitVec_or]
  show BitVec.ofNat 32 a ||| BitVec.ofNat 32 b = BitVec.ofNat 32 (a ||| b)
  apply BitVec.eq_of_toNat_eq
  rw [BitVec.toNat_or, BitVec.toNat_ofNat, BitVec.toNat_ofNat, BitVec.toNat_ofNat, Nat.or_mod_two_pow]
theorem q_and (a b : Nat) : nI a &&& nI b = nI (a &&& b) := by
  apply Int32.toBitVec_inj.mp
  rw [Int32.toBitVec_and]
  show BitVec.ofNat 32 a &&& BitVec.ofNat 32 b = BitVec.ofNat 32 (a &&& b)
  apply BitVec.eq_of_toNat_eq
  rw [BitVec.toNat_and, BitVec.toNat_ofNat, BitVec.toNat_ofNat, BitVec.toNat_ofNat, Nat.and_mod_two_pow]
theorem q_xor (a b : Nat) : nI a ^^^ nI b = nI (a ^^^ b) := by
  apply Int32.toBitVec_inj.mp
  rw [Int32.toBitVec_xor]
  show BitVec.ofNat 32 a ^^^ BitVec.ofNat 32 b = BitVec.ofNat 32 (a ^^^ b)
  apply BitVec.eq_of_toNat_eq
  rw [BitVec.toNat_xor, BitVec.toNat_ofNat, BitVec.toNat_ofNat, BitVec.toNat_ofNat, Nat.xor_mod_two_pow]
/-- a without b -/
def sdf (a b : Nat) : Nat := a ^^^ (a &&& b)
theorem sdf_bit (a b i : Nat) : (sdf a b).testBit i = (a.testBit i && !b.testBit i) := by
  unfold sdf
  rw [Nat.testBit_xor, Nat.testBit_and]
  cases a.testBit i <;> cases b.testBit i <;> rfl
theorem q_m1 : (-1 : Int32) = nI 4294967295 := by decide
theorem q_sdf (a b : Nat) : nI a &&& (nI b ^^^ (-1)) = nI (sdf a b) := by
  apply Int32.toBitVec_inj.mp
  rw [Int32.toBitVec_and, Int32.toBitVec_xor]
  show BitVec.ofNat 32 a &&& (BitVec.ofNat 32 b ^^^ (-1 : Int32).toBitVec) = BitVec.ofNat 32 (sdf a b)
  rw [show (-1 : Int32).toBitVec = BitVec.allOnes 32 from by decide]
  apply BitVec.eq_of_getLsbD_eq
  intro i hi
  rw [BitVec.getLsbD_and, BitVec.getLsbD_xor, BitVec.getLsbD_allOnes, BitVec.getLsbD_ofNat, BitVec.getLsbD_ofNat, BitVec.getLsbD_ofNat, sdf_bit]
  simp only [hi, decide_true, Bool.true_and, Bool.xor_true]
theorem q_shl : ∀ m : Nat, m < 31 → (1 : Int32) <<< (nI m &&& 31) = nI (2 ^ m) := by decide +kernel
theorem q_shlJ : ∀ m : Nat, m < 31 → nI 1 <<< (nI m &&& 31) = nI (2 ^ m) := by decide +kernel
theorem q_cnt : ∀ m : Nat, m < 31 → ((nI m &&& 31).toBitVec.smod 32).toNat = m := by decide +kernel
theorem q_shr {a m : Nat} (ha : a < 100000) (hm : m < 31) : nI a >>> (nI m &&& 31) = nI (a / 2 ^ m) := pk_shrN (by omega) _ m (q_cnt m hm)
theorem q_bitN {a m : Nat} (ha : a < 100000) (hm : m < 31) : (nI a >>> (nI m &&& 31)) &&& 1 = nI (a / 2 ^ m % 2) := by
  rw [q_shr ha hm, q_1, q_and]
  congr 1
  exact Nat.and_one_is_mod _
theorem q_tb (a m : Nat) : a.testBit m = decide (a / 2 ^ m % 2 = 1) := Nat.testBit_eq_decide_div_mod_eq
theorem q_bit0 {a m : Nat} (ha : a < 100000) (hm : m < 31) : ((nI a >>> (nI m &&& 31)) &&& 1 = 0) = (a.testBit m = false) := by
  rw [q_bitN ha hm, q_0, q_eq (by omega) (by omega), q_tb]
  have : a / 2 ^ m % 2 < 2 := Nat.mod_lt _ (by decide)
  apply propext
  rw [decide_eq_false_iff_not]
  omega
theorem q_bit1 {a m : Nat} (ha : a < 100000) (hm : m < 31) : ((nI a >>> (nI m &&& 31)) &&& 1 = 1) = (a.testBit m = true) := by
  rw [q_bitN ha hm, q_1, q_eq (by omega) (by omega), q_tb]
  apply propext
  rw [decide_eq_true_iff]
/-- the set of those below n of whom f is true -/
def msk (f : Nat → Bool) : Nat → Nat
  | 0 => 0
  | n + 1 => if f n = true then msk f n ||| 2 ^ n else msk f n
theorem msk_lt (f : Nat → Bool) : ∀ n, msk f n < 2 ^ n
  | 0 => by simp [msk]
  | n + 1 => by
    have h := msk_lt f n
    have h2 : 2 ^ n < 2 ^ (n + 1) := Nat.pow_lt_pow_right (by decide) (by omega)
    unfold msk
    split
    · exact Nat.or_lt_two_pow (by omega) h2
    · omega
theorem msk_bit (f : Nat → Bool) : ∀ n i, (msk f n).testBit i = (decide (i < n) && f i)
  | 0, i => by simp [msk]
  | n + 1, i => by
    have h := msk_bit f n i
    unfold msk
    split
    · rename_i hf
      rw [Nat.testBit_or, h, Nat.testBit_two_pow]
      by_cases e : n = i
      · subst e
        simp [hf]
      · have : decide (i < n + 1) = decide (i < n) := by
          apply decide_eq_decide.mpr
          omega
        simp [e, this]
    · rename_i hf
      rw [h]
      by_cases e : n = i
      · subst e
        simp [hf]
      · have : decide (i < n + 1) = decide (i < n) := by
          apply decide_eq_decide.mpr
          omega
        rw [this]
theorem nat_ext {a b : Nat} (h : ∀ i, a.testBit i = b.testBit i) : a = b := Nat.eq_of_testBit_eq h
/-- a choice is a number -/
theorem q_zo0 : fj_zo 0 = True := eq_true (Or.inl rfl)
theorem q_zo1 : fj_zo 1 = True := eq_true (Or.inr rfl)
theorem q_l10 : ((1 : Int32) = 0) = False := eq_false (by decide)
theorem q_l01 : ((0 : Int32) = 1) = False := eq_false (by decide)
theorem msk_t {f : Nat → Bool} {n : Nat} (h : f n = true) : msk f (n + 1) = msk f n ||| 2 ^ n := by
  show (if f n = true then _ else _) = _
  rw [if_pos h]
theorem msk_f {f : Nat → Bool} {n : Nat} (h : f n = false) : msk f (n + 1) = msk f n := by
  show (if f n = true then _ else _) = _
  rw [if_neg (by rw [h]; decide)]
theorem msk_congr {f g : Nat → Bool} : ∀ {n : Nat}, (∀ m, m < n → f m = g m) → msk f n = msk g n
  | 0, _ => rfl
  | n + 1, h => by
    have h1 := msk_congr (f := f) (g := g) (n := n) (fun m hm => h m (by omega))
    unfold msk
    rw [h1, h n (by omega)]
theorem fj_up_at {M : fj_HM} {o k : Nat} {v : Int32} {o2 k2 : Nat} : fj_up M o k v o2 k2 = if o2 = o ∧ k2 = k then v else M o2 k2 := rfl
theorem tb_big {a n i : Nat} (h : a < 2 ^ n) (hi : n ≤ i) : a.testBit i = false := Nat.testBit_lt_two_pow (Nat.lt_of_lt_of_le h (Nat.pow_le_pow_right (by decide) hi))
theorem sdf_lt {a b n : Nat} (h : a < 2 ^ n) : sdf a b < 2 ^ n := Nat.lt_pow_two_of_testBit _ (fun i hi => by rw [sdf_bit, tb_big h hi]; rfl)
