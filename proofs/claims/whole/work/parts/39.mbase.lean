/-! ===== the reference's small methods ===== -/
theorem m97L {x l h : Int64} {M : fj_HM} {P : fj_HP} {Q : fj_Po} : fj_H none 97 0 [.long x, .double 0, .long l, .double 0, .long h, .double 0] [] M P 53 7835 Q = if x < l then Q (some (.int 0)) M P 53 7835 else if h < x then Q (some (.int 0)) M P 53 7835 else Q (some (.int 1)) M P 53 7835 := by
  have a1 : (lg_cmp x l < 0) = (x < l) := lgc_lt _ _
  have a2 : (0 < lg_cmp x h) = (h < x) := lgc_gt _ _
  simp only [fs97_0, fs97_1, fs97_2, fs97_3, fj_OB, fj_AR, fj_CI, q_zo0, q_zo1, Option.toList_some, Option.toList_none, List.cons_append, List.nil_append, true_and, and_true, true_or, if_true, if_false, q_l10, q_l01, eq_self, Int32.reduceLT, Int32.reduceLE, Int32.reduceAdd, Int32.reduceSub, fj_up_at, Nat.reduceEqDiff, false_and, and_false, and_self, reduceCtorEq, Nat.reduceAdd, a1]
  by_cases h1 : x < l
  · rw [if_pos h1, if_pos h1]
    simp only [fs97_17, fs97_18, fj_OB, fj_AR, fj_CI, q_zo0, q_zo1, Option.toList_some, Option.toList_none, List.cons_append, List.nil_append, true_and, and_true, true_or, if_true, if_false, q_l10, q_l01, eq_self, Int32.reduceLT, Int32.reduceLE, Int32.reduceAdd, Int32.reduceSub, fj_up_at, Nat.reduceEqDiff, false_and, and_false, and_self, reduceCtorEq, Nat.reduceAdd]
  · rw [if_neg h1, if_neg h1]
    simp only [fs97_6, fs97_7, fs97_9, fs97_10, fj_OB, fj_AR, fj_CI, q_zo0, q_zo1, Option.toList_some, Option.toList_none, List.cons_append, List.nil_append, true_and, and_true, true_or, if_true, if_false, q_l10, q_l01, eq_self, Int32.reduceLT, Int32.reduceLE, Int32.reduceAdd, Int32.reduceSub, fj_up_at, Nat.reduceEqDiff, false_and, and_false, and_self, reduceCtorEq, Nat.reduceAdd, a2]
    by_cases h2 : h < x
    · rw [if_pos h2, if_pos h2]
      simp only [fs97_17, fs97_18, fj_OB, fj_AR, fj_CI, q_zo0, q_zo1, Option.toList_some, Option.toList_none, List.cons_append, List.nil_append, true_and, and_true, true_or, if_true, if_false, q_l10, q_l01, eq_self, Int32.reduceLT, Int32.reduceLE, Int32.reduceAdd, Int32.reduceSub, fj_up_at, Nat.reduceEqDiff, false_and, and_false, and_self, reduceCtorEq, Nat.reduceAdd]
    · rw [if_neg h2, if_neg h2]
      simp only [fs97_13, fs97_14, fs97_18, fj_OB, fj_AR, fj_CI, q_zo0, q_zo1, Option.toList_some, Option.toList_none, List.cons_append, List.nil_append, true_and, and_true, true_or, if_true, if_false, q_l10, q_l01, eq_self, Int32.reduceLT, Int32.reduceLE, Int32.reduceAdd, Int32.reduceSub, fj_up_at, Nat.reduceEqDiff, false_and, and_false, and_self, reduceCtorEq, Nat.reduceAdd]
/-- a place from 0 on, below n -/
def inN (n : Nat) (v : Int32) : Prop := ¬ v < 0 ∧ ¬ nI n ≤ v
theorem inN_nI {n c : Nat} (hn : n < 100000) (hc : c < n) : inN n (nI c) := ⟨by rw [q_0, q_lt (by omega) (by decide)]; omega, by rw [q_le (by omega) (by omega)]; omega⟩
theorem inN_of {n : Nat} {v : Int32} (hn : n < 100000) (h : inN n v) : ∃ c, c < n ∧ v = nI c := by
  obtain ⟨h0, h1⟩ := h
  rw [Int32.lt_iff_toInt_lt] at h0
  rw [Int32.le_iff_toInt_le, q_toInt hn] at h1
  have e0 : (0 : Int32).toInt = 0 := rfl
  refine ⟨v.toInt.toNat, by omega, ?_⟩
  apply Int32.toInt_inj.mp
  rw [q_toInt (by omega)]
  omega
theorem q_l0 : (0 : Int64) = (0 : Int32).toInt64 := rfl
theorem q_lm1 {n : Nat} (hn : n < 100000) (v : Int32) : ((nI n).toInt64 - 1 < v.toInt64) = (nI n ≤ v) := by
  apply propext
  rw [Int64.lt_iff_toInt_lt, Int64.toInt_sub, Int32.toInt_toInt64, Int32.toInt_toInt64, q_toInt hn, Int32.le_iff_toInt_le, q_toInt hn]
  have e1 : (1 : Int64).toInt = 1 := rfl
  have b1 := Int32.toInt_lt v
  have b2 := Int32.le_toInt v
  rw [e1, Int.bmod_eq_of_le (by omega) (by omega)]
  omega
/-- in, from 0 on and below n -/
theorem m97n {n : Nat} (hn : n < 100000) {v : Int32} {M : fj_HM} {P : fj_HP} {Q : fj_Po} : fj_H none 97 0 [.long v.toInt64, .double 0, .long 0, .double 0, .long ((nI n).toInt64 - 1), .double 0] [] M P 53 7835 Q = if v < 0 then Q (some (.int 0)) M P 53 7835 else if nI n ≤ v then Q (some (.int 0)) M P 53 7835 else Q (some (.int 1)) M P 53 7835 := by
  have e0 : (v.toInt64 < 0) = (v < 0) := by rw [q_l0]; exact q_l64
  rw [m97L]
  simp only [e0, q_lm1 hn]
theorem m105 {t : Bool} {M : fj_HM} {A : fj_Yd} (hV : fj_YV A) (hY : fj_YM M A) {v : Int32} {Q : fj_Po} : fj_H none 105 0 [.ref 33, .int v] [] M (fj_PY t) 53 7835 Q = if v < 0 then Q (some (.int 1)) M (fj_PY t) 53 7835 else if nI (yc A) ≤ v then Q (some (.int 1)) M (fj_PY t) 53 7835 else Q (some (.int 0)) M (fj_PY t) 53 7835 := by
  have hc := yc_le hV
  have e : nI (yh A) * nI (yw A) = nI (yc A) := q_mul _ _
  simp only [fs105_0, fs105_1, fs105_2, fs105_3, fs105_4, fs105_7, fs105_8, fs105_11, fs105_12, fs105_13, fs105_14, fs105_15, fj_PV t, fj_OB, fj_AR, fj_CI, q_zo0, q_zo1, Option.toList_some, Option.toList_none, List.cons_append, List.nil_append, true_and, and_true, true_or, if_true, if_false, q_l10, q_l01, eq_self, Int32.reduceLT, Int32.reduceLE, Int32.reduceAdd, Int32.reduceSub, fj_up_at, Nat.reduceEqDiff, false_and, and_false, and_self, reduceCtorEq, Nat.reduceAdd, hY.1, hY.2.1, e, m97n (show yc A < 100000 by omega)]
  by_cases h0 : v < 0
  · rw [if_pos h0, if_pos h0]
    simp only [fs105_18, fs105_21, fs105_22, fs105_26, fj_OB, fj_AR, fj_CI, q_zo0, q_zo1, Option.toList_some, Option.toList_none, List.cons_append, List.nil_append, true_and, and_true, true_or, if_true, if_false, q_l10, q_l01, eq_self, Int32.reduceLT, Int32.reduceLE, Int32.reduceAdd, Int32.reduceSub, fj_up_at, Nat.reduceEqDiff, false_and, and_false, and_self, reduceCtorEq, Nat.reduceAdd]
  · rw [if_neg h0, if_neg h0]
    by_cases h1 : nI (yc A) ≤ v
    · rw [if_pos h1, if_pos h1]
      simp only [fs105_18, fs105_21, fs105_22, fs105_26, fj_OB, fj_AR, fj_CI, q_zo0, q_zo1, Option.toList_some, Option.toList_none, List.cons_append, List.nil_append, true_and, and_true, true_or, if_true, if_false, q_l10, q_l01, eq_self, Int32.reduceLT, Int32.reduceLE, Int32.reduceAdd, Int32.reduceSub, fj_up_at, Nat.reduceEqDiff, false_and, and_false, and_self, reduceCtorEq, Nat.reduceAdd]
    · rw [if_neg h1, if_neg h1]
      simp only [fs105_18, fs105_25, fs105_26, fj_OB, fj_AR, fj_CI, q_zo0, q_zo1, Option.toList_some, Option.toList_none, List.cons_append, List.nil_append, true_and, and_true, true_or, if_true, if_false, q_l10, q_l01, eq_self, Int32.reduceLT, Int32.reduceLE, Int32.reduceAdd, Int32.reduceSub, fj_up_at, Nat.reduceEqDiff, false_and, and_false, and_self, reduceCtorEq, Nat.reduceAdd]
theorem m106 {t : Bool} {M : fj_HM} {n : Nat} (hn : n < 100000) (hM : M 33 4 = nI n) {v : Int32} {Q : fj_Po} : fj_H none 106 0 [.ref 33, .int v] [] M (fj_PY t) 53 7835 Q = if v < 0 then Q (some (.int 1)) M (fj_PY t) 53 7835 else if nI n ≤ v then Q (some (.int 1)) M (fj_PY t) 53 7835 else Q (some (.int 0)) M (fj_PY t) 53 7835 := by
  simp only [fs106_0, fs106_1, fs106_2, fs106_3, fs106_4, fs106_7, fs106_8, fs106_9, fs106_10, fj_PV t, fj_OB, fj_AR, fj_CI, q_zo0, q_zo1, Option.toList_some, Option.toList_none, List.cons_append, List.nil_append, true_and, and_true, true_or, if_true, if_false, q_l10, q_l01, eq_self, Int32.reduceLT, Int32.reduceLE, Int32.reduceAdd, Int32.reduceSub, fj_up_at, Nat.reduceEqDiff, false_and, and_false, and_self, reduceCtorEq, Nat.reduceAdd, hM, m97n hn]
  by_cases h0 : v < 0
  · rw [if_pos h0, if_pos h0]
    simp only [fs106_13, fs106_16, fs106_17, fs106_21, fj_OB, fj_AR, fj_CI, q_zo0, q_zo1, Option.toList_some, Option.toList_none, List.cons_append, List.nil_append, true_and, and_true, true_or, if_true, if_false, q_l10, q_l01, eq_self, Int32.reduceLT, Int32.reduceLE, Int32.reduceAdd, Int32.reduceSub, fj_up_at, Nat.reduceEqDiff, false_and, and_false, and_self, reduceCtorEq, Nat.reduceAdd]
  · rw [if_neg h0, if_neg h0]
    by_cases h1 : nI n ≤ v
    · rw [if_pos h1, if_pos h1]
      simp only [fs106_13, fs106_16, fs106_17, fs106_21, fj_OB, fj_AR, fj_CI, q_zo0, q_zo1, Option.toList_some, Option.toList_none, List.cons_append, List.nil_append, true_and, and_true, true_or, if_true, if_false, q_l10, q_l01, eq_self, Int32.reduceLT, Int32.reduceLE, Int32.reduceAdd, Int32.reduceSub, fj_up_at, Nat.reduceEqDiff, false_and, and_false, and_self, reduceCtorEq, Nat.reduceAdd]
    · rw [if_neg h1, if_neg h1]
      simp only [fs106_13, fs106_20, fs106_21, fj_OB, fj_AR, fj_CI, q_zo0, q_zo1, Option.toList_some, Option.toList_none, List.cons_append, List.nil_append, true_and, and_true, true_or, if_true, if_false, q_l10, q_l01, eq_self, Int32.reduceLT, Int32.reduceLE, Int32.reduceAdd, Int32.reduceSub, fj_up_at, Nat.reduceEqDiff, false_and, and_false, and_self, reduceCtorEq, Nat.reduceAdd]
theorem m107 {t : Bool} {M : fj_HM} {n : Nat} (hn : n ≤ 6) (hM : M 33 4 = nI n) {Q : fj_Po} : fj_H none 107 0 [.ref 33] [] M (fj_PY t) 53 7835 Q = Q (some (.int (nI (2 ^ n - 1)))) M (fj_PY t) 53 7835 := by
  simp only [fs107_0, fs107_1, fs107_2, fs107_5, fs107_6, fs107_7, fs107_8, fj_PV t, fj_OB, fj_AR, fj_CI, q_zo0, q_zo1, Option.toList_some, Option.toList_none, List.cons_append, List.nil_append, true_and, and_true, true_or, if_true, if_false, q_l10, q_l01, eq_self, Int32.reduceLT, Int32.reduceLE, Int32.reduceAdd, Int32.reduceSub, fj_up_at, Nat.reduceEqDiff, false_and, and_false, and_self, reduceCtorEq, Nat.reduceAdd, hM, q_all n hn]
theorem m99 {a m : Nat} (ha : a < 100000) (hm : m < 31) {M : fj_HM} {P : fj_HP} {Q : fj_Po} : fj_H none 99 0 [.int (nI a), .int (nI m)] [] M P 53 7835 Q = Q (some (.int (bI (a.testBit m)))) M P 53 7835 := by
  simp only [fs99_0, fs99_1, fs99_2, fs99_3, fs99_4, fs99_5, fs99_6, fj_OB, fj_AR, fj_CI, q_zo0, q_zo1, Option.toList_some, Option.toList_none, List.cons_append, List.nil_append, true_and, and_true, true_or, if_true, if_false, q_l10, q_l01, eq_self, Int32.reduceLT, Int32.reduceLE, Int32.reduceAdd, Int32.reduceSub, fj_up_at, Nat.reduceEqDiff, false_and, and_false, and_self, reduceCtorEq, Nat.reduceAdd, q_bit1 ha hm]
  cases h : a.testBit m with
  | true =>
    simp only [eq_self, if_true, fs99_9, fs99_10, fs99_14, fj_OB, fj_AR, fj_CI, q_zo0, q_zo1, Option.toList_some, Option.toList_none, List.cons_append, List.nil_append, true_and, and_true, true_or, if_true, if_false, q_l10, q_l01, eq_self, Int32.reduceLT, Int32.reduceLE, Int32.reduceAdd, Int32.reduceSub, fj_up_at, Nat.reduceEqDiff, false_and, and_false, and_self, reduceCtorEq, Nat.reduceAdd]
    rfl
  | false =>
    simp only [Bool.false_eq_true, if_false, fs99_13, fs99_14, fj_OB, fj_AR, fj_CI, q_zo0, q_zo1, Option.toList_some, Option.toList_none, List.cons_append, List.nil_append, true_and, and_true, true_or, if_true, if_false, q_l10, q_l01, eq_self, Int32.reduceLT, Int32.reduceLE, Int32.reduceAdd, Int32.reduceSub, fj_up_at, Nat.reduceEqDiff, false_and, and_false, and_self, reduceCtorEq, Nat.reduceAdd]
    rfl
theorem m102 {t : Bool} {M : fj_HM} {v : Int32} {Q : fj_Po} : fj_H none 102 0 [.ref 33, .int v] [] M (fj_PY t) 53 7835 Q = Q (some (.int v)) (fj_up M 33 0 0) (fj_PY t) 53 7835 := by
  simp only [fs102_0, fs102_1, fs102_2, fs102_5, fs102_6, fj_PV t, fj_OB, fj_AR, fj_CI, q_zo0, q_zo1, Option.toList_some, Option.toList_none, List.cons_append, List.nil_append, true_and, and_true, true_or, if_true, if_false, q_l10, q_l01, eq_self, Int32.reduceLT, Int32.reduceLE, Int32.reduceAdd, Int32.reduceSub, fj_up_at, Nat.reduceEqDiff, false_and, and_false, and_self, reduceCtorEq, Nat.reduceAdd]
theorem m103 {t : Bool} {M : fj_HM} {v : Int32} {Q : fj_Po} : fj_H none 103 0 [.ref 33, .int v] [] M (fj_PY t) 53 7835 Q = Q (some (.int (-10 - v))) (fj_up M 33 0 v) (fj_PY t) 53 7835 := by
  simp only [fs103_0, fs103_1, fs103_2, fs103_5, fs103_7, fs103_8, fs103_9, fj_PV t, fj_OB, fj_AR, fj_CI, q_zo0, q_zo1, Option.toList_some, Option.toList_none, List.cons_append, List.nil_append, true_and, and_true, true_or, if_true, if_false, q_l10, q_l01, eq_self, Int32.reduceLT, Int32.reduceLE, Int32.reduceAdd, Int32.reduceSub, fj_up_at, Nat.reduceEqDiff, false_and, and_false, and_self, reduceCtorEq, Nat.reduceAdd]
theorem m116 {t : Bool} {M : fj_HM} {A : fj_Yd} (hV : fj_YV A) (hY : fj_YM M A) {m : Nat} (hm : m < yn A) {Q : fj_Po} : fj_H none 116 0 [.ref 33, .int (nI m), .null] [] M (fj_PY t) 53 7835 Q = Q (some (.int (nI (hN (ykd A m) (yer A m))))) M (fj_PY t) 53 7835 := by
  have hn := yn_le hV
  obtain ⟨b1, b2, b3⟩ := hY.2.2.2.2.2.2.2.2.1 m hm
  have hk := ym_kd hV hm
  have he := ym_er hV hm
  have e0 : (nI (ykd A m) = 0) = (ykd A m = 0) := by rw [q_0]; exact q_eq (by omega) (by decide)
  have e1 : (nI (ykd A m) = 1) = (ykd A m = 1) := by rw [q_1]; exact q_eq (by omega) (by decide)
  simp only [fs116_0, fs116_1, fs116_4, fs116_5, fs116_6, fs116_7, fs116_8, fs116_11, fs116_12, fs116_13, fj_PV t, fj_OB, fj_AR, fj_CI, q_zo0, q_zo1, Option.toList_some, Option.toList_none, List.cons_append, List.nil_append, true_and, and_true, true_or, if_true, if_false, q_l10, q_l01, eq_self, Int32.reduceLT, Int32.reduceLE, Int32.reduceAdd, Int32.reduceSub, fj_up_at, Nat.reduceEqDiff, false_and, and_false, and_self, reduceCtorEq, Nat.reduceAdd, b1, b2, q_in (show m < 6 by omega), q_clamp (show m < 100000 by omega), e0]
  by_cases h0 : ykd A m = 0
  · rw [if_pos h0]
    simp only [fs116_16, fs116_17, fs116_41, fj_OB, fj_AR, fj_CI, q_zo0, q_zo1, Option.toList_some, Option.toList_none, List.cons_append, List.nil_append, true_and, and_true, true_or, if_true, if_false, q_l10, q_l01, eq_self, Int32.reduceLT, Int32.reduceLE, Int32.reduceAdd, Int32.reduceSub, fj_up_at, Nat.reduceEqDiff, false_and, and_false, and_self, reduceCtorEq, Nat.reduceAdd]
    unfold hN
    rw [if_neg (by omega), if_neg (by omega)]
  · rw [if_neg h0]
    simp only [fs116_20, fs116_21, fs116_24, fs116_25, fs116_26, fs116_27, fj_PV t, fj_OB, fj_AR, fj_CI, q_zo0, q_zo1, Option.toList_some, Option.toList_none, List.cons_append, List.nil_append, true_and, and_true, true_or, if_true, if_false, q_l10, q_l01, eq_self, Int32.reduceLT, Int32.reduceLE, Int32.reduceAdd, Int32.reduceSub, fj_up_at, Nat.reduceEqDiff, false_and, and_false, and_self, reduceCtorEq, Nat.reduceAdd, b1, b2, q_in (show m < 6 by omega), q_clamp (show m < 100000 by omega), e1]
    by_cases h1 : ykd A m = 1
    · rw [if_pos h1]
      simp only [fs116_30, fs116_31, fs116_32, fs116_33, fs116_41, fj_OB, fj_AR, fj_CI, q_zo0, q_zo1, Option.toList_some, Option.toList_none, List.cons_append, List.nil_append, true_and, and_true, true_or, if_true, if_false, q_l10, q_l01, eq_self, Int32.reduceLT, Int32.reduceLE, Int32.reduceAdd, Int32.reduceSub, fj_up_at, Nat.reduceEqDiff, false_and, and_false, and_self, reduceCtorEq, Nat.reduceAdd, nI_1]
      unfold hN
      rw [if_neg (by omega), if_pos (by omega)]
    · rw [if_neg h1]
      have e2 : (2 : Int32) * nI (yer A m + 1) = nI (2 * (yer A m + 1)) := by rw [show (2 : Int32) = nI 2 from rfl, q_mul]
      simp only [fs116_36, fs116_37, fs116_38, fs116_39, fs116_40, fs116_41, fj_OB, fj_AR, fj_CI, q_zo0, q_zo1, Option.toList_some, Option.toList_none, List.cons_append, List.nil_append, true_and, and_true, true_or, if_true, if_false, q_l10, q_l01, eq_self, Int32.reduceLT, Int32.reduceLE, Int32.reduceAdd, Int32.reduceSub, fj_up_at, Nat.reduceEqDiff, false_and, and_false, and_self, reduceCtorEq, Nat.reduceAdd, nI_1, e2]
      unfold hN
      rw [if_pos (by omega)]
theorem q_abs2 {a b : Nat} (ha : a < 100000) (hb : b < 100000) : (if 0 ≤ nI a - nI b then nI a - nI b else -(nI a - nI b)) = nI (ad2 a b) := by
  rw [← q_abs ha hb, Int32.zero_sub]
theorem yd_cd {A : fj_Yd} (hV : fj_YV A) {c : Nat} (hc : c < yc A) : c / yw A < 100000 ∧ c % yw A < 100000 := by
  have := yc_le hV
  have := Nat.div_le_self c (yw A)
  have := Nat.mod_le c (yw A)
  omega
theorem q_rem2 {a b : Nat} (ha : a < 100000) (hb : b < 100000) : nI a - nI (a / b) * nI b = nI (a % b) := by
  rw [← q_div ha hb]
  exact q_rem ha hb
theorem m118 {t : Bool} {M : fj_HM} {A : fj_Yd} (hV : fj_YV A) (hY : fj_YM M A) {c d : Nat} (hc : c < yc A) (hd : d < yc A) {Q : fj_Po} : fj_H none 118 0 [.ref 33, .int (nI c), .int (nI d), .null, .null] [] M (fj_PY t) 53 7835 Q = Q (some (.int (nI (yD A c d)))) M (fj_PY t) 53 7835 := by
  have h24 := yc_le hV
  have hw := yw_pos hV hc
  have hw6 := yw_le hV
  obtain ⟨c1, c2⟩ := yd_cd hV hc
  obtain ⟨d1, d2⟩ := yd_cd hV hd
  have ew : (nI (yw A) = 0) = False := eq_false (by rw [q_0, q_eq (by omega) (by omega)]; omega)
  simp only [fs118_0, fs118_1, fs118_2, fs118_5, fs118_6, fs118_7, fs118_8, fs118_11, fs118_12, fs118_13, fs118_14, fs118_15, fs118_16, fs118_19, fs118_20, fs118_21, fs118_22, fs118_25, fs118_26, fs118_27, fs118_29, fs118_30, fj_PV t, fj_OB, fj_AR, fj_CI, q_zo0, q_zo1, Option.toList_some, Option.toList_none, List.cons_append, List.nil_append, true_and, and_true, true_or, if_true, if_false, q_l10, q_l01, eq_self, Int32.reduceLT, Int32.reduceLE, Int32.reduceAdd, Int32.reduceSub, fj_up_at, Nat.reduceEqDiff, false_and, and_false, and_self, reduceCtorEq, Nat.reduceAdd, hY.2.1, ew, not_false_eq_true, q_rem2 (show c < 100000 by omega) (show yw A < 100000 by omega), q_rem2 (show d < 100000 by omega) (show yw A < 100000 by omega), q_div (show c < 100000 by omega) (show yw A < 100000 by omega), q_div (show d < 100000 by omega) (show yw A < 100000 by omega)]
  have a1 := q_abs2 c1 d1
  have a2 := q_abs2 c2 d2
  have fin : ∀ x : Int32, x = nI (ad2 (c / yw A) (d / yw A)) → fj_H none 118 39 [.ref 33, .int (nI c), .int (nI d), .int (nI (c / yw A) - nI (d / yw A)), .int (nI (c % yw A) - nI (d % yw A))] [.int x] M (fj_PY t) 53 7835 Q = Q (some (.int (nI (yD A c d)))) M (fj_PY t) 53 7835 := by
    intro x hx
    simp only [fs118_39, fs118_41, fj_OB, fj_AR, fj_CI, q_zo0, q_zo1, Option.toList_some, Option.toList_none, List.cons_append, List.nil_append, true_and, and_true, true_or, if_true, if_false, q_l10, q_l01, eq_self, Int32.reduceLT, Int32.reduceLE, Int32.reduceAdd, Int32.reduceSub, fj_up_at, Nat.reduceEqDiff, false_and, and_false, and_self, reduceCtorEq, Nat.reduceAdd]
    by_cases h : 0 ≤ nI (c % yw A) - nI (d % yw A)
    · rw [if_pos h] at a2
      rw [if_pos h]
      simp only [fs118_50, fs118_52, fs118_53, fj_OB, fj_AR, fj_CI, q_zo0, q_zo1, Option.toList_some, Option.toList_none, List.cons_append, List.nil_append, true_and, and_true, true_or, if_true, if_false, q_l10, q_l01, eq_self, Int32.reduceLT, Int32.reduceLE, Int32.reduceAdd, Int32.reduceSub, fj_up_at, Nat.reduceEqDiff, false_and, and_false, and_self, reduceCtorEq, Nat.reduceAdd, a2, hx, nI_add]
      rfl
    · rw [if_neg h] at a2
      rw [if_neg h]
      simp only [fs118_44, fs118_46, fs118_47, fs118_52, fs118_53, fj_OB, fj_AR, fj_CI, q_zo0, q_zo1, Option.toList_some, Option.toList_none, List.cons_append, List.nil_append, true_and, and_true, true_or, if_true, if_false, q_l10, q_l01, eq_self, Int32.reduceLT, Int32.reduceLE, Int32.reduceAdd, Int32.reduceSub, fj_up_at, Nat.reduceEqDiff, false_and, and_false, and_self, reduceCtorEq, Nat.reduceAdd, a2, hx, nI_add]
      rfl
  by_cases h : 0 ≤ nI (c / yw A) - nI (d / yw A)
  · rw [if_pos h] at a1
    rw [if_pos h]
    simp only [fs118_38, fj_OB, fj_AR, fj_CI, q_zo0, q_zo1, Option.toList_some, Option.toList_none, List.cons_append, List.nil_append, true_and, and_true, true_or, if_true, if_false, q_l10, q_l01, eq_self, Int32.reduceLT, Int32.reduceLE, Int32.reduceAdd, Int32.reduceSub, fj_up_at, Nat.reduceEqDiff, false_and, and_false, and_self, reduceCtorEq, Nat.reduceAdd]
    exact fin _ a1
  · rw [if_neg h] at a1
    rw [if_neg h]
    simp only [fs118_33, fs118_34, fs118_35, fj_OB, fj_AR, fj_CI, q_zo0, q_zo1, Option.toList_some, Option.toList_none, List.cons_append, List.nil_append, true_and, and_true, true_or, if_true, if_false, q_l10, q_l01, eq_self, Int32.reduceLT, Int32.reduceLE, Int32.reduceAdd, Int32.reduceSub, fj_up_at, Nat.reduceEqDiff, false_and, and_false, and_self, reduceCtorEq, Nat.reduceAdd]
    exact fin _ a1
/-- who hears a pour at a cell, of those who stand, awake -/
def yHs (A : fj_Yd) (c st : Nat) : Nat := msk (fun m => (sdf st (ysl A)).testBit m && decide (yD A (ymc A m) c ≤ hN (ykd A m) (yer A m))) (yn A)
theorem m123_loop {t : Bool} {M : fj_HM} {A : fj_Yd} (hV : fj_YV A) (hY : fj_YM M A) {c st : Nat} (hc : c < yc A) (hst : st < 64) {Q : fj_Po} : ∀ (k m : Nat) (d : Value), m + k = yn A → fj_H none 123 5 [.ref 33, .int (nI c), .int (nI st), .int (nI (msk (fun m => (sdf st (ysl A)).testBit m && decide (yD A (ymc A m) c ≤ hN (ykd A m) (yer A m))) m)), .int (nI m), d] [] M (fj_PY t) 53 7835 Q = Q (some (.int (nI (yHs A c st)))) M (fj_PY t) 53 7835 := by
  have hn := yn_le hV
  intro k
  induction k with
  | zero =>
    intro m d hk
    rw [fs123_5]
    have hm : m = yn A := by omega
    subst hm
    simp only [fs123_7, fs123_8, fs123_11, fj_PV t, fj_OB, fj_AR, fj_CI, q_zo0, q_zo1, Option.toList_some, Option.toList_none, List.cons_append, List.nil_append, true_and, and_true, true_or, if_true, if_false, q_l10, q_l01, eq_self, Int32.reduceLT, Int32.reduceLE, Int32.reduceAdd, Int32.reduceSub, fj_up_at, Nat.reduceEqDiff, false_and, and_false, and_self, reduceCtorEq, Nat.reduceAdd, hY.2.2.1, q_le (show yn A < 100000 by omega) (show yn A < 100000 by omega), if_pos (Nat.le_refl (yn A))]
    simp only [fs123_80, fs123_81, fj_OB, fj_AR, fj_CI, q_zo0, q_zo1, Option.toList_some, Option.toList_none, List.cons_append, List.nil_append, true_and, and_true, true_or, if_true, if_false, q_l10, q_l01, eq_self, Int32.reduceLT, Int32.reduceLE, Int32.reduceAdd, Int32.reduceSub, fj_up_at, Nat.reduceEqDiff, false_and, and_false, and_self, reduceCtorEq, Nat.reduceAdd]
    rfl
  | succ k ih =>
    intro m d hk
    have hm : m < yn A := by omega
    have hmc := ym_mc hV hm
    have hsl := ysl_lt hV
    have hS : sdf st (ysl A) < 64 := sdf_lt (n := 6) hst
    have hD : yD A (ymc A m) c ≤ 60 := yD_le hV hmc hc
    have hh : hN (ykd A m) (yer A m) ≤ 12 := hN_le (ym_er hV hm)
    obtain ⟨b1, b2, b3⟩ := hY.2.2.2.2.2.2.2.2.1 m hm
    rw [fs123_5]
    simp only [fs123_7, fs123_8, fs123_11, fj_PV t, fj_OB, fj_AR, fj_CI, q_zo0, q_zo1, Option.toList_some, Option.toList_none, List.cons_append, List.nil_append, true_and, and_true, true_or, if_true, if_false, q_l10, q_l01, eq_self, Int32.reduceLT, Int32.reduceLE, Int32.reduceAdd, Int32.reduceSub, fj_up_at, Nat.reduceEqDiff, false_and, and_false, and_self, reduceCtorEq, Nat.reduceAdd, hY.2.2.1, q_le (show yn A < 100000 by omega) (show m < 100000 by omega), if_neg (show ¬ yn A ≤ m by omega)]
    have rest : ∀ (v : Bool), ((sdf st (ysl A)).testBit m && decide (yD A (ymc A m) c ≤ hN (ykd A m) (yer A m))) = v → fj_H none 123 56 [.ref 33, .int (nI c), .int (nI st), .int (nI (msk (fun m => (sdf st (ysl A)).testBit m && decide (yD A (ymc A m) c ≤ hN (ykd A m) (yer A m))) m)), .int (nI m), d] [.int (bI v)] M (fj_PY t) 53 7835 Q = Q (some (.int (nI (yHs A c st)))) M (fj_PY t) 53 7835 := by
      intro v hv
      cases v with
      | true =>
        have e := msk_t (f := fun m => (sdf st (ysl A)).testBit m && decide (yD A (ymc A m) c ≤ hN (ykd A m) (yer A m))) hv
        simp only [bI, if_true, fs123_56, fs123_58, fs123_59, fs123_61, fs123_64, fs123_65, fs123_67, fs123_68, fs123_72, fs123_73, fs123_74, fs123_77, fj_OB, fj_AR, fj_CI, q_zo0, q_zo1, Option.toList_some, Option.toList_none, List.cons_append, List.nil_append, true_and, and_true, true_or, if_true, if_false, q_l10, q_l01, eq_self, Int32.reduceLT, Int32.reduceLE, Int32.reduceAdd, Int32.reduceSub, fj_up_at, Nat.reduceEqDiff, false_and, and_false, and_self, reduceCtorEq, Nat.reduceAdd, q_shl m (by omega), q_or, nI_1, ← e]
        exact ih (m + 1) _ (by omega)
      | false =>
        have e := msk_f (f := fun m => (sdf st (ysl A)).testBit m && decide (yD A (ymc A m) c ≤ hN (ykd A m) (yer A m))) hv
        have eo : ∀ x : Nat, nI x ||| (0 : Int32) = nI x := fun x => by rw [q_0, q_or, Nat.or_zero]
        simp only [bI, Bool.false_eq_true, if_false, fs123_56, fs123_58, fs123_59, fs123_61, fs123_71, fs123_72, fs123_73, fs123_74, fs123_77, fj_OB, fj_AR, fj_CI, q_zo0, q_zo1, Option.toList_some, Option.toList_none, List.cons_append, List.nil_append, true_and, and_true, true_or, if_true, if_false, q_l10, q_l01, eq_self, Int32.reduceLT, Int32.reduceLE, Int32.reduceAdd, Int32.reduceSub, fj_up_at, Nat.reduceEqDiff, false_and, and_false, and_self, reduceCtorEq, Nat.reduceAdd, nI_1, eo, ← e]
        exact ih (m + 1) _ (by omega)
    simp only [fs123_14, fs123_15, fs123_16, fs123_19, fs123_20, fs123_21, fs123_22, fs123_24, fj_PV t, fj_OB, fj_AR, fj_CI, q_zo0, q_zo1, Option.toList_some, Option.toList_none, List.cons_append, List.nil_append, true_and, and_true, true_or, if_true, if_false, q_l10, q_l01, eq_self, Int32.reduceLT, Int32.reduceLE, Int32.reduceAdd, Int32.reduceSub, fj_up_at, Nat.reduceEqDiff, false_and, and_false, and_self, reduceCtorEq, Nat.reduceAdd, hY.2.2.2.2.1, q_sdf, m99 (show sdf st (ysl A) < 100000 by omega) (show m < 31 by omega)]
    cases hb : (sdf st (ysl A)).testBit m with
    | false =>
      simp only [bI, Bool.false_eq_true, if_false, fs123_27, fs123_55, fj_OB, fj_AR, fj_CI, q_zo0, q_zo1, Option.toList_some, Option.toList_none, List.cons_append, List.nil_append, true_and, and_true, true_or, if_true, if_false, q_l10, q_l01, eq_self, Int32.reduceLT, Int32.reduceLE, Int32.reduceAdd, Int32.reduceSub, fj_up_at, Nat.reduceEqDiff, false_and, and_false, and_self, reduceCtorEq, Nat.reduceAdd]
      exact rest false (by rw [hb]; rfl)
    | true =>
      simp only [bI, if_true, fs123_27, fs123_30, fs123_31, fs123_32, fs123_35, fs123_37, fs123_38, fs123_39, fs123_42, fs123_43, fs123_45, fs123_48, fj_PV t, fj_OB, fj_AR, fj_CI, q_zo0, q_zo1, Option.toList_some, Option.toList_none, List.cons_append, List.nil_append, true_and, and_true, true_or, if_true, if_false, q_l10, q_l01, eq_self, Int32.reduceLT, Int32.reduceLE, Int32.reduceAdd, Int32.reduceSub, fj_up_at, Nat.reduceEqDiff, false_and, and_false, and_self, reduceCtorEq, Nat.reduceAdd, b3, q_in (show m < 6 by omega), q_clamp (show m < 100000 by omega), m118 hV hY hmc hc, m116 hV hY hm, q_lt (show hN (ykd A m) (yer A m) < 100000 by omega) (show yD A (ymc A m) c < 100000 by omega)]
      by_cases h : hN (ykd A m) (yer A m) < yD A (ymc A m) c
      · rw [if_pos h]
        simp only [fs123_55, fj_OB, fj_AR, fj_CI, q_zo0, q_zo1, Option.toList_some, Option.toList_none, List.cons_append, List.nil_append, true_and, and_true, true_or, if_true, if_false, q_l10, q_l01, eq_self, Int32.reduceLT, Int32.reduceLE, Int32.reduceAdd, Int32.reduceSub, fj_up_at, Nat.reduceEqDiff, false_and, and_false, and_self, reduceCtorEq, Nat.reduceAdd]
        exact rest false (by rw [hb, decide_eq_false (by omega)]; rfl)
      · rw [if_neg h]
        simp only [fs123_51, fs123_52, fj_OB, fj_AR, fj_CI, q_zo0, q_zo1, Option.toList_some, Option.toList_none, List.cons_append, List.nil_append, true_and, and_true, true_or, if_true, if_false, q_l10, q_l01, eq_self, Int32.reduceLT, Int32.reduceLE, Int32.reduceAdd, Int32.reduceSub, fj_up_at, Nat.reduceEqDiff, false_and, and_false, and_self, reduceCtorEq, Nat.reduceAdd]
        exact rest true (by rw [hb, decide_eq_true (by omega)]; rfl)
theorem m123 {t : Bool} {M : fj_HM} {A : fj_Yd} (hV : fj_YV A) (hY : fj_YM M A) {c st : Nat} (hc : c < yc A) (hst : st < 64) {Q : fj_Po} : fj_H none 123 0 [.ref 33, .int (nI c), .int (nI st), .null, .null, .null] [] M (fj_PY t) 53 7835 Q = Q (some (.int (nI (yHs A c st)))) M (fj_PY t) 53 7835 := by
  simp only [fs123_0, fs123_1, fs123_2, fs123_3, fj_OB, fj_AR, fj_CI, q_zo0, q_zo1, Option.toList_some, Option.toList_none, List.cons_append, List.nil_append, true_and, and_true, true_or, if_true, if_false, q_l10, q_l01, eq_self, Int32.reduceLT, Int32.reduceLE, Int32.reduceAdd, Int32.reduceSub, fj_up_at, Nat.reduceEqDiff, false_and, and_false, and_self, reduceCtorEq, Nat.reduceAdd]
  exact m123_loop hV hY hc hst (yn A) 0 _ (Nat.zero_add _)
theorem ad2_c (a b : Nat) : ad2 a b = ad2 b a := by unfold ad2; omega
theorem yD_c (A : fj_Yd) (c d : Nat) : yD A c d = yD A d c := by unfold yD; rw [ad2_c, ad2_c (c % yw A)]
theorem yHs_eq (A : fj_Yd) (c : Nat) {st : Nat} (hst : st < 64) : yHs A c st = sdf (yH A c &&& st) (ysl A) := by
  apply nat_ext
  intro i
  unfold yHs
  rw [msk_bit, sdf_bit, sdf_bit, Nat.testBit_and, yH_bit, yD_c]
  cases decide (i < yn A) <;> cases decide (yD A c (ymc A i) ≤ hN (ykd A i) (yer A i)) <;> cases st.testBit i <;> cases (ysl A).testBit i <;> rfl
