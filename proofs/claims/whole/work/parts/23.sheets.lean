/-! ===== sheets and readings, the class's ===== -/
theorem m19 {P : fj_HP} {M : fj_HM} {v : Int32} {Q : fj_Po} : fj_H none 19 0 [.int v] [] M P 53 7835 Q = if v < 0 then Q (some (.int 0)) M P 53 7835 else if 4 ≤ v then Q (some (.int 0)) M P 53 7835 else Q (some (.int 1)) M P 53 7835 := by
  simp only [fs19_0, fs19_1, fs19_4, fs19_5, fs19_6, fs19_9, fs19_10, fs19_13, fs19_14, fj_OB, fj_AR, fj_CI, q_zo0, q_zo1, Option.toList_some, Option.toList_none, List.cons_append, List.nil_append, true_and, and_true, true_or, if_true, if_false, q_l10, q_l01, eq_self, Int32.reduceLT, Int32.reduceLE, Int32.reduceAdd, Int32.reduceSub, fj_up_at, Nat.reduceEqDiff, false_and, and_false, and_self, reduceCtorEq, Nat.reduceAdd]
theorem m20 {P : fj_HP} {M : fj_HM} {v : Int32} {Q : fj_Po} : fj_H none 20 0 [.int v] [] M P 53 7835 Q = if v < 0 then Q (some (.int 0)) M P 53 7835 else if 2 < v then Q (some (.int 0)) M P 53 7835 else Q (some (.int 1)) M P 53 7835 := by
  simp only [fs20_0, fs20_1, fs20_4, fs20_5, fs20_6, fs20_9, fs20_10, fs20_13, fs20_14, fj_OB, fj_AR, fj_CI, q_zo0, q_zo1, Option.toList_some, Option.toList_none, List.cons_append, List.nil_append, true_and, and_true, true_or, if_true, if_false, q_l10, q_l01, eq_self, Int32.reduceLT, Int32.reduceLE, Int32.reduceAdd, Int32.reduceSub, fj_up_at, Nat.reduceEqDiff, false_and, and_false, and_self, reduceCtorEq, Nat.reduceAdd]
theorem m21 {t : Bool} {M : fj_HM} {k : Nat} (hk : k < 4) {Q : fj_Po} : fj_H none 21 0 [.ref 1, .int (nI k)] [] M (fj_PY t) 53 7835 Q = if M 3 k = -1 then Q (some (.int 1)) M (fj_PY t) 53 7835 else Q (some (.int 0)) M (fj_PY t) 53 7835 := by
  simp only [fs21_0, fs21_1, fs21_4, fs21_5, fs21_6, fs21_7, fs21_10, fs21_11, fs21_14, fs21_15, fj_PV t, fj_OB, fj_AR, fj_CI, q_zo0, q_zo1, Option.toList_some, Option.toList_none, List.cons_append, List.nil_append, true_and, and_true, true_or, if_true, if_false, q_l10, q_l01, eq_self, Int32.reduceLT, Int32.reduceLE, Int32.reduceAdd, Int32.reduceSub, fj_up_at, Nat.reduceEqDiff, false_and, and_false, and_self, reduceCtorEq, Nat.reduceAdd, q_in hk, q_clamp (show k < 100000 by omega)]
theorem m22 {t : Bool} {M : fj_HM} {k k2 : Nat} (hk : k < 4) (hk2 : k2 < 4) {Q : fj_Po} : fj_H none 22 0 [.ref 1, .int (nI k), .int (nI k2)] [] M (fj_PY t) 53 7835 Q = if M 3 k = M 3 k2 then Q (some (.int 1)) M (fj_PY t) 53 7835 else Q (some (.int 0)) M (fj_PY t) 53 7835 := by
  simp only [fs22_0, fs22_1, fs22_4, fs22_5, fs22_6, fs22_7, fs22_10, fs22_11, fs22_12, fs22_15, fs22_16, fs22_19, fs22_20, fj_PV t, fj_OB, fj_AR, fj_CI, q_zo0, q_zo1, Option.toList_some, Option.toList_none, List.cons_append, List.nil_append, true_and, and_true, true_or, if_true, if_false, q_l10, q_l01, eq_self, Int32.reduceLT, Int32.reduceLE, Int32.reduceAdd, Int32.reduceSub, fj_up_at, Nat.reduceEqDiff, false_and, and_false, and_self, reduceCtorEq, Nat.reduceAdd, q_in hk, q_in hk2, q_clamp (show k < 100000 by omega), q_clamp (show k2 < 100000 by omega)]
theorem m23 {t : Bool} {M : fj_HM} {k : Nat} {v : Int32} (hk : k < 4) {Q : fj_Po} : fj_H none 23 0 [.ref 1, .int (nI k), .int v] [] M (fj_PY t) 53 7835 Q = if M 3 k = -1 then Q (some (.int 1)) M (fj_PY t) 53 7835 else if M 3 k = v then Q (some (.int 0)) M (fj_PY t) 53 7835 else Q (some (.int 2)) M (fj_PY t) 53 7835 := by
  simp only [fs23_0, fs23_1, fs23_2, fs23_5, fs23_8, fs23_9, fs23_10, fs23_11, fs23_14, fs23_15, fs23_16, fs23_17, fs23_20, fs23_21, fs23_24, fs23_25, fj_PV t, m21 hk, fj_OB, fj_AR, fj_CI, q_zo0, q_zo1, Option.toList_some, Option.toList_none, List.cons_append, List.nil_append, true_and, and_true, true_or, if_true, if_false, q_l10, q_l01, eq_self, Int32.reduceLT, Int32.reduceLE, Int32.reduceAdd, Int32.reduceSub, fj_up_at, Nat.reduceEqDiff, false_and, and_false, and_self, reduceCtorEq, Nat.reduceAdd, q_in hk, q_clamp (show k < 100000 by omega)]
theorem m24 {t : Bool} {M : fj_HM} {k : Nat} {v : Int32} (hk : k < 4) {Q : fj_Po} : fj_H none 24 0 [.ref 1, .int (nI k), .int v] [] M (fj_PY t) 53 7835 Q = if v < 0 then Q (some (.int 0)) M (fj_PY t) 53 7835 else if M 4 k ≤ v then Q (some (.int 0)) M (fj_PY t) 53 7835 else Q (some (.int 1)) M (fj_PY t) 53 7835 := by
  simp only [fs24_0, fs24_1, fs24_4, fs24_5, fs24_6, fs24_9, fs24_10, fs24_11, fs24_14, fs24_15, fs24_18, fs24_19, fj_PV t, fj_OB, fj_AR, fj_CI, q_zo0, q_zo1, Option.toList_some, Option.toList_none, List.cons_append, List.nil_append, true_and, and_true, true_or, if_true, if_false, q_l10, q_l01, eq_self, Int32.reduceLT, Int32.reduceLE, Int32.reduceAdd, Int32.reduceSub, fj_up_at, Nat.reduceEqDiff, false_and, and_false, and_self, reduceCtorEq, Nat.reduceAdd, q_in hk, q_clamp (show k < 100000 by omega)]
theorem m25 {t : Bool} {M : fj_HM} {k : Nat} {v n : Int32} (hk : k < 4) {Q : fj_Po} : fj_H none 25 0 [.ref 1, .int (nI k), .int v, .int n] [] M (fj_PY t) 53 7835 Q = if v < 0 then Q (some (.int 0)) M (fj_PY t) 53 7835 else if M 4 k < v then Q (some (.int 0)) M (fj_PY t) 53 7835 else if n < 0 then Q (some (.int 0)) M (fj_PY t) 53 7835 else if M 4 k - v < n then Q (some (.int 0)) M (fj_PY t) 53 7835 else Q (some (.int 1)) M (fj_PY t) 53 7835 := by
  simp only [fs25_0, fs25_1, fs25_4, fs25_5, fs25_6, fs25_9, fs25_10, fs25_11, fs25_14, fs25_15, fs25_18, fs25_19, fs25_20, fs25_23, fs25_24, fs25_25, fs25_26, fs25_27, fs25_30, fs25_31, fs25_34, fs25_35, fj_PV t, fj_OB, fj_AR, fj_CI, q_zo0, q_zo1, Option.toList_some, Option.toList_none, List.cons_append, List.nil_append, true_and, and_true, true_or, if_true, if_false, q_l10, q_l01, eq_self, Int32.reduceLT, Int32.reduceLE, Int32.reduceAdd, Int32.reduceSub, fj_up_at, Nat.reduceEqDiff, false_and, and_false, and_self, reduceCtorEq, Nat.reduceAdd, q_in hk, q_clamp (show k < 100000 by omega)]
theorem m27 {t : Bool} {M : fj_HM} {k : Nat} (hk : k < 4) {Q : fj_Po} : fj_H none 27 0 [.ref 1, .int (nI k)] [] M (fj_PY t) 53 7835 Q = Q none (fj_up (fj_up M 3 k (-1)) 4 k 0) (fj_PY t) 53 7835 := by
  simp only [fs27_0, fs27_1, fs27_4, fs27_5, fs27_6, fs27_7, fs27_8, fs27_11, fs27_12, fs27_13, fs27_14, fj_PV t, fj_OB, fj_AR, fj_CI, q_zo0, q_zo1, Option.toList_some, Option.toList_none, List.cons_append, List.nil_append, true_and, and_true, true_or, if_true, if_false, q_l10, q_l01, eq_self, Int32.reduceLT, Int32.reduceLE, Int32.reduceAdd, Int32.reduceSub, fj_up_at, Nat.reduceEqDiff, false_and, and_false, and_self, reduceCtorEq, Nat.reduceAdd, q_in hk, q_clamp (show k < 100000 by omega)]
theorem q_60 {k i : Nat} : nI k * 60 + nI i = nI (60 * k + i) := by
  rw [show (60 : Int32) = nI 60 from rfl, pk_mul, nI_add, Nat.mul_comm]
theorem m28 {t : Bool} {M : fj_HM} {k i : Nat} (hk : 60 * k + i < 240) {Q : fj_Po} : fj_H none 28 0 [.ref 1, .int (nI k), .int (nI i)] [] M (fj_PY t) 53 7835 Q = Q (some (.int (M 2 (60 * k + i)))) M (fj_PY t) 53 7835 := by
  simp only [fs28_0, fs28_1, fs28_4, fs28_5, fs28_7, fs28_8, fs28_9, fs28_10, fs28_11, fj_PV t, fj_OB, fj_AR, fj_CI, q_zo0, q_zo1, Option.toList_some, Option.toList_none, List.cons_append, List.nil_append, true_and, and_true, true_or, if_true, if_false, q_l10, q_l01, eq_self, Int32.reduceLT, Int32.reduceLE, Int32.reduceAdd, Int32.reduceSub, fj_up_at, Nat.reduceEqDiff, false_and, and_false, and_self, reduceCtorEq, Nat.reduceAdd, q_60, q_in hk, q_clamp (show 60 * k + i < 100000 by omega)]
/-- what comes to a cell of a lane -/
def cutI (l v : Int32) : Int32 := if l = 0 then v.toInt8.toInt32 else if l = 1 then v.toInt16.toInt32 else v
theorem m30 {P : fj_HP} {M : fj_HM} {l v : Int32} {Q : fj_Po} : fj_H none 30 0 [.int l, .int v] [] M P 53 7835 Q = Q (some (.int (cutI l v))) M P 53 7835 := by
  simp only [fs30_0, fs30_1, fs30_28, fs30_29, fs30_30, fs30_31, fs30_32, fs30_33, fs30_34, fs30_35, fj_OB, fj_AR, fj_CI, q_zo0, q_zo1, Option.toList_some, Option.toList_none, List.cons_append, List.nil_append, true_and, and_true, true_or, if_true, if_false, q_l10, q_l01, eq_self, Int32.reduceLT, Int32.reduceLE, Int32.reduceAdd, Int32.reduceSub, fj_up_at, Nat.reduceEqDiff, false_and, and_false, and_self, reduceCtorEq, Nat.reduceAdd, cutI]
  by_cases h0 : l = 0
  · rw [if_pos h0, if_pos h0]
  · rw [if_neg h0, if_neg h0]
    by_cases h1 : l = 1
    · rw [if_pos h1, if_pos h1]
    · rw [if_neg h1, if_neg h1]
theorem m29 {t : Bool} {M : fj_HM} {k i : Nat} {v : Int32} (hk4 : k < 4) (hk : 60 * k + i < 240) {Q : fj_Po} : fj_H none 29 0 [.ref 1, .int (nI k), .int (nI i), .int v] [] M (fj_PY t) 53 7835 Q = Q none (fj_up M 2 (60 * k + i) (cutI (M 3 k) v)) (fj_PY t) 53 7835 := by
  simp only [fs29_0, fs29_1, fs29_4, fs29_5, fs29_7, fs29_8, fs29_9, fs29_10, fs29_11, fs29_14, fs29_15, fs29_16, fs29_17, fs29_20, fs29_21, fj_PV t, fj_OB, fj_AR, fj_CI, q_zo0, q_zo1, Option.toList_some, Option.toList_none, List.cons_append, List.nil_append, true_and, and_true, true_or, if_true, if_false, q_l10, q_l01, eq_self, Int32.reduceLT, Int32.reduceLE, Int32.reduceAdd, Int32.reduceSub, fj_up_at, Nat.reduceEqDiff, false_and, and_false, and_self, reduceCtorEq, Nat.reduceAdd, m30, q_60, q_in hk, q_in hk4, q_clamp (show 60 * k + i < 100000 by omega), q_clamp (show k < 100000 by omega)]
theorem m31 {t : Bool} {M : fj_HM} {k i k2 j n : Nat} (h1 : 60 * k + i + n ≤ 240) (h2 : 60 * k2 + j + n ≤ 240) {Q : fj_Po} : fj_H none 31 0 [.ref 1, .int (nI k), .int (nI i), .int (nI k2), .int (nI j), .int (nI n)] [] M (fj_PY t) 53 7835 Q = Q none (fj_cy M 2 2 (60 * k + i) (60 * k2 + j) n) (fj_PY t) 53 7835 := by
  simp only [fs31_0, fs31_1, fs31_4, fs31_5, fs31_7, fs31_8, fs31_9, fs31_10, fs31_11, fs31_14, fs31_15, fs31_17, fs31_18, fs31_20, fs31_21, fs31_23, fs31_26, fj_PV t, fj_OB, fj_AR, fj_CI, q_zo0, q_zo1, Option.toList_some, Option.toList_none, List.cons_append, List.nil_append, true_and, and_true, true_or, if_true, if_false, q_l10, q_l01, eq_self, Int32.reduceLT, Int32.reduceLE, Int32.reduceAdd, Int32.reduceSub, fj_up_at, Nat.reduceEqDiff, false_and, and_false, and_self, reduceCtorEq, Nat.reduceAdd, q_60, q_clamp (show 60 * k + i < 100000 by omega), q_clamp (show 60 * k2 + j < 100000 by omega), q_clamp (show n < 100000 by omega)]
  have e : (2 < 53 ∧ 2 < 53 ∧ (fj_sh 2).1 = 1 ∧ (fj_sh 2).1 = 1 ∧ (0 : Int32) ≤ nI (60 * k + i) ∧ (0 : Int32) ≤ nI (60 * k2 + j) ∧ (0 : Int32) ≤ nI n ∧ 60 * k + i + n ≤ (fj_sh 2).2 ∧ 60 * k2 + j + n ≤ (fj_sh 2).2) = True := by
    refine eq_true ⟨by decide, by decide, rfl, rfl, nI_pos' (by omega), nI_pos' (by omega), nI_pos' (by omega), ?_, ?_⟩
    · show _ ≤ 240; omega
    · show _ ≤ 240; omega
  simp only [show (fj_sh 2).1 = 1 from rfl, show (fj_sh 2).2 = 240 from rfl, true_and, eq_self] at e ⊢
  rw [e]
  exact true_and _
theorem m26_loop {t : Bool} {k : Nat} (hk : k < 4) {v1 v2 v3 : Value} {Q : fj_Po} : ∀ (r i : Nat) (M : fj_HM), i + r = 60 → (∀ M', (∀ o j, M' o j = if o = 2 ∧ 60 * k + i ≤ j ∧ j < 60 * k + 60 then 0 else M o j) → Q none M' (fj_PY t) 53 7835) → fj_H none 26 17 [.ref 1, .int (nI k), v2, v3, .int (nI i)] [] M (fj_PY t) 53 7835 Q := by
  intro r
  induction r with
  | zero =>
    intro i M hi hQ
    obtain rfl : i = 60 := by omega
    rw [fs26_17]
    simp only [fs26_19, fs26_21, fj_OB, fj_AR, fj_CI, q_zo0, q_zo1, Option.toList_some, Option.toList_none, List.cons_append, List.nil_append, true_and, and_true, true_or, if_true, if_false, q_l10, q_l01, eq_self, Int32.reduceLT, Int32.reduceLE, Int32.reduceAdd, Int32.reduceSub, fj_up_at, Nat.reduceEqDiff, false_and, and_false, and_self, reduceCtorEq, Nat.reduceAdd]
    rw [if_pos (by decide)]
    simp only [fs26_43, fj_OB, fj_AR, fj_CI, q_zo0, q_zo1, Option.toList_some, Option.toList_none, List.cons_append, List.nil_append, true_and, and_true, true_or, if_true, if_false, q_l10, q_l01, eq_self, Int32.reduceLT, Int32.reduceLE, Int32.reduceAdd, Int32.reduceSub, fj_up_at, Nat.reduceEqDiff, false_and, and_false, and_self, reduceCtorEq, Nat.reduceAdd]
    exact hQ M (fun o j => by rw [if_neg (by omega)])
  | succ r ih =>
    intro i M hi hQ
    rw [fs26_17]
    simp only [fs26_19, fs26_21, fj_OB, fj_AR, fj_CI, q_zo0, q_zo1, Option.toList_some, Option.toList_none, List.cons_append, List.nil_append, true_and, and_true, true_or, if_true, if_false, q_l10, q_l01, eq_self, Int32.reduceLT, Int32.reduceLE, Int32.reduceAdd, Int32.reduceSub, fj_up_at, Nat.reduceEqDiff, false_and, and_false, and_self, reduceCtorEq, Nat.reduceAdd]
    rw [if_neg (by rw [show (60 : Int32) = nI 60 from rfl, q_le (by omega) (by omega)]; omega)]
    simp only [fs26_24, fs26_25, fs26_28, fs26_29, fs26_31, fs26_32, fs26_34, fs26_35, fs26_36, fs26_37, fs26_40, fj_PV t, fj_OB, fj_AR, fj_CI, q_zo0, q_zo1, Option.toList_some, Option.toList_none, List.cons_append, List.nil_append, true_and, and_true, true_or, if_true, if_false, q_l10, q_l01, eq_self, Int32.reduceLT, Int32.reduceLE, Int32.reduceAdd, Int32.reduceSub, fj_up_at, Nat.reduceEqDiff, false_and, and_false, and_self, reduceCtorEq, Nat.reduceAdd, q_60, q_in (show 60 * k + i < 240 by omega), q_clamp (show 60 * k + i < 100000 by omega), nI_1]
    refine ih (i + 1) _ (by omega) (fun M' h => hQ M' (fun o j => ?_))
    rw [h o j]
    simp only [fj_up_at]
    by_cases h1 : o = 2 ∧ 60 * k + (i + 1) ≤ j ∧ j < 60 * k + 60
    · rw [if_pos h1, if_pos (by omega)]
    · rw [if_neg h1]
      by_cases h2 : o = 2 ∧ j = 60 * k + i
      · rw [if_pos h2, if_pos (by omega)]
      · rw [if_neg h2, if_neg (by omega)]
theorem m26 {t : Bool} {k : Nat} (hk : k < 4) {l n : Int32} {M : fj_HM} {Q : fj_Po} (hQ : ∀ M', (∀ o j, M' o j = if o = 2 ∧ 60 * k ≤ j ∧ j < 60 * k + 60 then 0 else fj_up (fj_up M 3 k l) 4 k n o j) → Q none M' (fj_PY t) 53 7835) : fj_H none 26 0 [.ref 1, .int (nI k), .int l, .int n, .null] [] M (fj_PY t) 53 7835 Q := by
  simp only [fs26_0, fs26_1, fs26_4, fs26_5, fs26_6, fs26_7, fs26_8, fs26_11, fs26_12, fs26_13, fs26_14, fs26_15, fs26_24, fs26_25, fs26_28, fs26_29, fs26_31, fs26_32, fs26_34, fs26_35, fs26_36, fs26_37, fs26_40, fs26_43, fj_PV t, fj_OB, fj_AR, fj_CI, q_zo0, q_zo1, Option.toList_some, Option.toList_none, List.cons_append, List.nil_append, true_and, and_true, true_or, if_true, if_false, q_l10, q_l01, eq_self, Int32.reduceLT, Int32.reduceLE, Int32.reduceAdd, Int32.reduceSub, fj_up_at, Nat.reduceEqDiff, false_and, and_false, and_self, reduceCtorEq, Nat.reduceAdd, q_in hk, q_clamp (show k < 100000 by omega)]
  exact m26_loop hk (v1 := .null) 60 0 _ (Nat.zero_add _) hQ
theorem m32_loop {t : Bool} {k i n : Nat} (hk : k < 4) (hn : i + n ≤ 60) {Q : fj_Po} : ∀ (r x : Nat) (M : fj_HM), x + r = n → (∀ M', (∀ o, o ≠ 16 → M' o = M o) → (∀ j, j < x → M' 16 j = M 16 j) → (∀ j, x ≤ j → j < n → M' 16 j = M 2 (60 * k + (i + j))) → Q none M' (fj_PY t) 53 7835) → fj_H none 32 3 [.ref 1, .int (nI k), .int (nI i), .int (nI n), .ref 16, .int (nI x)] [] M (fj_PY t) 53 7835 Q := by
  intro r
  induction r with
  | zero =>
    intro x M hx hQ
    rw [fs32_3]
    simp only [fs32_5, fs32_6, fj_OB, fj_AR, fj_CI, q_zo0, q_zo1, Option.toList_some, Option.toList_none, List.cons_append, List.nil_append, true_and, and_true, true_or, if_true, if_false, q_l10, q_l01, eq_self, Int32.reduceLT, Int32.reduceLE, Int32.reduceAdd, Int32.reduceSub, fj_up_at, Nat.reduceEqDiff, false_and, and_false, and_self, reduceCtorEq, Nat.reduceAdd, q_le (show n < 100000 by omega) (show x < 100000 by omega), if_pos (show n ≤ x by omega)]
    simp only [fs32_37, fj_OB, fj_AR, fj_CI, q_zo0, q_zo1, Option.toList_some, Option.toList_none, List.cons_append, List.nil_append, true_and, and_true, true_or, if_true, if_false, q_l10, q_l01, eq_self, Int32.reduceLT, Int32.reduceLE, Int32.reduceAdd, Int32.reduceSub, fj_up_at, Nat.reduceEqDiff, false_and, and_false, and_self, reduceCtorEq, Nat.reduceAdd]
    exact hQ M (fun _ _ => rfl) (fun _ _ => rfl) (fun j h1 h2 => by omega)
  | succ r ih =>
    intro x M hx hQ
    have e60 : Int32.ofNat (fj_sh 16).2 = nI 60 := rfl
    have e16 : (16 < 53 ∧ (fj_sh 16).1 = 1) = True := eq_true ⟨by decide, rfl⟩
    rw [fs32_3]
    simp only [fs32_5, fs32_6, fj_OB, fj_AR, fj_CI, q_zo0, q_zo1, Option.toList_some, Option.toList_none, List.cons_append, List.nil_append, true_and, and_true, true_or, if_true, if_false, q_l10, q_l01, eq_self, Int32.reduceLT, Int32.reduceLE, Int32.reduceAdd, Int32.reduceSub, fj_up_at, Nat.reduceEqDiff, false_and, and_false, and_self, reduceCtorEq, Nat.reduceAdd, q_le (show n < 100000 by omega) (show x < 100000 by omega), if_neg (show ¬ n ≤ x by omega)]
    simp only [fs32_9, fs32_11, fs32_13, fs32_14, fj_OB, fj_AR, fj_CI, q_zo0, q_zo1, Option.toList_some, Option.toList_none, List.cons_append, List.nil_append, true_and, and_true, true_or, if_true, if_false, q_l10, q_l01, eq_self, Int32.reduceLT, Int32.reduceLE, Int32.reduceAdd, Int32.reduceSub, fj_up_at, Nat.reduceEqDiff, false_and, and_false, and_self, reduceCtorEq, Nat.reduceAdd, e60, e16, q_le (show 60 < 100000 by omega) (show x < 100000 by omega), if_neg (show ¬ 60 ≤ x by omega)]
    simp only [fs32_17, fs32_19, fs32_21, fs32_22, fs32_23, fs32_24, fs32_26, fs32_27, fs32_30, fs32_31, fs32_34, fj_PV t, fj_OB, fj_AR, fj_CI, q_zo0, q_zo1, Option.toList_some, Option.toList_none, List.cons_append, List.nil_append, true_and, and_true, true_or, if_true, if_false, q_l10, q_l01, eq_self, Int32.reduceLT, Int32.reduceLE, Int32.reduceAdd, Int32.reduceSub, fj_up_at, Nat.reduceEqDiff, false_and, and_false, and_self, reduceCtorEq, Nat.reduceAdd, nI_add, m28 (show 60 * k + (i + x) < 240 by omega), q_in (show x < 60 by omega), q_clamp (show x < 100000 by omega), nI_1]
    refine ih (x + 1) _ (by omega) (fun M' h1 h2 h3 => hQ M' (fun o ho => ?_) (fun j hj => ?_) (fun j h4 h5 => ?_))
    · rw [h1 o ho]
      funext j
      simp only [fj_up_at, ho, false_and, if_false]
    · rw [h2 j (by omega), fj_up_at, if_neg (by omega)]
    · by_cases e : j = x
      · rw [e, h2 x (by omega), fj_up_at, if_pos ⟨rfl, rfl⟩]
      · rw [h3 j (by omega) h5, fj_up_at, if_neg (by omega)]
theorem m32 {t : Bool} {k i n : Nat} (hk : k < 4) (hn : i + n ≤ 60) {M : fj_HM} {Q : fj_Po} (hQ : ∀ M', (∀ o, o ≠ 16 → M' o = M o) → (∀ j, j < n → M' 16 j = M 2 (60 * k + (i + j))) → Q none M' (fj_PY t) 53 7835) : fj_H none 32 0 [.ref 1, .int (nI k), .int (nI i), .int (nI n), .ref 16, .null] [] M (fj_PY t) 53 7835 Q := by
  simp only [fs32_0, fs32_1]
  exact m32_loop hk hn n 0 M (Nat.zero_add _) (fun M' h1 _ h3 => hQ M' h1 (fun j hj => h3 j (Nat.zero_le _) hj))
/-! readings: how many, whose, where, whether heard -/
abbrev fj_Rd : Type := Nat × (Nat → Nat) × (Nat → Nat) × (Nat → Bool)
def bI (b : Bool) : Int32 := if b = true then 1 else 0
theorem bI_zo (b : Bool) : fj_zo (bI b) = True := by cases b <;> simp [bI, fj_zo]
theorem bI_inj {a b : Bool} : (bI a = bI b) = (a = b) := by cases a <;> cases b <;> simp [bI]
def fj_RV (A : fj_Yd) (R : fj_Rd) : Prop := R.1 ≤ 8 ∧ ∀ x, x < R.1 → R.2.1 x < yn A ∧ R.2.2.1 x < yc A
def fj_RC (M : fj_HM) (R : fj_Rd) : Prop := M 5 0 = nI R.1 ∧ ∀ x, x < R.1 → M 6 x = nI (R.2.1 x) ∧ M 7 x = nI (R.2.2.1 x) ∧ M 8 x = bI (R.2.2.2 x)
/-- a reading is so, if its man were of a kind and had an ear -/
def soB (A : fj_Yd) (R : fj_Rd) (x k e : Nat) : Bool := decide (yD A (R.2.2.1 x) (ymc A (R.2.1 x)) ≤ hN k e) == R.2.2.2 x
theorem m7 {o : Nat} (ho : o = 17 ∨ o = 25) (t : Bool) {A : fj_Yd} (hV : fj_YV A) {M : fj_HM} (hY : fj_YC o M A) {R : fj_Rd} (hRV : fj_RV A R) (hR : fj_RC M R) {x k e : Nat} (hx : x < R.1) (hk : k ≤ 2) (he : e ≤ 5) {Q : fj_Po} : fj_H none 7 0 [.ref 5, .ref o, .int (nI x), .int (nI k), .int (nI e), .null] [] M (fj_PY t) 53 7835 Q = Q (some (.int (bI (soB A R x k e)))) M (fj_PY t) 53 7835 := by
  have h6 := yn_le hV
  obtain ⟨r1, r2⟩ := hRV
  obtain ⟨a1, a2⟩ := r2 x hx
  obtain ⟨b1, b2, b3⟩ := hR.2 x hx
  obtain ⟨-, -, -, -, -, -, -, h8, -⟩ := id hY
  have hmc := ym_mc hV a1
  have hd := yD_le hV a2 hmc
  have hh := hN_le (k := k) he
  simp only [fs7_0, fs7_1, fs7_2, fs7_5, fs7_6, fs7_7, fs7_8, fs7_11, fs7_12, fs7_15, fs7_16, fs7_17, fs7_18, fs7_21, fs7_22, fs7_24, fs7_27, fj_PV t, fj_YO ho t, fj_OB, fj_AR, fj_CI, q_zo0, q_zo1, Option.toList_some, Option.toList_none, List.cons_append, List.nil_append, true_and, and_true, true_or, if_true, if_false, q_l10, q_l01, eq_self, Int32.reduceLT, Int32.reduceLE, Int32.reduceAdd, Int32.reduceSub, fj_up_at, Nat.reduceEqDiff, false_and, and_false, and_self, reduceCtorEq, Nat.reduceAdd, q_in (show x < 8 by omega), q_in (show R.2.1 x < 6 by omega), q_clamp (show x < 100000 by omega), q_clamp (show R.2.1 x < 100000 by omega), b1, b2, (h8 _ a1).2.2, m52 ho t hV hY a2 hmc, m53 hk, q_lt (show hN k e < 100000 by omega) (show yD A (R.2.2.1 x) (ymc A (R.2.1 x)) < 100000 by omega)]
  have e1 : (1 : Int32) = bI true := rfl
  have e0 : (0 : Int32) = bI false := rfl
  by_cases h : hN k e < yD A (R.2.2.1 x) (ymc A (R.2.1 x))
  · rw [if_pos h]
    simp only [fs7_34, fs7_35, fs7_37, fs7_39, fs7_40, fs7_43, fs7_44, fs7_45, fj_PV t, fj_OB, fj_AR, fj_CI, q_zo0, q_zo1, Option.toList_some, Option.toList_none, List.cons_append, List.nil_append, true_and, and_true, true_or, if_true, if_false, q_l10, q_l01, eq_self, Int32.reduceLT, Int32.reduceLE, Int32.reduceAdd, Int32.reduceSub, fj_up_at, Nat.reduceEqDiff, false_and, and_false, and_self, reduceCtorEq, Nat.reduceAdd, q_in (show x < 8 by omega), q_clamp (show x < 100000 by omega), b3]
    simp only [soB, show ¬ (yD A (R.2.2.1 x) (ymc A (R.2.1 x)) ≤ hN k e) by omega, decide_false]
    by_cases hb : R.2.2.2 x = true
    · rw [hb, if_neg (by decide)]
      simp only [fs7_52, fs7_53, fj_OB, fj_AR, fj_CI, q_zo0, q_zo1, Option.toList_some, Option.toList_none, List.cons_append, List.nil_append, true_and, and_true, true_or, if_true, if_false, q_l10, q_l01, eq_self, Int32.reduceLT, Int32.reduceLE, Int32.reduceAdd, Int32.reduceSub, fj_up_at, Nat.reduceEqDiff, false_and, and_false, and_self, reduceCtorEq, Nat.reduceAdd]
      rfl
    · have hb : R.2.2.2 x = false := by cases h : R.2.2.2 x <;> simp_all
      rw [hb, if_pos (by decide)]
      simp only [fs7_48, fs7_49, fs7_53, fj_OB, fj_AR, fj_CI, q_zo0, q_zo1, Option.toList_some, Option.toList_none, List.cons_append, List.nil_append, true_and, and_true, true_or, if_true, if_false, q_l10, q_l01, eq_self, Int32.reduceLT, Int32.reduceLE, Int32.reduceAdd, Int32.reduceSub, fj_up_at, Nat.reduceEqDiff, false_and, and_false, and_self, reduceCtorEq, Nat.reduceAdd]
      rfl
  · rw [if_neg h]
    simp only [fs7_30, fs7_31, fs7_35, fs7_37, fs7_39, fs7_40, fs7_43, fs7_44, fs7_45, fj_PV t, fj_OB, fj_AR, fj_CI, q_zo0, q_zo1, Option.toList_some, Option.toList_none, List.cons_append, List.nil_append, true_and, and_true, true_or, if_true, if_false, q_l10, q_l01, eq_self, Int32.reduceLT, Int32.reduceLE, Int32.reduceAdd, Int32.reduceSub, fj_up_at, Nat.reduceEqDiff, false_and, and_false, and_self, reduceCtorEq, Nat.reduceAdd, q_in (show x < 8 by omega), q_clamp (show x < 100000 by omega), b3]
    simp only [soB, show (yD A (R.2.2.1 x) (ymc A (R.2.1 x)) ≤ hN k e) by omega, decide_true]
    by_cases hb : R.2.2.2 x = true
    · rw [hb, if_pos (by decide)]
      simp only [fs7_48, fs7_49, fs7_53, fj_OB, fj_AR, fj_CI, q_zo0, q_zo1, Option.toList_some, Option.toList_none, List.cons_append, List.nil_append, true_and, and_true, true_or, if_true, if_false, q_l10, q_l01, eq_self, Int32.reduceLT, Int32.reduceLE, Int32.reduceAdd, Int32.reduceSub, fj_up_at, Nat.reduceEqDiff, false_and, and_false, and_self, reduceCtorEq, Nat.reduceAdd]
      rfl
    · have hb : R.2.2.2 x = false := by cases h : R.2.2.2 x <;> simp_all
      rw [hb, if_neg (by decide)]
      simp only [fs7_52, fs7_53, fj_OB, fj_AR, fj_CI, q_zo0, q_zo1, Option.toList_some, Option.toList_none, List.cons_append, List.nil_append, true_and, and_true, true_or, if_true, if_false, q_l10, q_l01, eq_self, Int32.reduceLT, Int32.reduceLE, Int32.reduceAdd, Int32.reduceSub, fj_up_at, Nat.reduceEqDiff, false_and, and_false, and_self, reduceCtorEq, Nat.reduceAdd]
      rfl
/-- all of k from the i-th on -/
def alF (p : Nat → Bool) : Nat → Nat → Bool
  | _, 0 => true
  | i, k + 1 => p i && alF p (i + 1) k
/-- all readings are so, by kinds and ears -/
def soA (A : fj_Yd) (R : fj_Rd) (kf ef : Nat → Nat) : Bool := alF (fun x => soB A R x (kf (R.2.1 x)) (ef (R.2.1 x))) 0 R.1
theorem m5_loop {o : Nat} (ho : o = 17 ∨ o = 25) (t : Bool) {A : fj_Yd} (hV : fj_YV A) {M : fj_HM} (hY : fj_YC o M A) {R : fj_Rd} (hRV : fj_RV A R) (hR : fj_RC M R) {Q : fj_Po} : ∀ (k i : Nat), i + k = R.1 → fj_H none 5 2 [.ref 5, .ref o, .int (nI i)] [] M (fj_PY t) 53 7835 Q = Q (some (.int (bI (alF (fun x => soB A R x (ykd A (R.2.1 x)) (yer A (R.2.1 x))) i k)))) M (fj_PY t) 53 7835 := by
  have h6 := yn_le hV
  have hr8 := hRV.1
  obtain ⟨-, -, -, -, -, -, -, h8, -⟩ := id hY
  intro k
  induction k with
  | zero =>
    intro i hi
    rw [fs5_2]
    simp only [fs5_3, fs5_4, fs5_7, fj_OB, fj_AR, fj_CI, q_zo0, q_zo1, Option.toList_some, Option.toList_none, List.cons_append, List.nil_append, true_and, and_true, true_or, if_true, if_false, q_l10, q_l01, eq_self, Int32.reduceLT, Int32.reduceLE, Int32.reduceAdd, Int32.reduceSub, fj_up_at, Nat.reduceEqDiff, false_and, and_false, and_self, reduceCtorEq, Nat.reduceAdd, hR.1, q_le (show R.1 < 100000 by omega) (show i < 100000 by omega), if_pos (show R.1 ≤ i by omega)]
    simp only [fs5_49, fs5_50, fj_OB, fj_AR, fj_CI, q_zo0, q_zo1, Option.toList_some, Option.toList_none, List.cons_append, List.nil_append, true_and, and_true, true_or, if_true, if_false, q_l10, q_l01, eq_self, Int32.reduceLT, Int32.reduceLE, Int32.reduceAdd, Int32.reduceSub, fj_up_at, Nat.reduceEqDiff, false_and, and_false, and_self, reduceCtorEq, Nat.reduceAdd]
    rfl
  | succ k ih =>
    intro i hi
    have hin : i < R.1 := by omega
    obtain ⟨a1, a2⟩ := hRV.2 i hin
    obtain ⟨b1, b2, b3⟩ := hR.2 i hin
    rw [fs5_2]
    simp only [fs5_3, fs5_4, fs5_7, fj_OB, fj_AR, fj_CI, q_zo0, q_zo1, Option.toList_some, Option.toList_none, List.cons_append, List.nil_append, true_and, and_true, true_or, if_true, if_false, q_l10, q_l01, eq_self, Int32.reduceLT, Int32.reduceLE, Int32.reduceAdd, Int32.reduceSub, fj_up_at, Nat.reduceEqDiff, false_and, and_false, and_self, reduceCtorEq, Nat.reduceAdd, hR.1, q_le (show R.1 < 100000 by omega) (show i < 100000 by omega), if_neg (show ¬ R.1 ≤ i by omega)]
    simp only [fs5_10, fs5_11, fs5_12, fs5_13, fs5_14, fs5_17, fs5_18, fs5_21, fs5_22, fs5_23, fs5_24, fs5_25, fs5_28, fs5_29, fs5_32, fs5_33, fs5_34, fs5_35, fs5_38, fj_PV t, fj_YO ho t, fj_OB, fj_AR, fj_CI, q_zo0, q_zo1, Option.toList_some, Option.toList_none, List.cons_append, List.nil_append, true_and, and_true, true_or, if_true, if_false, q_l10, q_l01, eq_self, Int32.reduceLT, Int32.reduceLE, Int32.reduceAdd, Int32.reduceSub, fj_up_at, Nat.reduceEqDiff, false_and, and_false, and_self, reduceCtorEq, Nat.reduceAdd, q_in (show i < 8 by omega), q_in (show R.2.1 i < 6 by omega), q_clamp (show i < 100000 by omega), q_clamp (show R.2.1 i < 100000 by omega), b1, (h8 _ a1).1, (h8 _ a1).2.1, m7 ho t hV hY hRV hR hin (ym_kd hV a1) (ym_er hV a1)]
    cases hb : soB A R i (ykd A (R.2.1 i)) (yer A (R.2.1 i))
    · rw [if_pos (by decide)]
      simp only [fs5_41, fs5_42, fj_OB, fj_AR, fj_CI, q_zo0, q_zo1, Option.toList_some, Option.toList_none, List.cons_append, List.nil_append, true_and, and_true, true_or, if_true, if_false, q_l10, q_l01, eq_self, Int32.reduceLT, Int32.reduceLE, Int32.reduceAdd, Int32.reduceSub, fj_up_at, Nat.reduceEqDiff, false_and, and_false, and_self, reduceCtorEq, Nat.reduceAdd, alF, hb, Bool.false_and]
      rfl
    · rw [if_neg (by decide)]
      simp only [fs5_43, fs5_46, fj_OB, fj_AR, fj_CI, q_zo0, q_zo1, Option.toList_some, Option.toList_none, List.cons_append, List.nil_append, true_and, and_true, true_or, if_true, if_false, q_l10, q_l01, eq_self, Int32.reduceLT, Int32.reduceLE, Int32.reduceAdd, Int32.reduceSub, fj_up_at, Nat.reduceEqDiff, false_and, and_false, and_self, reduceCtorEq, Nat.reduceAdd, nI_1]
      rw [ih (i + 1) (by omega)]
      simp only [alF, hb, Bool.true_and]
theorem m5 {o : Nat} (ho : o = 17 ∨ o = 25) (t : Bool) {A : fj_Yd} (hV : fj_YV A) {M : fj_HM} (hY : fj_YC o M A) {R : fj_Rd} (hRV : fj_RV A R) (hR : fj_RC M R) {Q : fj_Po} : fj_H none 5 0 [.ref 5, .ref o, .null] [] M (fj_PY t) 53 7835 Q = Q (some (.int (bI (soA A R (ykd A) (yer A))))) M (fj_PY t) 53 7835 := by
  have h := m5_loop ho t hV hY hRV hR (Q := Q) R.1 0 (Nat.zero_add _)
  simp only [fs5_0, fs5_1]
  exact h
/-- a function changed at one place -/
def upN (f : Nat → Nat) (m v : Nat) : Nat → Nat := fun x => if x = m then v else f x
theorem m6_loop {o : Nat} (ho : o = 17 ∨ o = 25) (t : Bool) {A : fj_Yd} (hV : fj_YV A) {M : fj_HM} (hY : fj_YC o M A) {R : fj_Rd} (hRV : fj_RV A R) (hR : fj_RC M R) {m kd er : Nat} (hm : m < 6) (hkd : kd ≤ 2) (her : er ≤ 5) {Q : fj_Po} : ∀ (k i : Nat) (d1 d2 : Value), i + k = R.1 → fj_H none 6 3 [.ref 5, .ref o, .int (nI m), .int (nI kd), .int (nI er), .int (nI i), d1, d2] [] M (fj_PY t) 53 7835 Q = Q (some (.int (bI (alF (fun x => soB A R x (upN (ykd A) m kd (R.2.1 x)) (upN (yer A) m er (R.2.1 x))) i k)))) M (fj_PY t) 53 7835 := by
  have h6 := yn_le hV
  have hr8 := hRV.1
  obtain ⟨-, -, -, -, -, -, -, h8, -⟩ := id hY
  intro k
  induction k with
  | zero =>
    intro i d1 d2 hi
    rw [fs6_3]
    simp only [fs6_5, fs6_6, fs6_9, fj_OB, fj_AR, fj_CI, q_zo0, q_zo1, Option.toList_some, Option.toList_none, List.cons_append, List.nil_append, true_and, and_true, true_or, if_true, if_false, q_l10, q_l01, eq_self, Int32.reduceLT, Int32.reduceLE, Int32.reduceAdd, Int32.reduceSub, fj_up_at, Nat.reduceEqDiff, false_and, and_false, and_self, reduceCtorEq, Nat.reduceAdd, hR.1, q_le (show R.1 < 100000 by omega) (show i < 100000 by omega), if_pos (show R.1 ≤ i by omega)]
    simp only [fs6_76, fs6_77, fj_OB, fj_AR, fj_CI, q_zo0, q_zo1, Option.toList_some, Option.toList_none, List.cons_append, List.nil_append, true_and, and_true, true_or, if_true, if_false, q_l10, q_l01, eq_self, Int32.reduceLT, Int32.reduceLE, Int32.reduceAdd, Int32.reduceSub, fj_up_at, Nat.reduceEqDiff, false_and, and_false, and_self, reduceCtorEq, Nat.reduceAdd]
    rfl
  | succ k ih =>
    intro i d1 d2 hi
    have hin : i < R.1 := by omega
    obtain ⟨a1, a2⟩ := hRV.2 i hin
    obtain ⟨b1, b2, b3⟩ := hR.2 i hin
    rw [fs6_3]
    simp only [fs6_5, fs6_6, fs6_9, fj_OB, fj_AR, fj_CI, q_zo0, q_zo1, Option.toList_some, Option.toList_none, List.cons_append, List.nil_append, true_and, and_true, true_or, if_true, if_false, q_l10, q_l01, eq_self, Int32.reduceLT, Int32.reduceLE, Int32.reduceAdd, Int32.reduceSub, fj_up_at, Nat.reduceEqDiff, false_and, and_false, and_self, reduceCtorEq, Nat.reduceAdd, hR.1, q_le (show R.1 < 100000 by omega) (show i < 100000 by omega), if_neg (show ¬ R.1 ≤ i by omega)]
    simp only [fs6_12, fs6_13, fs6_16, fs6_18, fs6_19, fs6_21, fs6_23, fs6_24, fj_PV t, fj_YO ho t, fj_OB, fj_AR, fj_CI, q_zo0, q_zo1, Option.toList_some, Option.toList_none, List.cons_append, List.nil_append, true_and, and_true, true_or, if_true, if_false, q_l10, q_l01, eq_self, Int32.reduceLT, Int32.reduceLE, Int32.reduceAdd, Int32.reduceSub, fj_up_at, Nat.reduceEqDiff, false_and, and_false, and_self, reduceCtorEq, Nat.reduceAdd, q_in (show i < 8 by omega), q_clamp (show i < 100000 by omega), b1, q_eq (show R.2.1 i < 100000 by omega) (show m < 100000 by omega)]
    by_cases hx : R.2.1 i = m
    · rw [if_pos hx]
      simp only [fs6_27, fs6_28, fs6_29, fs6_31, fs6_32, fs6_34, fs6_37, fs6_61, fs6_63, fs6_65, fj_PV t, fj_YO ho t, fj_OB, fj_AR, fj_CI, q_zo0, q_zo1, Option.toList_some, Option.toList_none, List.cons_append, List.nil_append, true_and, and_true, true_or, if_true, if_false, q_l10, q_l01, eq_self, Int32.reduceLT, Int32.reduceLE, Int32.reduceAdd, Int32.reduceSub, fj_up_at, Nat.reduceEqDiff, false_and, and_false, and_self, reduceCtorEq, Nat.reduceAdd, m7 ho t hV hY hRV hR hin hkd her]
      cases hb : soB A R i kd er
      · rw [if_pos (by decide)]
        simp only [fs6_68, fs6_69, fj_OB, fj_AR, fj_CI, q_zo0, q_zo1, Option.toList_some, Option.toList_none, List.cons_append, List.nil_append, true_and, and_true, true_or, if_true, if_false, q_l10, q_l01, eq_self, Int32.reduceLT, Int32.reduceLE, Int32.reduceAdd, Int32.reduceSub, fj_up_at, Nat.reduceEqDiff, false_and, and_false, and_self, reduceCtorEq, Nat.reduceAdd, alF, upN, hx, if_true, hb, Bool.false_and]
        rfl
      · rw [if_neg (by decide)]
        simp only [fs6_70, fs6_73, fj_OB, fj_AR, fj_CI, q_zo0, q_zo1, Option.toList_some, Option.toList_none, List.cons_append, List.nil_append, true_and, and_true, true_or, if_true, if_false, q_l10, q_l01, eq_self, Int32.reduceLT, Int32.reduceLE, Int32.reduceAdd, Int32.reduceSub, fj_up_at, Nat.reduceEqDiff, false_and, and_false, and_self, reduceCtorEq, Nat.reduceAdd, nI_1]
        rw [ih (i + 1) _ _ (by omega)]
        simp only [alF, upN, hx, if_true, hb, Bool.true_and]
    · rw [if_neg hx]
      simp only [fs6_40, fs6_41, fs6_42, fs6_44, fs6_45, fs6_48, fs6_50, fs6_51, fs6_52, fs6_55, fs6_57, fs6_58, fs6_61, fs6_63, fs6_65, fj_PV t, fj_YO ho t, fj_OB, fj_AR, fj_CI, q_zo0, q_zo1, Option.toList_some, Option.toList_none, List.cons_append, List.nil_append, true_and, and_true, true_or, if_true, if_false, q_l10, q_l01, eq_self, Int32.reduceLT, Int32.reduceLE, Int32.reduceAdd, Int32.reduceSub, fj_up_at, Nat.reduceEqDiff, false_and, and_false, and_self, reduceCtorEq, Nat.reduceAdd, q_in (show R.2.1 i < 6 by omega), q_clamp (show R.2.1 i < 100000 by omega), (h8 _ a1).1, (h8 _ a1).2.1, m7 ho t hV hY hRV hR hin (ym_kd hV a1) (ym_er hV a1)]
      cases hb : soB A R i (ykd A (R.2.1 i)) (yer A (R.2.1 i))
      · rw [if_pos (by decide)]
        simp only [fs6_68, fs6_69, fj_OB, fj_AR, fj_CI, q_zo0, q_zo1, Option.toList_some, Option.toList_none, List.cons_append, List.nil_append, true_and, and_true, true_or, if_true, if_false, q_l10, q_l01, eq_self, Int32.reduceLT, Int32.reduceLE, Int32.reduceAdd, Int32.reduceSub, fj_up_at, Nat.reduceEqDiff, false_and, and_false, and_self, reduceCtorEq, Nat.reduceAdd, alF, upN, hx, if_false, hb, Bool.false_and]
        rfl
      · rw [if_neg (by decide)]
        simp only [fs6_70, fs6_73, fj_OB, fj_AR, fj_CI, q_zo0, q_zo1, Option.toList_some, Option.toList_none, List.cons_append, List.nil_append, true_and, and_true, true_or, if_true, if_false, q_l10, q_l01, eq_self, Int32.reduceLT, Int32.reduceLE, Int32.reduceAdd, Int32.reduceSub, fj_up_at, Nat.reduceEqDiff, false_and, and_false, and_self, reduceCtorEq, Nat.reduceAdd, nI_1]
        rw [ih (i + 1) _ _ (by omega)]
        simp only [alF, upN, hx, if_false, hb, Bool.true_and]
theorem m6 {o : Nat} (ho : o = 17 ∨ o = 25) (t : Bool) {A : fj_Yd} (hV : fj_YV A) {M : fj_HM} (hY : fj_YC o M A) {R : fj_Rd} (hRV : fj_RV A R) (hR : fj_RC M R) {m kd er : Nat} (hm : m < 6) (hkd : kd ≤ 2) (her : er ≤ 5) {Q : fj_Po} : fj_H none 6 0 [.ref 5, .ref o, .int (nI m), .int (nI kd), .int (nI er), .null, .null, .null] [] M (fj_PY t) 53 7835 Q = Q (some (.int (bI (soA A R (upN (ykd A) m kd) (upN (yer A) m er))))) M (fj_PY t) 53 7835 := by
  have h := m6_loop ho t hV hY hRV hR hm hkd her (Q := Q) R.1 0 .null .null (Nat.zero_add _)
  simp only [fs6_0, fs6_1]
  exact h
theorem m4 {t : Bool} {M : fj_HM} {r : Nat} (hr : r < 8) (hM : M 5 0 = nI r) {m p v : Int32} (hv : fj_zo v) {Q : fj_Po} : fj_H none 4 0 [.ref 5, .int m, .int p, .int v] [] M (fj_PY t) 53 7835 Q = Q (some (.int (nI r))) (fj_up (fj_up (fj_up (fj_up M 6 r m) 7 r p) 8 r v) 5 0 (nI (r + 1))) (fj_PY t) 53 7835 := by
  have e1 : nI (r + 1) - 1 = nI r := by rw [q_1, pk_sub (by omega)]; rfl
  simp only [fs4_0, fs4_1, fs4_4, fs4_5, fs4_8, fs4_9, fs4_10, fs4_11, fs4_14, fs4_15, fs4_18, fs4_19, fs4_20, fs4_21, fs4_24, fs4_25, fs4_28, fs4_29, fs4_30, fs4_31, fs4_31i, fs4_32, fs4_35, fs4_36, fs4_37, fs4_40, fs4_41, fs4_44, fs4_45, fs4_46, fj_PV t, fj_OB, fj_AR, fj_CI, q_zo0, q_zo1, Option.toList_some, Option.toList_none, List.cons_append, List.nil_append, true_and, and_true, true_or, if_true, if_false, q_l10, q_l01, eq_self, Int32.reduceLT, Int32.reduceLE, Int32.reduceAdd, Int32.reduceSub, fj_up_at, Nat.reduceEqDiff, false_and, and_false, and_self, reduceCtorEq, Nat.reduceAdd, hM, q_in hr, q_clamp (show r < 100000 by omega), eq_true hv, nI_1, e1]
