/-! ===== the reference reads a cell ===== -/
theorem fj_up_id {M : fj_HM} {o k : Nat} {v : Int32} (h : M o k = v) : fj_up M o k v = M := by
  funext a b
  rw [fj_up_at]
  by_cases e : a = o ∧ b = k
  · rw [if_pos e, ← h, e.1, e.2]
  · rw [if_neg e]
theorem m109 {t : Bool} {M : fj_HM} {a n p : Nat} {lo hi : Int32} (hn : a + n ≤ 240) (hp : p < 10000) (h13 : M 33 13 = nI p) {Q : fj_Po} : fj_H none 109 0 [.ref 33, .int (nI a), .int (nI n), .int lo, .int hi, .null, .null] [] M (fj_PY t) 53 7835 Q = if gM M a n p - 48 < lo then Q (some (.int (-9))) M (fj_PY t) 53 7835 else if hi < gM M a n p - 48 then Q (some (.int (-9))) M (fj_PY t) 53 7835 else Q (some (.int (gM M a n p - 48))) (fj_up M 33 13 (nI (p + 1))) (fj_PY t) 53 7835 := by
  have e0 : fj_up M 33 13 (nI p + 0) = M := fj_up_id (by rw [h13, Int32.add_zero])
  simp only [fs109_0, fs109_1, fs109_2, fs109_3, fs109_6, fs109_8, fs109_9, fs109_11, fs109_13, fs109_14, fs109_15, fs109_16, fs109_18, fs109_19, fj_PV t, fj_OB, fj_AR, fj_CI, q_zo0, q_zo1, Option.toList_some, Option.toList_none, List.cons_append, List.nil_append, true_and, and_true, true_or, if_true, if_false, q_l10, q_l01, eq_self, Int32.reduceLT, Int32.reduceLE, Int32.reduceAdd, Int32.reduceSub, fj_up_at, Nat.reduceEqDiff, false_and, and_false, and_self, reduceCtorEq, Nat.reduceAdd, m108 hn (show p < 100000 by omega) h13, m97]
  by_cases h1 : gM M a n p - 48 < lo
  · rw [if_pos h1, if_pos h1]
    simp only [fs109_22, fs109_24, fs109_25, fs109_25i, fs109_26, fs109_29, fs109_31, fs109_38, fs109_39, fs109_40, fs109_43, fs109_45, fs109_53, fs109_55, fj_PV t, fj_OB, fj_AR, fj_CI, q_zo0, q_zo1, Option.toList_some, Option.toList_none, List.cons_append, List.nil_append, true_and, and_true, true_or, if_true, if_false, q_l10, q_l01, eq_self, Int32.reduceLT, Int32.reduceLE, Int32.reduceAdd, Int32.reduceSub, fj_up_at, Nat.reduceEqDiff, false_and, and_false, and_self, reduceCtorEq, Nat.reduceAdd, h13, e0]
  · rw [if_neg h1, if_neg h1]
    by_cases h2 : hi < gM M a n p - 48
    · rw [if_pos h2, if_pos h2]
      simp only [fs109_22, fs109_24, fs109_25, fs109_25i, fs109_26, fs109_29, fs109_31, fs109_38, fs109_39, fs109_40, fs109_43, fs109_45, fs109_53, fs109_55, fj_PV t, fj_OB, fj_AR, fj_CI, q_zo0, q_zo1, Option.toList_some, Option.toList_none, List.cons_append, List.nil_append, true_and, and_true, true_or, if_true, if_false, q_l10, q_l01, eq_self, Int32.reduceLT, Int32.reduceLE, Int32.reduceAdd, Int32.reduceSub, fj_up_at, Nat.reduceEqDiff, false_and, and_false, and_self, reduceCtorEq, Nat.reduceAdd, h13, e0]
    · rw [if_neg h2, if_neg h2]
      simp only [fs109_22, fs109_24, fs109_25, fs109_25i, fs109_26, fs109_29, fs109_31, fs109_34, fs109_35, fs109_39, fs109_40, fs109_43, fs109_45, fs109_48, fs109_50, fs109_55, fj_PV t, fj_OB, fj_AR, fj_CI, q_zo0, q_zo1, Option.toList_some, Option.toList_none, List.cons_append, List.nil_append, true_and, and_true, true_or, if_true, if_false, q_l10, q_l01, eq_self, Int32.reduceLT, Int32.reduceLE, Int32.reduceAdd, Int32.reduceSub, fj_up_at, Nat.reduceEqDiff, false_and, and_false, and_self, reduceCtorEq, Nat.reduceAdd, h13, nI_1]
/-- the reference, while it reads: i cells are told of -/
def fj_PR (M : fj_HM) (i : Nat) (s : fj_Tx) : Prop := M 33 13 = nI (pp s) ∧ M 33 16 = nI (pn s) ∧ M 33 17 = nI (pq s) ∧ (∀ k, k < i → M 39 k = pic s k) ∧ (∀ m, m < pn s → M 40 m = nI (pkd s m) ∧ M 41 m = nI (per s m) ∧ M 42 m = nI (pmc s m)) ∧ ∀ x, x < pq s → M 43 x = nI (poc s x)
