/-! ===== the reference reads a cell ===== -/
theorem fj_up_id {M : fj_HM} {o k : Nat} {v : Int32} (h : M o k = v) : fj_up M o k v = M := by
  funext a b
  rw [fj_up_at]
  by_cases e : a = o ∧ b = k
  · rw [if_pos e, ← h, e.1, e.2]
  · rw [if_neg e]
theorem m109 {t : Bool} {M : fj_HM} {a n p : Nat} {lo hi : Int32} (hn : a + n ≤ 240) (hp : p < 10000) (h13 : M 33 13 = nI p) {Q : fj_Po} : fj_H none 109 0 [.ref 33, .int (nI a), .int (nI n), .int lo, .int hi, .null, .null] [] M (fj_PY t) 53 7835 Q = if gM M a n p - 48 < lo then Q (some (.int (-9))) M (fj_PY t) 53 7835 else if hi < gM M a n p - 48 then Q (some (.int (-9))) M (fj_PY t) 53 7835 else Q (some (.int (gM M a n p - 48))) (fj_up M 33 13 (nI (p + 1))) (fj_PY t) 53 7835 := by
  have e0 : fj_up M 33 13 (nI p + 0) = M := fj_up_id (by rw [h13, Int32.add_zero])
  simp only [fs109_0, fs109_1, fs109_2, fs109_3, fs109_6, fs109_8, fs109_9, fs109_11, fs109_13, fs109_14, fs109_15, fs109_16, fs109_18, fs109_19, fj_PV t, fj_OB, fj_AR, fj_CI, q_zo0, q_zo1, Option.toList_some, Option.toList_none, List.cons_append, List.nil_append, true_and, and_true, true_or, if_true, if_false, q_l10, q_l01, eq_self, Int32.reduceLT, Int32.reduceLE, Int32.reduceAdd, Int32.reduceSub, fj_up_at, Nat.reduceEqDiff, false_and, and_false, and_self, reduceCtorEq, Nat.reduceAdd, m108 hn (show p < 100000 by omega) h13, m97]
  by_cases h1 : gM M a n p - 48 < lo
  · rw [if_pos h1, if_pos h1]
    simp only [fs109_22, fs109_24, fs109_25, fs109_25i, fs109_26, fs109_29, fs109_31, fs109_38, fs109_39, fs109_40, fs109_43, fs109_45, fs109_53, fs109_55, fj_PV t, fj_OB, fj_AR, fj_CI, q_zo0, q_zo1, Option.toList_some, Option.toList_none, List.cons_append, List.nil_append, true_and, and_true, true_or, if_true, if_false, q_l10, q_l01, eq_self, Int32.reduceLT, Int32.reduceLE, Int32.reduceAdd, Int32.reduceSub, fj_up_at, Nat.reduceEqDiff, false_and, and_false, and_self, reduceCtorEq, Nat.reduceAdd, h13, e0]
  · rw [if_neg h1, if_neg h1]
    by_cases h2 : hi < gM M a n p - 48
    · rw [if_pos h2, if_pos h2]
      simp only [fs109_22, fs109_24, fs109_25, fs109_25i, fs109_26, fs109_29, fs109_31, fs109_38, fs109_39, fs109_40, fs109_43, fs109_45, fs109_53, fs109_55, fj_PV t, fj_OB, fj_AR, fj_CI, q_zo0, q_zo1, Option.toList_some, Option.toList_none, List.cons_append, List.nil_append, true_and, and_true, true_or, if_true, if_false, q_l10, q_l01, eq_self, Int32.reduceLT, Int32.reduceLE, Int32.reduceAdd, Int32.reduceSub, fj_up_at, Nat.reduceEqDiff, false_and, and_false, and_self, reduceCtorEq, Nat.reduceAdd, h13, e0]
    · rw [if_neg h2, if_neg h2]
      simp only [fs109_22, fs109_24, fs109_25, fs109_25i, fs109_26, fs109_29, fs109_31, fs109_34, fs109_35, fs109_39, fs109_40, fs109_43, fs109_45, fs109_48, fs109_50, fs109_55, fj_PV t, fj_OB, fj_AR, fj_CI, q_zo0, q_zo1, Option.toList_some, Option.toList_none, List.cons_append, List.nil_append, true_and, and_true, true_or, if_true, if_false, q_l10, q_l01, eq_self, Int32.reduceLT, Int32.reduceLE, Int32.reduceAdd, Int32.reduceSub, fj_up_at, Nat.reduceEqDiff, false_and, and_false, and_self, reduceCtorEq, Nat.reduceAdd, h13, nI_1]
/-- the reference, while it reads: i cells are told of -/
def fj_PR (M : fj_HM) (i : Nat) (s : fj_Tx) : Prop := M 33 13 = nI (pp s) ∧ M 33 16 = nI (pn s) ∧ M 33 17 = nI (pq s) ∧ (∀ k, k < i → M 39 k = pic s k) ∧ (∀ m, m < pn s → M 40 m = nI (pkd s m) ∧ M 41 m = nI (per s m) ∧ M 42 m = nI (pmc s m)) ∧ ∀ x, x < pq s → M 43 x = nI (poc s x)
theorem gM_up {M : fj_HM} {o k : Nat} {v : Int32} {a n p : Nat} (h : o ≠ 51) : gM (fj_up M o k v) a n p = gM M a n p := by
  unfold gM
  rw [fj_up_at, if_neg (show ¬ (51 = o ∧ a + p = k) from fun z => h z.1.symm)]
theorem m110 {t : Bool} {M : fj_HM} {a n i c : Nat} {k : Int32} {s : fj_Tx} (hn : a + n ≤ 240) (hp : pp s < 1000) (h6 : pn s ≤ 6) (hc : c < 24) (hP : fj_PR M i s) {Q : fj_Po} : fj_H none 110 0 [.ref 33, .int (nI a), .int (nI n), .int (nI c), .int k, .null] [] M (fj_PY t) 53 7835 Q = if pn s = 6 then Q (some (.int 0)) M (fj_PY t) 53 7835 else if gM M a n (pp s + 1) - 48 < 0 then Q (some (.int 0)) (fj_up M 33 13 (nI (pp s + 1))) (fj_PY t) 53 7835 else if gM M a n (pp s + 1) - 48 ≤ 5 then Q (some (.int 1)) (fj_up (fj_up (fj_up (fj_up (fj_up (fj_up (fj_up M 33 13 (nI (pp s + 1))) 33 13 (nI (pp s + 1 + 1))) 40 (pn s) k) 41 (pn s) (gM M a n (pp s + 1) - 48)) 42 (pn s) (nI c)) 39 c (nI (pn s))) 33 16 (nI (pn s + 1))) (fj_PY t) 53 7835 else Q (some (.int 0)) (fj_up M 33 13 (nI (pp s + 1))) (fj_PY t) 53 7835 := by
  obtain ⟨h13, h16, h17, -⟩ := hP
  have m9 : ((0 : Int32) ≤ -9) = False := eq_false (by decide)
  simp only [fs110_0, fs110_1, fs110_4, fs110_6, fj_PV t, fj_OB, fj_AR, fj_CI, q_zo0, q_zo1, Option.toList_some, Option.toList_none, List.cons_append, List.nil_append, true_and, and_true, true_or, if_true, if_false, q_l10, q_l01, eq_self, Int32.reduceLT, Int32.reduceLE, Int32.reduceAdd, Int32.reduceSub, fj_up_at, Nat.reduceEqDiff, false_and, and_false, and_self, reduceCtorEq, Nat.reduceAdd, h16]
  rw [show (6 : Int32) = nI 6 from rfl, q_eq (show pn s < 100000 by omega) (show 6 < 100000 by decide)]
  by_cases h : pn s = 6
  · rw [if_pos h, if_pos h]
    simp only [fs110_9, fs110_10, fj_OB, fj_AR, fj_CI, q_zo0, q_zo1, Option.toList_some, Option.toList_none, List.cons_append, List.nil_append, true_and, and_true, true_or, if_true, if_false, q_l10, q_l01, eq_self, Int32.reduceLT, Int32.reduceLE, Int32.reduceAdd, Int32.reduceSub, fj_up_at, Nat.reduceEqDiff, false_and, and_false, and_self, reduceCtorEq, Nat.reduceAdd]
  · rw [if_neg h, if_neg h]
    have hg : gM (fj_up M 33 13 (nI (pp s + 1))) a n (pp s + 1) = gM M a n (pp s + 1) := gM_up (by decide)
    have e13 : fj_up M 33 13 (nI (pp s + 1)) 33 13 = nI (pp s + 1) := by rw [fj_up_at, if_pos ⟨rfl, rfl⟩]
    simp only [fs110_11, fs110_12, fs110_12i, fs110_13, fs110_16, fs110_17, fs110_18, fs110_21, fs110_22, fs110_23, fs110_24, fs110_25, fs110_26, fj_PV t, fj_OB, fj_AR, fj_CI, q_zo0, q_zo1, Option.toList_some, Option.toList_none, List.cons_append, List.nil_append, true_and, and_true, true_or, if_true, if_false, q_l10, q_l01, eq_self, Int32.reduceLT, Int32.reduceLE, Int32.reduceAdd, Int32.reduceSub, fj_up_at, Nat.reduceEqDiff, false_and, and_false, and_self, reduceCtorEq, Nat.reduceAdd, h13, nI_1, m109 hn (show pp s + 1 < 10000 by omega) e13, hg]
    by_cases h0 : gM M a n (pp s + 1) - 48 < 0
    · rw [if_pos h0, if_pos h0]
      simp only [fs110_29, fs110_31, fs110_33, fs110_36, fs110_37, fj_OB, fj_AR, fj_CI, q_zo0, q_zo1, Option.toList_some, Option.toList_none, List.cons_append, List.nil_append, true_and, and_true, true_or, if_true, if_false, q_l10, q_l01, eq_self, Int32.reduceLT, Int32.reduceLE, Int32.reduceAdd, Int32.reduceSub, fj_up_at, Nat.reduceEqDiff, false_and, and_false, and_self, reduceCtorEq, Nat.reduceAdd, m9]
    · rw [if_neg h0, if_neg h0]
      by_cases h5 : gM M a n (pp s + 1) - 48 ≤ 5
      · rw [if_neg (Int32.not_lt.mpr h5), if_pos h5]
        simp only [fs110_29, fs110_31, fs110_33, fj_OB, fj_AR, fj_CI, q_zo0, q_zo1, Option.toList_some, Option.toList_none, List.cons_append, List.nil_append, true_and, and_true, true_or, if_true, if_false, q_l10, q_l01, eq_self, Int32.reduceLT, Int32.reduceLE, Int32.reduceAdd, Int32.reduceSub, fj_up_at, Nat.reduceEqDiff, false_and, and_false, and_self, reduceCtorEq, Nat.reduceAdd, if_pos (Int32.not_lt.mp h0)]
        simp only [fs110_38, fs110_39, fs110_42, fs110_43, fs110_46, fs110_48, fs110_49, fs110_50, fs110_53, fs110_54, fs110_57, fs110_59, fs110_60, fs110_61, fs110_64, fs110_65, fs110_68, fs110_69, fs110_70, fs110_71, fs110_74, fs110_75, fs110_76, fs110_79, fs110_80, fs110_81, fs110_81i, fs110_82, fs110_85, fs110_86, fs110_87, fs110_90, fs110_91, fj_PV t, fj_OB, fj_AR, fj_CI, q_zo0, q_zo1, Option.toList_some, Option.toList_none, List.cons_append, List.nil_append, true_and, and_true, true_or, if_true, if_false, q_l10, q_l01, eq_self, Int32.reduceLT, Int32.reduceLE, Int32.reduceAdd, Int32.reduceSub, fj_up_at, Nat.reduceEqDiff, false_and, and_false, and_self, reduceCtorEq, Nat.reduceAdd, h16, q_in (show pn s < 6 by omega), q_in (show c < 24 by omega), q_clamp (show pn s < 100000 by omega), q_clamp (show c < 100000 by omega), nI_1]
      · rw [if_pos (Int32.not_le.mp h5), if_neg h5]
        simp only [fs110_29, fs110_31, fs110_33, fs110_36, fs110_37, fj_OB, fj_AR, fj_CI, q_zo0, q_zo1, Option.toList_some, Option.toList_none, List.cons_append, List.nil_append, true_and, and_true, true_or, if_true, if_false, q_l10, q_l01, eq_self, Int32.reduceLT, Int32.reduceLE, Int32.reduceAdd, Int32.reduceSub, fj_up_at, Nat.reduceEqDiff, false_and, and_false, and_self, reduceCtorEq, Nat.reduceAdd, m9]
