/-! ===== the reference reads a text ===== -/
theorem q_l64 {x y : Int32} : (x.toInt64 < y.toInt64) = (x < y) := propext Int32.toInt64_lt
theorem lgc_lt (u v : Int64) : (lg_cmp u v < 0) = (u < v) := propext ⟨fun h => Int64.not_le.mp (fun z => absurd ((lg_cmp_ge u v).mpr z) (Int32.not_le.mpr h)), fun h => Int32.not_le.mp (fun z => absurd ((lg_cmp_ge u v).mp z) (Int64.not_le.mpr h))⟩
theorem lgc_gt (u v : Int64) : (0 < lg_cmp u v) = (v < u) := propext (lg_cmp_gt u v)
theorem m97 {x l h : Int32} {M : fj_HM} {P : fj_HP} {Q : fj_Po} : fj_H none 97 0 [.long x.toInt64, .double 0, .long l.toInt64, .double 0, .long h.toInt64, .double 0] [] M P 53 7835 Q = if x < l then Q (some (.int 0)) M P 53 7835 else if h < x then Q (some (.int 0)) M P 53 7835 else Q (some (.int 1)) M P 53 7835 := by
  have a1 : (lg_cmp x.toInt64 l.toInt64 < 0) = (x < l) := (lgc_lt _ _).trans q_l64
  have a2 : (0 < lg_cmp x.toInt64 h.toInt64) = (h < x) := (lgc_gt _ _).trans q_l64
  simp only [fs97_0, fs97_1, fs97_2, fs97_3, fj_OB, fj_AR, fj_CI, q_zo0, q_zo1, Option.toList_some, Option.toList_none, List.cons_append, List.nil_append, true_and, and_true, true_or, if_true, if_false, q_l10, q_l01, eq_self, Int32.reduceLT, Int32.reduceLE, Int32.reduceAdd, Int32.reduceSub, fj_up_at, Nat.reduceEqDiff, false_and, and_false, and_self, reduceCtorEq, Nat.reduceAdd, a1]
  by_cases h1 : x < l
  · rw [if_pos h1, if_pos h1]
    simp only [fs97_17, fs97_18, fj_OB, fj_AR, fj_CI, q_zo0, q_zo1, Option.toList_some, Option.toList_none, List.cons_append, List.nil_append, true_and, and_true, true_or, if_true, if_false, q_l10, q_l01, eq_self, Int32.reduceLT, Int32.reduceLE, Int32.reduceAdd, Int32.reduceSub, fj_up_at, Nat.reduceEqDiff, false_and, and_false, and_self, reduceCtorEq, Nat.reduceAdd]
  · rw [if_neg h1, if_neg h1]
    simp only [fs97_6, fs97_7, fs97_9, fs97_10, fj_OB, fj_AR, fj_CI, q_zo0, q_zo1, Option.toList_some, Option.toList_none, List.cons_append, List.nil_append, true_and, and_true, true_or, if_true, if_false, q_l10, q_l01, eq_self, Int32.reduceLT, Int32.reduceLE, Int32.reduceAdd, Int32.reduceSub, fj_up_at, Nat.reduceEqDiff, false_and, and_false, and_self, reduceCtorEq, Nat.reduceAdd, a2]
    by_cases h2 : h < x
    · rw [if_pos h2, if_pos h2]
      simp only [fs97_17, fs97_18, fj_OB, fj_AR, fj_CI, q_zo0, q_zo1, Option.toList_some, Option.toList_none, List.cons_append, List.nil_append, true_and, and_true, true_or, if_true, if_false, q_l10, q_l01, eq_self, Int32.reduceLT, Int32.reduceLE, Int32.reduceAdd, Int32.reduceSub, fj_up_at, Nat.reduceEqDiff, false_and, and_false, and_self, reduceCtorEq, Nat.reduceAdd]
    · rw [if_neg h2, if_neg h2]
      simp only [fs97_13, fs97_14, fs97_18, fj_OB, fj_AR, fj_CI, q_zo0, q_zo1, Option.toList_some, Option.toList_none, List.cons_append, List.nil_append, true_and, and_true, true_or, if_true, if_false, q_l10, q_l01, eq_self, Int32.reduceLT, Int32.reduceLE, Int32.reduceAdd, Int32.reduceSub, fj_up_at, Nat.reduceEqDiff, false_and, and_false, and_self, reduceCtorEq, Nat.reduceAdd]
/-- the reference's codes: beyond the end, what no text has -/
def gM (M : fj_HM) (a n p : Nat) : Int32 := if p < n then M 51 (a + p) else -9
theorem m108 {t : Bool} {M : fj_HM} {a n p : Nat} (hn : a + n ≤ 240) (hp : p < 100000) (h13 : M 33 13 = nI p) {Q : fj_Po} : fj_H none 108 0 [.ref 33, .int (nI a), .int (nI n)] [] M (fj_PY t) 53 7835 Q = Q (some (.int (gM M a n p))) M (fj_PY t) 53 7835 := by
  simp only [fs108_0, fs108_1, fs108_4, fs108_5, fj_PV t, fj_OB, fj_AR, fj_CI, q_zo0, q_zo1, Option.toList_some, Option.toList_none, List.cons_append, List.nil_append, true_and, and_true, true_or, if_true, if_false, q_l10, q_l01, eq_self, Int32.reduceLT, Int32.reduceLE, Int32.reduceAdd, Int32.reduceSub, fj_up_at, Nat.reduceEqDiff, false_and, and_false, and_self, reduceCtorEq, Nat.reduceAdd, h13, q_le (show n < 100000 by omega) hp]
  by_cases h : n ≤ p
  · rw [if_pos h]
    simp only [fs108_22, fs108_24, fj_OB, fj_AR, fj_CI, q_zo0, q_zo1, Option.toList_some, Option.toList_none, List.cons_append, List.nil_append, true_and, and_true, true_or, if_true, if_false, q_l10, q_l01, eq_self, Int32.reduceLT, Int32.reduceLE, Int32.reduceAdd, Int32.reduceSub, fj_up_at, Nat.reduceEqDiff, false_and, and_false, and_self, reduceCtorEq, Nat.reduceAdd, gM, if_neg (show ¬ p < n by omega)]
  · rw [if_neg h]
    simp only [fs108_8, fs108_9, fs108_12, fs108_13, fs108_14, fs108_17, fs108_18, fs108_19, fs108_24, fj_PV t, fj_OB, fj_AR, fj_CI, q_zo0, q_zo1, Option.toList_some, Option.toList_none, List.cons_append, List.nil_append, true_and, and_true, true_or, if_true, if_false, q_l10, q_l01, eq_self, Int32.reduceLT, Int32.reduceLE, Int32.reduceAdd, Int32.reduceSub, fj_up_at, Nat.reduceEqDiff, false_and, and_false, and_self, reduceCtorEq, Nat.reduceAdd, h13, nI_add, q_in (show a + p < 240 by omega), q_clamp (show a + p < 100000 by omega), gM, if_pos (show p < n by omega)]
