/-! ===== the reference reads a whole text ===== -/
/-- as fj_RF, but the high and the wide change, too -/
def fj_RG (M M' : fj_HM) : Prop := (∀ o', o' ≠ 33 → (o' < 39 ∨ 43 < o') → M' o' = M o') ∧ ∀ k, (k < 13 ∨ 17 < k) → M' 33 k = M 33 k
theorem fj_RG_u {M M1 : fj_HM} {o k : Nat} {v : Int32} (ho : o = 33 ∧ 13 ≤ k ∧ k ≤ 17) (h : fj_RG M M1) : fj_RG M (fj_up M1 o k v) :=
  ⟨fun o' a b => by rw [← h.1 o' a b]; funext j; rw [fj_up_at, if_neg (by omega)], fun k' a => by rw [← h.2 k' a, fj_up_at, if_neg (by omega)]⟩
theorem fj_RG_t {M M1 M2 : fj_HM} (h : fj_RG M M1) (h2 : fj_RF M1 M2) : fj_RG M M2 := ⟨fun o a b => (h2.1 o a b).trans (h.1 o a b), fun k a => (h2.2 k (by omega) (by omega) (by omega)).trans (h.2 k a)⟩
theorem m112 {t : Bool} {M : fj_HM} {a n : Nat} (hn : a + n ≤ 240) {Q : fj_Po}
  (hF : ∀ M' f, fj_RG M M' → pAll (gM M a n) n = .inl f → M' 33 13 = nI f → Q (some (.int 0)) M' (fj_PY t) 53 7835)
  (hG : ∀ M' h w s, fj_RG M M' → pAll (gM M a n) n = .inr (pYd h w s) → 1 ≤ h → h ≤ 4 → 2 ≤ w → w ≤ 6 → M' 33 14 = nI h → M' 33 15 = nI w → fj_PR M' (h * w) s → pOk (h * w) s → Q (some (.int 1)) M' (fj_PY t) 53 7835) :
  fj_H none 112 0 [.ref 33, .int (nI a), .int (nI n), .null, .null] [] M (fj_PY t) 53 7835 Q := by
  have n9 : ((0 : Int32) < -9) = False := eq_false (by decide)
  have n9' : (-9 : Int32) ≤ 0 := by decide
  have rM : fj_RG M M := ⟨fun _ _ _ => rfl, fun _ _ => rfl⟩
  have m51 : ∀ M', fj_RG M M' → ∀ p, gM M' a n p = gM M a n p := fun M' r p => by unfold gM; rw [r.1 51 (by decide) (by decide)]
  have r0 : fj_RG M (fj_up (fj_up (fj_up M 33 13 0) 33 16 0) 33 17 0) := fj_RG_u (by decide) (fj_RG_u (by decide) (fj_RG_u (by decide) rM))
  have e0 : fj_up (fj_up (fj_up M 33 13 0) 33 16 0) 33 17 0 33 13 = nI 0 := rfl
  simp only [fs112_0, fs112_1, fs112_2, fs112_5, fs112_6, fs112_7, fs112_10, fs112_11, fs112_12, fs112_15, fs112_16, fs112_17, fs112_18, fj_PV t, fj_OB, fj_AR, fj_CI, q_zo0, q_zo1, Option.toList_some, Option.toList_none, List.cons_append, List.nil_append, true_and, and_true, true_or, if_true, if_false, q_l10, q_l01, eq_self, Int32.reduceLT, Int32.reduceLE, Int32.reduceAdd, Int32.reduceSub, fj_up_at, Nat.reduceEqDiff, false_and, and_false, and_self, reduceCtorEq, Nat.reduceAdd, m108 hn (show 0 < 100000 by decide) e0, m51 _ r0]
  generalize hM0 : fj_up (fj_up (fj_up M 33 13 0) 33 16 0) 33 17 0 = M0 at *
  have z16 : M0 33 16 = 0 := by rw [← hM0]; rfl
  have z17 : M0 33 17 = 0 := by rw [← hM0]; rfl
  simp only [fs112_21, fs112_23, fj_OB, fj_AR, fj_CI, q_zo0, q_zo1, Option.toList_some, Option.toList_none, List.cons_append, List.nil_append, true_and, and_true, true_or, if_true, if_false, q_l10, q_l01, eq_self, Int32.reduceLT, Int32.reduceLE, Int32.reduceAdd, Int32.reduceSub, fj_up_at, Nat.reduceEqDiff, false_and, and_false, and_self, reduceCtorEq, Nat.reduceAdd]
  by_cases hy : gM M a n 0 = 121
  · rw [if_pos hy]
    have e1 : fj_up M0 33 13 1 33 13 = nI 1 := rfl
    have r1 : fj_RG M (fj_up M0 33 13 1) := fj_RG_u (by decide) r0
    simp only [fs112_26, fs112_27, fs112_31, fs112_32, fs112_33, fs112_33i, fs112_34, fs112_37, fs112_38, fs112_41, fs112_42, fs112_46, fs112_47, fs112_50, fs112_51, fs112_52, fs112_55, fs112_56, fs112_57, fs112_58, fs112_59, fs112_60, fj_PV t, fj_OB, fj_AR, fj_CI, q_zo0, q_zo1, Option.toList_some, Option.toList_none, List.cons_append, List.nil_append, true_and, and_true, true_or, if_true, if_false, q_l10, q_l01, eq_self, Int32.reduceLT, Int32.reduceLE, Int32.reduceAdd, Int32.reduceSub, fj_up_at, Nat.reduceEqDiff, false_and, and_false, and_self, reduceCtorEq, Nat.reduceAdd, e0, Int32.zero_add, m109 hn (show 1 < 10000 by decide) e1, m51 _ r1]
    sorry
  · rw [if_neg hy]
    simp only [fs112_30, fs112_31, fs112_32, fs112_33, fs112_33i, fs112_34, fs112_37, fs112_38, fs112_45, fs112_46, fs112_47, fs112_50, fs112_51, fs112_52, fs112_66, fs112_68, fs112_71, fs112_72, fs112_73, fs112_76, fs112_91, fs112_93, fs112_96, fs112_97, fs112_100, fs112_107, fs112_108, fs112_109, fs112_110, fj_PV t, fj_OB, fj_AR, fj_CI, q_zo0, q_zo1, Option.toList_some, Option.toList_none, List.cons_append, List.nil_append, true_and, and_true, true_or, if_true, if_false, q_l10, q_l01, eq_self, Int32.reduceLT, Int32.reduceLE, Int32.reduceAdd, Int32.reduceSub, fj_up_at, Nat.reduceEqDiff, false_and, and_false, and_self, reduceCtorEq, Nat.reduceAdd, e0, n9', if_pos n9', Int32.add_zero]
    rw [fs112_112]
    simp only [fs112_113, fs112_145, fs112_146, fs112_161, fs112_162, fj_OB, fj_AR, fj_CI, q_zo0, q_zo1, Option.toList_some, Option.toList_none, List.cons_append, List.nil_append, true_and, and_true, true_or, if_true, if_false, q_l10, q_l01, eq_self, Int32.reduceLT, Int32.reduceLE, Int32.reduceAdd, Int32.reduceSub, fj_up_at, Nat.reduceEqDiff, false_and, and_false, and_self, reduceCtorEq, Nat.reduceAdd]
    refine hF _ 0 (fj_RG_u (by decide) (fj_RG_u (by decide) (fj_RG_u (by decide) r0))) (by unfold pAll; rw [if_neg hy]) ?_
    simp only [fj_up_at]
    rfl
