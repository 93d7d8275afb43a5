/-! ===== pairs: parts, and what was heard ===== -/
theorem fj_up_up {M : fj_HM} {o k : Nat} {a b : Int32} : fj_up (fj_up M o k a) o k b = fj_up M o k b := by
  funext x y
  rw [fj_up_at, fj_up_at, fj_up_at]
  by_cases e : x = o ∧ y = k
  · rw [if_pos e, if_pos e]
  · rw [if_neg e, if_neg e, if_neg e]
theorem m90 {t : Bool} {M : fj_HM} {v : Int32} {Q : fj_Po} : fj_H none 90 0 [.ref 0, .int v] [] M (fj_PY t) 53 7835 Q = Q none (fj_up M 0 8 (31 * M 0 8 + v)) (fj_PY t) 53 7835 := by
  simp only [fs90_0, fs90_1, fs90_3, fs90_4, fs90_7, fs90_8, fs90_9, fs90_10, fs90_13, fj_PV t, fj_OB, fj_AR, fj_CI, q_zo0, q_zo1, Option.toList_some, Option.toList_none, List.cons_append, List.nil_append, true_and, and_true, true_or, if_true, if_false, q_l10, q_l01, eq_self, Int32.reduceLT, Int32.reduceLE, Int32.reduceAdd, Int32.reduceSub, fj_up_at, Nat.reduceEqDiff, false_and, and_false, and_self, reduceCtorEq, Nat.reduceAdd]
theorem m156 {t : Bool} {M : fj_HM} {v : Int32} {Q : fj_Po} : fj_H none 156 0 [.ref 33, .int v] [] M (fj_PY t) 53 7835 Q = Q none (fj_up M 33 40 (31 * M 33 40 + v)) (fj_PY t) 53 7835 := by
  simp only [fs156_0, fs156_1, fs156_3, fs156_4, fs156_7, fs156_8, fs156_9, fs156_10, fs156_13, fj_PV t, fj_OB, fj_AR, fj_CI, q_zo0, q_zo1, Option.toList_some, Option.toList_none, List.cons_append, List.nil_append, true_and, and_true, true_or, if_true, if_false, q_l10, q_l01, eq_self, Int32.reduceLT, Int32.reduceLE, Int32.reduceAdd, Int32.reduceSub, fj_up_at, Nat.reduceEqDiff, false_and, and_false, and_self, reduceCtorEq, Nat.reduceAdd]
theorem m95 {t : Bool} {M : fj_HM} {v : Int32} {Q : fj_Po} : fj_H none 95 0 [.ref 0, .int v] [] M (fj_PY t) 53 7835 Q = Q (some (.int (-10 - v))) (fj_up M 0 9 v) (fj_PY t) 53 7835 := by
  simp only [fs95_0, fs95_1, fs95_2, fs95_5, fs95_7, fs95_8, fs95_9, fj_PV t, fj_OB, fj_AR, fj_CI, q_zo0, q_zo1, Option.toList_some, Option.toList_none, List.cons_append, List.nil_append, true_and, and_true, true_or, if_true, if_false, q_l10, q_l01, eq_self, Int32.reduceLT, Int32.reduceLE, Int32.reduceAdd, Int32.reduceSub, fj_up_at, Nat.reduceEqDiff, false_and, and_false, and_self, reduceCtorEq, Nat.reduceAdd]
/-- a trace, left by both -/
theorem fj_In_t {t : Bool} {M : fj_HM} {A : fj_Yd} {R : fj_Rd} (h : fj_In t M A R) {a b : Int32} (e : a = b) : fj_In t (fj_up (fj_up M 0 8 a) 33 40 b) A R := by
  subst e
  refine fj_In_fr h (fun o ho => by (funext j; simp only [fj_up_at]; repeat (rw [if_neg (by omega)]))) ?_ ?_ (fun k hk => ?_)
  · rfl
  · simp only [fj_up_at]
    exact h.2.2.2.2.2.2.2.2.2
  · (simp only [fj_up_at]; repeat (first | rw [if_neg (by omega)] | rw [if_pos (by omega)]))
theorem m86 {t : Bool} {M : fj_HM} {m : Nat} (hm : m < 6) {Q : fj_Po} : fj_H none 86 0 [.ref 0, .int (nI m)] [] M (fj_PY t) 53 7835 Q = Q (some (.int (M (yo t + 3) m))) (fj_up M 0 8 (31 * M 0 8 + 1)) (fj_PY t) 53 7835 := by
  have hy := yo_or t
  have n0 : ¬ (yo t + 3 = 0) := by omega
  simp only [fs86_0, fs86_1, fs86_2, fs86_5, fs86_6, fs86_9, fs86_12, fs86_13, fs86_14, m90, fj_PV t, fj_YO (yo_or t) t, fj_OB, fj_AR, fj_CI, q_zo0, q_zo1, Option.toList_some, Option.toList_none, List.cons_append, List.nil_append, true_and, and_true, true_or, if_true, if_false, q_l10, q_l01, eq_self, Int32.reduceLT, Int32.reduceLE, Int32.reduceAdd, Int32.reduceSub, fj_up_at, Nat.reduceEqDiff, false_and, and_false, and_self, reduceCtorEq, Nat.reduceAdd, n0, q_in hm, q_clamp (show m < 100000 by omega)]
theorem m87 {t : Bool} {M : fj_HM} {m : Nat} (hm : m < 6) {Q : fj_Po} : fj_H none 87 0 [.ref 0, .int (nI m)] [] M (fj_PY t) 53 7835 Q = Q (some (.int (M (yo t + 3) m + 100))) (fj_up M 0 8 (31 * (31 * M 0 8 + 2) + 1)) (fj_PY t) 53 7835 := by
  have hy := yo_or t
  have n0 : ¬ (yo t + 3 = 0) := by omega
  simp only [fs87_0, fs87_1, fs87_2, fs87_5, fs87_6, fs87_7, fs87_10, fs87_12, fs87_13, m90, m86 hm, fj_PV t, fj_YO (yo_or t) t, fj_OB, fj_AR, fj_CI, q_zo0, q_zo1, Option.toList_some, Option.toList_none, List.cons_append, List.nil_append, true_and, and_true, true_or, if_true, if_false, q_l10, q_l01, eq_self, Int32.reduceLT, Int32.reduceLE, Int32.reduceAdd, Int32.reduceSub, fj_up_at, Nat.reduceEqDiff, false_and, and_false, and_self, reduceCtorEq, Nat.reduceAdd, n0, fj_up_up]
theorem m88 {t : Bool} {M : fj_HM} {m : Nat} (hm : m < 6) {Q : fj_Po} : fj_H none 88 0 [.ref 0, .int (nI m), .null] [] M (fj_PY t) 53 7835 Q = Q (some (.int (M (yo t + 3) m + 100 + M (yo t + 3) m))) (fj_up M 0 8 (31 * (31 * (31 * (31 * M 0 8 + 3) + 2) + 1) + 1)) (fj_PY t) 53 7835 := by
  have hy := yo_or t
  have n0 : ¬ (yo t + 3 = 0) := by omega
  simp only [fs88_0, fs88_1, fs88_2, fs88_5, fs88_6, fs88_7, fs88_10, fs88_11, fs88_12, fs88_13, fs88_14, fs88_17, fs88_18, m90, m86 hm, m87 hm, fj_PV t, fj_YO (yo_or t) t, fj_OB, fj_AR, fj_CI, q_zo0, q_zo1, Option.toList_some, Option.toList_none, List.cons_append, List.nil_append, true_and, and_true, true_or, if_true, if_false, q_l10, q_l01, eq_self, Int32.reduceLT, Int32.reduceLE, Int32.reduceAdd, Int32.reduceSub, fj_up_at, Nat.reduceEqDiff, false_and, and_false, and_self, reduceCtorEq, Nat.reduceAdd, n0, fj_up_up]
theorem pr_tell {t : Bool} {M : fj_HM} (h : fj_Iv t M) (v : Int32) : fj_pr isI t M 85 [.ref 0, .int v] 157 [.ref 33, .int v, .null, .null] := by
  obtain ⟨A, R, h⟩ := h
  obtain ⟨hV, hC, hM, -, -, -, -, -, e8, -⟩ := id h
  have hn := yn_le hV
  have h4 := hM.2.2.1
  have hy := yo_or t
  have h4' : ∀ x : Int32, fj_up M 0 8 x 33 4 = nI (yn A) := fun x => h4
  unfold fj_pr
  rcases q_place (n := yn A) (by omega) v with e | ⟨e, e'⟩ | ⟨m, hm, rfl, e, e'⟩
  · simp only [fs85_0, fs85_1, fs85_4, fs85_5, fs85_8, fs85_11, fs85_12, fs157_0, fs157_1, fs157_2, fs157_5, fs157_8, fs157_9, m42 (yo_or t), m106 (show yn A < 100000 by omega) h4, fj_PV t, fj_YO (yo_or t) t, fj_OB, fj_AR, fj_CI, q_zo0, q_zo1, Option.toList_some, Option.toList_none, List.cons_append, List.nil_append, true_and, and_true, true_or, if_true, if_false, q_l10, q_l01, eq_self, Int32.reduceLT, Int32.reduceLE, Int32.reduceAdd, Int32.reduceSub, fj_up_at, Nat.reduceEqDiff, false_and, and_false, and_self, reduceCtorEq, Nat.reduceAdd, hC.2.1, e]
    exact fj_fin_i h _
  · simp only [fs85_0, fs85_1, fs85_4, fs85_5, fs85_8, fs85_11, fs85_12, fs157_0, fs157_1, fs157_2, fs157_5, fs157_8, fs157_9, m42 (yo_or t), m106 (show yn A < 100000 by omega) h4, fj_PV t, fj_YO (yo_or t) t, fj_OB, fj_AR, fj_CI, q_zo0, q_zo1, Option.toList_some, Option.toList_none, List.cons_append, List.nil_append, true_and, and_true, true_or, if_true, if_false, q_l10, q_l01, eq_self, Int32.reduceLT, Int32.reduceLE, Int32.reduceAdd, Int32.reduceSub, fj_up_at, Nat.reduceEqDiff, false_and, and_false, and_self, reduceCtorEq, Nat.reduceAdd, hC.2.1, e, e']
    exact fj_fin_i h _
  · obtain ⟨b1, b2, b3⟩ := hC.2.2.2.2.2.2.2.1 m hm
    obtain ⟨d1, d2, d3⟩ := hM.2.2.2.2.2.2.2.2.1 m hm
    have hkd := ym_kd hV hm
    have hm6 : m < 6 := by omega
    have l1 : ((0 : Int32) ≤ 0) = True := eq_true (by decide)
    have l2 : ((1 : Int32) ≤ 0) = False := eq_false (by decide)
    have l3 : ((2 : Int32) ≤ 0) = False := eq_false (by decide)
    have l12 : ((1 : Int32) = 2) = False := eq_false (by decide)
    have l02 : ((0 : Int32) = 2) = False := eq_false (by decide)
    rcases (show ykd A m = 0 ∨ ykd A m = 1 ∨ ykd A m = 2 by omega) with k | k | k
    · rw [k, show nI 0 = 0 from rfl] at b1 d1
      simp only [fs85_0, fs85_1, fs85_4, fs85_5, fs85_8, fs85_11, fs85_12, fs85_13, fs85_14, fs85_17, fs85_20, fs85_21, fs85_22, fs85_48, fs85_49, fs85_50, fs85_53, fs85_54, fs85_55, fs85_56, fs85_59, fs85_60, fs85_61, fs85_62, fs85_65, fs157_0, fs157_1, fs157_2, fs157_5, fs157_8, fs157_9, fs157_10, fs157_11, fs157_14, fs157_15, fs157_16, fs157_17, fs157_18, fs157_19, fs157_22, fs157_23, fs157_24, fs157_27, fs157_28, fs157_31, fs157_32, fs157_33, fs157_36, fs157_37, fs157_38, fs157_41, fs157_42, fs157_43, fs157_46, fs157_47, fs157_48, fs157_51, fs157_52, fs157_55, fs157_56, fs157_57, fs157_58, fs157_59, fs157_62, fs157_63, fs157_66, fs157_67, fs157_68, fs157_71, fs157_72, fs157_74, fs157_75, fs157_78, fs157_79, fs157_80, fs157_81, fs157_83, fs157_84, m42 (yo_or t), m106 (show yn A < 100000 by omega) (h4' _), m86 hm6, m156, fj_PV t, fj_YO (yo_or t) t, fj_OB, fj_AR, fj_CI, q_zo0, q_zo1, Option.toList_some, Option.toList_none, List.cons_append, List.nil_append, true_and, and_true, true_or, if_true, if_false, q_l10, q_l01, eq_self, Int32.reduceLT, Int32.reduceLE, Int32.reduceAdd, Int32.reduceSub, fj_up_at, Nat.reduceEqDiff, false_and, and_false, and_self, reduceCtorEq, Nat.reduceAdd, q_ll, l1, l02, hC.2.1, e, e', q_in hm6, q_clamp (show m < 100000 by omega), b1, d1, b2, d2]
      exact fj_fin_i (fj_In_t h (by rw [e8])) _
    · rw [k, show nI 1 = 1 from rfl] at b1 d1
      simp only [fs85_0, fs85_1, fs85_4, fs85_5, fs85_8, fs85_11, fs85_12, fs85_13, fs85_14, fs85_17, fs85_20, fs85_21, fs85_22, fs85_48, fs85_49, fs85_50, fs85_53, fs85_54, fs85_55, fs85_56, fs85_59, fs85_60, fs85_61, fs85_62, fs85_65, fs157_0, fs157_1, fs157_2, fs157_5, fs157_8, fs157_9, fs157_10, fs157_11, fs157_14, fs157_15, fs157_16, fs157_17, fs157_18, fs157_19, fs157_22, fs157_23, fs157_24, fs157_27, fs157_28, fs157_31, fs157_32, fs157_33, fs157_36, fs157_37, fs157_38, fs157_41, fs157_42, fs157_43, fs157_46, fs157_47, fs157_48, fs157_51, fs157_52, fs157_55, fs157_56, fs157_57, fs157_58, fs157_59, fs157_62, fs157_63, fs157_66, fs157_67, fs157_68, fs157_71, fs157_72, fs157_74, fs157_75, fs157_78, fs157_79, fs157_80, fs157_81, fs157_83, fs157_84, m42 (yo_or t), m106 (show yn A < 100000 by omega) (h4' _), m87 hm6, m156, fj_PV t, fj_YO (yo_or t) t, fj_OB, fj_AR, fj_CI, q_zo0, q_zo1, Option.toList_some, Option.toList_none, List.cons_append, List.nil_append, true_and, and_true, true_or, if_true, if_false, q_l10, q_l01, eq_self, Int32.reduceLT, Int32.reduceLE, Int32.reduceAdd, Int32.reduceSub, fj_up_at, Nat.reduceEqDiff, false_and, and_false, and_self, reduceCtorEq, Nat.reduceAdd, q_ll, l2, l12, hC.2.1, e, e', q_in hm6, q_clamp (show m < 100000 by omega), b1, d1, b2, d2, fj_up_up]
      exact fj_fin_i (fj_In_t h (by rw [e8])) _
    · rw [k, show nI 2 = 2 from rfl] at b1 d1
      have er : ∀ x : Nat, nI x + 100 + nI x = 2 * nI x + 100 := fun x => by
        rw [show (100 : Int32) = nI 100 from rfl, show (2 : Int32) = nI 2 from rfl, nI_add, nI_add, q_mul, nI_add]
        congr 1
        omega
      simp only [fs85_0, fs85_1, fs85_4, fs85_5, fs85_8, fs85_11, fs85_12, fs85_13, fs85_14, fs85_17, fs85_20, fs85_21, fs85_22, fs85_48, fs85_49, fs85_50, fs85_53, fs85_54, fs85_55, fs85_56, fs85_59, fs85_60, fs85_61, fs85_62, fs85_65, fs157_0, fs157_1, fs157_2, fs157_5, fs157_8, fs157_9, fs157_10, fs157_11, fs157_14, fs157_15, fs157_16, fs157_17, fs157_18, fs157_19, fs157_22, fs157_23, fs157_24, fs157_27, fs157_28, fs157_31, fs157_32, fs157_33, fs157_36, fs157_37, fs157_38, fs157_41, fs157_42, fs157_43, fs157_46, fs157_47, fs157_48, fs157_51, fs157_52, fs157_55, fs157_56, fs157_57, fs157_58, fs157_59, fs157_62, fs157_63, fs157_66, fs157_67, fs157_68, fs157_71, fs157_72, fs157_74, fs157_75, fs157_78, fs157_79, fs157_80, fs157_81, fs157_83, fs157_84, m42 (yo_or t), m106 (show yn A < 100000 by omega) (h4' _), m88 hm6, m156, fj_PV t, fj_YO (yo_or t) t, fj_OB, fj_AR, fj_CI, q_zo0, q_zo1, Option.toList_some, Option.toList_none, List.cons_append, List.nil_append, true_and, and_true, true_or, if_true, if_false, q_l10, q_l01, eq_self, Int32.reduceLT, Int32.reduceLE, Int32.reduceAdd, Int32.reduceSub, fj_up_at, Nat.reduceEqDiff, false_and, and_false, and_self, reduceCtorEq, Nat.reduceAdd, q_ll, l3, hC.2.1, e, e', q_in hm6, q_clamp (show m < 100000 by omega), b1, d1, b2, d2, fj_up_up, er]
      exact fj_fin_i (fj_In_t h (by rw [e8])) _
theorem pr_ask {t : Bool} {M : fj_HM} (h : fj_Iv t M) (v : Int32) : fj_pr isI t M 89 [.ref 0, .int v] 158 [.ref 33, .int v] := by
  obtain ⟨A, R, h⟩ := h
  obtain ⟨hV, hC, hM, -, -, -, -, -, e8, -⟩ := id h
  have hn := yn_le hV
  have h4 := hM.2.2.1
  have hy := yo_or t
  have h4' : ∀ x : Int32, fj_up M 0 8 x 33 4 = nI (yn A) := fun x => h4
  unfold fj_pr
  rcases q_place (n := yn A) (by omega) v with e | ⟨e, e'⟩ | ⟨m, hm, rfl, e, e'⟩
  · simp only [fs89_0, fs89_1, fs89_4, fs89_5, fs89_8, fs89_11, fs89_12, fs158_0, fs158_1, fs158_2, fs158_5, fs158_8, fs158_9, m42 (yo_or t), m106 (show yn A < 100000 by omega) h4, fj_PV t, fj_YO (yo_or t) t, fj_OB, fj_AR, fj_CI, q_zo0, q_zo1, Option.toList_some, Option.toList_none, List.cons_append, List.nil_append, true_and, and_true, true_or, if_true, if_false, q_l10, q_l01, eq_self, Int32.reduceLT, Int32.reduceLE, Int32.reduceAdd, Int32.reduceSub, fj_up_at, Nat.reduceEqDiff, false_and, and_false, and_self, reduceCtorEq, Nat.reduceAdd, hC.2.1, e]
    exact fj_fin_i h _
  · simp only [fs89_0, fs89_1, fs89_4, fs89_5, fs89_8, fs89_11, fs89_12, fs158_0, fs158_1, fs158_2, fs158_5, fs158_8, fs158_9, m42 (yo_or t), m106 (show yn A < 100000 by omega) h4, fj_PV t, fj_YO (yo_or t) t, fj_OB, fj_AR, fj_CI, q_zo0, q_zo1, Option.toList_some, Option.toList_none, List.cons_append, List.nil_append, true_and, and_true, true_or, if_true, if_false, q_l10, q_l01, eq_self, Int32.reduceLT, Int32.reduceLE, Int32.reduceAdd, Int32.reduceSub, fj_up_at, Nat.reduceEqDiff, false_and, and_false, and_self, reduceCtorEq, Nat.reduceAdd, hC.2.1, e, e']
    exact fj_fin_i h _
  · obtain ⟨b1, b2, b3⟩ := hC.2.2.2.2.2.2.2.1 m hm
    obtain ⟨d1, d2, d3⟩ := hM.2.2.2.2.2.2.2.2.1 m hm
    have hkd := ym_kd hV hm
    have hm6 : m < 6 := by omega
    have e2 : (nI (ykd A m) = 2) = (ykd A m = 2) := by rw [show (2 : Int32) = nI 2 from rfl]; exact q_eq (by omega) (by decide)
    by_cases k : ykd A m = 2
    · simp only [fs89_0, fs89_1, fs89_4, fs89_5, fs89_8, fs89_11, fs89_12, fs89_13, fs89_14, fs89_17, fs89_20, fs89_21, fs89_22, fs89_23, fs89_26, fs89_27, fs89_28, fs89_31, fs89_33, fs89_34, fs89_35, fs89_36, fs89_39, fs89_40, fs158_0, fs158_1, fs158_2, fs158_5, fs158_8, fs158_9, fs158_10, fs158_11, fs158_12, fs158_15, fs158_16, fs158_17, fs158_18, fs158_21, fs158_22, fs158_25, fs158_26, fs158_29, fs158_30, fs158_33, fs158_34, fs158_35, fs158_36, fs158_39, fs158_41, fs158_44, fs158_45, m42 (yo_or t), m106 (show yn A < 100000 by omega) (h4' _), m90, m156, fj_PV t, fj_YO (yo_or t) t, fj_OB, fj_AR, fj_CI, q_zo0, q_zo1, Option.toList_some, Option.toList_none, List.cons_append, List.nil_append, true_and, and_true, true_or, if_true, if_false, q_l10, q_l01, eq_self, Int32.reduceLT, Int32.reduceLE, Int32.reduceAdd, Int32.reduceSub, fj_up_at, Nat.reduceEqDiff, false_and, and_false, and_self, reduceCtorEq, Nat.reduceAdd, hC.2.1, e, e', q_in hm6, q_clamp (show m < 100000 by omega), b1, d1, e2, k]
      exact fj_fin_i (fj_In_t h (by rw [e8])) _
    · simp only [fs89_0, fs89_1, fs89_4, fs89_5, fs89_8, fs89_11, fs89_12, fs89_13, fs89_14, fs89_17, fs89_20, fs89_21, fs89_22, fs89_23, fs89_26, fs89_27, fs89_28, fs89_31, fs89_33, fs89_34, fs89_35, fs89_36, fs89_39, fs89_40, fs158_0, fs158_1, fs158_2, fs158_5, fs158_8, fs158_9, fs158_10, fs158_11, fs158_12, fs158_15, fs158_16, fs158_17, fs158_18, fs158_21, fs158_22, fs158_25, fs158_26, fs158_29, fs158_30, fs158_33, fs158_34, fs158_35, fs158_36, fs158_39, fs158_41, fs158_44, fs158_45, m42 (yo_or t), m106 (show yn A < 100000 by omega) (h4' _), m90, m156, fj_PV t, fj_YO (yo_or t) t, fj_OB, fj_AR, fj_CI, q_zo0, q_zo1, Option.toList_some, Option.toList_none, List.cons_append, List.nil_append, true_and, and_true, true_or, if_true, if_false, q_l10, q_l01, eq_self, Int32.reduceLT, Int32.reduceLE, Int32.reduceAdd, Int32.reduceSub, fj_up_at, Nat.reduceEqDiff, false_and, and_false, and_self, reduceCtorEq, Nat.reduceAdd, hC.2.1, e, e', q_in hm6, q_clamp (show m < 100000 by omega), b1, d1, e2, k]
      exact fj_fin_i (fj_In_t h (by rw [e8])) _
theorem pr_as {t : Bool} {M : fj_HM} (h : fj_Iv t M) (v w : Int32) : fj_pr isI t M 91 [.ref 0, .int v, .int w] 159 [.ref 33, .int v, .int w] := by
  obtain ⟨A, R, h⟩ := h
  obtain ⟨hV, hC, hM, -⟩ := id h
  have hn := yn_le hV
  have h4 := hM.2.2.1
  have hy := yo_or t
  have hy0 : ¬ (yo t = 0) := by omega
  have hy2 : ¬ (yo t + 2 = 0) := by omega
  have h4' : ∀ x : Int32, fj_up M 0 9 x 33 4 = nI (yn A) := fun x => h4
  unfold fj_pr
  rcases q_place (n := yn A) (by omega) v with e | ⟨e, e'⟩ | ⟨m, hm, rfl, e, e'⟩
  · simp only [fs91_0, fs91_1, fs91_2, fs91_5, fs91_6, fs91_9, fs91_10, fs91_13, fs91_16, fs91_17, fs91_18, fs91_19, fs91_22, fs91_23, fs91_24, fs91_27, fs91_29, fs91_30, fs91_31, fs91_34, fs91_37, fs91_38, fs91_39, fs91_40, fs91_43, fs91_44, fs91_45, fs91_48, fs91_49, fs91_50, fs159_0, fs159_1, fs159_2, fs159_5, fs159_8, fs159_9, fs159_10, fs159_13, fs159_14, fs159_15, fs159_16, fs159_17, fs159_20, fs159_23, fs159_26, fs159_27, fs159_29, fs159_32, fs159_33, fs159_34, fs159_37, fs159_38, fs159_39, fs159_40, fs159_43, fs159_44, fs159_45, fs159_48, fs159_51, fs159_52, fs159_53, fs159_56, m42 (yo_or t), m102, m106 (show yn A < 100000 by omega) (h4' _), fj_PV t, fj_YO (yo_or t) t, fj_OB, fj_AR, fj_CI, q_zo0, q_zo1, Option.toList_some, Option.toList_none, List.cons_append, List.nil_append, true_and, and_true, true_or, if_true, if_false, q_l10, q_l01, eq_self, Int32.reduceLT, Int32.reduceLE, Int32.reduceAdd, Int32.reduceSub, fj_up_at, Nat.reduceEqDiff, false_and, and_false, and_self, reduceCtorEq, Nat.reduceAdd, hC.2.1, hy0, e]
    exact fj_fin_i (fj_In_f h _) _
  · simp only [fs91_0, fs91_1, fs91_2, fs91_5, fs91_6, fs91_9, fs91_10, fs91_13, fs91_16, fs91_17, fs91_18, fs91_19, fs91_22, fs91_23, fs91_24, fs91_27, fs91_29, fs91_30, fs91_31, fs91_34, fs91_37, fs91_38, fs91_39, fs91_40, fs91_43, fs91_44, fs91_45, fs91_48, fs91_49, fs91_50, fs159_0, fs159_1, fs159_2, fs159_5, fs159_8, fs159_9, fs159_10, fs159_13, fs159_14, fs159_15, fs159_16, fs159_17, fs159_20, fs159_23, fs159_26, fs159_27, fs159_29, fs159_32, fs159_33, fs159_34, fs159_37, fs159_38, fs159_39, fs159_40, fs159_43, fs159_44, fs159_45, fs159_48, fs159_51, fs159_52, fs159_53, fs159_56, m42 (yo_or t), m102, m106 (show yn A < 100000 by omega) (h4' _), fj_PV t, fj_YO (yo_or t) t, fj_OB, fj_AR, fj_CI, q_zo0, q_zo1, Option.toList_some, Option.toList_none, List.cons_append, List.nil_append, true_and, and_true, true_or, if_true, if_false, q_l10, q_l01, eq_self, Int32.reduceLT, Int32.reduceLE, Int32.reduceAdd, Int32.reduceSub, fj_up_at, Nat.reduceEqDiff, false_and, and_false, and_self, reduceCtorEq, Nat.reduceAdd, hC.2.1, hy0, e, e']
    exact fj_fin_i (fj_In_f h _) _
  · obtain ⟨b1, b2, b3⟩ := hC.2.2.2.2.2.2.2.1 m hm
    obtain ⟨d1, d2, d3⟩ := hM.2.2.2.2.2.2.2.2.1 m hm
    have hkd := ym_kd hV hm
    have hm6 : m < 6 := by omega
    rcases q_span 0 2 (by decide) (by decide) w with f | ⟨f, f', f''⟩ | ⟨k, k1, k2, rfl, f, f', f''⟩
    · rw [show nI 0 = 0 from rfl] at f
      simp only [fs91_0, fs91_1, fs91_2, fs91_5, fs91_6, fs91_9, fs91_10, fs91_13, fs91_16, fs91_17, fs91_18, fs91_19, fs91_22, fs91_23, fs91_24, fs91_27, fs91_29, fs91_43, fs91_44, fs91_45, fs91_48, fs91_49, fs91_50, fs159_0, fs159_1, fs159_2, fs159_5, fs159_8, fs159_9, fs159_10, fs159_13, fs159_14, fs159_15, fs159_16, fs159_17, fs159_20, fs159_23, fs159_26, fs159_27, fs159_29, fs159_32, fs159_43, fs159_44, fs159_45, fs159_48, fs159_51, fs159_52, fs159_53, fs159_56, m42 (yo_or t), m97c q_l0 k_l2, m102, m106 (show yn A < 100000 by omega) (h4' _), fj_PV t, fj_YO (yo_or t) t, fj_OB, fj_AR, fj_CI, q_zo0, q_zo1, Option.toList_some, Option.toList_none, List.cons_append, List.nil_append, true_and, and_true, true_or, if_true, if_false, q_l10, q_l01, eq_self, Int32.reduceLT, Int32.reduceLE, Int32.reduceAdd, Int32.reduceSub, fj_up_at, Nat.reduceEqDiff, false_and, and_false, and_self, reduceCtorEq, Nat.reduceAdd, hC.2.1, hy0, e, e', f]
      exact fj_fin_i (fj_In_f h _) _
    · rw [show nI 0 = 0 from rfl] at f
      rw [show nI 2 = 2 from rfl] at f' f''
      simp only [fs91_0, fs91_1, fs91_2, fs91_5, fs91_6, fs91_9, fs91_10, fs91_13, fs91_16, fs91_17, fs91_18, fs91_19, fs91_22, fs91_23, fs91_24, fs91_27, fs91_29, fs91_43, fs91_44, fs91_45, fs91_48, fs91_49, fs91_50, fs159_0, fs159_1, fs159_2, fs159_5, fs159_8, fs159_9, fs159_10, fs159_13, fs159_14, fs159_15, fs159_16, fs159_17, fs159_20, fs159_23, fs159_26, fs159_27, fs159_29, fs159_32, fs159_43, fs159_44, fs159_45, fs159_48, fs159_51, fs159_52, fs159_53, fs159_56, m42 (yo_or t), m97c q_l0 k_l2, m102, m106 (show yn A < 100000 by omega) (h4' _), fj_PV t, fj_YO (yo_or t) t, fj_OB, fj_AR, fj_CI, q_zo0, q_zo1, Option.toList_some, Option.toList_none, List.cons_append, List.nil_append, true_and, and_true, true_or, if_true, if_false, q_l10, q_l01, eq_self, Int32.reduceLT, Int32.reduceLE, Int32.reduceAdd, Int32.reduceSub, fj_up_at, Nat.reduceEqDiff, false_and, and_false, and_self, reduceCtorEq, Nat.reduceAdd, hC.2.1, hy0, e, e', f, f', f'']
      exact fj_fin_i (fj_In_f h _) _
    · rw [show nI 0 = 0 from rfl] at f
      rw [show nI 2 = 2 from rfl] at f' f''
      have g1 : (nI k ≤ nI (ykd A m)) = (k ≤ ykd A m) := q_le (by omega) (by omega)
      have g2 : (nI (ykd A m) < nI k) = (ykd A m < k) := q_lt (by omega) (by omega)
      by_cases hk : k ≤ ykd A m
      · simp only [fs91_0, fs91_1, fs91_2, fs91_5, fs91_6, fs91_9, fs91_10, fs91_13, fs91_16, fs91_17, fs91_18, fs91_19, fs91_22, fs91_23, fs91_24, fs91_27, fs91_29, fs91_30, fs91_31, fs91_34, fs91_37, fs91_38, fs91_39, fs91_40, fs91_43, fs91_44, fs91_45, fs91_48, fs91_49, fs91_50, fs159_0, fs159_1, fs159_2, fs159_5, fs159_8, fs159_9, fs159_10, fs159_13, fs159_14, fs159_15, fs159_16, fs159_17, fs159_20, fs159_23, fs159_26, fs159_27, fs159_29, fs159_32, fs159_33, fs159_34, fs159_37, fs159_38, fs159_39, fs159_40, fs159_43, fs159_44, fs159_45, fs159_48, fs159_51, fs159_52, fs159_53, fs159_56, m42 (yo_or t), m95, m97c q_l0 k_l2, m102, m103, m106 (show yn A < 100000 by omega) (h4' _), fj_PV t, fj_YO (yo_or t) t, fj_OB, fj_AR, fj_CI, q_zo0, q_zo1, Option.toList_some, Option.toList_none, List.cons_append, List.nil_append, true_and, and_true, true_or, if_true, if_false, q_l10, q_l01, eq_self, Int32.reduceLT, Int32.reduceLE, Int32.reduceAdd, Int32.reduceSub, fj_up_at, Nat.reduceEqDiff, false_and, and_false, and_self, reduceCtorEq, Nat.reduceAdd, hC.2.1, hy0, hy2, e, e', f, f', f'', q_in hm6, q_clamp (show m < 100000 by omega), b1, d1, g1, g2, eq_true hk, eq_false (show ¬ ykd A m < k by omega)]
        exact fj_fin_i (fj_In_f h _) _
      · simp only [fs91_0, fs91_1, fs91_2, fs91_5, fs91_6, fs91_9, fs91_10, fs91_13, fs91_16, fs91_17, fs91_18, fs91_19, fs91_22, fs91_23, fs91_24, fs91_27, fs91_29, fs91_30, fs91_31, fs91_34, fs91_37, fs91_38, fs91_39, fs91_40, fs91_43, fs91_44, fs91_45, fs91_48, fs91_49, fs91_50, fs159_0, fs159_1, fs159_2, fs159_5, fs159_8, fs159_9, fs159_10, fs159_13, fs159_14, fs159_15, fs159_16, fs159_17, fs159_20, fs159_23, fs159_26, fs159_27, fs159_29, fs159_32, fs159_33, fs159_34, fs159_37, fs159_38, fs159_39, fs159_40, fs159_43, fs159_44, fs159_45, fs159_48, fs159_51, fs159_52, fs159_53, fs159_56, m42 (yo_or t), m95, m97c q_l0 k_l2, m102, m103, m106 (show yn A < 100000 by omega) (h4' _), fj_PV t, fj_YO (yo_or t) t, fj_OB, fj_AR, fj_CI, q_zo0, q_zo1, Option.toList_some, Option.toList_none, List.cons_append, List.nil_append, true_and, and_true, true_or, if_true, if_false, q_l10, q_l01, eq_self, Int32.reduceLT, Int32.reduceLE, Int32.reduceAdd, Int32.reduceSub, fj_up_at, Nat.reduceEqDiff, false_and, and_false, and_self, reduceCtorEq, Nat.reduceAdd, hC.2.1, hy0, hy2, e, e', f, f', f'', q_in hm6, q_clamp (show m < 100000 by omega), b1, d1, g1, g2, eq_false hk, eq_true (show ykd A m < k by omega), fj_up_up]
        exact fj_fin_i (fj_In_f h _) _
