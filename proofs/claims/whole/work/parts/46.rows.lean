/-! ===== sheets: what the reference asks of a row ===== -/
theorem lgc_le (u v : Int64) : (lg_cmp u v ≤ 0) = (u ≤ v) := propext ⟨fun h => Int64.not_lt.mp (fun z => absurd ((lg_cmp_gt u v).mpr z) (Int32.not_lt.mpr h)), fun h => Int32.not_lt.mp (fun z => absurd ((lg_cmp_gt u v).mp z) (Int64.not_lt.mpr h))⟩
theorem lgc_ge (u v : Int64) : (0 ≤ lg_cmp u v) = (v ≤ u) := propext (lg_cmp_ge u v)
/-- a segment of s places: from one on, so many -/
def sgN (s : Nat) (v n : Int32) : Prop := ∃ i j, v = nI i ∧ n = nI j ∧ i + j ≤ s
theorem q_neg {v : Int32} : (v < 0) = (v.toInt < 0) := by
  apply propext
  rw [Int32.lt_iff_toInt_lt]
  exact Iff.rfl
theorem q_nat {v : Int32} {k : Nat} (h0 : ¬ v < 0) (hk : v.toInt ≤ k) (hk2 : k < 100000) : ∃ i, i ≤ k ∧ v = nI i := by
  rw [q_neg] at h0
  refine ⟨v.toInt.toNat, by omega, ?_⟩
  apply Int32.toInt_inj.mp
  rw [q_toInt (by omega)]
  omega
theorem q_l2 {v n : Int32} {s : Nat} (hs : s < 1000) : ((v.toInt64 + n.toInt64) ≤ (nI s).toInt64) = (v.toInt + n.toInt ≤ s) := by
  apply propext
  have b1 := Int32.toInt_lt v
  have b2 := Int32.le_toInt v
  have b3 := Int32.toInt_lt n
  have b4 := Int32.le_toInt n
  rw [Int64.le_iff_toInt_le, Int64.toInt_add, Int32.toInt_toInt64, Int32.toInt_toInt64, Int32.toInt_toInt64, q_toInt (by omega), Int.bmod_eq_of_le (by omega) (by omega)]
theorem sg_of {s : Nat} {v n : Int32} (hs : s < 1000) (h1 : ¬ v < 0) (h2 : ¬ n < 0) (h3 : v.toInt + n.toInt ≤ s) : sgN s v n := by
  have a1 := h1
  have a2 := h2
  rw [q_neg] at a1 a2
  obtain ⟨i, hi, ei⟩ := q_nat (k := s) h1 (by omega) (by omega)
  obtain ⟨j, hj, ej⟩ := q_nat (k := s) h2 (by omega) (by omega)
  refine ⟨i, j, ei, ej, ?_⟩
  rw [ei, ej, q_toInt (by omega), q_toInt (by omega)] at h3
  omega
theorem m25y {t : Bool} {M : fj_HM} {k s i j : Nat} (hk : k < 4) (hs : s < 1000) (h4 : M 4 k = nI s) (hij : i + j ≤ s) {Q : fj_Po} : fj_H none 25 0 [.ref 1, .int (nI k), .int (nI i), .int (nI j)] [] M (fj_PY t) 53 7835 Q = Q (some (.int 1)) M (fj_PY t) 53 7835 := by
  rw [m25 hk, h4, q_sub (show i ≤ s by omega), if_neg (by rw [q_0, q_lt (by omega) (by decide)]; omega), if_neg (by rw [q_lt (by omega) (by omega)]; omega), if_neg (by rw [q_0, q_lt (by omega) (by decide)]; omega), if_neg (by rw [q_lt (by omega) (by omega)]; omega)]
theorem m25n {t : Bool} {M : fj_HM} {k s : Nat} {v n : Int32} (hk : k < 4) (hs : s < 1000) (h4 : M 4 k = nI s) (h : ¬ sgN s v n) {Q : fj_Po} : fj_H none 25 0 [.ref 1, .int (nI k), .int v, .int n] [] M (fj_PY t) 53 7835 Q = Q (some (.int 0)) M (fj_PY t) 53 7835 := by
  rw [m25 hk, h4]
  by_cases h1 : v < 0
  · rw [if_pos h1]
  · rw [if_neg h1]
    by_cases h2 : nI s < v
    · rw [if_pos h2]
    · rw [if_neg h2]
      by_cases h3 : n < 0
      · rw [if_pos h3]
      · rw [if_neg h3]
        by_cases h5 : nI s - v < n
        · rw [if_pos h5]
        · exfalso
          rw [Int32.lt_iff_toInt_lt, q_toInt (by omega)] at h2
          obtain ⟨i, hi, ei⟩ := q_nat (k := s) h1 (by omega) (by omega)
          subst ei
          rw [q_sub hi, Int32.lt_iff_toInt_lt, q_toInt (by omega)] at h5
          apply h
          apply sg_of hs h1 h3
          rw [q_toInt (by omega)]
          omega
theorem m154y {M : fj_HM} {P : fj_HP} {s i j : Nat} (hs : s < 1000) (hij : i + j ≤ s) {Q : fj_Po} : fj_H none 154 0 [.int (nI i), .long (nI j).toInt64, .double 0, .int (nI s)] [] M P 53 7835 Q = Q (some (.int 0)) M P 53 7835 := by
  have e1 : (nI i < 0) = False := eq_false (by rw [q_0, q_lt (by omega) (by decide)]; omega)
  have e2 : ((nI j).toInt64 < 0) = False := by
    rw [q_l0, q_l64]
    exact eq_false (by rw [q_0, q_lt (by omega) (by decide)]; omega)
  have e3 : ((nI i).toInt64 + (nI j).toInt64 ≤ (nI s).toInt64) = True := by
    rw [q_l2 hs]
    exact eq_true (by rw [q_toInt (by omega), q_toInt (by omega)]; omega)
  simp only [fs154_0, fs154_1, fs154_4, fs154_5, fs154_6, fs154_7, fs154_10, fs154_11, fs154_12, fs154_13, fs154_14, fs154_15, fs154_16, fs154_17, fs154_20, fs154_21, fs154_24, fs154_25, fj_OB, fj_AR, fj_CI, q_zo0, q_zo1, Option.toList_some, Option.toList_none, List.cons_append, List.nil_append, true_and, and_true, true_or, if_true, if_false, q_l10, q_l01, eq_self, Int32.reduceLT, Int32.reduceLE, Int32.reduceAdd, Int32.reduceSub, fj_up_at, Nat.reduceEqDiff, false_and, and_false, and_self, reduceCtorEq, Nat.reduceAdd, e1, e2, e3, lgc_lt, lgc_le]
theorem m154n {M : fj_HM} {P : fj_HP} {s : Nat} {v n : Int32} (hs : s < 1000) (h : ¬ sgN s v n) {Q : fj_Po} : fj_H none 154 0 [.int v, .long n.toInt64, .double 0, .int (nI s)] [] M P 53 7835 Q = Q (some (.int 1)) M P 53 7835 := by
  have e2 : (n.toInt64 < 0) = (n < 0) := by rw [q_l0]; exact q_l64
  by_cases h1 : v < 0
  · simp only [fs154_0, fs154_1, fs154_4, fs154_5, fs154_6, fs154_7, fs154_10, fs154_11, fs154_12, fs154_13, fs154_14, fs154_15, fs154_16, fs154_17, fs154_20, fs154_21, fs154_24, fs154_25, fj_OB, fj_AR, fj_CI, q_zo0, q_zo1, Option.toList_some, Option.toList_none, List.cons_append, List.nil_append, true_and, and_true, true_or, if_true, if_false, q_l10, q_l01, eq_self, Int32.reduceLT, Int32.reduceLE, Int32.reduceAdd, Int32.reduceSub, fj_up_at, Nat.reduceEqDiff, false_and, and_false, and_self, reduceCtorEq, Nat.reduceAdd, eq_true h1]
  · by_cases h3 : n < 0
    · simp only [fs154_0, fs154_1, fs154_4, fs154_5, fs154_6, fs154_7, fs154_10, fs154_11, fs154_12, fs154_13, fs154_14, fs154_15, fs154_16, fs154_17, fs154_20, fs154_21, fs154_24, fs154_25, fj_OB, fj_AR, fj_CI, q_zo0, q_zo1, Option.toList_some, Option.toList_none, List.cons_append, List.nil_append, true_and, and_true, true_or, if_true, if_false, q_l10, q_l01, eq_self, Int32.reduceLT, Int32.reduceLE, Int32.reduceAdd, Int32.reduceSub, fj_up_at, Nat.reduceEqDiff, false_and, and_false, and_self, reduceCtorEq, Nat.reduceAdd, eq_false h1, e2, lgc_lt, eq_true h3]
    · have e3 : (v.toInt64 + n.toInt64 ≤ (nI s).toInt64) = False := by
        rw [q_l2 hs]
        exact eq_false (fun z => h (sg_of hs h1 h3 z))
      simp only [fs154_0, fs154_1, fs154_4, fs154_5, fs154_6, fs154_7, fs154_10, fs154_11, fs154_12, fs154_13, fs154_14, fs154_15, fs154_16, fs154_17, fs154_20, fs154_21, fs154_24, fs154_25, fj_OB, fj_AR, fj_CI, q_zo0, q_zo1, Option.toList_some, Option.toList_none, List.cons_append, List.nil_append, true_and, and_true, true_or, if_true, if_false, q_l10, q_l01, eq_self, Int32.reduceLT, Int32.reduceLE, Int32.reduceAdd, Int32.reduceSub, fj_up_at, Nat.reduceEqDiff, false_and, and_false, and_self, reduceCtorEq, Nat.reduceAdd, eq_false h1, e2, eq_false h3, e3, lgc_lt, lgc_le]
theorem m148 {v : Int32} {M : fj_HM} {P : fj_HP} {Q : fj_Po} : fj_H none 148 0 [.int v] [] M P 53 7835 Q = if v < 0 then Q (some (.int 1)) M P 53 7835 else if nI 4 ≤ v then Q (some (.int 1)) M P 53 7835 else Q (some (.int 0)) M P 53 7835 := by
  have e : ((3 : Int32) < v) = (nI 4 ≤ v) := by
    apply propext
    rw [Int32.lt_iff_toInt_lt, Int32.le_iff_toInt_le, q_toInt (by decide)]
    have : (3 : Int32).toInt = 3 := rfl
    omega
  simp only [fs148_0, fs148_1, fs148_2, fs148_3, fs148_6, fj_OB, fj_AR, fj_CI, q_zo0, q_zo1, Option.toList_some, Option.toList_none, List.cons_append, List.nil_append, true_and, and_true, true_or, if_true, if_false, q_l10, q_l01, eq_self, Int32.reduceLT, Int32.reduceLE, Int32.reduceAdd, Int32.reduceSub, fj_up_at, Nat.reduceEqDiff, false_and, and_false, and_self, reduceCtorEq, Nat.reduceAdd, m97c q_l0 k_l3, e]
  by_cases h0 : v < 0
  · rw [if_pos h0, if_pos h0]
    simp only [fs148_9, fs148_12, fs148_13, fs148_17, fj_OB, fj_AR, fj_CI, q_zo0, q_zo1, Option.toList_some, Option.toList_none, List.cons_append, List.nil_append, true_and, and_true, true_or, if_true, if_false, q_l10, q_l01, eq_self, Int32.reduceLT, Int32.reduceLE, Int32.reduceAdd, Int32.reduceSub, fj_up_at, Nat.reduceEqDiff, false_and, and_false, and_self, reduceCtorEq, Nat.reduceAdd]
  · rw [if_neg h0, if_neg h0]
    by_cases h1 : nI 4 ≤ v
    · rw [if_pos h1, if_pos h1]
      simp only [fs148_9, fs148_12, fs148_13, fs148_17, fj_OB, fj_AR, fj_CI, q_zo0, q_zo1, Option.toList_some, Option.toList_none, List.cons_append, List.nil_append, true_and, and_true, true_or, if_true, if_false, q_l10, q_l01, eq_self, Int32.reduceLT, Int32.reduceLE, Int32.reduceAdd, Int32.reduceSub, fj_up_at, Nat.reduceEqDiff, false_and, and_false, and_self, reduceCtorEq, Nat.reduceAdd]
    · rw [if_neg h1, if_neg h1]
      simp only [fs148_9, fs148_16, fs148_17, fj_OB, fj_AR, fj_CI, q_zo0, q_zo1, Option.toList_some, Option.toList_none, List.cons_append, List.nil_append, true_and, and_true, true_or, if_true, if_false, q_l10, q_l01, eq_self, Int32.reduceLT, Int32.reduceLE, Int32.reduceAdd, Int32.reduceSub, fj_up_at, Nat.reduceEqDiff, false_and, and_false, and_self, reduceCtorEq, Nat.reduceAdd]
theorem k_m1 : ((0 : Int32) ≤ -1) = False ∧ ((-1 : Int32) < 0) = True := ⟨eq_false (by decide), eq_true (by decide)⟩
theorem k_sz {s : Nat} (hs : s < 1000) : ((0 : Int32) ≤ nI s) = True ∧ (nI s < 0) = False := ⟨eq_true (by rw [q_0, q_le (by decide) (by omega)]; omega), eq_false (by rw [q_0, q_lt (by omega) (by decide)]; omega)⟩
theorem m151b {t : Bool} {M : fj_HM} {k : Nat} {v : Int32} (hk : k < 4) (h : M 49 k = -1) {Q : fj_Po} : fj_H none 151 0 [.ref 33, .int (nI k), .int v] [] M (fj_PY t) 53 7835 Q = Q (some (.int 1)) M (fj_PY t) 53 7835 := by
  simp only [fs151_0, fs151_1, fs151_4, fs151_5, fs151_6, fs151_9, fs151_10, fs151_36, fj_PV t, fj_OB, fj_AR, fj_CI, q_zo0, q_zo1, Option.toList_some, Option.toList_none, List.cons_append, List.nil_append, true_and, and_true, true_or, if_true, if_false, q_l10, q_l01, eq_self, Int32.reduceLT, Int32.reduceLE, Int32.reduceAdd, Int32.reduceSub, fj_up_at, Nat.reduceEqDiff, false_and, and_false, and_self, reduceCtorEq, Nat.reduceAdd, q_in hk, q_clamp (show k < 100000 by omega), h, k_m1]
theorem m151n {t : Bool} {M : fj_HM} {k s : Nat} {v : Int32} (hk : k < 4) (hs : s < 1000) (h : M 49 k = nI s) {Q : fj_Po} : fj_H none 151 0 [.ref 33, .int (nI k), .int v] [] M (fj_PY t) 53 7835 Q = if v < 0 then Q (some (.int 3)) M (fj_PY t) 53 7835 else if nI s ≤ v then Q (some (.int 3)) M (fj_PY t) 53 7835 else Q (some (.int 0)) M (fj_PY t) 53 7835 := by
  simp only [fs151_0, fs151_1, fs151_4, fs151_5, fs151_6, fs151_13, fs151_14, fs151_15, fs151_16, fs151_17, fs151_20, fs151_21, fs151_22, fs151_23, fs151_24, fs151_25, fj_PV t, fj_OB, fj_AR, fj_CI, q_zo0, q_zo1, Option.toList_some, Option.toList_none, List.cons_append, List.nil_append, true_and, and_true, true_or, if_true, if_false, q_l10, q_l01, eq_self, Int32.reduceLT, Int32.reduceLE, Int32.reduceAdd, Int32.reduceSub, fj_up_at, Nat.reduceEqDiff, false_and, and_false, and_self, reduceCtorEq, Nat.reduceAdd, q_in hk, q_clamp (show k < 100000 by omega), h, k_sz hs, m97n (show s < 100000 by omega)]
  by_cases h0 : v < 0
  · rw [if_pos h0, if_pos h0]
    simp only [fs151_28, fs151_35, fs151_36, fj_OB, fj_AR, fj_CI, q_zo0, q_zo1, Option.toList_some, Option.toList_none, List.cons_append, List.nil_append, true_and, and_true, true_or, if_true, if_false, q_l10, q_l01, eq_self, Int32.reduceLT, Int32.reduceLE, Int32.reduceAdd, Int32.reduceSub, fj_up_at, Nat.reduceEqDiff, false_and, and_false, and_self, reduceCtorEq, Nat.reduceAdd]
  · rw [if_neg h0, if_neg h0]
    by_cases h1 : nI s ≤ v
    · rw [if_pos h1, if_pos h1]
      simp only [fs151_28, fs151_35, fs151_36, fj_OB, fj_AR, fj_CI, q_zo0, q_zo1, Option.toList_some, Option.toList_none, List.cons_append, List.nil_append, true_and, and_true, true_or, if_true, if_false, q_l10, q_l01, eq_self, Int32.reduceLT, Int32.reduceLE, Int32.reduceAdd, Int32.reduceSub, fj_up_at, Nat.reduceEqDiff, false_and, and_false, and_self, reduceCtorEq, Nat.reduceAdd]
    · rw [if_neg h1, if_neg h1]
      simp only [fs151_28, fs151_31, fs151_32, fs151_36, fj_OB, fj_AR, fj_CI, q_zo0, q_zo1, Option.toList_some, Option.toList_none, List.cons_append, List.nil_append, true_and, and_true, true_or, if_true, if_false, q_l10, q_l01, eq_self, Int32.reduceLT, Int32.reduceLE, Int32.reduceAdd, Int32.reduceSub, fj_up_at, Nat.reduceEqDiff, false_and, and_false, and_self, reduceCtorEq, Nat.reduceAdd]
theorem m113b {t : Bool} {M : fj_HM} {k : Nat} {lane v n : Int32} (hk : k < 4) (h : M 49 k = -1) {Q : fj_Po} : fj_H none 113 0 [.ref 33, .int (nI k), .int lane, .int v, .long n.toInt64, .double 0] [] M (fj_PY t) 53 7835 Q = Q (some (.int (-11))) (fj_up M 33 0 1) (fj_PY t) 53 7835 := by
  simp only [fs113_0, fs113_1, fs113_4, fs113_5, fs113_6, fs113_25, fs113_26, fs113_29, fs113_30, fs113_31, fs113_34, fs113_35, fs113_36, fs113_39, m103, fj_PV t, fj_OB, fj_AR, fj_CI, q_zo0, q_zo1, Option.toList_some, Option.toList_none, List.cons_append, List.nil_append, true_and, and_true, true_or, if_true, if_false, q_l10, q_l01, eq_self, Int32.reduceLT, Int32.reduceLE, Int32.reduceAdd, Int32.reduceSub, fj_up_at, Nat.reduceEqDiff, false_and, and_false, and_self, reduceCtorEq, Nat.reduceAdd, q_in hk, q_clamp (show k < 100000 by omega), h, k_m1]
theorem m113c {t : Bool} {M : fj_HM} {k s : Nat} {lane v n : Int32} (hk : k < 4) (hs : s < 1000) (h : M 49 k = nI s) (hl : (M 50 k = lane) = False) {Q : fj_Po} : fj_H none 113 0 [.ref 33, .int (nI k), .int lane, .int v, .long n.toInt64, .double 0] [] M (fj_PY t) 53 7835 Q = Q (some (.int (-12))) (fj_up M 33 0 2) (fj_PY t) 53 7835 := by
  simp only [fs113_0, fs113_1, fs113_4, fs113_5, fs113_6, fs113_9, fs113_10, fs113_13, fs113_14, fs113_15, fs113_16, fs113_19, fs113_20, fs113_21, fs113_24, m103, fj_PV t, fj_OB, fj_AR, fj_CI, q_zo0, q_zo1, Option.toList_some, Option.toList_none, List.cons_append, List.nil_append, true_and, and_true, true_or, if_true, if_false, q_l10, q_l01, eq_self, Int32.reduceLT, Int32.reduceLE, Int32.reduceAdd, Int32.reduceSub, fj_up_at, Nat.reduceEqDiff, false_and, and_false, and_self, reduceCtorEq, Nat.reduceAdd, q_in hk, q_clamp (show k < 100000 by omega), h, hl, k_sz hs]
theorem m113s {t : Bool} {M : fj_HM} {k s : Nat} {lane v n : Int32} (hk : k < 4) (hs : s < 1000) (h : M 49 k = nI s) (hl : (M 50 k = lane) = True) (hn : n < 0) {Q : fj_Po} : fj_H none 113 0 [.ref 33, .int (nI k), .int lane, .int v, .long n.toInt64, .double 0] [] M (fj_PY t) 53 7835 Q = Q (some (.int (-14))) (fj_up M 33 0 4) (fj_PY t) 53 7835 := by
  have e2 : ((0 : Int64) ≤ n.toInt64) = False := by
    apply eq_false
    intro z
    have : n.toInt64 < 0 := by rw [q_l0, q_l64]; exact hn
    exact absurd z (Int64.not_le.mpr this)
  simp only [fs113_0, fs113_1, fs113_4, fs113_5, fs113_6, fs113_9, fs113_10, fs113_13, fs113_14, fs113_15, fs113_16, fs113_25, fs113_26, fs113_29, fs113_30, fs113_31, fs113_40, fs113_42, fs113_43, fs113_44, fs113_47, fs113_48, fs113_49, fs113_52, m103, fj_PV t, fj_OB, fj_AR, fj_CI, q_zo0, q_zo1, Option.toList_some, Option.toList_none, List.cons_append, List.nil_append, true_and, and_true, true_or, if_true, if_false, q_l10, q_l01, eq_self, Int32.reduceLT, Int32.reduceLE, Int32.reduceAdd, Int32.reduceSub, fj_up_at, Nat.reduceEqDiff, false_and, and_false, and_self, reduceCtorEq, Nat.reduceAdd, q_in hk, q_clamp (show k < 100000 by omega), h, hl, k_sz hs, lgc_ge, e2]
theorem k_l64 {n : Int32} (hn : ¬ n < 0) : ((0 : Int64) ≤ n.toInt64) = True := by
  apply eq_true
  apply Int64.not_lt.mp
  rw [q_l0, q_l64]
  exact hn
theorem m113n {t : Bool} {M : fj_HM} {k s : Nat} {lane v n : Int32} (hk : k < 4) (hs : s < 1000) (h : M 49 k = nI s) (hl : (M 50 k = lane) = True) (hn : ¬ n < 0) (hg : ¬ sgN s v n) {Q : fj_Po} : fj_H none 113 0 [.ref 33, .int (nI k), .int lane, .int v, .long n.toInt64, .double 0] [] M (fj_PY t) 53 7835 Q = Q (some (.int (-13))) (fj_up M 33 0 3) (fj_PY t) 53 7835 := by
  simp only [fs113_0, fs113_1, fs113_4, fs113_5, fs113_6, fs113_9, fs113_10, fs113_13, fs113_14, fs113_15, fs113_16, fs113_25, fs113_26, fs113_29, fs113_30, fs113_31, fs113_40, fs113_42, fs113_43, fs113_44, fs113_53, fs113_54, fs113_56, fs113_57, fs113_60, fs113_61, fs113_62, fs113_65, fs113_68, fs113_69, fs113_70, fs113_73, fs113_77, m103, fj_PV t, fj_OB, fj_AR, fj_CI, q_zo0, q_zo1, Option.toList_some, Option.toList_none, List.cons_append, List.nil_append, true_and, and_true, true_or, if_true, if_false, q_l10, q_l01, eq_self, Int32.reduceLT, Int32.reduceLE, Int32.reduceAdd, Int32.reduceSub, fj_up_at, Nat.reduceEqDiff, false_and, and_false, and_self, reduceCtorEq, Nat.reduceAdd, q_in hk, q_clamp (show k < 100000 by omega), h, hl, k_sz hs, lgc_ge, k_l64 hn, m154n hs hg]
theorem m113y {t : Bool} {M : fj_HM} {k s i j : Nat} {lane : Int32} (hk : k < 4) (hs : s < 1000) (h : M 49 k = nI s) (hl : (M 50 k = lane) = True) (hij : i + j ≤ s) {Q : fj_Po} : fj_H none 113 0 [.ref 33, .int (nI k), .int lane, .int (nI i), .long (nI j).toInt64, .double 0] [] M (fj_PY t) 53 7835 Q = Q (some (.int 0)) M (fj_PY t) 53 7835 := by
  have hn : ¬ nI j < 0 := by rw [q_0, q_lt (by omega) (by decide)]; omega
  simp only [fs113_0, fs113_1, fs113_4, fs113_5, fs113_6, fs113_9, fs113_10, fs113_13, fs113_14, fs113_15, fs113_16, fs113_25, fs113_26, fs113_29, fs113_30, fs113_31, fs113_40, fs113_42, fs113_43, fs113_44, fs113_53, fs113_54, fs113_56, fs113_57, fs113_60, fs113_61, fs113_62, fs113_65, fs113_76, fs113_77, fj_PV t, fj_OB, fj_AR, fj_CI, q_zo0, q_zo1, Option.toList_some, Option.toList_none, List.cons_append, List.nil_append, true_and, and_true, true_or, if_true, if_false, q_l10, q_l01, eq_self, Int32.reduceLT, Int32.reduceLE, Int32.reduceAdd, Int32.reduceSub, fj_up_at, Nat.reduceEqDiff, false_and, and_false, and_self, reduceCtorEq, Nat.reduceAdd, q_in hk, q_clamp (show k < 100000 by omega), h, hl, k_sz hs, lgc_ge, k_l64 hn, m154y hs hij]
