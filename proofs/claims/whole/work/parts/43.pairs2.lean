/-! ===== pairs: can, delay, doze, and what only tells ===== -/
theorem m97c {x lo hi : Int32} {L H : Int64} (hL : L = lo.toInt64) (hH : H = hi.toInt64) {M : fj_HM} {P : fj_HP} {Q : fj_Po} : fj_H none 97 0 [.long x.toInt64, .double 0, .long L, .double 0, .long H, .double 0] [] M P 53 7835 Q = if x < lo then Q (some (.int 0)) M P 53 7835 else if hi < x then Q (some (.int 0)) M P 53 7835 else Q (some (.int 1)) M P 53 7835 := by
  subst hL
  subst hH
  exact m97
theorem k_l1 : (1 : Int64) = (1 : Int32).toInt64 := rfl
theorem k_l2 : (2 : Int64) = (2 : Int32).toInt64 := rfl
theorem k_l3 : (3 : Int64) = (3 : Int32).toInt64 := rfl
theorem k_l5 : (5 : Int64) = (5 : Int32).toInt64 := rfl
theorem k_l6 : (6 : Int64) = (6 : Int32).toInt64 := rfl
theorem k_l99 : (99 : Int64) = (99 : Int32).toInt64 := rfl
theorem k_l20 : (20 : Int64) = (20 : Int32).toInt64 := rfl
/-- below, above, or in -/
theorem q_span (lo hi : Nat) (hh : hi < 1000) (hl : lo ≤ hi) (v : Int32) : ((v < nI lo) = True) ∨ ((v < nI lo) = False ∧ (v ≤ nI hi) = False ∧ (nI hi < v) = True) ∨ ∃ k, lo ≤ k ∧ k ≤ hi ∧ v = nI k ∧ (nI k < nI lo) = False ∧ (nI k ≤ nI hi) = True ∧ (nI hi < nI k) = False := by
  by_cases h0 : v < nI lo
  · exact Or.inl (eq_true h0)
  · by_cases h1 : v ≤ nI hi
    · obtain ⟨e, l1, l2⟩ := q_rng hh hl h0 h1
      rw [e] at h0 h1
      refine Or.inr (Or.inr ⟨_, l1, l2, e, eq_false h0, eq_true h1, eq_false (Int32.not_lt.mpr h1)⟩)
    · exact Or.inr (Or.inl ⟨eq_false h0, eq_false h1, eq_true (Int32.not_le.mp h1)⟩)
theorem pr_can {t : Bool} {M : fj_HM} (h : fj_Iv t M) (v : Int32) : fj_pr isI t M 63 [.ref 0, .int v, .null] 120 [.ref 33, .int v, .null] := by
  obtain ⟨A, R, h⟩ := h
  obtain ⟨hV, hC, hM, -⟩ := id h
  have hy := yo_or t
  have hy2 : ¬ (33 = yo t) := by omega
  unfold fj_pr
  rcases q_span 1 6 (by decide) (by decide) v with e | ⟨e, e', e''⟩ | ⟨k, k1, k2, rfl, e, e', e''⟩
  · rw [show nI 1 = 1 from rfl] at e
    simp only [fs63_0, fs63_1, fs63_2, fs63_11, fs63_13, fs120_0, fs120_1, fs120_2, fs120_3, fs120_6, fs120_9, fs120_12, fs120_14, m97c k_l1 k_l6, fj_PV t, fj_YO (yo_or t) t, fj_OB, fj_AR, fj_CI, q_zo0, q_zo1, Option.toList_some, Option.toList_none, List.cons_append, List.nil_append, true_and, and_true, true_or, if_true, if_false, q_l10, q_l01, eq_self, Int32.reduceLT, Int32.reduceLE, Int32.reduceAdd, Int32.reduceSub, fj_up_at, Nat.reduceEqDiff, false_and, and_false, and_self, reduceCtorEq, Nat.reduceAdd, e]
    exact fj_fin_i h _
  · rw [show nI 1 = 1 from rfl] at e
    rw [show nI 6 = 6 from rfl] at e' e''
    simp only [fs63_0, fs63_1, fs63_2, fs63_5, fs63_6, fs63_8, fs63_11, fs63_13, fs120_0, fs120_1, fs120_2, fs120_3, fs120_6, fs120_9, fs120_12, fs120_14, m97c k_l1 k_l6, fj_PV t, fj_YO (yo_or t) t, fj_OB, fj_AR, fj_CI, q_zo0, q_zo1, Option.toList_some, Option.toList_none, List.cons_append, List.nil_append, true_and, and_true, true_or, if_true, if_false, q_l10, q_l01, eq_self, Int32.reduceLT, Int32.reduceLE, Int32.reduceAdd, Int32.reduceSub, fj_up_at, Nat.reduceEqDiff, false_and, and_false, and_self, reduceCtorEq, Nat.reduceAdd, e, e', e'']
    exact fj_fin_i h _
  · rw [show nI 1 = 1 from rfl] at e
    rw [show nI 6 = 6 from rfl] at e' e''
    rcases yd_st hV with ⟨s1, s2, s3, s4, s5, s6⟩ | ⟨s1, s2, s3, s4⟩
    · simp only [fs63_0, fs63_1, fs63_2, fs63_5, fs63_6, fs63_8, fs63_11, fs63_13, fs63_14, fs63_15, fs63_18, fs63_21, fs63_24, fs63_26, fs63_27, fs63_28, fs63_31, fs63_34, fs63_35, fs63_36, fs63_39, fs63_40, fs63_43, fs63_44, fs120_0, fs120_1, fs120_2, fs120_3, fs120_6, fs120_9, fs120_12, fs120_14, fs120_15, fs120_16, fs120_19, fs120_22, fs120_24, fs120_25, fs120_26, fs120_29, fs120_30, fs120_31, fs120_32, fs120_35, fs120_36, m97c k_l1 k_l6, m40 (yo_or t), fj_PV t, fj_YO (yo_or t) t, fj_OB, fj_AR, fj_CI, q_zo0, q_zo1, Option.toList_some, Option.toList_none, List.cons_append, List.nil_append, true_and, and_true, true_or, if_true, if_false, q_l10, q_l01, eq_self, Int32.reduceLT, Int32.reduceLE, Int32.reduceAdd, Int32.reduceSub, fj_up_at, Nat.reduceEqDiff, false_and, and_false, and_self, reduceCtorEq, Nat.reduceAdd, hC.1, hM.1, e, e', e'', s3, s4]
      exact fj_fin_i h _
    · simp only [fs63_0, fs63_1, fs63_2, fs63_5, fs63_6, fs63_8, fs63_11, fs63_13, fs63_14, fs63_15, fs63_18, fs63_21, fs63_24, fs63_26, fs63_27, fs63_28, fs63_31, fs63_34, fs63_35, fs63_36, fs63_39, fs63_40, fs63_43, fs63_44, fs120_0, fs120_1, fs120_2, fs120_3, fs120_6, fs120_9, fs120_12, fs120_14, fs120_15, fs120_16, fs120_19, fs120_22, fs120_24, fs120_25, fs120_26, fs120_29, fs120_30, fs120_31, fs120_32, fs120_35, fs120_36, m97c k_l1 k_l6, m40 (yo_or t), fj_PV t, fj_YO (yo_or t) t, fj_OB, fj_AR, fj_CI, q_zo0, q_zo1, Option.toList_some, Option.toList_none, List.cons_append, List.nil_append, true_and, and_true, true_or, if_true, if_false, q_l10, q_l01, eq_self, Int32.reduceLT, Int32.reduceLE, Int32.reduceAdd, Int32.reduceSub, fj_up_at, Nat.reduceEqDiff, false_and, and_false, and_self, reduceCtorEq, Nat.reduceAdd, hC.1, hC.2.2.2.2.1, hM.1, hM.2.2.2.2.2.1, e, e', e'', s3, s4, hy2]
      exact fj_fin_i (fj_In_cn h ⟨k1, k2⟩) _
theorem pr_delay {t : Bool} {M : fj_HM} (h : fj_Iv t M) (v : Int32) : fj_pr isI t M 64 [.ref 0, .int v, .null] 121 [.ref 33, .int v, .null] := by
  obtain ⟨A, R, h⟩ := h
  obtain ⟨hV, hC, hM, -⟩ := id h
  have hy := yo_or t
  have hy2 : ¬ (33 = yo t) := by omega
  unfold fj_pr
  rcases q_span 0 99 (by decide) (by decide) v with e | ⟨e, e', e''⟩ | ⟨k, k1, k2, rfl, e, e', e''⟩
  · rw [show nI 0 = 0 from rfl] at e
    simp only [fs64_0, fs64_1, fs64_10, fs64_12, fs121_0, fs121_1, fs121_2, fs121_3, fs121_6, fs121_9, fs121_12, fs121_14, m97c q_l0 k_l99, fj_PV t, fj_YO (yo_or t) t, fj_OB, fj_AR, fj_CI, q_zo0, q_zo1, Option.toList_some, Option.toList_none, List.cons_append, List.nil_append, true_and, and_true, true_or, if_true, if_false, q_l10, q_l01, eq_self, Int32.reduceLT, Int32.reduceLE, Int32.reduceAdd, Int32.reduceSub, fj_up_at, Nat.reduceEqDiff, false_and, and_false, and_self, reduceCtorEq, Nat.reduceAdd, e]
    exact fj_fin_i h _
  · rw [show nI 0 = 0 from rfl] at e
    rw [show nI 99 = 99 from rfl] at e' e''
    simp only [fs64_0, fs64_1, fs64_4, fs64_5, fs64_7, fs64_10, fs64_12, fs121_0, fs121_1, fs121_2, fs121_3, fs121_6, fs121_9, fs121_12, fs121_14, m97c q_l0 k_l99, fj_PV t, fj_YO (yo_or t) t, fj_OB, fj_AR, fj_CI, q_zo0, q_zo1, Option.toList_some, Option.toList_none, List.cons_append, List.nil_append, true_and, and_true, true_or, if_true, if_false, q_l10, q_l01, eq_self, Int32.reduceLT, Int32.reduceLE, Int32.reduceAdd, Int32.reduceSub, fj_up_at, Nat.reduceEqDiff, false_and, and_false, and_self, reduceCtorEq, Nat.reduceAdd, e, e', e'']
    exact fj_fin_i h _
  · rw [show nI 0 = 0 from rfl] at e
    rw [show nI 99 = 99 from rfl] at e' e''
    rcases yd_st hV with ⟨s1, s2, s3, s4, s5, s6⟩ | ⟨s1, s2, s3, s4⟩
    · simp only [fs64_0, fs64_1, fs64_4, fs64_5, fs64_7, fs64_10, fs64_12, fs64_13, fs64_14, fs64_17, fs64_20, fs64_23, fs64_25, fs64_26, fs64_27, fs64_30, fs64_33, fs64_34, fs64_35, fs64_38, fs64_39, fs64_42, fs64_43, fs121_0, fs121_1, fs121_2, fs121_3, fs121_6, fs121_9, fs121_12, fs121_14, fs121_15, fs121_16, fs121_19, fs121_22, fs121_24, fs121_25, fs121_26, fs121_29, fs121_30, fs121_31, fs121_32, fs121_35, fs121_36, m97c q_l0 k_l99, m40 (yo_or t), fj_PV t, fj_YO (yo_or t) t, fj_OB, fj_AR, fj_CI, q_zo0, q_zo1, Option.toList_some, Option.toList_none, List.cons_append, List.nil_append, true_and, and_true, true_or, if_true, if_false, q_l10, q_l01, eq_self, Int32.reduceLT, Int32.reduceLE, Int32.reduceAdd, Int32.reduceSub, fj_up_at, Nat.reduceEqDiff, false_and, and_false, and_self, reduceCtorEq, Nat.reduceAdd, hC.1, hM.1, e, e', e'', s3, s4]
      exact fj_fin_i h _
    · simp only [fs64_0, fs64_1, fs64_4, fs64_5, fs64_7, fs64_10, fs64_12, fs64_13, fs64_14, fs64_17, fs64_20, fs64_23, fs64_25, fs64_26, fs64_27, fs64_30, fs64_33, fs64_34, fs64_35, fs64_38, fs64_39, fs64_42, fs64_43, fs121_0, fs121_1, fs121_2, fs121_3, fs121_6, fs121_9, fs121_12, fs121_14, fs121_15, fs121_16, fs121_19, fs121_22, fs121_24, fs121_25, fs121_26, fs121_29, fs121_30, fs121_31, fs121_32, fs121_35, fs121_36, m97c q_l0 k_l99, m40 (yo_or t), fj_PV t, fj_YO (yo_or t) t, fj_OB, fj_AR, fj_CI, q_zo0, q_zo1, Option.toList_some, Option.toList_none, List.cons_append, List.nil_append, true_and, and_true, true_or, if_true, if_false, q_l10, q_l01, eq_self, Int32.reduceLT, Int32.reduceLE, Int32.reduceAdd, Int32.reduceSub, fj_up_at, Nat.reduceEqDiff, false_and, and_false, and_self, reduceCtorEq, Nat.reduceAdd, hC.1, hC.2.2.2.2.2.1, hM.1, hM.2.2.2.2.2.2.1, e, e', e'', s3, s4, hy2]
      exact fj_fin_i (fj_In_sg h k2) _
theorem p2_bit (m i : Nat) : (2 ^ m).testBit i = decide (m = i) := Nat.testBit_two_pow
theorem or_lt2 {a m n : Nat} (ha : a < 2 ^ n) (hm : m < n) : a ||| 2 ^ m < 2 ^ n := Nat.or_lt_two_pow ha (Nat.pow_lt_pow_right (by decide) hm)
theorem or_id {a m : Nat} (h : a.testBit m = true) : a ||| 2 ^ m = a := by
  apply nat_ext
  intro i
  rw [Nat.testBit_or, p2_bit]
  by_cases e : m = i
  · rw [← e, h]; rfl
  · rw [decide_eq_false e, Bool.or_false]
theorem sdf_id {a m : Nat} (h : a.testBit m = false) : sdf a (2 ^ m) = a := by
  apply nat_ext
  intro i
  rw [sdf_bit, p2_bit]
  by_cases e : m = i
  · rw [← e, h]; rfl
  · rw [decide_eq_false e]; cases a.testBit i <;> rfl
theorem xor_or {a m : Nat} (h : a.testBit m = false) : a ^^^ 2 ^ m = a ||| 2 ^ m := by
  apply nat_ext
  intro i
  rw [Nat.testBit_or, Nat.testBit_xor, p2_bit]
  by_cases e : m = i
  · rw [← e, h, decide_eq_true rfl]; rfl
  · rw [decide_eq_false e]; cases a.testBit i <;> rfl
theorem xor_sdf {a m : Nat} (h : a.testBit m = true) : a ^^^ 2 ^ m = sdf a (2 ^ m) := by
  apply nat_ext
  intro i
  rw [sdf_bit, Nat.testBit_xor, p2_bit]
  by_cases e : m = i
  · rw [← e, h, decide_eq_true rfl]; rfl
  · rw [decide_eq_false e]; cases a.testBit i <;> rfl
theorem pr_doze {t : Bool} {M : fj_HM} (h : fj_Iv t M) (v : Int32) (b : Bool) : fj_pr isI t M 65 [.ref 0, .int v, .int (bI b)] 122 [.ref 33, .int v, .int (bI b), .null] := by
  obtain ⟨A, R, h⟩ := h
  obtain ⟨hV, hC, hM, -⟩ := id h
  have hn := yn_le hV
  have h4 := hM.2.2.1
  have hy := yo_or t
  have hy2 : ¬ (33 = yo t) := by omega
  have hsl := ysl_lt hV
  have hs2 : ysl A < 2 ^ yn A := hV.2.2.2.2.2.1
  have c3 := hC.2.2.2.1
  have d4 := hM.2.2.2.2.1
  have h4' : ∀ x : Int32, fj_up M (yo t) 3 x 33 4 = nI (yn A) := fun x => by rw [fj_up_at, if_neg (by omega)]; exact h4
  unfold fj_pr
  rcases q_place (n := yn A) (by omega) v with e | ⟨e, e'⟩ | ⟨m, hm, rfl, e, e'⟩
  · simp only [fs65_0, fs65_1, fs65_4, fs65_5, fs65_8, fs65_11, fs65_12, fs122_0, fs122_1, fs122_2, fs122_5, fs122_8, fs122_9, m42 (yo_or t), m106 (show yn A < 100000 by omega) h4, m106 (show yn A < 100000 by omega) (h4' _), fj_PV t, fj_YO (yo_or t) t, fj_OB, fj_AR, fj_CI, q_zo0, q_zo1, Option.toList_some, Option.toList_none, List.cons_append, List.nil_append, true_and, and_true, true_or, if_true, if_false, q_l10, q_l01, eq_self, Int32.reduceLT, Int32.reduceLE, Int32.reduceAdd, Int32.reduceSub, fj_up_at, Nat.reduceEqDiff, false_and, and_false, and_self, reduceCtorEq, Nat.reduceAdd, hC.2.1, e]
    exact fj_fin_i h _
  · simp only [fs65_0, fs65_1, fs65_4, fs65_5, fs65_8, fs65_11, fs65_12, fs122_0, fs122_1, fs122_2, fs122_5, fs122_8, fs122_9, m42 (yo_or t), m106 (show yn A < 100000 by omega) h4, m106 (show yn A < 100000 by omega) (h4' _), fj_PV t, fj_YO (yo_or t) t, fj_OB, fj_AR, fj_CI, q_zo0, q_zo1, Option.toList_some, Option.toList_none, List.cons_append, List.nil_append, true_and, and_true, true_or, if_true, if_false, q_l10, q_l01, eq_self, Int32.reduceLT, Int32.reduceLE, Int32.reduceAdd, Int32.reduceSub, fj_up_at, Nat.reduceEqDiff, false_and, and_false, and_self, reduceCtorEq, Nat.reduceAdd, hC.2.1, e, e']
    exact fj_fin_i h _
  · cases hb : (ysl A).testBit m with
    | true =>
      cases b with
      | true =>
        have z : nI (ysl A) ||| nI (2 ^ m) = nI (ysl A) := by rw [q_or, or_id hb]
        have z2 : fj_up M 33 12 (nI (ysl A)) = M := fj_up_id d4
        simp only [fs65_0, fs65_1, fs65_4, fs65_5, fs65_8, fs65_11, fs65_12, fs65_13, fs65_14, fs65_17, fs65_18, fs65_21, fs65_22, fs65_25, fs65_26, fs65_27, fs65_28, fs65_31, fs65_31i, fs65_32, fs65_35, fs65_36, fs65_37, fs65_38, fs65_39, fs65_42, fs65_43, fs122_0, fs122_1, fs122_2, fs122_5, fs122_8, fs122_9, fs122_10, fs122_11, fs122_14, fs122_15, fs122_18, fs122_19, fs122_20, fs122_21, fs122_24, fs122_25, fs122_28, fs122_29, fs122_30, fs122_31, fs122_32, fs122_35, fs122_36, fs122_39, fs122_40, fs122_41, fs122_42, fs122_43, fs122_44, fs122_45, fs122_48, fs122_49, fs122_50, fs122_53, fs122_54, fs122_57, fs122_58, m42 (yo_or t), m43 (yo_or t), m99 (show ysl A < 100000 by omega) (show m < 31 by omega), m106 (show yn A < 100000 by omega) h4, m106 (show yn A < 100000 by omega) (h4' _), fj_PV t, fj_YO (yo_or t) t, fj_OB, fj_AR, fj_CI, q_zo0, q_zo1, Option.toList_some, Option.toList_none, List.cons_append, List.nil_append, true_and, and_true, true_or, if_true, if_false, q_l10, q_l01, eq_self, Int32.reduceLT, Int32.reduceLE, Int32.reduceAdd, Int32.reduceSub, fj_up_at, Nat.reduceEqDiff, false_and, and_false, and_self, reduceCtorEq, Nat.reduceAdd, hC.2.1, c3, d4, e, e', q_bit0 (show ysl A < 100000 by omega) (show m < 31 by omega), hb, bI, Bool.true_eq_false, q_shl m (by omega), z, z2]
        exact fj_fin_i h _
      | false =>
        simp only [fs65_0, fs65_1, fs65_4, fs65_5, fs65_8, fs65_11, fs65_12, fs65_13, fs65_14, fs65_17, fs65_18, fs65_21, fs65_22, fs65_25, fs65_26, fs65_27, fs65_28, fs65_31, fs65_31i, fs65_32, fs65_35, fs65_36, fs65_37, fs65_38, fs65_39, fs65_42, fs65_43, fs122_0, fs122_1, fs122_2, fs122_5, fs122_8, fs122_9, fs122_10, fs122_11, fs122_14, fs122_15, fs122_18, fs122_19, fs122_20, fs122_21, fs122_24, fs122_25, fs122_28, fs122_29, fs122_30, fs122_31, fs122_32, fs122_35, fs122_36, fs122_39, fs122_40, fs122_41, fs122_42, fs122_43, fs122_44, fs122_45, fs122_48, fs122_49, fs122_50, fs122_53, fs122_54, fs122_57, fs122_58, m42 (yo_or t), m43 (yo_or t), m99 (show ysl A < 100000 by omega) (show m < 31 by omega), m106 (show yn A < 100000 by omega) h4, m106 (show yn A < 100000 by omega) (h4' _), fj_PV t, fj_YO (yo_or t) t, fj_OB, fj_AR, fj_CI, q_zo0, q_zo1, Option.toList_some, Option.toList_none, List.cons_append, List.nil_append, true_and, and_true, true_or, if_true, if_false, q_l10, q_l01, eq_self, Int32.reduceLT, Int32.reduceLE, Int32.reduceAdd, Int32.reduceSub, fj_up_at, Nat.reduceEqDiff, false_and, and_false, and_self, reduceCtorEq, Nat.reduceAdd, hC.2.1, c3, d4, e, e', q_bit0 (show ysl A < 100000 by omega) (show m < 31 by omega), hb, bI, Bool.true_eq_false, Bool.false_eq_true, q_shl m (by omega), q_xor, xor_sdf hb, q_sdf, hy2]
        exact fj_fin_i (fj_In_sl h (sdf_lt hs2)) _
    | false =>
      cases b with
      | true =>
        simp only [fs65_0, fs65_1, fs65_4, fs65_5, fs65_8, fs65_11, fs65_12, fs65_13, fs65_14, fs65_17, fs65_18, fs65_21, fs65_22, fs65_25, fs65_26, fs65_27, fs65_28, fs65_31, fs65_31i, fs65_32, fs65_35, fs65_36, fs65_37, fs65_38, fs65_39, fs65_42, fs65_43, fs122_0, fs122_1, fs122_2, fs122_5, fs122_8, fs122_9, fs122_10, fs122_11, fs122_14, fs122_15, fs122_18, fs122_19, fs122_20, fs122_21, fs122_24, fs122_25, fs122_28, fs122_29, fs122_30, fs122_31, fs122_32, fs122_35, fs122_36, fs122_39, fs122_40, fs122_41, fs122_42, fs122_43, fs122_44, fs122_45, fs122_48, fs122_49, fs122_50, fs122_53, fs122_54, fs122_57, fs122_58, m42 (yo_or t), m43 (yo_or t), m99 (show ysl A < 100000 by omega) (show m < 31 by omega), m106 (show yn A < 100000 by omega) h4, m106 (show yn A < 100000 by omega) (h4' _), fj_PV t, fj_YO (yo_or t) t, fj_OB, fj_AR, fj_CI, q_zo0, q_zo1, Option.toList_some, Option.toList_none, List.cons_append, List.nil_append, true_and, and_true, true_or, if_true, if_false, q_l10, q_l01, eq_self, Int32.reduceLT, Int32.reduceLE, Int32.reduceAdd, Int32.reduceSub, fj_up_at, Nat.reduceEqDiff, false_and, and_false, and_self, reduceCtorEq, Nat.reduceAdd, hC.2.1, c3, d4, e, e', q_bit0 (show ysl A < 100000 by omega) (show m < 31 by omega), hb, bI, Bool.true_eq_false, Bool.false_eq_true, q_shl m (by omega), q_xor, xor_or hb, q_or, hy2]
        exact fj_fin_i (fj_In_sl h (or_lt2 hs2 hm)) _
      | false =>
        have z : nI (ysl A) &&& (nI (2 ^ m) ^^^ (-1)) = nI (ysl A) := by rw [q_sdf, sdf_id hb]
        have z2 : fj_up M 33 12 (nI (ysl A)) = M := fj_up_id d4
        simp only [fs65_0, fs65_1, fs65_4, fs65_5, fs65_8, fs65_11, fs65_12, fs65_13, fs65_14, fs65_17, fs65_18, fs65_21, fs65_22, fs65_25, fs65_26, fs65_27, fs65_28, fs65_31, fs65_31i, fs65_32, fs65_35, fs65_36, fs65_37, fs65_38, fs65_39, fs65_42, fs65_43, fs122_0, fs122_1, fs122_2, fs122_5, fs122_8, fs122_9, fs122_10, fs122_11, fs122_14, fs122_15, fs122_18, fs122_19, fs122_20, fs122_21, fs122_24, fs122_25, fs122_28, fs122_29, fs122_30, fs122_31, fs122_32, fs122_35, fs122_36, fs122_39, fs122_40, fs122_41, fs122_42, fs122_43, fs122_44, fs122_45, fs122_48, fs122_49, fs122_50, fs122_53, fs122_54, fs122_57, fs122_58, m42 (yo_or t), m43 (yo_or t), m99 (show ysl A < 100000 by omega) (show m < 31 by omega), m106 (show yn A < 100000 by omega) h4, m106 (show yn A < 100000 by omega) (h4' _), fj_PV t, fj_YO (yo_or t) t, fj_OB, fj_AR, fj_CI, q_zo0, q_zo1, Option.toList_some, Option.toList_none, List.cons_append, List.nil_append, true_and, and_true, true_or, if_true, if_false, q_l10, q_l01, eq_self, Int32.reduceLT, Int32.reduceLE, Int32.reduceAdd, Int32.reduceSub, fj_up_at, Nat.reduceEqDiff, false_and, and_false, and_self, reduceCtorEq, Nat.reduceAdd, hC.2.1, c3, d4, e, e', q_bit0 (show ysl A < 100000 by omega) (show m < 31 by omega), hb, bI, Bool.true_eq_false, Bool.false_eq_true, q_shl m (by omega), z, z2]
        exact fj_fin_i h _
theorem pr_trace {t : Bool} {M : fj_HM} (h : fj_Iv t M) : fj_pr isI t M 92 [.ref 0] 160 [.ref 33] := by
  obtain ⟨A, R, h⟩ := h
  have e := h.2.2.2.2.2.2.2.2.1
  unfold fj_pr
  simp only [fs92_0, fs92_1, fs92_4, fs160_0, fs160_1, fs160_4, fj_PV t, fj_OB, fj_AR, fj_CI, q_zo0, q_zo1, Option.toList_some, Option.toList_none, List.cons_append, List.nil_append, true_and, and_true, true_or, if_true, if_false, q_l10, q_l01, eq_self, Int32.reduceLT, Int32.reduceLE, Int32.reduceAdd, Int32.reduceSub, fj_up_at, Nat.reduceEqDiff, false_and, and_false, and_self, reduceCtorEq, Nat.reduceAdd, e]
  exact fj_fin_i h _
theorem pr_fault {t : Bool} {M : fj_HM} (h : fj_Iv t M) : fj_pr isI t M 93 [.ref 0] 161 [.ref 33] := by
  obtain ⟨A, R, h⟩ := h
  have e := h.2.2.2.2.2.2.2.2.2
  unfold fj_pr
  simp only [fs93_0, fs93_1, fs93_4, fs161_0, fs161_1, fs161_4, fj_PV t, fj_OB, fj_AR, fj_CI, q_zo0, q_zo1, Option.toList_some, Option.toList_none, List.cons_append, List.nil_append, true_and, and_true, true_or, if_true, if_false, q_l10, q_l01, eq_self, Int32.reduceLT, Int32.reduceLE, Int32.reduceAdd, Int32.reduceSub, fj_up_at, Nat.reduceEqDiff, false_and, and_false, and_self, reduceCtorEq, Nat.reduceAdd, e]
  exact fj_fin_i h _
theorem pr_many {t : Bool} {M : fj_HM} (h : fj_Iv t M) (w : Int32) : fj_pr isI t M 94 [.ref 0, .int w] 162 [.ref 33, .int w] := by
  obtain ⟨A, R, h⟩ := h
  obtain ⟨hV, hC, hM, -, hRC, hRM, -⟩ := id h
  have hm : nI (yh A) * nI (yw A) = nI (yc A) := q_mul _ _
  have hy := yo_or t
  unfold fj_pr
  have z0 : (0 : Int32) = 0 := rfl
  by_cases w0 : w = 0
  · subst w0
    simp only [fs94_0, fs94_1, fs94_40, fs94_41, fs94_44, fs94_47, fs94_48, fs94_49, fs94_52, fs94_55, fs94_56, fs94_57, fs94_60, fs94_63, fs94_64, fs94_65, fs94_68, fs94_71, fs94_72, fs94_73, fs94_76, fs94_79, fs94_80, fs94_81, fs94_84, fs94_87, fs94_88, fs94_90, fs162_0, fs162_1, fs162_40, fs162_41, fs162_44, fs162_45, fs162_48, fs162_49, fs162_50, fs162_51, fs162_54, fs162_55, fs162_56, fs162_59, fs162_60, fs162_61, fs162_64, fs162_65, fs162_66, fs162_69, fs162_70, fs162_71, fs162_74, fs162_75, fs162_77, fj_PV t, fj_YO (yo_or t) t, fj_OB, fj_AR, fj_CI, q_zo0, q_zo1, Option.toList_some, Option.toList_none, List.cons_append, List.nil_append, true_and, and_true, true_or, if_true, if_false, q_l10, q_l01, eq_self, Int32.reduceLT, Int32.reduceLE, Int32.reduceAdd, Int32.reduceSub, fj_up_at, Nat.reduceEqDiff, false_and, and_false, and_self, reduceCtorEq, Nat.reduceAdd, hC.1, hM.1, hM.2.1, hm]
    exact fj_fin_i h _
  · by_cases w1 : w = 1
    · subst w1
      simp only [fs94_0, fs94_1, fs94_40, fs94_41, fs94_44, fs94_47, fs94_48, fs94_49, fs94_52, fs94_55, fs94_56, fs94_57, fs94_60, fs94_63, fs94_64, fs94_65, fs94_68, fs94_71, fs94_72, fs94_73, fs94_76, fs94_79, fs94_80, fs94_81, fs94_84, fs94_87, fs94_88, fs94_90, fs162_0, fs162_1, fs162_40, fs162_41, fs162_44, fs162_45, fs162_48, fs162_49, fs162_50, fs162_51, fs162_54, fs162_55, fs162_56, fs162_59, fs162_60, fs162_61, fs162_64, fs162_65, fs162_66, fs162_69, fs162_70, fs162_71, fs162_74, fs162_75, fs162_77, fj_PV t, fj_YO (yo_or t) t, fj_OB, fj_AR, fj_CI, q_zo0, q_zo1, Option.toList_some, Option.toList_none, List.cons_append, List.nil_append, true_and, and_true, true_or, if_true, if_false, q_l10, q_l01, eq_self, Int32.reduceLT, Int32.reduceLE, Int32.reduceAdd, Int32.reduceSub, fj_up_at, Nat.reduceEqDiff, false_and, and_false, and_self, reduceCtorEq, Nat.reduceAdd, q_ll, hC.2.1, hM.2.2.1]
      exact fj_fin_i h _
    · by_cases w2 : w = 2
      · subst w2
        simp only [fs94_0, fs94_1, fs94_40, fs94_41, fs94_44, fs94_47, fs94_48, fs94_49, fs94_52, fs94_55, fs94_56, fs94_57, fs94_60, fs94_63, fs94_64, fs94_65, fs94_68, fs94_71, fs94_72, fs94_73, fs94_76, fs94_79, fs94_80, fs94_81, fs94_84, fs94_87, fs94_88, fs94_90, fs162_0, fs162_1, fs162_40, fs162_41, fs162_44, fs162_45, fs162_48, fs162_49, fs162_50, fs162_51, fs162_54, fs162_55, fs162_56, fs162_59, fs162_60, fs162_61, fs162_64, fs162_65, fs162_66, fs162_69, fs162_70, fs162_71, fs162_74, fs162_75, fs162_77, fj_PV t, fj_YO (yo_or t) t, fj_OB, fj_AR, fj_CI, q_zo0, q_zo1, Option.toList_some, Option.toList_none, List.cons_append, List.nil_append, true_and, and_true, true_or, if_true, if_false, q_l10, q_l01, eq_self, Int32.reduceLT, Int32.reduceLE, Int32.reduceAdd, Int32.reduceSub, fj_up_at, Nat.reduceEqDiff, false_and, and_false, and_self, reduceCtorEq, Nat.reduceAdd, q_ll, hC.2.2.1, hM.2.2.2.1]
        exact fj_fin_i h _
      · by_cases w3 : w = 3
        · subst w3
          simp only [fs94_0, fs94_1, fs94_40, fs94_41, fs94_44, fs94_47, fs94_48, fs94_49, fs94_52, fs94_55, fs94_56, fs94_57, fs94_60, fs94_63, fs94_64, fs94_65, fs94_68, fs94_71, fs94_72, fs94_73, fs94_76, fs94_79, fs94_80, fs94_81, fs94_84, fs94_87, fs94_88, fs94_90, fs162_0, fs162_1, fs162_40, fs162_41, fs162_44, fs162_45, fs162_48, fs162_49, fs162_50, fs162_51, fs162_54, fs162_55, fs162_56, fs162_59, fs162_60, fs162_61, fs162_64, fs162_65, fs162_66, fs162_69, fs162_70, fs162_71, fs162_74, fs162_75, fs162_77, fj_PV t, fj_YO (yo_or t) t, fj_OB, fj_AR, fj_CI, q_zo0, q_zo1, Option.toList_some, Option.toList_none, List.cons_append, List.nil_append, true_and, and_true, true_or, if_true, if_false, q_l10, q_l01, eq_self, Int32.reduceLT, Int32.reduceLE, Int32.reduceAdd, Int32.reduceSub, fj_up_at, Nat.reduceEqDiff, false_and, and_false, and_self, reduceCtorEq, Nat.reduceAdd, q_ll, hC.2.2.2.2.1, hM.2.2.2.2.2.1]
          exact fj_fin_i h _
        · by_cases w4 : w = 4
          · subst w4
            simp only [fs94_0, fs94_1, fs94_40, fs94_41, fs94_44, fs94_47, fs94_48, fs94_49, fs94_52, fs94_55, fs94_56, fs94_57, fs94_60, fs94_63, fs94_64, fs94_65, fs94_68, fs94_71, fs94_72, fs94_73, fs94_76, fs94_79, fs94_80, fs94_81, fs94_84, fs94_87, fs94_88, fs94_90, fs162_0, fs162_1, fs162_40, fs162_41, fs162_44, fs162_45, fs162_48, fs162_49, fs162_50, fs162_51, fs162_54, fs162_55, fs162_56, fs162_59, fs162_60, fs162_61, fs162_64, fs162_65, fs162_66, fs162_69, fs162_70, fs162_71, fs162_74, fs162_75, fs162_77, fj_PV t, fj_YO (yo_or t) t, fj_OB, fj_AR, fj_CI, q_zo0, q_zo1, Option.toList_some, Option.toList_none, List.cons_append, List.nil_append, true_and, and_true, true_or, if_true, if_false, q_l10, q_l01, eq_self, Int32.reduceLT, Int32.reduceLE, Int32.reduceAdd, Int32.reduceSub, fj_up_at, Nat.reduceEqDiff, false_and, and_false, and_self, reduceCtorEq, Nat.reduceAdd, q_ll, hC.2.2.2.2.2.1, hM.2.2.2.2.2.2.1]
            exact fj_fin_i h _
          · by_cases w5 : w = 5
            · subst w5
              simp only [fs94_0, fs94_1, fs94_40, fs94_41, fs94_44, fs94_47, fs94_48, fs94_49, fs94_52, fs94_55, fs94_56, fs94_57, fs94_60, fs94_63, fs94_64, fs94_65, fs94_68, fs94_71, fs94_72, fs94_73, fs94_76, fs94_79, fs94_80, fs94_81, fs94_84, fs94_87, fs94_88, fs94_90, fs162_0, fs162_1, fs162_40, fs162_41, fs162_44, fs162_45, fs162_48, fs162_49, fs162_50, fs162_51, fs162_54, fs162_55, fs162_56, fs162_59, fs162_60, fs162_61, fs162_64, fs162_65, fs162_66, fs162_69, fs162_70, fs162_71, fs162_74, fs162_75, fs162_77, fj_PV t, fj_YO (yo_or t) t, fj_OB, fj_AR, fj_CI, q_zo0, q_zo1, Option.toList_some, Option.toList_none, List.cons_append, List.nil_append, true_and, and_true, true_or, if_true, if_false, q_l10, q_l01, eq_self, Int32.reduceLT, Int32.reduceLE, Int32.reduceAdd, Int32.reduceSub, fj_up_at, Nat.reduceEqDiff, false_and, and_false, and_self, reduceCtorEq, Nat.reduceAdd, q_ll, hRC.1, hRM.1]
              exact fj_fin_i h _
            · simp only [fs94_0, fs94_1, fs94_40, fs94_41, fs94_44, fs94_47, fs94_48, fs94_49, fs94_52, fs94_55, fs94_56, fs94_57, fs94_60, fs94_63, fs94_64, fs94_65, fs94_68, fs94_71, fs94_72, fs94_73, fs94_76, fs94_79, fs94_80, fs94_81, fs94_84, fs94_87, fs94_88, fs94_90, fs162_0, fs162_1, fs162_40, fs162_41, fs162_44, fs162_45, fs162_48, fs162_49, fs162_50, fs162_51, fs162_54, fs162_55, fs162_56, fs162_59, fs162_60, fs162_61, fs162_64, fs162_65, fs162_66, fs162_69, fs162_70, fs162_71, fs162_74, fs162_75, fs162_77, fj_PV t, fj_YO (yo_or t) t, fj_OB, fj_AR, fj_CI, q_zo0, q_zo1, Option.toList_some, Option.toList_none, List.cons_append, List.nil_append, true_and, and_true, true_or, if_true, if_false, q_l10, q_l01, eq_self, Int32.reduceLT, Int32.reduceLE, Int32.reduceAdd, Int32.reduceSub, fj_up_at, Nat.reduceEqDiff, false_and, and_false, and_self, reduceCtorEq, Nat.reduceAdd, w0, w1, w2, w3, w4, w5]
              exact fj_fin_i h _
