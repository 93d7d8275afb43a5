/-! ===== pairs: calls that tell, and small changes ===== -/
theorem fj_RC_cg {M M' : fj_HM} {R : fj_Rd} (h : ∀ o, 5 ≤ o → o ≤ 8 → M' o = M o) (hR : fj_RC M R) : fj_RC M' R := by
  unfold fj_RC
  rw [h 5 (by decide) (by decide), h 6 (by decide) (by decide), h 7 (by decide) (by decide), h 8 (by decide) (by decide)]
  exact hR
theorem fj_RM_cg {M M' : fj_HM} {R : fj_Rd} (h : ∀ o, 46 ≤ o → o ≤ 48 → M' o = M o) (h3 : M' 33 32 = M 33 32) (hR : fj_RM M R) : fj_RM M' R := by
  unfold fj_RM
  rw [h3, h 46 (by decide) (by decide), h 47 (by decide) (by decide), h 48 (by decide) (by decide)]
  exact hR
theorem fj_S_cg {M M' : fj_HM} (h : ∀ o, (2 ≤ o ∧ o ≤ 4) ∨ (49 ≤ o ∧ o ≤ 51) → M' o = M o) (hS : ∀ k, k < 4 → fj_S1 M k) : ∀ k, k < 4 → fj_S1 M' k := by
  unfold fj_S1
  rw [h 49 (by decide), h 3 (by decide), h 4 (by decide), h 50 (by decide), h 2 (by decide), h 51 (by decide)]
  exact hS
theorem fj_MB_cg {M M' : fj_HM} (h : M' 21 = M 21) (h2 : M' 29 = M 29) (hB : fj_MB M) : fj_MB M' := by
  intro o ho j hj
  rcases ho with rfl | rfl
  · rw [show 17 + 4 = 21 from rfl, h]
    exact hB 17 (Or.inl rfl) j hj
  · rw [show 25 + 4 = 29 from rfl, h2]
    exact hB 25 (Or.inr rfl) j hj
theorem q_ll : ((2 : Int32) = 0) = False ∧ ((2 : Int32) = 1) = False ∧ ((3 : Int32) = 0) = False ∧ ((3 : Int32) = 1) = False ∧ ((3 : Int32) = 2) = False ∧ ((4 : Int32) = 0) = False ∧ ((4 : Int32) = 1) = False ∧ ((4 : Int32) = 2) = False ∧ ((4 : Int32) = 3) = False ∧ ((5 : Int32) = 0) = False ∧ ((5 : Int32) = 1) = False ∧ ((5 : Int32) = 2) = False ∧ ((5 : Int32) = 3) = False ∧ ((5 : Int32) = 4) = False := ⟨eq_false (by decide), eq_false (by decide), eq_false (by decide), eq_false (by decide), eq_false (by decide), eq_false (by decide), eq_false (by decide), eq_false (by decide), eq_false (by decide), eq_false (by decide), eq_false (by decide), eq_false (by decide), eq_false (by decide), eq_false (by decide)⟩
/-- no yard, or one -/
theorem yd_st {A : fj_Yd} (hV : fj_YV A) : (yh A = 0 ∧ yc A = 0 ∧ (nI (yc A) ≤ 0) = True ∧ (nI (yh A) = 0) = True ∧ yn A = 0 ∧ yq A = 0) ∨ (0 < yc A ∧ 1 ≤ ycn A ∧ (nI (yc A) ≤ 0) = False ∧ (nI (yh A) = 0) = False) := by
  have hc := yc_le hV
  have e0 : (nI (yc A) ≤ 0) = (yc A ≤ 0) := by rw [q_0]; exact q_le (by omega) (by decide)
  rcases hV.1 with ⟨b1, b2, b3, b4⟩ | ⟨b1, b2, b3, b4, b5⟩
  · have z : yc A = 0 := by unfold yc; rw [b1, Nat.zero_mul]
    exact Or.inl ⟨b1, z, by rw [e0]; exact eq_true (by omega), by rw [b1]; exact eq_true rfl, b3, b4⟩
  · have e1 : (nI (yh A) = 0) = (yh A = 0) := by rw [q_0]; exact q_eq (by omega) (by decide)
    have z : 0 < yc A := Nat.mul_pos (by omega) (by omega)
    exact Or.inr ⟨z, b5, by rw [e0]; exact eq_false (by omega), by rw [e1]; exact eq_false (by omega)⟩
theorem pr_ofMan {t : Bool} {M : fj_HM} (h : fj_Iv t M) (v w : Int32) : fj_pr isI t M 61 [.ref 0, .int v, .int w] 117 [.ref 33, .int v, .int w] := by
  obtain ⟨A, R, h⟩ := h
  obtain ⟨hV, hC, hM, -⟩ := id h
  have hn := yn_le hV
  have h4 := hM.2.2.1
  have hy := yo_or t
  unfold fj_pr
  rcases q_place (n := yn A) (by omega) v with e | ⟨e, e'⟩ | ⟨m, hm, rfl, e, e'⟩
  · simp only [fs61_0, fs61_1, fs61_4, fs61_5, fs61_8, fs61_11, fs61_12, fs117_0, fs117_1, fs117_2, fs117_5, fs117_8, fs117_9, m42 (yo_or t), m106 (show yn A < 100000 by omega) h4, fj_PV t, fj_YO (yo_or t) t, fj_OB, fj_AR, fj_CI, q_zo0, q_zo1, Option.toList_some, Option.toList_none, List.cons_append, List.nil_append, true_and, and_true, true_or, if_true, if_false, q_l10, q_l01, eq_self, Int32.reduceLT, Int32.reduceLE, Int32.reduceAdd, Int32.reduceSub, fj_up_at, Nat.reduceEqDiff, false_and, and_false, and_self, reduceCtorEq, Nat.reduceAdd, hC.2.1, e]
    exact fj_fin_i h _
  · simp only [fs61_0, fs61_1, fs61_4, fs61_5, fs61_8, fs61_11, fs61_12, fs117_0, fs117_1, fs117_2, fs117_5, fs117_8, fs117_9, m42 (yo_or t), m106 (show yn A < 100000 by omega) h4, fj_PV t, fj_YO (yo_or t) t, fj_OB, fj_AR, fj_CI, q_zo0, q_zo1, Option.toList_some, Option.toList_none, List.cons_append, List.nil_append, true_and, and_true, true_or, if_true, if_false, q_l10, q_l01, eq_self, Int32.reduceLT, Int32.reduceLE, Int32.reduceAdd, Int32.reduceSub, fj_up_at, Nat.reduceEqDiff, false_and, and_false, and_self, reduceCtorEq, Nat.reduceAdd, hC.2.1, e, e']
    exact fj_fin_i h _
  · obtain ⟨b1, b2, b3⟩ := hC.2.2.2.2.2.2.2.1 m hm
    obtain ⟨d1, d2, d3⟩ := hM.2.2.2.2.2.2.2.2.1 m hm
    have hkd := ym_kd hV hm
    have hsl := ysl_lt hV
    by_cases w0 : w = 0
    · subst w0
      simp only [fs61_0, fs61_1, fs61_4, fs61_5, fs61_8, fs61_11, fs61_12, fs61_13, fs61_14, fs61_48, fs61_49, fs61_52, fs61_55, fs61_56, fs61_57, fs61_58, fs61_59, fs61_62, fs61_65, fs61_66, fs61_67, fs61_68, fs61_69, fs61_72, fs61_75, fs61_76, fs61_77, fs61_78, fs61_79, fs61_82, fs61_85, fs61_86, fs61_87, fs61_88, fs61_91, fs61_94, fs61_95, fs61_96, fs61_99, fs61_100, fs61_101, fs61_104, fs61_105, fs61_108, fs61_111, fs61_112, fs61_115, fs61_116, fs61_117, fs61_119, fs117_0, fs117_1, fs117_2, fs117_5, fs117_8, fs117_9, fs117_10, fs117_11, fs117_44, fs117_45, fs117_48, fs117_49, fs117_50, fs117_51, fs117_52, fs117_55, fs117_56, fs117_57, fs117_58, fs117_59, fs117_62, fs117_63, fs117_64, fs117_65, fs117_66, fs117_67, fs117_70, fs117_71, fs117_72, fs117_75, fs117_76, fs117_79, fs117_82, fs117_83, fs117_86, fs117_87, fs117_88, fs117_90, m42 (yo_or t), m106 (show yn A < 100000 by omega) h4, fj_PV t, fj_YO (yo_or t) t, fj_OB, fj_AR, fj_CI, q_zo0, q_zo1, Option.toList_some, Option.toList_none, List.cons_append, List.nil_append, true_and, and_true, true_or, if_true, if_false, q_l10, q_l01, eq_self, Int32.reduceLT, Int32.reduceLE, Int32.reduceAdd, Int32.reduceSub, fj_up_at, Nat.reduceEqDiff, false_and, and_false, and_self, reduceCtorEq, Nat.reduceAdd, hC.2.1, e, e', q_in (show m < 6 by omega), q_clamp (show m < 100000 by omega), b1, d1]
      exact fj_fin_i h _
    · by_cases w1 : w = 1
      · subst w1
        simp only [fs61_0, fs61_1, fs61_4, fs61_5, fs61_8, fs61_11, fs61_12, fs61_13, fs61_14, fs61_48, fs61_49, fs61_52, fs61_55, fs61_56, fs61_57, fs61_58, fs61_59, fs61_62, fs61_65, fs61_66, fs61_67, fs61_68, fs61_69, fs61_72, fs61_75, fs61_76, fs61_77, fs61_78, fs61_79, fs61_82, fs61_85, fs61_86, fs61_87, fs61_88, fs61_91, fs61_94, fs61_95, fs61_96, fs61_99, fs61_100, fs61_101, fs61_104, fs61_105, fs61_108, fs61_111, fs61_112, fs61_115, fs61_116, fs61_117, fs61_119, fs117_0, fs117_1, fs117_2, fs117_5, fs117_8, fs117_9, fs117_10, fs117_11, fs117_44, fs117_45, fs117_48, fs117_49, fs117_50, fs117_51, fs117_52, fs117_55, fs117_56, fs117_57, fs117_58, fs117_59, fs117_62, fs117_63, fs117_64, fs117_65, fs117_66, fs117_67, fs117_70, fs117_71, fs117_72, fs117_75, fs117_76, fs117_79, fs117_82, fs117_83, fs117_86, fs117_87, fs117_88, fs117_90, m42 (yo_or t), m106 (show yn A < 100000 by omega) h4, fj_PV t, fj_YO (yo_or t) t, fj_OB, fj_AR, fj_CI, q_zo0, q_zo1, Option.toList_some, Option.toList_none, List.cons_append, List.nil_append, true_and, and_true, true_or, if_true, if_false, q_l10, q_l01, eq_self, Int32.reduceLT, Int32.reduceLE, Int32.reduceAdd, Int32.reduceSub, fj_up_at, Nat.reduceEqDiff, false_and, and_false, and_self, reduceCtorEq, Nat.reduceAdd, q_ll, hC.2.1, e, e', q_in (show m < 6 by omega), q_clamp (show m < 100000 by omega), b2, d2]
        exact fj_fin_i h _
      · by_cases w2 : w = 2
        · subst w2
          simp only [fs61_0, fs61_1, fs61_4, fs61_5, fs61_8, fs61_11, fs61_12, fs61_13, fs61_14, fs61_48, fs61_49, fs61_52, fs61_55, fs61_56, fs61_57, fs61_58, fs61_59, fs61_62, fs61_65, fs61_66, fs61_67, fs61_68, fs61_69, fs61_72, fs61_75, fs61_76, fs61_77, fs61_78, fs61_79, fs61_82, fs61_85, fs61_86, fs61_87, fs61_88, fs61_91, fs61_94, fs61_95, fs61_96, fs61_99, fs61_100, fs61_101, fs61_104, fs61_105, fs61_108, fs61_111, fs61_112, fs61_115, fs61_116, fs61_117, fs61_119, fs117_0, fs117_1, fs117_2, fs117_5, fs117_8, fs117_9, fs117_10, fs117_11, fs117_44, fs117_45, fs117_48, fs117_49, fs117_50, fs117_51, fs117_52, fs117_55, fs117_56, fs117_57, fs117_58, fs117_59, fs117_62, fs117_63, fs117_64, fs117_65, fs117_66, fs117_67, fs117_70, fs117_71, fs117_72, fs117_75, fs117_76, fs117_79, fs117_82, fs117_83, fs117_86, fs117_87, fs117_88, fs117_90, m42 (yo_or t), m106 (show yn A < 100000 by omega) h4, fj_PV t, fj_YO (yo_or t) t, fj_OB, fj_AR, fj_CI, q_zo0, q_zo1, Option.toList_some, Option.toList_none, List.cons_append, List.nil_append, true_and, and_true, true_or, if_true, if_false, q_l10, q_l01, eq_self, Int32.reduceLT, Int32.reduceLE, Int32.reduceAdd, Int32.reduceSub, fj_up_at, Nat.reduceEqDiff, false_and, and_false, and_self, reduceCtorEq, Nat.reduceAdd, q_ll, hC.2.1, e, e', q_in (show m < 6 by omega), q_clamp (show m < 100000 by omega), b3, d3]
          exact fj_fin_i h _
        · by_cases w3 : w = 3
          · subst w3
            simp only [fs61_0, fs61_1, fs61_4, fs61_5, fs61_8, fs61_11, fs61_12, fs61_13, fs61_14, fs61_48, fs61_49, fs61_52, fs61_55, fs61_56, fs61_57, fs61_58, fs61_59, fs61_62, fs61_65, fs61_66, fs61_67, fs61_68, fs61_69, fs61_72, fs61_75, fs61_76, fs61_77, fs61_78, fs61_79, fs61_82, fs61_85, fs61_86, fs61_87, fs61_88, fs61_91, fs61_94, fs61_95, fs61_96, fs61_99, fs61_100, fs61_101, fs61_104, fs61_105, fs61_108, fs61_111, fs61_112, fs61_115, fs61_116, fs61_117, fs61_119, fs117_0, fs117_1, fs117_2, fs117_5, fs117_8, fs117_9, fs117_10, fs117_11, fs117_44, fs117_45, fs117_48, fs117_49, fs117_50, fs117_51, fs117_52, fs117_55, fs117_56, fs117_57, fs117_58, fs117_59, fs117_62, fs117_63, fs117_64, fs117_65, fs117_66, fs117_67, fs117_70, fs117_71, fs117_72, fs117_75, fs117_76, fs117_79, fs117_82, fs117_83, fs117_86, fs117_87, fs117_88, fs117_90, m42 (yo_or t), m106 (show yn A < 100000 by omega) h4, m53 hkd, m116 hV hM hm, fj_PV t, fj_YO (yo_or t) t, fj_OB, fj_AR, fj_CI, q_zo0, q_zo1, Option.toList_some, Option.toList_none, List.cons_append, List.nil_append, true_and, and_true, true_or, if_true, if_false, q_l10, q_l01, eq_self, Int32.reduceLT, Int32.reduceLE, Int32.reduceAdd, Int32.reduceSub, fj_up_at, Nat.reduceEqDiff, false_and, and_false, and_self, reduceCtorEq, Nat.reduceAdd, q_ll, hC.2.1, e, e', q_in (show m < 6 by omega), q_clamp (show m < 100000 by omega), b1, b2]
            exact fj_fin_i h _
          · by_cases w4 : w = 4
            · subst w4
              cases hb : (ysl A).testBit m with
              | true =>
                simp only [fs61_0, fs61_1, fs61_4, fs61_5, fs61_8, fs61_11, fs61_12, fs61_13, fs61_14, fs61_48, fs61_49, fs61_52, fs61_55, fs61_56, fs61_57, fs61_58, fs61_59, fs61_62, fs61_65, fs61_66, fs61_67, fs61_68, fs61_69, fs61_72, fs61_75, fs61_76, fs61_77, fs61_78, fs61_79, fs61_82, fs61_85, fs61_86, fs61_87, fs61_88, fs61_91, fs61_94, fs61_95, fs61_96, fs61_99, fs61_100, fs61_101, fs61_104, fs61_105, fs61_108, fs61_111, fs61_112, fs61_115, fs61_116, fs61_117, fs61_119, fs117_0, fs117_1, fs117_2, fs117_5, fs117_8, fs117_9, fs117_10, fs117_11, fs117_44, fs117_45, fs117_48, fs117_49, fs117_50, fs117_51, fs117_52, fs117_55, fs117_56, fs117_57, fs117_58, fs117_59, fs117_62, fs117_63, fs117_64, fs117_65, fs117_66, fs117_67, fs117_70, fs117_71, fs117_72, fs117_75, fs117_76, fs117_79, fs117_82, fs117_83, fs117_86, fs117_87, fs117_88, fs117_90, m42 (yo_or t), m43 (yo_or t), m99 (show ysl A < 100000 by omega) (show m < 31 by omega), m106 (show yn A < 100000 by omega) h4, fj_PV t, fj_YO (yo_or t) t, fj_OB, fj_AR, fj_CI, q_zo0, q_zo1, Option.toList_some, Option.toList_none, List.cons_append, List.nil_append, true_and, and_true, true_or, if_true, if_false, q_l10, q_l01, eq_self, Int32.reduceLT, Int32.reduceLE, Int32.reduceAdd, Int32.reduceSub, fj_up_at, Nat.reduceEqDiff, false_and, and_false, and_self, reduceCtorEq, Nat.reduceAdd, q_ll, hC.2.1, hC.2.2.2.1, hM.2.2.2.2.1, e, e', q_bit0 (show ysl A < 100000 by omega) (show m < 31 by omega), hb, bI, Bool.true_eq_false]
                exact fj_fin_i h _
              | false =>
                simp only [fs61_0, fs61_1, fs61_4, fs61_5, fs61_8, fs61_11, fs61_12, fs61_13, fs61_14, fs61_48, fs61_49, fs61_52, fs61_55, fs61_56, fs61_57, fs61_58, fs61_59, fs61_62, fs61_65, fs61_66, fs61_67, fs61_68, fs61_69, fs61_72, fs61_75, fs61_76, fs61_77, fs61_78, fs61_79, fs61_82, fs61_85, fs61_86, fs61_87, fs61_88, fs61_91, fs61_94, fs61_95, fs61_96, fs61_99, fs61_100, fs61_101, fs61_104, fs61_105, fs61_108, fs61_111, fs61_112, fs61_115, fs61_116, fs61_117, fs61_119, fs117_0, fs117_1, fs117_2, fs117_5, fs117_8, fs117_9, fs117_10, fs117_11, fs117_44, fs117_45, fs117_48, fs117_49, fs117_50, fs117_51, fs117_52, fs117_55, fs117_56, fs117_57, fs117_58, fs117_59, fs117_62, fs117_63, fs117_64, fs117_65, fs117_66, fs117_67, fs117_70, fs117_71, fs117_72, fs117_75, fs117_76, fs117_79, fs117_82, fs117_83, fs117_86, fs117_87, fs117_88, fs117_90, m42 (yo_or t), m43 (yo_or t), m99 (show ysl A < 100000 by omega) (show m < 31 by omega), m106 (show yn A < 100000 by omega) h4, fj_PV t, fj_YO (yo_or t) t, fj_OB, fj_AR, fj_CI, q_zo0, q_zo1, Option.toList_some, Option.toList_none, List.cons_append, List.nil_append, true_and, and_true, true_or, if_true, if_false, q_l10, q_l01, eq_self, Int32.reduceLT, Int32.reduceLE, Int32.reduceAdd, Int32.reduceSub, fj_up_at, Nat.reduceEqDiff, false_and, and_false, and_self, reduceCtorEq, Nat.reduceAdd, q_ll, hC.2.1, hC.2.2.2.1, hM.2.2.2.2.1, e, e', q_bit0 (show ysl A < 100000 by omega) (show m < 31 by omega), hb, bI, Bool.false_eq_true]
                exact fj_fin_i h _
            · simp only [fs61_0, fs61_1, fs61_4, fs61_5, fs61_8, fs61_11, fs61_12, fs61_13, fs61_14, fs61_48, fs61_49, fs61_52, fs61_55, fs61_56, fs61_57, fs61_58, fs61_59, fs61_62, fs61_65, fs61_66, fs61_67, fs61_68, fs61_69, fs61_72, fs61_75, fs61_76, fs61_77, fs61_78, fs61_79, fs61_82, fs61_85, fs61_86, fs61_87, fs61_88, fs61_91, fs61_94, fs61_95, fs61_96, fs61_99, fs61_100, fs61_101, fs61_104, fs61_105, fs61_108, fs61_111, fs61_112, fs61_115, fs61_116, fs61_117, fs61_119, fs117_0, fs117_1, fs117_2, fs117_5, fs117_8, fs117_9, fs117_10, fs117_11, fs117_44, fs117_45, fs117_48, fs117_49, fs117_50, fs117_51, fs117_52, fs117_55, fs117_56, fs117_57, fs117_58, fs117_59, fs117_62, fs117_63, fs117_64, fs117_65, fs117_66, fs117_67, fs117_70, fs117_71, fs117_72, fs117_75, fs117_76, fs117_79, fs117_82, fs117_83, fs117_86, fs117_87, fs117_88, fs117_90, m42 (yo_or t), m106 (show yn A < 100000 by omega) h4, fj_PV t, fj_YO (yo_or t) t, fj_OB, fj_AR, fj_CI, q_zo0, q_zo1, Option.toList_some, Option.toList_none, List.cons_append, List.nil_append, true_and, and_true, true_or, if_true, if_false, q_l10, q_l01, eq_self, Int32.reduceLT, Int32.reduceLE, Int32.reduceAdd, Int32.reduceSub, fj_up_at, Nat.reduceEqDiff, false_and, and_false, and_self, reduceCtorEq, Nat.reduceAdd, hC.2.1, e, e', w0, w1, w2, w3, w4]
              exact fj_fin_i h _
theorem pr_far {t : Bool} {M : fj_HM} (h : fj_Iv t M) (v w : Int32) : fj_pr isI t M 62 [.ref 0, .int v, .int w] 119 [.ref 33, .int v, .int w] := by
  obtain ⟨A, R, h⟩ := h
  obtain ⟨hV, hC, hM, -⟩ := id h
  have hc := yc_le hV
  unfold fj_pr
  rcases q_place (n := yc A) (by omega) v with e | ⟨e, e'⟩ | ⟨c, hc', rfl, e, e'⟩
  · simp only [fs62_0, fs62_1, fs62_4, fs62_5, fs62_8, fs62_11, fs62_12, fs62_15, fs62_16, fs62_19, fs62_22, fs62_23, fs62_24, fs62_25, fs62_28, fs62_29, fs62_30, fs62_33, fs119_0, fs119_1, fs119_2, fs119_5, fs119_8, fs119_9, fs119_10, fs119_13, fs119_16, fs119_17, fs119_20, fs119_21, fs119_22, fs119_23, fs119_26, m41 (yo_or t), m105 hV hM, fj_PV t, fj_YO (yo_or t) t, fj_OB, fj_AR, fj_CI, q_zo0, q_zo1, Option.toList_some, Option.toList_none, List.cons_append, List.nil_append, true_and, and_true, true_or, if_true, if_false, q_l10, q_l01, eq_self, Int32.reduceLT, Int32.reduceLE, Int32.reduceAdd, Int32.reduceSub, fj_up_at, Nat.reduceEqDiff, false_and, and_false, and_self, reduceCtorEq, Nat.reduceAdd, hC.1, e]
    exact fj_fin_i h _
  · simp only [fs62_0, fs62_1, fs62_4, fs62_5, fs62_8, fs62_11, fs62_12, fs62_15, fs62_16, fs62_19, fs62_22, fs62_23, fs62_24, fs62_25, fs62_28, fs62_29, fs62_30, fs62_33, fs119_0, fs119_1, fs119_2, fs119_5, fs119_8, fs119_9, fs119_10, fs119_13, fs119_16, fs119_17, fs119_20, fs119_21, fs119_22, fs119_23, fs119_26, m41 (yo_or t), m105 hV hM, fj_PV t, fj_YO (yo_or t) t, fj_OB, fj_AR, fj_CI, q_zo0, q_zo1, Option.toList_some, Option.toList_none, List.cons_append, List.nil_append, true_and, and_true, true_or, if_true, if_false, q_l10, q_l01, eq_self, Int32.reduceLT, Int32.reduceLE, Int32.reduceAdd, Int32.reduceSub, fj_up_at, Nat.reduceEqDiff, false_and, and_false, and_self, reduceCtorEq, Nat.reduceAdd, hC.1, e, e']
    exact fj_fin_i h _
  · rcases q_place (n := yc A) (by omega) w with f | ⟨f, f'⟩ | ⟨d, hd', rfl, f, f'⟩
    · simp only [fs62_0, fs62_1, fs62_4, fs62_5, fs62_8, fs62_11, fs62_12, fs62_15, fs62_16, fs62_19, fs62_22, fs62_23, fs62_24, fs62_25, fs62_28, fs62_29, fs62_30, fs62_33, fs119_0, fs119_1, fs119_2, fs119_5, fs119_8, fs119_9, fs119_10, fs119_13, fs119_16, fs119_17, fs119_20, fs119_21, fs119_22, fs119_23, fs119_26, m41 (yo_or t), m105 hV hM, fj_PV t, fj_YO (yo_or t) t, fj_OB, fj_AR, fj_CI, q_zo0, q_zo1, Option.toList_some, Option.toList_none, List.cons_append, List.nil_append, true_and, and_true, true_or, if_true, if_false, q_l10, q_l01, eq_self, Int32.reduceLT, Int32.reduceLE, Int32.reduceAdd, Int32.reduceSub, fj_up_at, Nat.reduceEqDiff, false_and, and_false, and_self, reduceCtorEq, Nat.reduceAdd, hC.1, e, e', f]
      exact fj_fin_i h _
    · simp only [fs62_0, fs62_1, fs62_4, fs62_5, fs62_8, fs62_11, fs62_12, fs62_15, fs62_16, fs62_19, fs62_22, fs62_23, fs62_24, fs62_25, fs62_28, fs62_29, fs62_30, fs62_33, fs119_0, fs119_1, fs119_2, fs119_5, fs119_8, fs119_9, fs119_10, fs119_13, fs119_16, fs119_17, fs119_20, fs119_21, fs119_22, fs119_23, fs119_26, m41 (yo_or t), m105 hV hM, fj_PV t, fj_YO (yo_or t) t, fj_OB, fj_AR, fj_CI, q_zo0, q_zo1, Option.toList_some, Option.toList_none, List.cons_append, List.nil_append, true_and, and_true, true_or, if_true, if_false, q_l10, q_l01, eq_self, Int32.reduceLT, Int32.reduceLE, Int32.reduceAdd, Int32.reduceSub, fj_up_at, Nat.reduceEqDiff, false_and, and_false, and_self, reduceCtorEq, Nat.reduceAdd, hC.1, e, e', f, f']
      exact fj_fin_i h _
    · simp only [fs62_0, fs62_1, fs62_4, fs62_5, fs62_8, fs62_11, fs62_12, fs62_15, fs62_16, fs62_19, fs62_22, fs62_23, fs62_24, fs62_25, fs62_28, fs62_29, fs62_30, fs62_33, fs119_0, fs119_1, fs119_2, fs119_5, fs119_8, fs119_9, fs119_10, fs119_13, fs119_16, fs119_17, fs119_20, fs119_21, fs119_22, fs119_23, fs119_26, m41 (yo_or t), m105 hV hM, m52 (yo_or t) t hV hC hc' hd', m118 hV hM hc' hd', fj_PV t, fj_YO (yo_or t) t, fj_OB, fj_AR, fj_CI, q_zo0, q_zo1, Option.toList_some, Option.toList_none, List.cons_append, List.nil_append, true_and, and_true, true_or, if_true, if_false, q_l10, q_l01, eq_self, Int32.reduceLT, Int32.reduceLE, Int32.reduceAdd, Int32.reduceSub, fj_up_at, Nat.reduceEqDiff, false_and, and_false, and_self, reduceCtorEq, Nat.reduceAdd, hC.1, e, e', f, f']
      exact fj_fin_i h _
theorem and_all {x n : Nat} (h : x < 2 ^ n) : x &&& (2 ^ n - 1) = x := by
  apply nat_ext
  intro i
  rw [Nat.testBit_and, Nat.testBit_two_pow_sub_one]
  by_cases hi : i < n
  · rw [decide_eq_true hi, Bool.and_true]
  · rw [tb_big h (by omega), Bool.false_and]
theorem pr_ears {t : Bool} {M : fj_HM} (h : fj_Iv t M) (v : Int32) : fj_pr isI t M 66 [.ref 0, .int v] 124 [.ref 33, .int v] := by
  obtain ⟨A, R, h⟩ := h
  obtain ⟨hV, hC, hM, -⟩ := id h
  have hc := yc_le hV
  have hn := yn_le hV
  unfold fj_pr
  rcases q_place (n := yc A) (by omega) v with e | ⟨e, e'⟩ | ⟨c, hc', rfl, e, e'⟩
  · simp only [fs66_0, fs66_1, fs66_4, fs66_5, fs66_8, fs66_11, fs66_12, fs66_13, fs66_14, fs66_17, fs66_18, fs66_21, fs66_22, fs66_25, fs66_28, fs66_29, fs66_30, fs66_31, fs124_0, fs124_1, fs124_2, fs124_5, fs124_8, fs124_9, fs124_12, fs124_13, fs124_14, fs124_15, fs124_18, fs124_21, m41 (yo_or t), m105 hV hM, fj_PV t, fj_YO (yo_or t) t, fj_OB, fj_AR, fj_CI, q_zo0, q_zo1, Option.toList_some, Option.toList_none, List.cons_append, List.nil_append, true_and, and_true, true_or, if_true, if_false, q_l10, q_l01, eq_self, Int32.reduceLT, Int32.reduceLE, Int32.reduceAdd, Int32.reduceSub, fj_up_at, Nat.reduceEqDiff, false_and, and_false, and_self, reduceCtorEq, Nat.reduceAdd, hC.1, e]
    exact fj_fin_i h _
  · simp only [fs66_0, fs66_1, fs66_4, fs66_5, fs66_8, fs66_11, fs66_12, fs66_13, fs66_14, fs66_17, fs66_18, fs66_21, fs66_22, fs66_25, fs66_28, fs66_29, fs66_30, fs66_31, fs124_0, fs124_1, fs124_2, fs124_5, fs124_8, fs124_9, fs124_12, fs124_13, fs124_14, fs124_15, fs124_18, fs124_21, m41 (yo_or t), m105 hV hM, fj_PV t, fj_YO (yo_or t) t, fj_OB, fj_AR, fj_CI, q_zo0, q_zo1, Option.toList_some, Option.toList_none, List.cons_append, List.nil_append, true_and, and_true, true_or, if_true, if_false, q_l10, q_l01, eq_self, Int32.reduceLT, Int32.reduceLE, Int32.reduceAdd, Int32.reduceSub, fj_up_at, Nat.reduceEqDiff, false_and, and_false, and_self, reduceCtorEq, Nat.reduceAdd, hC.1, e, e']
    exact fj_fin_i h _
  · have ea : yHs A c (2 ^ yn A - 1) = sdf (yH A c) (ysl A) := by rw [yHs_eq A c (all_lt hn), and_all (yH_lt A c)]
    simp only [fs66_0, fs66_1, fs66_4, fs66_5, fs66_8, fs66_11, fs66_12, fs66_13, fs66_14, fs66_17, fs66_18, fs66_21, fs66_22, fs66_25, fs66_28, fs66_29, fs66_30, fs66_31, fs124_0, fs124_1, fs124_2, fs124_5, fs124_8, fs124_9, fs124_12, fs124_13, fs124_14, fs124_15, fs124_18, fs124_21, m41 (yo_or t), m105 hV hM, m54 (yo_or t) t hV hC hc', m107 hn hM.2.2.1, m123 hV hM hc' (all_lt hn), fj_PV t, fj_YO (yo_or t) t, fj_OB, fj_AR, fj_CI, q_zo0, q_zo1, Option.toList_some, Option.toList_none, List.cons_append, List.nil_append, true_and, and_true, true_or, if_true, if_false, q_l10, q_l01, eq_self, Int32.reduceLT, Int32.reduceLE, Int32.reduceAdd, Int32.reduceSub, fj_up_at, Nat.reduceEqDiff, false_and, and_false, and_self, reduceCtorEq, Nat.reduceAdd, hC.1, hC.2.2.2.1, q_sdf, ea, e, e']
    exact fj_fin_i h _
