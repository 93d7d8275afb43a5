/-! ===== pairs: a yard by a text ===== -/
theorem m59 {t : Bool} {n : Nat} (hn : n ≤ 60) {g : Nat → Int32} {M : fj_HM} (hg : ∀ k, gC M n k = g k) (hj : ∀ j, j < 6 → ∃ d, d < 24 ∧ M (yo (!t) + 4) j = nI d) {Q : fj_Po}
  (hF : ∀ M' f, (∀ o', (o' < yo (!t) ∨ yo (!t) + 7 < o') → M' o' = M o') → pAll g n = .inl f → (∀ j, j < 6 → ∃ d, d < 24 ∧ M' (yo (!t) + 4) j = nI d) → f ≤ 100 → Q (some (.int (-100 - nI f))) M' (fj_PY t) 53 7835)
  (hG : ∀ M' A, (∀ o', (o' < yo (!t) ∨ yo (!t) + 7 < o') → M' o' = M o') → pAll g n = .inr A → (∀ j, j < 6 → ∃ d, d < 24 ∧ M' (yo (!t) + 4) j = nI d) → fj_YV A → fj_YC (yo (!t)) M' A → Q (some (.int (nI (yn A)))) (fj_up M' 5 0 0) (fj_PY (!t)) 53 7835) :
  fj_H none 59 0 [.ref 0, .int (nI n), .null, .null] [] M (fj_PY t) 53 7835 Q := by
  have hy := yo_or (!t)
  have n5 : ¬ (yo (!t) = 5) := by omega
  simp only [fs59_0, fs59_1, fs59_4, fs59_5, fs59_8, fs59_9, fj_PV t, fj_YO (yo_or (!t)) t, fj_OB, fj_AR, fj_CI, q_zo0, q_zo1, Option.toList_some, Option.toList_none, List.cons_append, List.nil_append, true_and, and_true, true_or, if_true, if_false, q_l10, q_l01, eq_self, Int32.reduceLT, Int32.reduceLE, Int32.reduceAdd, Int32.reduceSub, fj_up_at, Nat.reduceEqDiff, false_and, and_false, and_self, reduceCtorEq, Nat.reduceAdd]
  refine m44 (yo_or (!t)) t hn hg hj (fun M' f f1 e1 b1 l1 => ?_) (fun M' A f1 e1 b1 hV hY => ?_)
  · have e9 : (nI f = -9) = False := by
      apply eq_false
      intro z
      have : (nI f).toInt = (-9 : Int32).toInt := by rw [z]
      rw [q_toInt (by omega)] at this
      have a9 : (-9 : Int32).toInt = -9 := rfl
      omega
    simp only [fs59_12, fs59_13, fs59_14, fs59_16, fs59_19, fs59_21, fs59_22, fs59_23, fj_OB, fj_AR, fj_CI, q_zo0, q_zo1, Option.toList_some, Option.toList_none, List.cons_append, List.nil_append, true_and, and_true, true_or, if_true, if_false, q_l10, q_l01, eq_self, Int32.reduceLT, Int32.reduceLE, Int32.reduceAdd, Int32.reduceSub, fj_up_at, Nat.reduceEqDiff, false_and, and_false, and_self, reduceCtorEq, Nat.reduceAdd, e9]
    exact hF M' f f1 e1 b1 l1
  · simp only [fs59_12, fs59_13, fs59_14, fs59_16, fs59_24, fs59_25, fs59_28, fs59_29, fs59_30, fs59_31, fs59_34, fs59_37, fs59_38, fs59_39, fs59_42, fs59_43, fs59_46, fs59_47, fs59_50, fs59_51, fs59_54, fs59_57, fj_PV t, fj_PV (!t), fj_YO (yo_or (!t)) (!t), fj_OB, fj_AR, fj_CI, q_zo0, q_zo1, Option.toList_some, Option.toList_none, List.cons_append, List.nil_append, true_and, and_true, true_or, if_true, if_false, q_l10, q_l01, eq_self, Int32.reduceLT, Int32.reduceLE, Int32.reduceAdd, Int32.reduceSub, fj_up_at, Nat.reduceEqDiff, false_and, and_false, and_self, reduceCtorEq, Nat.reduceAdd, fj_PY_swap, n5, hY.2.1, eq_true (show yo (!t) < 53 by omega), eq_true (show yo t < 53 by have := yo_or t; omega)]
    exact hG M' A f1 e1 b1 hV hY
theorem m114_l1 {t : Bool} {v1 v2 v3 v4 v5 : Value} {h w : Nat} (hhw : h * w ≤ 24) {Q : fj_Po} : ∀ (r c : Nat) (M : fj_HM), c + r = h * w → M 33 1 = nI h → M 33 2 = nI w → (∀ M', (∀ o, o ≠ 34 → M' o = M o) → (∀ j, M' 34 j = if c ≤ j ∧ j < h * w then M 39 j else M 34 j) → fj_H none 114 148 [.ref 33, v1, v2, v3, v4, v5, .int (nI (h * w))] [] M' (fj_PY t) 53 7835 Q) → fj_H none 114 114 [.ref 33, v1, v2, v3, v4, v5, .int (nI c)] [] M (fj_PY t) 53 7835 Q := by
  intro r
  induction r with
  | zero =>
    intro c M hc h1 h2 hQ
    have hcn : c = h * w := by omega
    subst hcn
    rw [fs114_114]
    simp only [fs114_116, fs114_117, fs114_120, fs114_121, fs114_124, fs114_125, fj_PV t, fj_OB, fj_AR, fj_CI, q_zo0, q_zo1, Option.toList_some, Option.toList_none, List.cons_append, List.nil_append, true_and, and_true, true_or, if_true, if_false, q_l10, q_l01, eq_self, Int32.reduceLT, Int32.reduceLE, Int32.reduceAdd, Int32.reduceSub, fj_up_at, Nat.reduceEqDiff, false_and, and_false, and_self, reduceCtorEq, Nat.reduceAdd, h1, h2, q_mul, q_le (show h * w < 100000 by omega) (show h * w < 100000 by omega), eq_true (Nat.le_refl (h * w))]
    exact hQ M (fun _ _ => rfl) (fun j => by rw [if_neg (by omega)])
  | succ r ih =>
    intro c M hc h1 h2 hQ
    rw [fs114_114]
    simp only [fs114_116, fs114_117, fs114_120, fs114_121, fs114_124, fs114_125, fj_PV t, fj_OB, fj_AR, fj_CI, q_zo0, q_zo1, Option.toList_some, Option.toList_none, List.cons_append, List.nil_append, true_and, and_true, true_or, if_true, if_false, q_l10, q_l01, eq_self, Int32.reduceLT, Int32.reduceLE, Int32.reduceAdd, Int32.reduceSub, fj_up_at, Nat.reduceEqDiff, false_and, and_false, and_self, reduceCtorEq, Nat.reduceAdd, h1, h2, q_mul, q_le (show h * w < 100000 by omega) (show c < 100000 by omega), eq_false (show ¬ h * w ≤ c by omega)]
    simp only [fs114_128, fs114_129, fs114_132, fs114_134, fs114_135, fs114_138, fs114_140, fs114_141, fs114_142, fs114_145, fj_PV t, fj_OB, fj_AR, fj_CI, q_zo0, q_zo1, Option.toList_some, Option.toList_none, List.cons_append, List.nil_append, true_and, and_true, true_or, if_true, if_false, q_l10, q_l01, eq_self, Int32.reduceLT, Int32.reduceLE, Int32.reduceAdd, Int32.reduceSub, fj_up_at, Nat.reduceEqDiff, false_and, and_false, and_self, reduceCtorEq, Nat.reduceAdd, q_in (show c < 24 by omega), q_clamp (show c < 100000 by omega), nI_1]
    refine ih (c + 1) _ (by omega) h1 h2 (fun M' u1 u2 => hQ M' (fun o ho => by rw [u1 o ho]; (funext j; simp only [fj_up_at]; repeat (rw [if_neg (by omega)]))) (fun j => ?_))
    rw [u2 j]
    by_cases ej : j = c
    · rw [if_neg (by omega), if_pos (by omega), ej, fj_up_at, if_pos ⟨rfl, rfl⟩]
    · by_cases e2 : c ≤ j ∧ j < h * w
      · rw [if_pos (by omega), if_pos e2]
        (simp only [fj_up_at]; repeat (first | rw [if_neg (by omega)] | rw [if_pos (by omega)]))
      · rw [if_neg (by omega), if_neg e2]
        (simp only [fj_up_at]; repeat (first | rw [if_neg (by omega)] | rw [if_pos (by omega)]))
theorem m114_l2 {t : Bool} {v1 v2 v3 v4 v5 : Value} {n : Nat} (hn : n ≤ 6) {Q : fj_Po} : ∀ (r m : Nat) (M : fj_HM), m + r = n → M 33 4 = nI n → (∀ M', (∀ o, o ≠ 35 → o ≠ 36 → o ≠ 37 → M' o = M o) → (∀ j, M' 35 j = (if m ≤ j ∧ j < n then M 40 j else M 35 j) ∧ M' 36 j = (if m ≤ j ∧ j < n then M 41 j else M 36 j) ∧ M' 37 j = (if m ≤ j ∧ j < n then M 42 j else M 37 j)) → fj_H none 114 208 [.ref 33, v1, v2, v3, v4, v5, .int (nI n)] [] M' (fj_PY t) 53 7835 Q) → fj_H none 114 151 [.ref 33, v1, v2, v3, v4, v5, .int (nI m)] [] M (fj_PY t) 53 7835 Q := by
  intro r
  induction r with
  | zero =>
    intro m M hm h4 hQ
    have hmn : m = n := by omega
    subst hmn
    rw [fs114_151]
    simp only [fs114_153, fs114_154, fs114_157, fj_PV t, fj_OB, fj_AR, fj_CI, q_zo0, q_zo1, Option.toList_some, Option.toList_none, List.cons_append, List.nil_append, true_and, and_true, true_or, if_true, if_false, q_l10, q_l01, eq_self, Int32.reduceLT, Int32.reduceLE, Int32.reduceAdd, Int32.reduceSub, fj_up_at, Nat.reduceEqDiff, false_and, and_false, and_self, reduceCtorEq, Nat.reduceAdd, h4, q_le (show m < 100000 by omega) (show m < 100000 by omega), eq_true (Nat.le_refl m)]
    exact hQ M (fun _ _ _ _ => rfl) (fun j => ⟨by rw [if_neg (by omega)], by rw [if_neg (by omega)], by rw [if_neg (by omega)]⟩)
  | succ r ih =>
    intro m M hm h4 hQ
    rw [fs114_151]
    simp only [fs114_153, fs114_154, fs114_157, fj_PV t, fj_OB, fj_AR, fj_CI, q_zo0, q_zo1, Option.toList_some, Option.toList_none, List.cons_append, List.nil_append, true_and, and_true, true_or, if_true, if_false, q_l10, q_l01, eq_self, Int32.reduceLT, Int32.reduceLE, Int32.reduceAdd, Int32.reduceSub, fj_up_at, Nat.reduceEqDiff, false_and, and_false, and_self, reduceCtorEq, Nat.reduceAdd, h4, q_le (show n < 100000 by omega) (show m < 100000 by omega), eq_false (show ¬ n ≤ m by omega)]
    simp only [fs114_160, fs114_161, fs114_164, fs114_166, fs114_167, fs114_170, fs114_172, fs114_173, fs114_174, fs114_175, fs114_178, fs114_180, fs114_181, fs114_184, fs114_186, fs114_187, fs114_188, fs114_189, fs114_192, fs114_194, fs114_195, fs114_198, fs114_200, fs114_201, fs114_202, fs114_205, fj_PV t, fj_OB, fj_AR, fj_CI, q_zo0, q_zo1, Option.toList_some, Option.toList_none, List.cons_append, List.nil_append, true_and, and_true, true_or, if_true, if_false, q_l10, q_l01, eq_self, Int32.reduceLT, Int32.reduceLE, Int32.reduceAdd, Int32.reduceSub, fj_up_at, Nat.reduceEqDiff, false_and, and_false, and_self, reduceCtorEq, Nat.reduceAdd, q_in (show m < 6 by omega), q_clamp (show m < 100000 by omega), nI_1]
    refine ih (m + 1) _ (by omega) h4 (fun M' u1 u2 => hQ M' (fun o b1 b2 b3 => by rw [u1 o b1 b2 b3]; (funext j; simp only [fj_up_at]; repeat (rw [if_neg (by omega)]))) (fun j => ?_))
    obtain ⟨w1, w2, w3⟩ := u2 j
    rw [w1, w2, w3]
    by_cases ej : j = m
    · subst ej
      refine ⟨?_, ?_, ?_⟩
      · rw [if_neg (by omega), if_pos (by omega)]
        (simp only [fj_up_at, true_and, and_self, if_true, eq_self, Nat.reduceEqDiff, false_and, if_false])
      · rw [if_neg (by omega), if_pos (by omega)]
        (simp only [fj_up_at, true_and, and_self, if_true, eq_self, Nat.reduceEqDiff, false_and, if_false])
      · rw [if_neg (by omega), if_pos (by omega)]
        (simp only [fj_up_at, true_and, and_self, if_true, eq_self, Nat.reduceEqDiff, false_and, if_false])
    · by_cases e2 : m ≤ j ∧ j < n
      · refine ⟨?_, ?_, ?_⟩
        · rw [if_pos (by omega), if_pos e2]
          (simp only [fj_up_at]; repeat (first | rw [if_neg (by omega)] | rw [if_pos (by omega)]))
        · rw [if_pos (by omega), if_pos e2]
          (simp only [fj_up_at]; repeat (first | rw [if_neg (by omega)] | rw [if_pos (by omega)]))
        · rw [if_pos (by omega), if_pos e2]
          (simp only [fj_up_at]; repeat (first | rw [if_neg (by omega)] | rw [if_pos (by omega)]))
      · refine ⟨?_, ?_, ?_⟩
        · rw [if_neg (by omega), if_neg e2]
          (simp only [fj_up_at]; repeat (first | rw [if_neg (by omega)] | rw [if_pos (by omega)]))
        · rw [if_neg (by omega), if_neg e2]
          (simp only [fj_up_at]; repeat (first | rw [if_neg (by omega)] | rw [if_pos (by omega)]))
        · rw [if_neg (by omega), if_neg e2]
          (simp only [fj_up_at]; repeat (first | rw [if_neg (by omega)] | rw [if_pos (by omega)]))
theorem m114_l3 {t : Bool} {v1 v2 v3 v4 v5 : Value} {n : Nat} (hn : n ≤ 2) {Q : fj_Po} : ∀ (r m : Nat) (M : fj_HM), m + r = n → M 33 8 = nI n → (∀ M', (∀ o, o ≠ 38 → M' o = M o) → (∀ j, M' 38 j = if m ≤ j ∧ j < n then M 43 j else M 38 j) → fj_H none 114 240 [.ref 33, v1, v2, v3, v4, v5, .int (nI n)] [] M' (fj_PY t) 53 7835 Q) → fj_H none 114 211 [.ref 33, v1, v2, v3, v4, v5, .int (nI m)] [] M (fj_PY t) 53 7835 Q := by
  intro r
  induction r with
  | zero =>
    intro m M hm h4 hQ
    have hmn : m = n := by omega
    subst hmn
    rw [fs114_211]
    simp only [fs114_213, fs114_214, fs114_217, fj_PV t, fj_OB, fj_AR, fj_CI, q_zo0, q_zo1, Option.toList_some, Option.toList_none, List.cons_append, List.nil_append, true_and, and_true, true_or, if_true, if_false, q_l10, q_l01, eq_self, Int32.reduceLT, Int32.reduceLE, Int32.reduceAdd, Int32.reduceSub, fj_up_at, Nat.reduceEqDiff, false_and, and_false, and_self, reduceCtorEq, Nat.reduceAdd, h4, q_le (show m < 100000 by omega) (show m < 100000 by omega), eq_true (Nat.le_refl m)]
    exact hQ M (fun _ _ => rfl) (fun j => by rw [if_neg (by omega)])
  | succ r ih =>
    intro m M hm h4 hQ
    rw [fs114_211]
    simp only [fs114_213, fs114_214, fs114_217, fj_PV t, fj_OB, fj_AR, fj_CI, q_zo0, q_zo1, Option.toList_some, Option.toList_none, List.cons_append, List.nil_append, true_and, and_true, true_or, if_true, if_false, q_l10, q_l01, eq_self, Int32.reduceLT, Int32.reduceLE, Int32.reduceAdd, Int32.reduceSub, fj_up_at, Nat.reduceEqDiff, false_and, and_false, and_self, reduceCtorEq, Nat.reduceAdd, h4, q_le (show n < 100000 by omega) (show m < 100000 by omega), eq_false (show ¬ n ≤ m by omega)]
    simp only [fs114_220, fs114_221, fs114_224, fs114_226, fs114_227, fs114_230, fs114_232, fs114_233, fs114_234, fs114_237, fj_PV t, fj_OB, fj_AR, fj_CI, q_zo0, q_zo1, Option.toList_some, Option.toList_none, List.cons_append, List.nil_append, true_and, and_true, true_or, if_true, if_false, q_l10, q_l01, eq_self, Int32.reduceLT, Int32.reduceLE, Int32.reduceAdd, Int32.reduceSub, fj_up_at, Nat.reduceEqDiff, false_and, and_false, and_self, reduceCtorEq, Nat.reduceAdd, q_in (show m < 2 by omega), q_clamp (show m < 100000 by omega), nI_1]
    refine ih (m + 1) _ (by omega) h4 (fun M' u1 u2 => hQ M' (fun o b1 => by rw [u1 o b1]; (funext j; simp only [fj_up_at]; repeat (rw [if_neg (by omega)]))) (fun j => ?_))
    rw [u2 j]
    by_cases ej : j = m
    · subst ej
      rw [if_neg (by omega), if_pos (by omega)]
      (simp only [fj_up_at, true_and, and_self, if_true, eq_self, Nat.reduceEqDiff, false_and, if_false])
    · by_cases e2 : m ≤ j ∧ j < n
      · rw [if_pos (by omega), if_pos e2]
        (simp only [fj_up_at]; repeat (first | rw [if_neg (by omega)] | rw [if_pos (by omega)]))
      · rw [if_neg (by omega), if_neg e2]
        (simp only [fj_up_at]; repeat (first | rw [if_neg (by omega)] | rw [if_pos (by omega)]))
theorem m114_cp {t : Bool} {v1 v2 v3 v4 v5 v6 : Value} {h w : Nat} {s : fj_Tx} {M : fj_HM} (hhw : h * w ≤ 24) (h14 : M 33 14 = nI h) (h15 : M 33 15 = nI w) (hP : fj_PR M (h * w) s) (hO : pOk (h * w) s) {Q : fj_Po}
  (hQ : ∀ M', (∀ o', o' ≠ 33 → (o' < 34 ∨ 38 < o') → M' o' = M o') → (∀ k, 12 < k → k ≠ 32 → M' 33 k = M 33 k) → M' 33 0 = 0 → M' 33 32 = 0 → fj_YM M' (pYd h w s) → Q (some (.int (nI (pn s)))) M' (fj_PY t) 53 7835) :
  fj_H none 114 79 [.ref 33, v1, v2, v3, v4, v5, v6] [] M (fj_PY t) 53 7835 Q := by
  obtain ⟨h13, h16, h17, a4, a5, a6⟩ := hP
  obtain ⟨o1, o2, o3, o4⟩ := hO
  simp only [fs114_79, fs114_80, fs114_81, fs114_84, fs114_87, fs114_88, fs114_89, fs114_92, fs114_95, fs114_96, fs114_97, fs114_100, fs114_103, fs114_104, fs114_105, fs114_108, fs114_111, fs114_112, fj_PV t, fj_OB, fj_AR, fj_CI, q_zo0, q_zo1, Option.toList_some, Option.toList_none, List.cons_append, List.nil_append, true_and, and_true, true_or, if_true, if_false, q_l10, q_l01, eq_self, Int32.reduceLT, Int32.reduceLE, Int32.reduceAdd, Int32.reduceSub, fj_up_at, Nat.reduceEqDiff, false_and, and_false, and_self, reduceCtorEq, Nat.reduceAdd, h14, h15, h16, h17]
  refine m114_l1 (h := h) (w := w) hhw (h * w) 0 _ (by omega) (by (simp only [fj_up_at, true_and, and_self, if_true, eq_self, Nat.reduceEqDiff, false_and, if_false])) (by (simp only [fj_up_at, true_and, and_self, if_true, eq_self, Nat.reduceEqDiff, false_and, if_false])) (fun M1 p1 p2 => ?_)
  simp only [fs114_148, fs114_149, fj_OB, fj_AR, fj_CI, q_zo0, q_zo1, Option.toList_some, Option.toList_none, List.cons_append, List.nil_append, true_and, and_true, true_or, if_true, if_false, q_l10, q_l01, eq_self, Int32.reduceLT, Int32.reduceLE, Int32.reduceAdd, Int32.reduceSub, fj_up_at, Nat.reduceEqDiff, false_and, and_false, and_self, reduceCtorEq, Nat.reduceAdd]
  have e4 : M1 33 4 = nI (pn s) := by
    rw [p1 33 (by decide)]
    (simp only [fj_up_at, true_and, and_self, if_true, eq_self, Nat.reduceEqDiff, false_and, if_false])
  refine m114_l2 (n := pn s) o1 (pn s) 0 _ (by omega) e4 (fun M2 q1 q2 => ?_)
  simp only [fs114_208, fs114_209, fj_OB, fj_AR, fj_CI, q_zo0, q_zo1, Option.toList_some, Option.toList_none, List.cons_append, List.nil_append, true_and, and_true, true_or, if_true, if_false, q_l10, q_l01, eq_self, Int32.reduceLT, Int32.reduceLE, Int32.reduceAdd, Int32.reduceSub, fj_up_at, Nat.reduceEqDiff, false_and, and_false, and_self, reduceCtorEq, Nat.reduceAdd]
  have e8 : M2 33 8 = nI (pq s) := by
    rw [q1 33 (by decide) (by decide) (by decide), p1 33 (by decide)]
    (simp only [fj_up_at, true_and, and_self, if_true, eq_self, Nat.reduceEqDiff, false_and, if_false])
  refine m114_l3 (n := pq s) o2 (pq s) 0 _ (by omega) e8 (fun M3 r1 r2 => ?_)
  have f33 : M3 33 = fj_up (fj_up (fj_up (fj_up M 33 1 (nI h)) 33 2 (nI w)) 33 4 (nI (pn s))) 33 8 (nI (pq s)) 33 := by
    rw [r1 33 (by decide), q1 33 (by decide) (by decide) (by decide), p1 33 (by decide)]
  have m4 : M3 33 4 = nI (pn s) := by
    rw [f33]
    (simp only [fj_up_at, true_and, and_self, if_true, eq_self, Nat.reduceEqDiff, false_and, if_false])
  simp only [fs114_240, fs114_241, fs114_242, fs114_245, fs114_246, fs114_248, fs114_251, fs114_252, fs114_253, fs114_256, fs114_257, fs114_258, fs114_261, fs114_262, fs114_263, fs114_266, fs114_269, m102, fj_PV t, fj_OB, fj_AR, fj_CI, q_zo0, q_zo1, Option.toList_some, Option.toList_none, List.cons_append, List.nil_append, true_and, and_true, true_or, if_true, if_false, q_l10, q_l01, eq_self, Int32.reduceLT, Int32.reduceLE, Int32.reduceAdd, Int32.reduceSub, fj_up_at, Nat.reduceEqDiff, false_and, and_false, and_self, reduceCtorEq, Nat.reduceAdd, m4]
  have fr : ∀ o', o' ≠ 33 → (o' < 34 ∨ 38 < o') → M3 o' = M o' := fun o' b1 b2 => by
    rw [r1 o' (by omega), q1 o' (by omega) (by omega) (by omega), p1 o' (by omega)]
    (funext j; simp only [fj_up_at]; repeat (rw [if_neg (by omega)]))
  refine hQ _ (fun o' b1 b2 => by rw [← fr o' b1 b2]; (funext j; simp only [fj_up_at]; repeat (rw [if_neg (by omega)]))) (fun k b1 b2 => ?_) (by (simp only [fj_up_at, true_and, and_self, if_true, eq_self, Nat.reduceEqDiff, false_and, if_false])) (by (simp only [fj_up_at, true_and, and_self, if_true, eq_self, Nat.reduceEqDiff, false_and, if_false])) ?_
  · simp only [fj_up_at, f33]
    repeat (rw [if_neg (by omega)])
  · have g33 : ∀ k, M3 33 k = fj_up (fj_up (fj_up (fj_up M 33 1 (nI h)) 33 2 (nI w)) 33 4 (nI (pn s))) 33 8 (nI (pq s)) 33 k := fun k => by rw [f33]
    refine ⟨?_, ?_, ?_, ?_, ?_, ?_, ?_, fun c hc => ?_, fun m hm => ?_, fun x hx => ?_⟩
    · simp only [fj_up_at, true_and, and_self, if_true, eq_self, Nat.reduceEqDiff, false_and, and_false, if_false, g33]
      rfl
    · simp only [fj_up_at, true_and, and_self, if_true, eq_self, Nat.reduceEqDiff, false_and, and_false, if_false, g33]
      rfl
    · simp only [fj_up_at, true_and, and_self, if_true, eq_self, Nat.reduceEqDiff, false_and, and_false, if_false, g33]
      rfl
    · simp only [fj_up_at, true_and, and_self, if_true, eq_self, Nat.reduceEqDiff, false_and, and_false, if_false, g33]
      rfl
    · (simp only [fj_up_at, true_and, and_self, if_true, eq_self, Nat.reduceEqDiff, false_and, if_false])
      rfl
    · (simp only [fj_up_at, true_and, and_self, if_true, eq_self, Nat.reduceEqDiff, false_and, if_false])
      rfl
    · (simp only [fj_up_at, true_and, and_self, if_true, eq_self, Nat.reduceEqDiff, false_and, if_false])
      rfl
    · have hc' : c < h * w := hc
      (simp only [fj_up_at]; repeat (first | rw [if_neg (by omega)] | rw [if_pos (by omega)]))
      rw [r1 34 (by decide), q1 34 (by decide) (by decide) (by decide), p2, if_pos (by omega)]
      (simp only [fj_up_at]; repeat (first | rw [if_neg (by omega)] | rw [if_pos (by omega)]))
      exact a4 c hc'
    · have hm' : m < pn s := hm
      obtain ⟨b1, b2, b3⟩ := q2 m
      obtain ⟨c1, c2, c3⟩ := a5 m hm'
      refine ⟨?_, ?_, ?_⟩
      · (simp only [fj_up_at]; repeat (first | rw [if_neg (by omega)] | rw [if_pos (by omega)]))
        rw [r1 35 (by decide), b1, if_pos (by omega), p1 40 (by decide)]
        (simp only [fj_up_at]; repeat (first | rw [if_neg (by omega)] | rw [if_pos (by omega)]))
        exact c1
      · (simp only [fj_up_at]; repeat (first | rw [if_neg (by omega)] | rw [if_pos (by omega)]))
        rw [r1 36 (by decide), b2, if_pos (by omega), p1 41 (by decide)]
        (simp only [fj_up_at]; repeat (first | rw [if_neg (by omega)] | rw [if_pos (by omega)]))
        exact c2
      · (simp only [fj_up_at]; repeat (first | rw [if_neg (by omega)] | rw [if_pos (by omega)]))
        rw [r1 37 (by decide), b3, if_pos (by omega), p1 42 (by decide)]
        (simp only [fj_up_at]; repeat (first | rw [if_neg (by omega)] | rw [if_pos (by omega)]))
        exact c3
    · have hx' : x < pq s := hx
      (simp only [fj_up_at]; repeat (first | rw [if_neg (by omega)] | rw [if_pos (by omega)]))
      rw [r2, if_pos (by omega), q1 43 (by decide) (by decide) (by decide), p1 43 (by decide)]
      (simp only [fj_up_at]; repeat (first | rw [if_neg (by omega)] | rw [if_pos (by omega)]))
      exact a6 x hx'
