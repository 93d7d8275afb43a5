/-! ===== pairs: sheets ===== -/
theorem fj_In_s {t : Bool} {M M' : fj_HM} {A : fj_Yd} {R : fj_Rd} (h : fj_In t M A R) (h1 : ∀ o, (5 ≤ o ∧ o ≤ 8) ∨ (17 ≤ o ∧ o ≤ 32) ∨ (34 ≤ o ∧ o ≤ 38) ∨ (46 ≤ o ∧ o ≤ 48) → M' o = M o) (h3 : ∀ k, (1 ≤ k ∧ k ≤ 12) ∨ k = 32 → M' 33 k = M 33 k) (h8 : M' 0 8 = M' 33 40) (h9 : M' 0 9 = M' 33 0) (hS : ∀ k, k < 4 → fj_S1 M' k) : fj_In t M' A R := by
  obtain ⟨a1, a2, a3, a4, a5, a6, a7, a8, a9, a10⟩ := h
  have hyo := yo_or t
  exact ⟨a1, fj_YC_cg (fun i hi j => by rw [h1 _ (by omega)]) a2, fj_YM_cg (fun o b1 b2 => h1 o (by omega)) (fun k b1 b2 => h3 k (by omega)) a3, a4, fj_RC_cg (fun o b1 b2 => h1 o (by omega)) a5, fj_RM_cg (fun o b1 b2 => h1 o (by omega)) (h3 32 (by decide)) a6, hS, fj_MB_cg (h1 21 (by decide)) (h1 29 (by decide)) a8, h8, h9⟩
/-- a lane's own number -/
theorem q_lane {l : Nat} (hl : l ≤ 2) : (nI l = -1) = False := by
  rcases (show l = 0 ∨ l = 1 ∨ l = 2 by omega) with rfl | rfl | rfl <;> exact eq_false (by decide)
/-- another sheet stays as it was -/
theorem fj_S1_cg {M M' : fj_HM} {k : Nat} (h49 : M' 49 k = M 49 k) (h3 : M' 3 k = M 3 k) (h4 : M' 4 k = M 4 k) (h50 : M' 50 k = M 50 k) (h2 : ∀ i, i < 60 → M' 2 (60 * k + i) = M 2 (60 * k + i)) (h51 : ∀ i, i < 60 → M' 51 (60 * k + i) = M 51 (60 * k + i)) (hS : fj_S1 M k) : fj_S1 M' k := by
  unfold fj_S1
  rw [h49, h3, h4, h50]
  rcases hS with ⟨s1, s2, s3⟩ | ⟨n, l, hn, hl, s1, s2, s3, s4, s5⟩
  · exact Or.inl ⟨s1, s2, s3⟩
  · exact Or.inr ⟨n, l, hn, hl, s1, s2, s3, s4, fun i hi => by rw [h2 i (by omega), h51 i (by omega)]; exact s5 i hi⟩
theorem pr_lose {t : Bool} {M : fj_HM} (h : fj_Iv t M) (v : Int32) : fj_pr isI t M 81 [.ref 0, .int v] 150 [.ref 33, .int v, .null] := by
  obtain ⟨A, R, h⟩ := h
  have hS := h.2.2.2.2.2.2.1
  have hy := yo_or t
  unfold fj_pr
  rcases q_place (n := 4) (by omega) v with e | ⟨e, e'⟩ | ⟨k, hk, rfl, e, e'⟩
  · simp only [fs81_0, fs81_1, fs81_4, fs81_7, fs81_8, fs150_0, fs150_1, fs150_4, fs150_7, fs150_8, m19, m148, fj_OB, fj_AR, fj_CI, q_zo0, q_zo1, Option.toList_some, Option.toList_none, List.cons_append, List.nil_append, true_and, and_true, true_or, if_true, if_false, q_l10, q_l01, eq_self, Int32.reduceLT, Int32.reduceLE, Int32.reduceAdd, Int32.reduceSub, fj_up_at, Nat.reduceEqDiff, false_and, and_false, and_self, reduceCtorEq, Nat.reduceAdd, e]
    exact fj_fin_i h _
  · simp only [fs81_0, fs81_1, fs81_4, fs81_7, fs81_8, fs150_0, fs150_1, fs150_4, fs150_7, fs150_8, m19, m148, fj_OB, fj_AR, fj_CI, q_zo0, q_zo1, Option.toList_some, Option.toList_none, List.cons_append, List.nil_append, true_and, and_true, true_or, if_true, if_false, q_l10, q_l01, eq_self, Int32.reduceLT, Int32.reduceLE, Int32.reduceAdd, Int32.reduceSub, fj_up_at, Nat.reduceEqDiff, false_and, and_false, and_self, reduceCtorEq, Nat.reduceAdd, e, show ((4 : Int32) ≤ v) = True from e', e']
    exact fj_fin_i h _
  · rcases hS k hk with ⟨s1, s2, s3⟩ | ⟨n, l, hn, hl, s1, s2, s3, s4, s5⟩
    · have z : fj_up M 49 k (-1) = M := fj_up_id s1
      simp only [fs81_0, fs81_1, fs81_4, fs81_7, fs81_8, fs81_9, fs81_10, fs81_13, fs81_14, fs81_17, fs81_20, fs81_21, fs81_22, fs81_23, fs81_26, fs81_27, fs81_30, fs81_31, fs150_0, fs150_1, fs150_4, fs150_7, fs150_8, fs150_9, fs150_10, fs150_13, fs150_14, fs150_15, fs150_18, fs150_19, fs150_22, fs150_23, fs150_24, fs150_25, fs150_28, fs150_29, fs150_30, fs150_31, fs150_32, m19, m148, m21 hk, fj_PV t, fj_OB, fj_AR, fj_CI, q_zo0, q_zo1, Option.toList_some, Option.toList_none, List.cons_append, List.nil_append, true_and, and_true, true_or, if_true, if_false, q_l10, q_l01, eq_self, Int32.reduceLT, Int32.reduceLE, Int32.reduceAdd, Int32.reduceSub, fj_up_at, Nat.reduceEqDiff, false_and, and_false, and_self, reduceCtorEq, Nat.reduceAdd, e, show ((4 : Int32) ≤ nI k) = False from e', e', s2, s1, q_in hk, q_clamp (show k < 100000 by omega), k_m1, z]
      exact fj_fin_i h _
    · simp only [fs81_0, fs81_1, fs81_4, fs81_7, fs81_8, fs81_9, fs81_10, fs81_13, fs81_14, fs81_17, fs81_20, fs81_21, fs81_22, fs81_23, fs81_26, fs81_27, fs81_30, fs81_31, fs150_0, fs150_1, fs150_4, fs150_7, fs150_8, fs150_9, fs150_10, fs150_13, fs150_14, fs150_15, fs150_18, fs150_19, fs150_22, fs150_23, fs150_24, fs150_25, fs150_28, fs150_29, fs150_30, fs150_31, fs150_32, m19, m148, m21 hk, m27 hk, fj_PV t, fj_OB, fj_AR, fj_CI, q_zo0, q_zo1, Option.toList_some, Option.toList_none, List.cons_append, List.nil_append, true_and, and_true, true_or, if_true, if_false, q_l10, q_l01, eq_self, Int32.reduceLT, Int32.reduceLE, Int32.reduceAdd, Int32.reduceSub, fj_up_at, Nat.reduceEqDiff, false_and, and_false, and_self, reduceCtorEq, Nat.reduceAdd, e, show ((4 : Int32) ≤ nI k) = False from e', e', s3, s1, q_in hk, q_clamp (show k < 100000 by omega), q_lane hl, k_sz (show n < 1000 by omega)]
      refine fj_fin_i (fj_In_s h (fun o ho => by (funext j; simp only [fj_up_at]; repeat (rw [if_neg (by omega)]))) (fun k' hk' => by (simp only [fj_up_at]; repeat (first | rw [if_neg (by omega)] | rw [if_pos (by omega)]))) ?_ ?_ (fun k' hk' => ?_)) _
      · (simp only [fj_up_at]; repeat (first | rw [if_neg (by omega)] | rw [if_pos (by omega)]))
        exact h.2.2.2.2.2.2.2.2.1
      · (simp only [fj_up_at]; repeat (first | rw [if_neg (by omega)] | rw [if_pos (by omega)]))
        exact h.2.2.2.2.2.2.2.2.2
      · by_cases ek : k' = k
        · subst ek
          refine Or.inl ⟨?_, ?_, ?_⟩
          · (simp only [fj_up_at, true_and, and_self, if_true, eq_self, Nat.reduceEqDiff, false_and, if_false])
          · (simp only [fj_up_at, true_and, and_self, if_true, eq_self, Nat.reduceEqDiff, false_and, if_false])
          · (simp only [fj_up_at, true_and, and_self, if_true, eq_self, Nat.reduceEqDiff, false_and, if_false])
        · exact fj_S1_cg (by (simp only [fj_up_at]; repeat (first | rw [if_neg (by omega)] | rw [if_pos (by omega)]))) (by (simp only [fj_up_at]; repeat (first | rw [if_neg (by omega)] | rw [if_pos (by omega)]))) (by (simp only [fj_up_at]; repeat (first | rw [if_neg (by omega)] | rw [if_pos (by omega)]))) (by (simp only [fj_up_at]; repeat (first | rw [if_neg (by omega)] | rw [if_pos (by omega)]))) (fun i hi => by (simp only [fj_up_at]; repeat (first | rw [if_neg (by omega)] | rw [if_pos (by omega)]))) (fun i hi => by (simp only [fj_up_at]; repeat (first | rw [if_neg (by omega)] | rw [if_pos (by omega)]))) (hS k' hk')
theorem m149_loop {t : Bool} {k n : Nat} (hk : k < 4) (hn : n ≤ 60) {l : Value} {Q : fj_Po} : ∀ (r i : Nat) (M : fj_HM), i + r = n → (∀ M', (∀ o, o ≠ 51 → o ≠ 33 → M' o = M o) → (∀ k', k' ≠ 0 → M' 33 k' = M 33 k') → M' 33 0 = 0 → (∀ j, j < 240 → M' 51 j = if 60 * k + i ≤ j ∧ j < 60 * k + n then 0 else M 51 j) → Q (some (.int 1)) M' (fj_PY t) 53 7835) → fj_H none 149 65 [.ref 33, .int (nI k), l, .int (nI n), .int (nI i)] [] M (fj_PY t) 53 7835 Q := by
  intro r
  induction r with
  | zero =>
    intro i M hi hQ
    rw [fs149_65]
    simp only [fs149_67, fs149_68, fj_OB, fj_AR, fj_CI, q_zo0, q_zo1, Option.toList_some, Option.toList_none, List.cons_append, List.nil_append, true_and, and_true, true_or, if_true, if_false, q_l10, q_l01, eq_self, Int32.reduceLT, Int32.reduceLE, Int32.reduceAdd, Int32.reduceSub, fj_up_at, Nat.reduceEqDiff, false_and, and_false, and_self, reduceCtorEq, Nat.reduceAdd, q_le (show n < 100000 by omega) (show i < 100000 by omega), eq_true (show n ≤ i by omega)]
    simp only [fs149_90, fs149_91, fs149_92, fs149_95, m102, fj_PV t, fj_OB, fj_AR, fj_CI, q_zo0, q_zo1, Option.toList_some, Option.toList_none, List.cons_append, List.nil_append, true_and, and_true, true_or, if_true, if_false, q_l10, q_l01, eq_self, Int32.reduceLT, Int32.reduceLE, Int32.reduceAdd, Int32.reduceSub, fj_up_at, Nat.reduceEqDiff, false_and, and_false, and_self, reduceCtorEq, Nat.reduceAdd]
    exact hQ _ (fun o h1 h2 => by (funext j; simp only [fj_up_at]; repeat (rw [if_neg (by omega)]))) (fun k' hk' => by (simp only [fj_up_at]; repeat (first | rw [if_neg (by omega)] | rw [if_pos (by omega)]))) (by (simp only [fj_up_at, true_and, and_self, if_true, eq_self, Nat.reduceEqDiff, false_and, if_false])) (fun j hj => by rw [if_neg (by omega)]; (simp only [fj_up_at]; repeat (first | rw [if_neg (by omega)] | rw [if_pos (by omega)])))
  | succ r ih =>
    intro i M hi hQ
    have e60 : (60 : Int32) * nI k + nI i = nI (60 * k + i) := by rw [show (60 : Int32) = nI 60 from rfl, q_mul, nI_add]
    rw [fs149_65]
    simp only [fs149_67, fs149_68, fj_OB, fj_AR, fj_CI, q_zo0, q_zo1, Option.toList_some, Option.toList_none, List.cons_append, List.nil_append, true_and, and_true, true_or, if_true, if_false, q_l10, q_l01, eq_self, Int32.reduceLT, Int32.reduceLE, Int32.reduceAdd, Int32.reduceSub, fj_up_at, Nat.reduceEqDiff, false_and, and_false, and_self, reduceCtorEq, Nat.reduceAdd, q_le (show n < 100000 by omega) (show i < 100000 by omega), eq_false (show ¬ n ≤ i by omega)]
    simp only [fs149_71, fs149_72, fs149_75, fs149_77, fs149_78, fs149_79, fs149_81, fs149_82, fs149_83, fs149_84, fs149_87, fj_PV t, fj_OB, fj_AR, fj_CI, q_zo0, q_zo1, Option.toList_some, Option.toList_none, List.cons_append, List.nil_append, true_and, and_true, true_or, if_true, if_false, q_l10, q_l01, eq_self, Int32.reduceLT, Int32.reduceLE, Int32.reduceAdd, Int32.reduceSub, fj_up_at, Nat.reduceEqDiff, false_and, and_false, and_self, reduceCtorEq, Nat.reduceAdd, e60, q_in (show 60 * k + i < 240 by omega), q_clamp (show 60 * k + i < 100000 by omega), nI_1]
    refine ih (i + 1) _ (by omega) (fun M' h1 h2 h3 h4 => hQ M' (fun o b1 b2 => by rw [h1 o b1 b2]; (funext j; simp only [fj_up_at]; repeat (rw [if_neg (by omega)]))) (fun k' hk' => by rw [h2 k' hk']; (simp only [fj_up_at]; repeat (first | rw [if_neg (by omega)] | rw [if_pos (by omega)]))) h3 (fun j hj => ?_))
    rw [h4 j hj, fj_up_at]
    by_cases e1 : j = 60 * k + i
    · rw [if_neg (by omega), if_pos ⟨rfl, e1⟩, if_pos (by omega)]
    · by_cases e2 : 60 * k + i ≤ j ∧ j < 60 * k + n
      · rw [if_pos (by omega), if_pos e2]
      · rw [if_neg (by omega), if_neg (by omega), if_neg e2]
theorem pr_sheet {t : Bool} {M : fj_HM} (h : fj_Iv t M) (v w x : Int32) : fj_pr isI t M 80 [.ref 0, .int v, .int w, .int x] 149 [.ref 33, .int v, .int w, .int x, .null] := by
  obtain ⟨A, R, h⟩ := h
  have hS := h.2.2.2.2.2.2.1
  have hy := yo_or t
  unfold fj_pr
  rcases q_place (n := 4) (by omega) v with e | ⟨e, e'⟩ | ⟨k, hk, rfl, e, e'⟩
  · simp only [fs80_0, fs80_1, fs80_2, fs80_5, fs80_6, fs80_9, fs80_12, fs80_13, fs149_0, fs149_1, fs149_4, fs149_7, fs149_8, fs149_9, fs149_12, m19, m148, m102, fj_PV t, fj_OB, fj_AR, fj_CI, q_zo0, q_zo1, Option.toList_some, Option.toList_none, List.cons_append, List.nil_append, true_and, and_true, true_or, if_true, if_false, q_l10, q_l01, eq_self, Int32.reduceLT, Int32.reduceLE, Int32.reduceAdd, Int32.reduceSub, fj_up_at, Nat.reduceEqDiff, false_and, and_false, and_self, reduceCtorEq, Nat.reduceAdd, e]
    exact fj_fin_i (fj_In_f h _) _
  · simp only [fs80_0, fs80_1, fs80_2, fs80_5, fs80_6, fs80_9, fs80_12, fs80_13, fs149_0, fs149_1, fs149_4, fs149_7, fs149_8, fs149_9, fs149_12, m19, m148, m102, fj_PV t, fj_OB, fj_AR, fj_CI, q_zo0, q_zo1, Option.toList_some, Option.toList_none, List.cons_append, List.nil_append, true_and, and_true, true_or, if_true, if_false, q_l10, q_l01, eq_self, Int32.reduceLT, Int32.reduceLE, Int32.reduceAdd, Int32.reduceSub, fj_up_at, Nat.reduceEqDiff, false_and, and_false, and_self, reduceCtorEq, Nat.reduceAdd, e, show ((4 : Int32) ≤ v) = True from e', e']
    exact fj_fin_i (fj_In_f h _) _
  · have e'' : ((4 : Int32) ≤ nI k) = False := e'
    rcases q_span 0 2 (by decide) (by decide) w with f | ⟨f, f', f''⟩ | ⟨l, l1, l2, rfl, f, f', f''⟩
    · rw [show nI 0 = 0 from rfl] at f
      simp only [fs80_0, fs80_1, fs80_2, fs80_5, fs80_6, fs80_9, fs80_14, fs80_15, fs80_18, fs80_27, fs80_29, fs149_0, fs149_1, fs149_4, fs149_13, fs149_14, fs149_15, fs149_16, fs149_19, fs149_22, fs149_31, fs149_32, fs149_34, fs149_37, m19, m20, m97c q_l0 k_l2, m148, m102, fj_PV t, fj_OB, fj_AR, fj_CI, q_zo0, q_zo1, Option.toList_some, Option.toList_none, List.cons_append, List.nil_append, true_and, and_true, true_or, if_true, if_false, q_l10, q_l01, eq_self, Int32.reduceLT, Int32.reduceLE, Int32.reduceAdd, Int32.reduceSub, fj_up_at, Nat.reduceEqDiff, false_and, and_false, and_self, reduceCtorEq, Nat.reduceAdd, e, e', e'', f]
      exact fj_fin_i (fj_In_f h _) _
    · rw [show nI 0 = 0 from rfl] at f
      rw [show nI 2 = 2 from rfl] at f' f''
      simp only [fs80_0, fs80_1, fs80_2, fs80_5, fs80_6, fs80_9, fs80_14, fs80_15, fs80_18, fs80_27, fs80_29, fs149_0, fs149_1, fs149_4, fs149_13, fs149_14, fs149_15, fs149_16, fs149_19, fs149_22, fs149_31, fs149_32, fs149_34, fs149_37, m19, m20, m97c q_l0 k_l2, m148, m102, fj_PV t, fj_OB, fj_AR, fj_CI, q_zo0, q_zo1, Option.toList_some, Option.toList_none, List.cons_append, List.nil_append, true_and, and_true, true_or, if_true, if_false, q_l10, q_l01, eq_self, Int32.reduceLT, Int32.reduceLE, Int32.reduceAdd, Int32.reduceSub, fj_up_at, Nat.reduceEqDiff, false_and, and_false, and_self, reduceCtorEq, Nat.reduceAdd, e, e', e'', f, f', f'']
      exact fj_fin_i (fj_In_f h _) _
    · rw [show nI 0 = 0 from rfl] at f
      rw [show nI 2 = 2 from rfl] at f' f''
      rcases q_span 0 60 (by decide) (by decide) x with g | ⟨g, g', g''⟩ | ⟨n, n1, n2, rfl, g, g', g''⟩
      · rw [show nI 0 = 0 from rfl] at g
        have g2 : (x ≤ 60) = True := eq_true (by
          have := of_eq_true g
          rw [Int32.lt_iff_toInt_lt] at this
          rw [Int32.le_iff_toInt_le]
          have a1 : (0 : Int32).toInt = 0 := rfl
          have a2 : (60 : Int32).toInt = 60 := rfl
          omega)
        have g3 : ((0 : Int32) ≤ x) = False := eq_false (Int32.not_le.mpr (of_eq_true g))
        simp only [fs80_0, fs80_1, fs80_2, fs80_5, fs80_6, fs80_9, fs80_14, fs80_15, fs80_18, fs80_21, fs80_22, fs80_24, fs80_30, fs80_31, fs80_34, fs80_35, fs80_36, fs80_39, fs149_0, fs149_1, fs149_4, fs149_13, fs149_14, fs149_15, fs149_16, fs149_19, fs149_22, fs149_25, fs149_26, fs149_28, fs149_38, fs149_39, fs149_42, fs149_43, fs149_44, fs149_47, m19, m20, m95, m97c q_l0 k_l2, m148, m102, m103, fj_PV t, fj_OB, fj_AR, fj_CI, q_zo0, q_zo1, Option.toList_some, Option.toList_none, List.cons_append, List.nil_append, true_and, and_true, true_or, if_true, if_false, q_l10, q_l01, eq_self, Int32.reduceLT, Int32.reduceLE, Int32.reduceAdd, Int32.reduceSub, fj_up_at, Nat.reduceEqDiff, false_and, and_false, and_self, reduceCtorEq, Nat.reduceAdd, e, e', e'', f, f', f'', g2, g3, fj_up_up]
        exact fj_fin_i (fj_In_f h _) _
      · rw [show nI 60 = 60 from rfl] at g' g''
        simp only [fs80_0, fs80_1, fs80_2, fs80_5, fs80_6, fs80_9, fs80_14, fs80_15, fs80_18, fs80_21, fs80_22, fs80_24, fs80_27, fs80_29, fs149_0, fs149_1, fs149_4, fs149_13, fs149_14, fs149_15, fs149_16, fs149_19, fs149_22, fs149_25, fs149_26, fs149_28, fs149_31, fs149_32, fs149_34, fs149_37, m19, m20, m97c q_l0 k_l2, m148, m102, fj_PV t, fj_OB, fj_AR, fj_CI, q_zo0, q_zo1, Option.toList_some, Option.toList_none, List.cons_append, List.nil_append, true_and, and_true, true_or, if_true, if_false, q_l10, q_l01, eq_self, Int32.reduceLT, Int32.reduceLE, Int32.reduceAdd, Int32.reduceSub, fj_up_at, Nat.reduceEqDiff, false_and, and_false, and_self, reduceCtorEq, Nat.reduceAdd, e, e', e'', f, f', f'', g', g'']
        exact fj_fin_i (fj_In_f h _) _
      · rw [show nI 60 = 60 from rfl] at g' g''
        have g3 : ((0 : Int32) ≤ nI n) = True := eq_true (by rw [q_0, q_le (by omega) (by omega)]; omega)
        simp only [fs80_0, fs80_1, fs80_2, fs80_5, fs80_6, fs80_9, fs80_14, fs80_15, fs80_18, fs80_21, fs80_22, fs80_24, fs80_30, fs80_31, fs80_40, fs80_41, fs80_44, fs80_45, fs80_46, fs80_47, m19, m20, fj_PV t, fj_OB, fj_AR, fj_CI, q_zo0, q_zo1, Option.toList_some, Option.toList_none, List.cons_append, List.nil_append, true_and, and_true, true_or, if_true, if_false, q_l10, q_l01, eq_self, Int32.reduceLT, Int32.reduceLE, Int32.reduceAdd, Int32.reduceSub, fj_up_at, Nat.reduceEqDiff, false_and, and_false, and_self, reduceCtorEq, Nat.reduceAdd, e, e', e'', f, f', f'', g', g'', g3]
        refine m26 hk (fun M1 q1 => ?_)
        simp only [fs80_50, fs80_51, fj_OB, fj_AR, fj_CI, q_zo0, q_zo1, Option.toList_some, Option.toList_none, List.cons_append, List.nil_append, true_and, and_true, true_or, if_true, if_false, q_l10, q_l01, eq_self, Int32.reduceLT, Int32.reduceLE, Int32.reduceAdd, Int32.reduceSub, fj_up_at, Nat.reduceEqDiff, false_and, and_false, and_self, reduceCtorEq, Nat.reduceAdd]
        simp only [fs149_0, fs149_1, fs149_4, fs149_13, fs149_14, fs149_15, fs149_16, fs149_19, fs149_22, fs149_25, fs149_26, fs149_28, fs149_38, fs149_39, fs149_48, fs149_49, fs149_52, fs149_53, fs149_54, fs149_55, fs149_56, fs149_59, fs149_60, fs149_61, fs149_62, fs149_63, m97c q_l0 k_l2, m148, fj_PV t, fj_OB, fj_AR, fj_CI, q_zo0, q_zo1, Option.toList_some, Option.toList_none, List.cons_append, List.nil_append, true_and, and_true, true_or, if_true, if_false, q_l10, q_l01, eq_self, Int32.reduceLT, Int32.reduceLE, Int32.reduceAdd, Int32.reduceSub, fj_up_at, Nat.reduceEqDiff, false_and, and_false, and_self, reduceCtorEq, Nat.reduceAdd, e, e', e'', f, f', f'', g', g'', g3, q_in hk, q_clamp (show k < 100000 by omega)]
        refine m149_loop hk n2 n 0 _ (by omega) (fun M2 p1 p2 p3 p4 => ?_)
        have F : ∀ o, o ≠ 51 → o ≠ 33 → o ≠ 2 → o ≠ 3 → o ≠ 4 → o ≠ 49 → o ≠ 50 → o ≠ 0 → M2 o = M o := fun o b1 b2 b3 b4 b5 b6 b7 b8 => by
          rw [p1 o b1 b2]
          funext j
          rw [fj_up_at, if_neg (by omega), fj_up_at, if_neg (by omega), q1 o j, if_neg (by omega), fj_up_at, if_neg (by omega), fj_up_at, if_neg (by omega), fj_up_at, if_neg (by omega)]
        have F33 : ∀ k', k' ≠ 0 → M2 33 k' = M 33 k' := fun k' hk' => by
          rw [p2 k' hk', fj_up_at, if_neg (by omega), fj_up_at, if_neg (by omega), q1 33 k', if_neg (by omega), fj_up_at, if_neg (by omega), fj_up_at, if_neg (by omega), fj_up_at, if_neg (by omega)]
        have F0 : ∀ j, M2 0 j = fj_up M 0 9 0 0 j := fun j => by
          rw [p1 0 (by decide) (by decide), fj_up_at, if_neg (by omega), fj_up_at, if_neg (by omega), q1 0 j, if_neg (by omega), fj_up_at, if_neg (by omega), fj_up_at, if_neg (by omega)]
        refine fj_fin_i (fj_In_s h (fun o ho => F o (by omega) (by omega) (by omega) (by omega) (by omega) (by omega) (by omega) (by omega)) (fun k' hk' => F33 k' (by omega)) ?_ ?_ (fun k' hk' => ?_)) _
        · rw [F0, F33 40 (by decide)]
          (simp only [fj_up_at]; repeat (first | rw [if_neg (by omega)] | rw [if_pos (by omega)]))
          exact h.2.2.2.2.2.2.2.2.1
        · rw [F0, p3]
          (simp only [fj_up_at, true_and, and_self, if_true, eq_self, Nat.reduceEqDiff, false_and, if_false])
        · have F3 : ∀ j, M2 3 j = if j = k then nI l else M 3 j := fun j => by
            rw [p1 3 (by decide) (by decide), fj_up_at, if_neg (by omega), fj_up_at, if_neg (by omega), q1 3 j, if_neg (by omega), fj_up_at, if_neg (by omega), fj_up_at]
            by_cases ej : j = k
            · rw [if_pos ⟨rfl, ej⟩, if_pos ej]
            · rw [if_neg (by omega), if_neg ej, fj_up_at, if_neg (by omega)]
          have F4 : ∀ j, M2 4 j = if j = k then nI n else M 4 j := fun j => by
            rw [p1 4 (by decide) (by decide), fj_up_at, if_neg (by omega), fj_up_at, if_neg (by omega), q1 4 j, if_neg (by omega), fj_up_at]
            by_cases ej : j = k
            · rw [if_pos ⟨rfl, ej⟩, if_pos ej]
            · rw [if_neg (by omega), if_neg ej, fj_up_at, if_neg (by omega), fj_up_at, if_neg (by omega)]
          have F49 : ∀ j, M2 49 j = if j = k then nI n else M 49 j := fun j => by
            rw [p1 49 (by decide) (by decide), fj_up_at, if_neg (by omega), fj_up_at]
            by_cases ej : j = k
            · rw [if_pos ⟨rfl, ej⟩, if_pos ej]
            · rw [if_neg (by omega), if_neg ej, q1 49 j, if_neg (by omega), fj_up_at, if_neg (by omega), fj_up_at, if_neg (by omega), fj_up_at, if_neg (by omega)]
          have F50 : ∀ j, M2 50 j = if j = k then nI l else M 50 j := fun j => by
            rw [p1 50 (by decide) (by decide), fj_up_at]
            by_cases ej : j = k
            · rw [if_pos ⟨rfl, ej⟩, if_pos ej]
            · rw [if_neg (by omega), if_neg ej, fj_up_at, if_neg (by omega), q1 50 j, if_neg (by omega), fj_up_at, if_neg (by omega), fj_up_at, if_neg (by omega), fj_up_at, if_neg (by omega)]
          have F2 : ∀ j, M2 2 j = if 60 * k ≤ j ∧ j < 60 * k + 60 then 0 else M 2 j := fun j => by
            rw [p1 2 (by decide) (by decide), fj_up_at, if_neg (by omega), fj_up_at, if_neg (by omega), q1 2 j]
            by_cases ej : 60 * k ≤ j ∧ j < 60 * k + 60
            · rw [if_pos ⟨rfl, ej⟩, if_pos ej]
            · rw [if_neg (by omega), if_neg ej, fj_up_at, if_neg (by omega), fj_up_at, if_neg (by omega), fj_up_at, if_neg (by omega)]
          have F51 : ∀ j, j < 240 → M2 51 j = if 60 * k ≤ j ∧ j < 60 * k + n then 0 else M 51 j := fun j hj => by
            rw [p4 j hj]
            by_cases ej : 60 * k ≤ j ∧ j < 60 * k + n
            · rw [if_pos (by omega), if_pos ej]
            · rw [if_neg (by omega), if_neg ej, fj_up_at, if_neg (by omega), fj_up_at, if_neg (by omega), q1 51 j, if_neg (by omega), fj_up_at, if_neg (by omega), fj_up_at, if_neg (by omega), fj_up_at, if_neg (by omega)]
          by_cases ek : k' = k
          · subst ek
            refine Or.inr ⟨n, l, n2, l2, ?_, ?_, ?_, ?_, fun i hi => ?_⟩
            · rw [F49, if_pos rfl]
            · rw [F4, if_pos rfl]
            · rw [F3, if_pos rfl]
            · rw [F50, if_pos rfl]
            · rw [F2, F51 _ (by omega), if_pos (by omega), if_pos (by omega)]
          · exact fj_S1_cg (by rw [F49, if_neg ek]) (by rw [F3, if_neg ek]) (by rw [F4, if_neg ek]) (by rw [F50, if_neg ek]) (fun i hi => by rw [F2, if_neg (by omega)]) (fun i hi => by rw [F51 _ (by omega), if_neg (by omega)]) (hS k' hk')
