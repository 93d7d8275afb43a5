/-! ===== pairs: odds ===== -/
theorem pr_odds {t : Bool} {M : fj_HM} (h : fj_Iv t M) (v w y x z : Int32) : fj_pr isL t M 79 [.ref 0, .int v, .int w, .int y, .int x, .int z, .null] 147 [.ref 33, .int v, .int w, .int y, .int x, .int z, .null, .null, .null, .null] := by
  obtain ⟨A, R, h⟩ := h
  obtain ⟨hV, hC, hM, -⟩ := id h
  have hy := yo_or t
  have hn := yn_le hV
  have h64 := p2_le hn
  unfold fj_pr
  -- a refused one
  have ref : ∀ (b : Bool) (r f : Int32), r < 0 → wkF t M v w y x b r f → (∀ Q : fj_Po, fj_H none 68 0 [.ref 0, .int v, .int w, .int y, .int x, .int (bI b), .null] [] M (fj_PY t) 53 7835 (fun v' M' P' c' z' => (c' = 53 ∨ fj_okl 53 [.ref 0, .int v, .int w, .int y, .int x, .int z, .null] []) ∧ fj_H none 79 25 [.ref 0, .int v, .int w, .int y, .int x, .int z, .null] (v'.toList ++ []) M' P' c' z' Q) → fj_H none 79 0 [.ref 0, .int v, .int w, .int y, .int x, .int z, .null] [] M (fj_PY t) 53 7835 Q) → (∀ (M1 : fj_HM) (Q : fj_Po), fj_H none 127 0 [.ref 33, .int v, .int w, .int y, .int x, .int (bI b), .null, .null] [] M1 (fj_PY t) 53 7835 (fun v' M' P' c' z' => (c' = 53 ∨ fj_okl 53 [.ref 33, .int v, .int w, .int y, .int x, .int z, .null, .null, .null, .null] []) ∧ fj_H none 147 17 [.ref 33, .int v, .int w, .int y, .int x, .int z, .null, .null, .null, .null] (v'.toList ++ []) M' P' c' z' Q) → fj_H none 147 0 [.ref 33, .int v, .int w, .int y, .int x, .int z, .null, .null, .null, .null] [] M1 (fj_PY t) 53 7835 Q) → fj_H none 79 0 [.ref 0, .int v, .int w, .int y, .int x, .int z, .null] [] M (fj_PY t) 53 7835 (fun r1 M1 P1 c1 z1 => c1 = 53 ∧ z1 = 7835 ∧ fj_H none 147 0 [.ref 33, .int v, .int w, .int y, .int x, .int z, .null, .null, .null, .null] [] M1 P1 53 7835 (fj_fin isL r1)) := by
    intro b r f hr hF pre1 pre2
    have r0 : (r = 0) = False := eq_false (fun e => by rw [e] at hr; exact absurd hr (by decide))
    have r1 : ((0 : Int32) ≤ r) = False := eq_false (Int32.not_le.mpr hr)
    apply pre1
    refine hF.1 _ (fun M1 p1 p2 p3 => ?_)
    simp only [fs79_25, fs79_27, fs79_29, fs79_44, fs79_47, fj_OB, fj_AR, fj_CI, q_zo0, q_zo1, Option.toList_some, Option.toList_none, List.cons_append, List.nil_append, true_and, and_true, true_or, if_true, if_false, q_l10, q_l01, eq_self, Int32.reduceLT, Int32.reduceLE, Int32.reduceAdd, Int32.reduceSub, fj_up_at, Nat.reduceEqDiff, false_and, and_false, and_self, reduceCtorEq, Nat.reduceAdd, r0]
    apply pre2
    refine hF.2 M1 (fun o ho => p1 o (by omega) (by omega)) _ ?_
    simp only [fs147_17, fs147_20, fs147_23, fs98_0, fs98_3, fj_OB, fj_AR, fj_CI, q_zo0, q_zo1, Option.toList_some, Option.toList_none, List.cons_append, List.nil_append, true_and, and_true, true_or, if_true, if_false, q_l10, q_l01, eq_self, Int32.reduceLT, Int32.reduceLE, Int32.reduceAdd, Int32.reduceSub, fj_up_at, Nat.reduceEqDiff, false_and, and_false, and_self, reduceCtorEq, Nat.reduceAdd, r1]
    refine fj_fin_l (fj_In_pl h (fun o b1 b2 b3 b4 => ?_) ?_ (fun j hj => ?_) ?_) _
    · rw [← p1 o b1 b3]
      (funext j; simp only [fj_up_at]; repeat (rw [if_neg (by omega)]))
    · (simp only [fj_up_at]; repeat (first | rw [if_neg (by omega)] | rw [if_pos (by omega)]))
      exact p2
    · (simp only [fj_up_at]; repeat (first | rw [if_neg (by omega)] | rw [if_pos (by omega)]))
      rw [p1 33 (by decide) (by decide)]
    · rw [fj_up_at, if_neg (by omega), p3, fj_up_at, if_pos ⟨rfl, rfl⟩]
  rcases q_span 0 1 (by decide) (by decide) z with e | ⟨e, e', e''⟩ | ⟨z', z1, z2, rfl, e, e', e''⟩
  · rw [show nI 0 = 0 from rfl] at e
    have k0 : (z = 0) = False := eq_false (fun k => by rw [k] at e; exact absurd (of_eq_true e) (by decide))
    have k1 : (z = 1) = False := eq_false (fun k => by rw [k] at e; exact absurd (of_eq_true e) (by decide))
    rcases walk_cs h v w y x false with ⟨r, f, hr, hF⟩ | ⟨k, i, a, g, hG⟩
    · refine ref false r f hr hF (fun Q hQ => ?_) (fun M1 Q hQ => ?_)
      · simp only [fs79_0, fs79_1, fs79_2, fs79_3, fs79_4, fs79_6, fs79_8, fs79_11, fs79_13, fs79_14, fs79_17, fs79_18, fs79_21, fs79_22, fj_PV t, fj_OB, fj_AR, fj_CI, q_zo0, q_zo1, Option.toList_some, Option.toList_none, List.cons_append, List.nil_append, true_and, and_true, true_or, if_true, if_false, q_l10, q_l01, eq_self, Int32.reduceLT, Int32.reduceLE, Int32.reduceAdd, Int32.reduceSub, fj_up_at, Nat.reduceEqDiff, false_and, and_false, and_self, reduceCtorEq, Nat.reduceAdd, k0, k1]
        exact hQ
      · simp only [fs147_0, fs147_1, fs147_2, fs147_3, fs147_4, fs147_6, fs147_8, fs147_9, fs147_10, fs147_11, fs147_14, m97c q_l0 k_l1, fj_PV t, fj_OB, fj_AR, fj_CI, q_zo0, q_zo1, Option.toList_some, Option.toList_none, List.cons_append, List.nil_append, true_and, and_true, true_or, if_true, if_false, q_l10, q_l01, eq_self, Int32.reduceLT, Int32.reduceLE, Int32.reduceAdd, Int32.reduceSub, fj_up_at, Nat.reduceEqDiff, false_and, and_false, and_self, reduceCtorEq, Nat.reduceAdd, e]
        exact hQ
    · exact absurd hG.1 (by decide)
  · rw [show nI 0 = 0 from rfl] at e
    rw [show nI 1 = 1 from rfl] at e' e''
    have k0 : (z = 0) = False := eq_false (fun k => by rw [k] at e''; exact absurd (of_eq_true e'') (by decide))
    have k1 : (z = 1) = False := eq_false (fun k => by rw [k] at e''; exact absurd (of_eq_true e'') (by decide))
    rcases walk_cs h v w y x false with ⟨r, f, hr, hF⟩ | ⟨k, i, a, g, hG⟩
    · refine ref false r f hr hF (fun Q hQ => ?_) (fun M1 Q hQ => ?_)
      · simp only [fs79_0, fs79_1, fs79_2, fs79_3, fs79_4, fs79_6, fs79_8, fs79_11, fs79_13, fs79_14, fs79_17, fs79_18, fs79_21, fs79_22, fj_PV t, fj_OB, fj_AR, fj_CI, q_zo0, q_zo1, Option.toList_some, Option.toList_none, List.cons_append, List.nil_append, true_and, and_true, true_or, if_true, if_false, q_l10, q_l01, eq_self, Int32.reduceLT, Int32.reduceLE, Int32.reduceAdd, Int32.reduceSub, fj_up_at, Nat.reduceEqDiff, false_and, and_false, and_self, reduceCtorEq, Nat.reduceAdd, k0, k1]
        exact hQ
      · simp only [fs147_0, fs147_1, fs147_2, fs147_3, fs147_4, fs147_6, fs147_8, fs147_9, fs147_10, fs147_11, fs147_14, m97c q_l0 k_l1, fj_PV t, fj_OB, fj_AR, fj_CI, q_zo0, q_zo1, Option.toList_some, Option.toList_none, List.cons_append, List.nil_append, true_and, and_true, true_or, if_true, if_false, q_l10, q_l01, eq_self, Int32.reduceLT, Int32.reduceLE, Int32.reduceAdd, Int32.reduceSub, fj_up_at, Nat.reduceEqDiff, false_and, and_false, and_self, reduceCtorEq, Nat.reduceAdd, e, e', e'']
        exact hQ
    · exact absurd hG.1 (by decide)
  · rw [show nI 0 = 0 from rfl] at e
    rw [show nI 1 = 1 from rfl] at e' e''
    have k01 : (nI z' = 0) = True ∨ ((nI z' = 0) = False ∧ (nI z' = 1) = True) := by
      rcases (show z' = 0 ∨ z' = 1 by omega) with rfl | rfl
      · exact Or.inl (eq_true rfl)
      · exact Or.inr ⟨eq_false (by decide), eq_true rfl⟩
    rcases walk_cs h v w y x true with ⟨r, f, hr, hF⟩ | ⟨k, i, a, g, -, rfl, rfl, rfl, g4, g5, g6, g7, g8, g9, g10⟩
    · refine ref true r f hr hF (fun Q hQ => ?_) (fun M1 Q hQ => ?_)
      · rcases k01 with k0 | ⟨k0, k1⟩
        · simp only [fs79_0, fs79_1, fs79_2, fs79_3, fs79_4, fs79_6, fs79_8, fs79_11, fs79_13, fs79_14, fs79_17, fs79_18, fs79_21, fs79_22, fj_PV t, fj_OB, fj_AR, fj_CI, q_zo0, q_zo1, Option.toList_some, Option.toList_none, List.cons_append, List.nil_append, true_and, and_true, true_or, if_true, if_false, q_l10, q_l01, eq_self, Int32.reduceLT, Int32.reduceLE, Int32.reduceAdd, Int32.reduceSub, fj_up_at, Nat.reduceEqDiff, false_and, and_false, and_self, reduceCtorEq, Nat.reduceAdd, k0]
          exact hQ
        · simp only [fs79_0, fs79_1, fs79_2, fs79_3, fs79_4, fs79_6, fs79_8, fs79_11, fs79_13, fs79_14, fs79_17, fs79_18, fs79_21, fs79_22, fj_PV t, fj_OB, fj_AR, fj_CI, q_zo0, q_zo1, Option.toList_some, Option.toList_none, List.cons_append, List.nil_append, true_and, and_true, true_or, if_true, if_false, q_l10, q_l01, eq_self, Int32.reduceLT, Int32.reduceLE, Int32.reduceAdd, Int32.reduceSub, fj_up_at, Nat.reduceEqDiff, false_and, and_false, and_self, reduceCtorEq, Nat.reduceAdd, k0, k1]
          exact hQ
      · simp only [fs147_0, fs147_1, fs147_2, fs147_3, fs147_4, fs147_6, fs147_8, fs147_9, fs147_10, fs147_11, fs147_14, m97c q_l0 k_l1, fj_PV t, fj_OB, fj_AR, fj_CI, q_zo0, q_zo1, Option.toList_some, Option.toList_none, List.cons_append, List.nil_append, true_and, and_true, true_or, if_true, if_false, q_l10, q_l01, eq_self, Int32.reduceLT, Int32.reduceLE, Int32.reduceAdd, Int32.reduceSub, fj_up_at, Nat.reduceEqDiff, false_and, and_false, and_self, reduceCtorEq, Nat.reduceAdd, e, e', e'']
        exact hQ
    · obtain ⟨i', hi', hok⟩ := wGo_ok hV g7 a 0 w0 (by omega) (wok_0 g6)
      obtain ⟨o1, o2, o3, o4, o5, o6, o7⟩ := hok
      have lt6 : ∀ q, wfw (wGo A g a 0 w0) = some q → q < 1000 := fun q hq => by have := o6 q hq; omega
      have e9 := onI_none lt6
      have e0 := onI_ge lt6
      have b1 : bI true = 1 := rfl
      rw [b1] at g9 g10
      have e60 : (60 : Int32) * nI k + nI i = nI (60 * k + i) := by rw [show (60 : Int32) = nI 60 from rfl, q_mul, nI_add]
      have w00 : ((0 : Int32) ≤ 0) = True := eq_true (by decide)
      have cls : ∀ Q : fj_Po, fj_H none 68 0 [.ref 0, .int (nI k), .int w, .int (nI i), .int (nI a), .int 1, .null] [] M (fj_PY t) 53 7835 (fun v' M' P' c' z'' => (c' = 53 ∨ fj_okl 53 [.ref 0, .int (nI k), .int w, .int (nI i), .int (nI a), .int (nI z'), .null] []) ∧ fj_H none 79 25 [.ref 0, .int (nI k), .int w, .int (nI i), .int (nI a), .int (nI z'), .null] (v'.toList ++ []) M' P' c' z'' Q) → fj_H none 79 0 [.ref 0, .int (nI k), .int w, .int (nI i), .int (nI a), .int (nI z'), .null] [] M (fj_PY t) 53 7835 Q := by
        intro Q hQ
        rcases k01 with k0 | ⟨k0, k1⟩
        · simp only [fs79_0, fs79_1, fs79_2, fs79_3, fs79_4, fs79_6, fs79_8, fs79_11, fs79_13, fs79_14, fs79_17, fs79_18, fs79_21, fs79_22, fj_PV t, fj_OB, fj_AR, fj_CI, q_zo0, q_zo1, Option.toList_some, Option.toList_none, List.cons_append, List.nil_append, true_and, and_true, true_or, if_true, if_false, q_l10, q_l01, eq_self, Int32.reduceLT, Int32.reduceLE, Int32.reduceAdd, Int32.reduceSub, fj_up_at, Nat.reduceEqDiff, false_and, and_false, and_self, reduceCtorEq, Nat.reduceAdd, k0]
          exact hQ
        · simp only [fs79_0, fs79_1, fs79_2, fs79_3, fs79_4, fs79_6, fs79_8, fs79_11, fs79_13, fs79_14, fs79_17, fs79_18, fs79_21, fs79_22, fj_PV t, fj_OB, fj_AR, fj_CI, q_zo0, q_zo1, Option.toList_some, Option.toList_none, List.cons_append, List.nil_append, true_and, and_true, true_or, if_true, if_false, q_l10, q_l01, eq_self, Int32.reduceLT, Int32.reduceLE, Int32.reduceAdd, Int32.reduceSub, fj_up_at, Nat.reduceEqDiff, false_and, and_false, and_self, reduceCtorEq, Nat.reduceAdd, k0, k1]
          exact hQ
      apply cls
      refine g9 _ (fun M1 p1 p2 p3 p4 => ?_)
      obtain ⟨c0, c1, c2, c3, c4, c5, c6⟩ := p4
      have hM2 : fj_YM (fj_up M1 33 0 0) A := fj_YM_cg (fun o b1 b2 => by rw [← p1 o (by omega) (by omega) (by omega)]; (funext j; simp only [fj_up_at]; repeat (rw [if_neg (by omega)]))) (fun k' b1 b2 => by rw [fj_up_at, if_neg (by omega), p1 33 (by decide) (by decide) (by decide)]) hM
      have mdl : ∀ Q : fj_Po, (∀ M3, (∀ o, o ≠ 0 → o ≠ 9 → o ≠ 16 → o ≠ 33 → M3 o = M o) → M3 0 8 = M 0 8 → (∀ j, (1 ≤ j ∧ j < 23) ∨ 28 < j → M3 33 j = M 33 j) → M3 0 9 = M3 33 0 → fj_YM M3 A → fj_WM A M3 (wGo A g a 0 w0) → fj_H none 147 36 [.ref 33, .int (nI k), .int w, .int (nI i), .int (nI a), .int (nI z'), .null, .null, .null, .null] [] M3 (fj_PY t) 53 7835 Q) → fj_H none 147 0 [.ref 33, .int (nI k), .int w, .int (nI i), .int (nI a), .int (nI z'), .null, .null, .null, .null] [] M1 (fj_PY t) 53 7835 Q := by
        intro Q hQ
        simp only [fs147_0, fs147_1, fs147_2, fs147_3, fs147_4, fs147_6, fs147_8, fs147_9, fs147_10, fs147_11, fs147_14, m97c q_l0 k_l1, fj_PV t, fj_OB, fj_AR, fj_CI, q_zo0, q_zo1, Option.toList_some, Option.toList_none, List.cons_append, List.nil_append, true_and, and_true, true_or, if_true, if_false, q_l10, q_l01, eq_self, Int32.reduceLT, Int32.reduceLE, Int32.reduceAdd, Int32.reduceSub, fj_up_at, Nat.reduceEqDiff, false_and, and_false, and_self, reduceCtorEq, Nat.reduceAdd, e, e', e'']
        refine g10 M1 (fun o ho => p1 o (by omega) (by omega) (by omega)) _ ?_
        simp only [fs147_17, fs147_24, fs147_25, fs147_27, fs147_28, fs147_29, fs147_30, fs147_31, fs147_33, fj_PV t, fj_OB, fj_AR, fj_CI, q_zo0, q_zo1, Option.toList_some, Option.toList_none, List.cons_append, List.nil_append, true_and, and_true, true_or, if_true, if_false, q_l10, q_l01, eq_self, Int32.reduceLT, Int32.reduceLE, Int32.reduceAdd, Int32.reduceSub, fj_up_at, Nat.reduceEqDiff, false_and, and_false, and_self, reduceCtorEq, Nat.reduceAdd, w00, e60]
        refine m126 hV g6 g4 g5 g7 hM2 (fun j hj => ?_) (fun M3 q1 q2 q3 => ?_)
        · rw [fj_up_at, if_neg (by omega), p1 51 (by decide) (by decide) (by decide)]
          exact g8 j hj
        · refine ⟨Or.inl rfl, ?_⟩
          refine hQ M3 (fun o b1 b2 b3 b4 => ?_) ?_ (fun j hj => ?_) ?_ (fj_YM_cg (fun o b1 b2 => q1 o (by omega)) (fun k' b1 b2 => q2 k' (by omega)) hM2) q3
          · rw [q1 o b4, ← p1 o b1 b2 b3]
            (funext j; simp only [fj_up_at]; repeat (rw [if_neg (by omega)]))
          · rw [q1 0 (by decide), fj_up_at, if_neg (by omega)]
            exact p2
          · rw [q2 j (by omega), fj_up_at, if_neg (by omega), p1 33 (by decide) (by decide) (by decide)]
          · rw [q1 0 (by decide), q2 0 (by omega), fj_up_at, if_neg (by omega), p3, fj_up_at, if_pos ⟨rfl, rfl⟩]
      cases hfw : wfw (wGo A g a 0 w0) with
      | some q =>
        have e9' : (onI (wfw (wGo A g a 0 w0)) = -9) = False := by rw [e9, hfw]; exact eq_false (by simp)
        have e0' : (onI (wfw (wGo A g a 0 w0)) < 0) = False := eq_false (Int32.not_lt.mpr (by rw [e0, hfw]; rfl))
        simp only [fs79_25, fs79_27, fs79_29, fs79_32, fs79_33, fs79_36, fs79_39, fs79_41, fs79_44, fs79_47, fj_PV t, fj_OB, fj_AR, fj_CI, q_zo0, q_zo1, Option.toList_some, Option.toList_none, List.cons_append, List.nil_append, true_and, and_true, true_or, if_true, if_false, q_l10, q_l01, eq_self, Int32.reduceLT, Int32.reduceLE, Int32.reduceAdd, Int32.reduceSub, fj_up_at, Nat.reduceEqDiff, false_and, and_false, and_self, reduceCtorEq, Nat.reduceAdd, c1, e9']
        refine mdl _ (fun M3 u1 u2 u3 u4 u5 u6 => ?_)
        simp only [fs147_36, fs147_37, fs147_40, fs147_43, fs147_46, fs98_0, fs98_3, fj_PV t, fj_OB, fj_AR, fj_CI, q_zo0, q_zo1, Option.toList_some, Option.toList_none, List.cons_append, List.nil_append, true_and, and_true, true_or, if_true, if_false, q_l10, q_l01, eq_self, Int32.reduceLT, Int32.reduceLE, Int32.reduceAdd, Int32.reduceSub, fj_up_at, Nat.reduceEqDiff, false_and, and_false, and_self, reduceCtorEq, Nat.reduceAdd, u6.2.2.2.2.1, e0']
        exact fj_fin_l (fj_In_pl h u1 u2 u3 u4) _
      | none =>
        have e9' : (onI (wfw (wGo A g a 0 w0)) = -9) = True := by rw [e9, hfw]; exact eq_true rfl
        have e0' : (onI (wfw (wGo A g a 0 w0)) < 0) = True := by rw [hfw]; exact eq_true (by decide)
        have hsl : M 33 12 = nI (ysl A) := hM.2.2.2.2.1
        have tail : ∀ r1 : Int64, r1 = (if nI z' = 0 then 1 else l64 (2 ^ popc (wco (wGo A g a 0 w0)))) → fj_H none 147 0 [.ref 33, .int (nI k), .int w, .int (nI i), .int (nI a), .int (nI z'), .null, .null, .null, .null] [] M1 (fj_PY t) 53 7835 (fj_fin isL (some (.long r1))) := by
          intro r1 hr1
          refine mdl _ (fun M3 u1 u2 u3 u4 u5 u6 => ?_)
          simp only [fs147_36, fs147_37, fs147_40, fs147_47, fs147_48, fs147_51, fs147_53, fs147_54, fs147_56, fs147_57, fj_PV t, fj_OB, fj_AR, fj_CI, q_zo0, q_zo1, Option.toList_some, Option.toList_none, List.cons_append, List.nil_append, true_and, and_true, true_or, if_true, if_false, q_l10, q_l01, eq_self, Int32.reduceLT, Int32.reduceLE, Int32.reduceAdd, Int32.reduceSub, fj_up_at, Nat.reduceEqDiff, false_and, and_false, and_self, reduceCtorEq, Nat.reduceAdd, u6.2.2.2.2.1, e0', u5.2.2.2.2.1]
          refine m147_loop hV g6 g4 g5 g7 (w6 := nI (ysl A)) (2 ^ yn A) 0 M3 (Nat.zero_add _) ⟨ysl A, hV.2.2.2.2.2.1, u5⟩ (fun j hj => by rw [u1 51 (by decide) (by decide) (by decide) (by decide)]; exact g8 j hj) (fun M4 s1 s2 s3 => ?_)
          rw [← hr1]
          refine fj_fin_l (fj_In_pl h (fun o b1 b2 b3 b4 => by rw [s1 o b4, u1 o b1 b2 b3 b4]) (by rw [s1 0 (by decide)]; exact u2) (fun j hj => ?_) (by rw [s1 0 (by decide), s2 0 (by decide) (by omega)]; exact u4)) _
          by_cases j12 : j = 12
          · rw [j12, s3]
            exact hsl.symm
          · rw [s2 j j12 (by omega), u3 j hj]
        rcases k01 with k0 | ⟨k0, k1⟩
        · have t1 := tail 1 (by rw [if_pos (of_eq_true k0)])
          simp only [fs79_25, fs79_27, fs79_29, fs79_32, fs79_33, fs79_36, fs79_39, fs79_41, fs79_48, fs79_50, fs79_53, fs79_54, fs79_69, fj_PV t, fj_OB, fj_AR, fj_CI, q_zo0, q_zo1, Option.toList_some, Option.toList_none, List.cons_append, List.nil_append, true_and, and_true, true_or, if_true, if_false, q_l10, q_l01, eq_self, Int32.reduceLT, Int32.reduceLE, Int32.reduceAdd, Int32.reduceSub, fj_up_at, Nat.reduceEqDiff, false_and, and_false, and_self, reduceCtorEq, Nat.reduceAdd, c1, e9', k0]
          exact t1
        · have t1 := tail (l64 (2 ^ popc (wco (wGo A g a 0 w0)))) (by rw [if_neg (of_eq_false k0)])
          simp only [fs79_25, fs79_27, fs79_29, fs79_32, fs79_33, fs79_36, fs79_39, fs79_41, fs79_48, fs79_50, fs79_57, fs79_58, fs79_59, fs79_62, fs79_65, fs79_68, fs79_69, m163 (show wco (wGo A g a 0 w0) < 64 by omega), fj_PV t, fj_OB, fj_AR, fj_CI, q_zo0, q_zo1, Option.toList_some, Option.toList_none, List.cons_append, List.nil_append, true_and, and_true, true_or, if_true, if_false, q_l10, q_l01, eq_self, Int32.reduceLT, Int32.reduceLE, Int32.reduceAdd, Int32.reduceSub, fj_up_at, Nat.reduceEqDiff, false_and, and_false, and_self, reduceCtorEq, Nat.reduceAdd, c1, c6, e9', k0, k_shl _ (popc_le _)]
          exact t1
