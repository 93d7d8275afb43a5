/-! ===== pairs: plan ===== -/
theorem wGo_ok {A : fj_Yd} (hV : fj_YV A) {n : Nat} {g : Nat → Nat} (hg : ∀ j, j < n → gok A (g j)) : ∀ (k i : Nat) (s : fj_W), i + k ≤ n → wok A i s → ∃ i', i' ≤ n ∧ wok A i' (wGo A g k i s)
  | 0, i, s, h, hs => ⟨i, by omega, hs⟩
  | k + 1, i, s, h, hs => by
    show ∃ i', i' ≤ n ∧ wok A i' (if (wfw s).isSome = true then s else wGo A g k (i + 1) (wStep A (g i) i s))
    by_cases hw : (wfw s).isSome = true
    · rw [if_pos hw]
      exact ⟨i, by omega, hs⟩
    · rw [if_neg hw]
      exact wGo_ok hV hg k (i + 1) _ (by omega) (wok_step hV hs (hg i (by omega)))
theorem wok_0 {A : fj_Yd} (hc : 0 < yc A) : wok A 0 w0 := ⟨Nat.zero_le _, Nat.two_pow_pos _, Nat.zero_le _, hc, Nat.two_pow_pos _, (fun k hk => by cases hk), (fun k hk => by cases hk)⟩
theorem sdf_all {n de : Nat} (h : de < 2 ^ n) : sdf (2 ^ n - 1) (sdf (2 ^ n - 1) de) = de := by
  apply nat_ext
  intro i
  rw [sdf_bit, sdf_bit, Nat.testBit_two_pow_sub_one]
  by_cases hi : i < n
  · rw [decide_eq_true hi]
    cases de.testBit i <;> rfl
  · rw [decide_eq_false hi, tb_big h (by omega)]
    rfl
theorem fj_In_pl {t : Bool} {M M' : fj_HM} {A : fj_Yd} {R : fj_Rd} (h : fj_In t M A R) (h1 : ∀ o, o ≠ 0 → o ≠ 9 → o ≠ 16 → o ≠ 33 → M' o = M o) (h8 : M' 0 8 = M 0 8) (h3 : ∀ j, (1 ≤ j ∧ j < 23) ∨ 28 < j → M' 33 j = M 33 j) (h9 : M' 0 9 = M' 33 0) : fj_In t M' A R := by
  refine fj_In_fr h (fun o ho => h1 o (by omega) (by omega) (by omega) (by omega)) ?_ h9 (fun k hk => h3 k (by omega))
  rw [h8, h3 40 (by omega)]
  exact h.2.2.2.2.2.2.2.2.1
theorem pr_plan {t : Bool} {M : fj_HM} (h : fj_Iv t M) (v w y x z : Int32) : fj_pr isI t M 67 [.ref 0, .int v, .int w, .int y, .int x, .int z, .null] 128 [.ref 33, .int v, .int w, .int y, .int x, .int z, .null] := by
  obtain ⟨A, R, h⟩ := h
  obtain ⟨hV, hC, hM, -⟩ := id h
  have hy := yo_or t
  have hn := yn_le hV
  unfold fj_pr
  -- a refused one
  have ref : ∀ (b : Bool) (r f : Int32), r < 0 → wkF t M v w y x b r f → (∀ Q : fj_Po, fj_H none 68 0 [.ref 0, .int v, .int w, .int y, .int x, .int (bI b), .null] [] M (fj_PY t) 53 7835 (fun v' M' P' c' z' => (c' = 53 ∨ fj_okl 53 [.ref 0, .int v, .int w, .int y, .int x, .int z, .null] []) ∧ fj_H none 67 25 [.ref 0, .int v, .int w, .int y, .int x, .int z, .null] (v'.toList ++ []) M' P' c' z' Q) → fj_H none 67 0 [.ref 0, .int v, .int w, .int y, .int x, .int z, .null] [] M (fj_PY t) 53 7835 Q) → (∀ (M1 : fj_HM) (Q : fj_Po), fj_H none 127 0 [.ref 33, .int v, .int w, .int y, .int x, .int (bI b), .null, .null] [] M1 (fj_PY t) 53 7835 (fun v' M' P' c' z' => (c' = 53 ∨ fj_okl 53 [.ref 33, .int v, .int w, .int y, .int x, .int z, .null] []) ∧ fj_H none 128 19 [.ref 33, .int v, .int w, .int y, .int x, .int z, .null] (v'.toList ++ []) M' P' c' z' Q) → fj_H none 128 0 [.ref 33, .int v, .int w, .int y, .int x, .int z, .null] [] M1 (fj_PY t) 53 7835 Q) → fj_H none 67 0 [.ref 0, .int v, .int w, .int y, .int x, .int z, .null] [] M (fj_PY t) 53 7835 (fun r1 M1 P1 c1 z1 => c1 = 53 ∧ z1 = 7835 ∧ fj_H none 128 0 [.ref 33, .int v, .int w, .int y, .int x, .int z, .null] [] M1 P1 53 7835 (fj_fin isI r1)) := by
    intro b r f hr hF pre1 pre2
    have r0 : (r = 0) = False := eq_false (fun e => by rw [e] at hr; exact absurd hr (by decide))
    have r1 : ((0 : Int32) ≤ r) = False := eq_false (Int32.not_le.mpr hr)
    apply pre1
    refine hF.1 _ (fun M1 p1 p2 p3 => ?_)
    simp only [fs67_25, fs67_27, fs67_29, fs67_32, fs67_34, fj_OB, fj_AR, fj_CI, q_zo0, q_zo1, Option.toList_some, Option.toList_none, List.cons_append, List.nil_append, true_and, and_true, true_or, if_true, if_false, q_l10, q_l01, eq_self, Int32.reduceLT, Int32.reduceLE, Int32.reduceAdd, Int32.reduceSub, fj_up_at, Nat.reduceEqDiff, false_and, and_false, and_self, reduceCtorEq, Nat.reduceAdd, r0]
    apply pre2
    refine hF.2 M1 (fun o ho => p1 o (by omega) (by omega)) _ ?_
    simp only [fs128_19, fs128_21, fs128_23, fs128_26, fs128_28, fj_OB, fj_AR, fj_CI, q_zo0, q_zo1, Option.toList_some, Option.toList_none, List.cons_append, List.nil_append, true_and, and_true, true_or, if_true, if_false, q_l10, q_l01, eq_self, Int32.reduceLT, Int32.reduceLE, Int32.reduceAdd, Int32.reduceSub, fj_up_at, Nat.reduceEqDiff, false_and, and_false, and_self, reduceCtorEq, Nat.reduceAdd, r1]
    refine fj_fin_i (fj_In_pl h (fun o b1 b2 b3 b4 => ?_) ?_ (fun j hj => ?_) ?_) _
    · rw [← p1 o b1 b3]
      (funext j; simp only [fj_up_at]; repeat (rw [if_neg (by omega)]))
    · (simp only [fj_up_at]; repeat (first | rw [if_neg (by omega)] | rw [if_pos (by omega)]))
      exact p2
    · (simp only [fj_up_at]; repeat (first | rw [if_neg (by omega)] | rw [if_pos (by omega)]))
      rw [p1 33 (by decide) (by decide)]
    · rw [fj_up_at, if_neg (by omega), p3, fj_up_at, if_pos ⟨rfl, rfl⟩]
  rcases q_span 0 5 (by decide) (by decide) z with e | ⟨e, e', e''⟩ | ⟨z', z1, z2, rfl, e, e', e''⟩
  · rw [show nI 0 = 0 from rfl] at e
    rcases walk_cs h v w y x false with ⟨r, f, hr, hF⟩ | ⟨k, i, a, g, hG⟩
    · refine ref false r f hr hF (fun Q hQ => ?_) (fun M1 Q hQ => ?_)
      · simp only [fs67_0, fs67_1, fs67_2, fs67_3, fs67_4, fs67_6, fs67_8, fs67_11, fs67_13, fs67_14, fs67_17, fs67_18, fs67_21, fs67_22, fj_PV t, fj_OB, fj_AR, fj_CI, q_zo0, q_zo1, Option.toList_some, Option.toList_none, List.cons_append, List.nil_append, true_and, and_true, true_or, if_true, if_false, q_l10, q_l01, eq_self, Int32.reduceLT, Int32.reduceLE, Int32.reduceAdd, Int32.reduceSub, fj_up_at, Nat.reduceEqDiff, false_and, and_false, and_self, reduceCtorEq, Nat.reduceAdd, e]
        exact hQ
      · simp only [fs128_0, fs128_1, fs128_2, fs128_3, fs128_4, fs128_6, fs128_8, fs128_9, fs128_10, fs128_13, fs128_16, m97c q_l0 k_l5, fj_PV t, fj_OB, fj_AR, fj_CI, q_zo0, q_zo1, Option.toList_some, Option.toList_none, List.cons_append, List.nil_append, true_and, and_true, true_or, if_true, if_false, q_l10, q_l01, eq_self, Int32.reduceLT, Int32.reduceLE, Int32.reduceAdd, Int32.reduceSub, fj_up_at, Nat.reduceEqDiff, false_and, and_false, and_self, reduceCtorEq, Nat.reduceAdd, e]
        exact hQ
    · exact absurd hG.1 (by decide)
  · rw [show nI 0 = 0 from rfl] at e
    rw [show nI 5 = 5 from rfl] at e' e''
    rcases walk_cs h v w y x false with ⟨r, f, hr, hF⟩ | ⟨k, i, a, g, hG⟩
    · refine ref false r f hr hF (fun Q hQ => ?_) (fun M1 Q hQ => ?_)
      · simp only [fs67_0, fs67_1, fs67_2, fs67_3, fs67_4, fs67_6, fs67_8, fs67_11, fs67_13, fs67_14, fs67_17, fs67_18, fs67_21, fs67_22, fj_PV t, fj_OB, fj_AR, fj_CI, q_zo0, q_zo1, Option.toList_some, Option.toList_none, List.cons_append, List.nil_append, true_and, and_true, true_or, if_true, if_false, q_l10, q_l01, eq_self, Int32.reduceLT, Int32.reduceLE, Int32.reduceAdd, Int32.reduceSub, fj_up_at, Nat.reduceEqDiff, false_and, and_false, and_self, reduceCtorEq, Nat.reduceAdd, e, e', e'']
        exact hQ
      · simp only [fs128_0, fs128_1, fs128_2, fs128_3, fs128_4, fs128_6, fs128_8, fs128_9, fs128_10, fs128_13, fs128_16, m97c q_l0 k_l5, fj_PV t, fj_OB, fj_AR, fj_CI, q_zo0, q_zo1, Option.toList_some, Option.toList_none, List.cons_append, List.nil_append, true_and, and_true, true_or, if_true, if_false, q_l10, q_l01, eq_self, Int32.reduceLT, Int32.reduceLE, Int32.reduceAdd, Int32.reduceSub, fj_up_at, Nat.reduceEqDiff, false_and, and_false, and_self, reduceCtorEq, Nat.reduceAdd, e, e', e'']
        exact hQ
    · exact absurd hG.1 (by decide)
  · rw [show nI 0 = 0 from rfl] at e
    rw [show nI 5 = 5 from rfl] at e' e''
    rcases walk_cs h v w y x true with ⟨r, f, hr, hF⟩ | ⟨k, i, a, g, -, rfl, rfl, rfl, g4, g5, g6, g7, g8, g9, g10⟩
    · refine ref true r f hr hF (fun Q hQ => ?_) (fun M1 Q hQ => ?_)
      · simp only [fs67_0, fs67_1, fs67_2, fs67_3, fs67_4, fs67_6, fs67_8, fs67_11, fs67_13, fs67_14, fs67_17, fs67_18, fs67_21, fs67_22, fj_PV t, fj_OB, fj_AR, fj_CI, q_zo0, q_zo1, Option.toList_some, Option.toList_none, List.cons_append, List.nil_append, true_and, and_true, true_or, if_true, if_false, q_l10, q_l01, eq_self, Int32.reduceLT, Int32.reduceLE, Int32.reduceAdd, Int32.reduceSub, fj_up_at, Nat.reduceEqDiff, false_and, and_false, and_self, reduceCtorEq, Nat.reduceAdd, e, e', e'']
        exact hQ
      · simp only [fs128_0, fs128_1, fs128_2, fs128_3, fs128_4, fs128_6, fs128_8, fs128_9, fs128_10, fs128_13, fs128_16, m97c q_l0 k_l5, fj_PV t, fj_OB, fj_AR, fj_CI, q_zo0, q_zo1, Option.toList_some, Option.toList_none, List.cons_append, List.nil_append, true_and, and_true, true_or, if_true, if_false, q_l10, q_l01, eq_self, Int32.reduceLT, Int32.reduceLE, Int32.reduceAdd, Int32.reduceSub, fj_up_at, Nat.reduceEqDiff, false_and, and_false, and_self, reduceCtorEq, Nat.reduceAdd, e, e', e'']
        exact hQ
    · obtain ⟨i', hi', hok⟩ := wGo_ok hV g7 a 0 w0 (by omega) (wok_0 g6)
      obtain ⟨o1, o2, o3, o4, o5, o6, o7⟩ := hok
      have lt6 : ∀ q, wfw (wGo A g a 0 w0) = some q → q < 1000 := fun q hq => by have := o6 q hq; omega
      have e9 := onI_none lt6
      have e0 := onI_ge lt6
      have b1 : bI true = 1 := rfl
      rw [b1] at g9 g10
      have e60 : (60 : Int32) * nI k + nI i = nI (60 * k + i) := by rw [show (60 : Int32) = nI 60 from rfl, q_mul, nI_add]
      have w00 : ((0 : Int32) ≤ 0) = True := eq_true (by decide)
      simp only [fs67_0, fs67_1, fs67_2, fs67_3, fs67_4, fs67_6, fs67_8, fs67_11, fs67_13, fs67_14, fs67_17, fs67_18, fs67_21, fs67_22, fj_PV t, fj_OB, fj_AR, fj_CI, q_zo0, q_zo1, Option.toList_some, Option.toList_none, List.cons_append, List.nil_append, true_and, and_true, true_or, if_true, if_false, q_l10, q_l01, eq_self, Int32.reduceLT, Int32.reduceLE, Int32.reduceAdd, Int32.reduceSub, fj_up_at, Nat.reduceEqDiff, false_and, and_false, and_self, reduceCtorEq, Nat.reduceAdd, e, e', e'']
      refine g9 _ (fun M1 p1 p2 p3 p4 => ?_)
      obtain ⟨c0, c1, c2, c3, c4, c5, c6⟩ := p4
      have hM2 : fj_YM (fj_up M1 33 0 0) A := fj_YM_cg (fun o b1 b2 => by rw [← p1 o (by omega) (by omega) (by omega)]; (funext j; simp only [fj_up_at]; repeat (rw [if_neg (by omega)]))) (fun k' b1 b2 => by rw [fj_up_at, if_neg (by omega), p1 33 (by decide) (by decide) (by decide)]) hM
      have mdl : ∀ Q : fj_Po, (∀ M3, (∀ o, o ≠ 0 → o ≠ 9 → o ≠ 16 → o ≠ 33 → M3 o = M o) → M3 0 8 = M 0 8 → (∀ j, (1 ≤ j ∧ j < 23) ∨ 28 < j → M3 33 j = M 33 j) → M3 0 9 = M3 33 0 → M3 33 4 = nI (yn A) → fj_WM A M3 (wGo A g a 0 w0) → fj_H none 128 41 [.ref 33, .int (nI k), .int w, .int (nI i), .int (nI a), .int (nI z'), .int 0] [] M3 (fj_PY t) 53 7835 Q) → fj_H none 128 0 [.ref 33, .int (nI k), .int w, .int (nI i), .int (nI a), .int (nI z'), .null] [] M1 (fj_PY t) 53 7835 Q := by
        intro Q hQ
        simp only [fs128_0, fs128_1, fs128_2, fs128_3, fs128_4, fs128_6, fs128_8, fs128_9, fs128_10, fs128_13, fs128_16, m97c q_l0 k_l5, fj_PV t, fj_OB, fj_AR, fj_CI, q_zo0, q_zo1, Option.toList_some, Option.toList_none, List.cons_append, List.nil_append, true_and, and_true, true_or, if_true, if_false, q_l10, q_l01, eq_self, Int32.reduceLT, Int32.reduceLE, Int32.reduceAdd, Int32.reduceSub, fj_up_at, Nat.reduceEqDiff, false_and, and_false, and_self, reduceCtorEq, Nat.reduceAdd, e, e', e'']
        refine g10 M1 (fun o ho => p1 o (by omega) (by omega) (by omega)) _ ?_
        simp only [fs128_19, fs128_21, fs128_23, fs128_29, fs128_30, fs128_32, fs128_33, fs128_34, fs128_35, fs128_36, fs128_38, fj_PV t, fj_OB, fj_AR, fj_CI, q_zo0, q_zo1, Option.toList_some, Option.toList_none, List.cons_append, List.nil_append, true_and, and_true, true_or, if_true, if_false, q_l10, q_l01, eq_self, Int32.reduceLT, Int32.reduceLE, Int32.reduceAdd, Int32.reduceSub, fj_up_at, Nat.reduceEqDiff, false_and, and_false, and_self, reduceCtorEq, Nat.reduceAdd, w00, e60]
        refine m126 hV g6 g4 g5 g7 hM2 (fun j hj => ?_) (fun M3 q1 q2 q3 => ?_)
        · rw [fj_up_at, if_neg (by omega), p1 51 (by decide) (by decide) (by decide)]
          exact g8 j hj
        · refine ⟨Or.inl rfl, ?_⟩
          refine hQ M3 (fun o b1 b2 b3 b4 => ?_) ?_ (fun j hj => ?_) ?_ ?_ q3
          · rw [q1 o b4, ← p1 o b1 b2 b3]
            (funext j; simp only [fj_up_at]; repeat (rw [if_neg (by omega)]))
          · rw [q1 0 (by decide), fj_up_at, if_neg (by omega)]
            exact p2
          · rw [q2 j (by omega), fj_up_at, if_neg (by omega), p1 33 (by decide) (by decide) (by decide)]
          · rw [q1 0 (by decide), q2 0 (by omega), fj_up_at, if_neg (by omega), p3, fj_up_at, if_pos ⟨rfl, rfl⟩]
          · rw [q2 4 (by omega)]
            exact hM2.2.2.1
      rcases (show z' = 0 ∨ z' = 1 ∨ z' = 2 ∨ z' = 3 ∨ z' = 4 ∨ z' = 5 by omega) with rfl | rfl | rfl | rfl | rfl | rfl
      · rw [show nI 0 = 0 from rfl] at mdl
        rw [show nI 0 = 0 from rfl]
        cases hfw : wfw (wGo A g a 0 w0) with
        | none =>
          have e9' : (onI (wfw (wGo A g a 0 w0)) = -9) = True := by rw [e9, hfw]; exact eq_true rfl
          have e0' : (onI (wfw (wGo A g a 0 w0)) < 0) = True := by rw [hfw]; exact eq_true (by decide)
          simp only [fs67_25, fs67_27, fs67_29, fs67_32, fs67_34, fs67_35, fs67_37, fs67_38, fs67_41, fs67_42, fs67_45, fs67_48, fs67_49, fs67_50, fs67_53, fs67_56, fs67_58, fs67_61, fs67_63, fs67_64, fs67_67, fs67_70, fs67_71, fs67_72, fs67_74, fs67_108, fs67_109, fs67_112, fs67_115, fs67_116, fs67_117, fs67_120, fs67_123, fs67_124, fs67_125, fs67_128, fs67_131, fs67_132, fs67_133, fs67_136, fs67_139, fs67_140, fs67_141, fs67_144, fs67_147, fj_PV t, fj_OB, fj_AR, fj_CI, q_zo0, q_zo1, Option.toList_some, Option.toList_none, List.cons_append, List.nil_append, true_and, and_true, true_or, if_true, if_false, q_l10, q_l01, eq_self, Int32.reduceLT, Int32.reduceLE, Int32.reduceAdd, Int32.reduceSub, fj_up_at, Nat.reduceEqDiff, false_and, and_false, and_self, reduceCtorEq, Nat.reduceAdd, q_ll, c1, c0, e9']
          refine mdl _ (fun M3 u1 u2 u3 u4 u5 u6 => ?_)
          simp only [fs128_41, fs128_43, fs128_44, fs128_47, fs128_48, fs128_51, fs128_52, fs128_53, fs128_56, fs128_59, fs128_61, fs128_62, fs128_65, fs128_66, fs128_67, fs128_69, fs128_104, fs128_105, fs128_108, fs128_109, fs128_110, fs128_113, fs128_114, fs128_117, fs128_118, fs128_119, fs128_120, fs128_121, fs128_122, fs128_125, fs128_126, fs128_127, fs128_130, fs128_131, fs128_132, fs128_135, fj_PV t, fj_OB, fj_AR, fj_CI, q_zo0, q_zo1, Option.toList_some, Option.toList_none, List.cons_append, List.nil_append, true_and, and_true, true_or, if_true, if_false, q_l10, q_l01, eq_self, Int32.reduceLT, Int32.reduceLE, Int32.reduceAdd, Int32.reduceSub, fj_up_at, Nat.reduceEqDiff, false_and, and_false, and_self, reduceCtorEq, Nat.reduceAdd, q_ll, u6.2.2.2.2.1, u6.2.2.2.1, e0']
          exact fj_fin_i (fj_In_pl h u1 u2 u3 u4) _
        | some q =>
          have e9' : (onI (wfw (wGo A g a 0 w0)) = -9) = False := by rw [e9, hfw]; exact eq_false (by simp)
          have e0' : (onI (wfw (wGo A g a 0 w0)) < 0) = False := eq_false (Int32.not_lt.mpr (by rw [e0, hfw]; rfl))
          simp only [fs67_25, fs67_27, fs67_29, fs67_32, fs67_34, fs67_35, fs67_37, fs67_38, fs67_41, fs67_42, fs67_45, fs67_48, fs67_49, fs67_50, fs67_53, fs67_56, fs67_58, fs67_61, fs67_63, fs67_64, fs67_67, fs67_70, fs67_71, fs67_72, fs67_74, fs67_108, fs67_109, fs67_112, fs67_115, fs67_116, fs67_117, fs67_120, fs67_123, fs67_124, fs67_125, fs67_128, fs67_131, fs67_132, fs67_133, fs67_136, fs67_139, fs67_140, fs67_141, fs67_144, fs67_147, fj_PV t, fj_OB, fj_AR, fj_CI, q_zo0, q_zo1, Option.toList_some, Option.toList_none, List.cons_append, List.nil_append, true_and, and_true, true_or, if_true, if_false, q_l10, q_l01, eq_self, Int32.reduceLT, Int32.reduceLE, Int32.reduceAdd, Int32.reduceSub, fj_up_at, Nat.reduceEqDiff, false_and, and_false, and_self, reduceCtorEq, Nat.reduceAdd, q_ll, c1, e9']
          refine mdl _ (fun M3 u1 u2 u3 u4 u5 u6 => ?_)
          simp only [fs128_41, fs128_43, fs128_44, fs128_47, fs128_48, fs128_51, fs128_52, fs128_53, fs128_56, fs128_59, fs128_61, fs128_62, fs128_65, fs128_66, fs128_67, fs128_69, fs128_104, fs128_105, fs128_108, fs128_109, fs128_110, fs128_113, fs128_114, fs128_117, fs128_118, fs128_119, fs128_120, fs128_121, fs128_122, fs128_125, fs128_126, fs128_127, fs128_130, fs128_131, fs128_132, fs128_135, fj_PV t, fj_OB, fj_AR, fj_CI, q_zo0, q_zo1, Option.toList_some, Option.toList_none, List.cons_append, List.nil_append, true_and, and_true, true_or, if_true, if_false, q_l10, q_l01, eq_self, Int32.reduceLT, Int32.reduceLE, Int32.reduceAdd, Int32.reduceSub, fj_up_at, Nat.reduceEqDiff, false_and, and_false, and_self, reduceCtorEq, Nat.reduceAdd, q_ll, u6.2.2.2.2.1, e0']
          exact fj_fin_i (fj_In_pl h u1 u2 u3 u4) _
      · rw [show nI 1 = 1 from rfl] at mdl
        rw [show nI 1 = 1 from rfl]
        simp only [fs67_25, fs67_27, fs67_29, fs67_32, fs67_34, fs67_35, fs67_37, fs67_38, fs67_41, fs67_42, fs67_45, fs67_48, fs67_49, fs67_50, fs67_53, fs67_56, fs67_58, fs67_61, fs67_63, fs67_64, fs67_67, fs67_70, fs67_71, fs67_72, fs67_74, fs67_108, fs67_109, fs67_112, fs67_115, fs67_116, fs67_117, fs67_120, fs67_123, fs67_124, fs67_125, fs67_128, fs67_131, fs67_132, fs67_133, fs67_136, fs67_139, fs67_140, fs67_141, fs67_144, fs67_147, fj_PV t, fj_OB, fj_AR, fj_CI, q_zo0, q_zo1, Option.toList_some, Option.toList_none, List.cons_append, List.nil_append, true_and, and_true, true_or, if_true, if_false, q_l10, q_l01, eq_self, Int32.reduceLT, Int32.reduceLE, Int32.reduceAdd, Int32.reduceSub, fj_up_at, Nat.reduceEqDiff, false_and, and_false, and_self, reduceCtorEq, Nat.reduceAdd, q_ll, c1]
        refine mdl _ (fun M3 u1 u2 u3 u4 u5 u6 => ?_)
        simp only [fs128_41, fs128_43, fs128_44, fs128_47, fs128_48, fs128_51, fs128_52, fs128_53, fs128_56, fs128_59, fs128_61, fs128_62, fs128_65, fs128_66, fs128_67, fs128_69, fs128_104, fs128_105, fs128_108, fs128_109, fs128_110, fs128_113, fs128_114, fs128_117, fs128_118, fs128_119, fs128_120, fs128_121, fs128_122, fs128_125, fs128_126, fs128_127, fs128_130, fs128_131, fs128_132, fs128_135, fj_PV t, fj_OB, fj_AR, fj_CI, q_zo0, q_zo1, Option.toList_some, Option.toList_none, List.cons_append, List.nil_append, true_and, and_true, true_or, if_true, if_false, q_l10, q_l01, eq_self, Int32.reduceLT, Int32.reduceLE, Int32.reduceAdd, Int32.reduceSub, fj_up_at, Nat.reduceEqDiff, false_and, and_false, and_self, reduceCtorEq, Nat.reduceAdd, q_ll, u6.2.2.2.2.1]
        exact fj_fin_i (fj_In_pl h u1 u2 u3 u4) _
      · rw [show nI 2 = 2 from rfl] at mdl
        rw [show nI 2 = 2 from rfl]
        cases hfw : wfw (wGo A g a 0 w0) with
        | none =>
          have e9' : (onI (wfw (wGo A g a 0 w0)) = -9) = True := by rw [e9, hfw]; exact eq_true rfl
          have e0' : (onI (wfw (wGo A g a 0 w0)) < 0) = True := by rw [hfw]; exact eq_true (by decide)
          simp only [fs67_25, fs67_27, fs67_29, fs67_32, fs67_34, fs67_35, fs67_37, fs67_38, fs67_41, fs67_42, fs67_45, fs67_48, fs67_49, fs67_50, fs67_53, fs67_56, fs67_58, fs67_61, fs67_63, fs67_64, fs67_67, fs67_70, fs67_71, fs67_72, fs67_74, fs67_108, fs67_109, fs67_112, fs67_115, fs67_116, fs67_117, fs67_120, fs67_123, fs67_124, fs67_125, fs67_128, fs67_131, fs67_132, fs67_133, fs67_136, fs67_139, fs67_140, fs67_141, fs67_144, fs67_147, fj_PV t, fj_OB, fj_AR, fj_CI, q_zo0, q_zo1, Option.toList_some, Option.toList_none, List.cons_append, List.nil_append, true_and, and_true, true_or, if_true, if_false, q_l10, q_l01, eq_self, Int32.reduceLT, Int32.reduceLE, Int32.reduceAdd, Int32.reduceSub, fj_up_at, Nat.reduceEqDiff, false_and, and_false, and_self, reduceCtorEq, Nat.reduceAdd, q_ll, c1, c3, e9']
          refine mdl _ (fun M3 u1 u2 u3 u4 u5 u6 => ?_)
          simp only [fs128_41, fs128_43, fs128_44, fs128_47, fs128_48, fs128_51, fs128_52, fs128_53, fs128_56, fs128_59, fs128_61, fs128_62, fs128_65, fs128_66, fs128_67, fs128_69, fs128_104, fs128_105, fs128_108, fs128_109, fs128_110, fs128_113, fs128_114, fs128_117, fs128_118, fs128_119, fs128_120, fs128_121, fs128_122, fs128_125, fs128_126, fs128_127, fs128_130, fs128_131, fs128_132, fs128_135, fj_PV t, fj_OB, fj_AR, fj_CI, q_zo0, q_zo1, Option.toList_some, Option.toList_none, List.cons_append, List.nil_append, true_and, and_true, true_or, if_true, if_false, q_l10, q_l01, eq_self, Int32.reduceLT, Int32.reduceLE, Int32.reduceAdd, Int32.reduceSub, fj_up_at, Nat.reduceEqDiff, false_and, and_false, and_self, reduceCtorEq, Nat.reduceAdd, q_ll, u6.2.2.2.2.1, u6.2.2.1, e0', m107 hn u5, q_sdf, sdf_all o2]
          exact fj_fin_i (fj_In_pl h u1 u2 u3 u4) _
        | some q =>
          have e9' : (onI (wfw (wGo A g a 0 w0)) = -9) = False := by rw [e9, hfw]; exact eq_false (by simp)
          have e0' : (onI (wfw (wGo A g a 0 w0)) < 0) = False := eq_false (Int32.not_lt.mpr (by rw [e0, hfw]; rfl))
          simp only [fs67_25, fs67_27, fs67_29, fs67_32, fs67_34, fs67_35, fs67_37, fs67_38, fs67_41, fs67_42, fs67_45, fs67_48, fs67_49, fs67_50, fs67_53, fs67_56, fs67_58, fs67_61, fs67_63, fs67_64, fs67_67, fs67_70, fs67_71, fs67_72, fs67_74, fs67_108, fs67_109, fs67_112, fs67_115, fs67_116, fs67_117, fs67_120, fs67_123, fs67_124, fs67_125, fs67_128, fs67_131, fs67_132, fs67_133, fs67_136, fs67_139, fs67_140, fs67_141, fs67_144, fs67_147, fj_PV t, fj_OB, fj_AR, fj_CI, q_zo0, q_zo1, Option.toList_some, Option.toList_none, List.cons_append, List.nil_append, true_and, and_true, true_or, if_true, if_false, q_l10, q_l01, eq_self, Int32.reduceLT, Int32.reduceLE, Int32.reduceAdd, Int32.reduceSub, fj_up_at, Nat.reduceEqDiff, false_and, and_false, and_self, reduceCtorEq, Nat.reduceAdd, q_ll, c1, e9']
          refine mdl _ (fun M3 u1 u2 u3 u4 u5 u6 => ?_)
          simp only [fs128_41, fs128_43, fs128_44, fs128_47, fs128_48, fs128_51, fs128_52, fs128_53, fs128_56, fs128_59, fs128_61, fs128_62, fs128_65, fs128_66, fs128_67, fs128_69, fs128_104, fs128_105, fs128_108, fs128_109, fs128_110, fs128_113, fs128_114, fs128_117, fs128_118, fs128_119, fs128_120, fs128_121, fs128_122, fs128_125, fs128_126, fs128_127, fs128_130, fs128_131, fs128_132, fs128_135, fj_PV t, fj_OB, fj_AR, fj_CI, q_zo0, q_zo1, Option.toList_some, Option.toList_none, List.cons_append, List.nil_append, true_and, and_true, true_or, if_true, if_false, q_l10, q_l01, eq_self, Int32.reduceLT, Int32.reduceLE, Int32.reduceAdd, Int32.reduceSub, fj_up_at, Nat.reduceEqDiff, false_and, and_false, and_self, reduceCtorEq, Nat.reduceAdd, q_ll, u6.2.2.2.2.1, e0']
          exact fj_fin_i (fj_In_pl h u1 u2 u3 u4) _
      · rw [show nI 3 = 3 from rfl] at mdl
        rw [show nI 3 = 3 from rfl]
        cases hfw : wfw (wGo A g a 0 w0) with
        | none =>
          have e9' : (onI (wfw (wGo A g a 0 w0)) = -9) = True := by rw [e9, hfw]; exact eq_true rfl
          have e0' : (onI (wfw (wGo A g a 0 w0)) < 0) = True := by rw [hfw]; exact eq_true (by decide)
          simp only [fs67_25, fs67_27, fs67_29, fs67_32, fs67_34, fs67_35, fs67_37, fs67_38, fs67_41, fs67_42, fs67_45, fs67_48, fs67_49, fs67_50, fs67_53, fs67_56, fs67_58, fs67_61, fs67_63, fs67_64, fs67_67, fs67_70, fs67_71, fs67_72, fs67_74, fs67_108, fs67_109, fs67_112, fs67_115, fs67_116, fs67_117, fs67_120, fs67_123, fs67_124, fs67_125, fs67_128, fs67_131, fs67_132, fs67_133, fs67_136, fs67_139, fs67_140, fs67_141, fs67_144, fs67_147, fj_PV t, fj_OB, fj_AR, fj_CI, q_zo0, q_zo1, Option.toList_some, Option.toList_none, List.cons_append, List.nil_append, true_and, and_true, true_or, if_true, if_false, q_l10, q_l01, eq_self, Int32.reduceLT, Int32.reduceLE, Int32.reduceAdd, Int32.reduceSub, fj_up_at, Nat.reduceEqDiff, false_and, and_false, and_self, reduceCtorEq, Nat.reduceAdd, q_ll, c1, c2, e9']
          refine mdl _ (fun M3 u1 u2 u3 u4 u5 u6 => ?_)
          simp only [fs128_41, fs128_43, fs128_44, fs128_47, fs128_48, fs128_51, fs128_52, fs128_53, fs128_56, fs128_59, fs128_61, fs128_62, fs128_65, fs128_66, fs128_67, fs128_69, fs128_104, fs128_105, fs128_108, fs128_109, fs128_110, fs128_113, fs128_114, fs128_117, fs128_118, fs128_119, fs128_120, fs128_121, fs128_122, fs128_125, fs128_126, fs128_127, fs128_130, fs128_131, fs128_132, fs128_135, fj_PV t, fj_OB, fj_AR, fj_CI, q_zo0, q_zo1, Option.toList_some, Option.toList_none, List.cons_append, List.nil_append, true_and, and_true, true_or, if_true, if_false, q_l10, q_l01, eq_self, Int32.reduceLT, Int32.reduceLE, Int32.reduceAdd, Int32.reduceSub, fj_up_at, Nat.reduceEqDiff, false_and, and_false, and_self, reduceCtorEq, Nat.reduceAdd, q_ll, u6.2.2.2.2.1, u6.2.2.2.2.2, e0']
          exact fj_fin_i (fj_In_pl h u1 u2 u3 u4) _
        | some q =>
          have e9' : (onI (wfw (wGo A g a 0 w0)) = -9) = False := by rw [e9, hfw]; exact eq_false (by simp)
          have e0' : (onI (wfw (wGo A g a 0 w0)) < 0) = False := eq_false (Int32.not_lt.mpr (by rw [e0, hfw]; rfl))
          simp only [fs67_25, fs67_27, fs67_29, fs67_32, fs67_34, fs67_35, fs67_37, fs67_38, fs67_41, fs67_42, fs67_45, fs67_48, fs67_49, fs67_50, fs67_53, fs67_56, fs67_58, fs67_61, fs67_63, fs67_64, fs67_67, fs67_70, fs67_71, fs67_72, fs67_74, fs67_108, fs67_109, fs67_112, fs67_115, fs67_116, fs67_117, fs67_120, fs67_123, fs67_124, fs67_125, fs67_128, fs67_131, fs67_132, fs67_133, fs67_136, fs67_139, fs67_140, fs67_141, fs67_144, fs67_147, fj_PV t, fj_OB, fj_AR, fj_CI, q_zo0, q_zo1, Option.toList_some, Option.toList_none, List.cons_append, List.nil_append, true_and, and_true, true_or, if_true, if_false, q_l10, q_l01, eq_self, Int32.reduceLT, Int32.reduceLE, Int32.reduceAdd, Int32.reduceSub, fj_up_at, Nat.reduceEqDiff, false_and, and_false, and_self, reduceCtorEq, Nat.reduceAdd, q_ll, c1, e9']
          refine mdl _ (fun M3 u1 u2 u3 u4 u5 u6 => ?_)
          simp only [fs128_41, fs128_43, fs128_44, fs128_47, fs128_48, fs128_51, fs128_52, fs128_53, fs128_56, fs128_59, fs128_61, fs128_62, fs128_65, fs128_66, fs128_67, fs128_69, fs128_104, fs128_105, fs128_108, fs128_109, fs128_110, fs128_113, fs128_114, fs128_117, fs128_118, fs128_119, fs128_120, fs128_121, fs128_122, fs128_125, fs128_126, fs128_127, fs128_130, fs128_131, fs128_132, fs128_135, fj_PV t, fj_OB, fj_AR, fj_CI, q_zo0, q_zo1, Option.toList_some, Option.toList_none, List.cons_append, List.nil_append, true_and, and_true, true_or, if_true, if_false, q_l10, q_l01, eq_self, Int32.reduceLT, Int32.reduceLE, Int32.reduceAdd, Int32.reduceSub, fj_up_at, Nat.reduceEqDiff, false_and, and_false, and_self, reduceCtorEq, Nat.reduceAdd, q_ll, u6.2.2.2.2.1, e0']
          exact fj_fin_i (fj_In_pl h u1 u2 u3 u4) _
      · rw [show nI 4 = 4 from rfl] at mdl
        rw [show nI 4 = 4 from rfl]
        cases hfw : wfw (wGo A g a 0 w0) with
        | none =>
          have e9' : (onI (wfw (wGo A g a 0 w0)) = -9) = True := by rw [e9, hfw]; exact eq_true rfl
          have e0' : (onI (wfw (wGo A g a 0 w0)) < 0) = True := by rw [hfw]; exact eq_true (by decide)
          simp only [fs67_25, fs67_27, fs67_29, fs67_32, fs67_34, fs67_35, fs67_37, fs67_38, fs67_41, fs67_42, fs67_45, fs67_48, fs67_49, fs67_50, fs67_53, fs67_56, fs67_58, fs67_61, fs67_63, fs67_64, fs67_67, fs67_70, fs67_71, fs67_72, fs67_74, fs67_108, fs67_109, fs67_112, fs67_115, fs67_116, fs67_117, fs67_120, fs67_123, fs67_124, fs67_125, fs67_128, fs67_131, fs67_132, fs67_133, fs67_136, fs67_139, fs67_140, fs67_141, fs67_144, fs67_147, fj_PV t, fj_OB, fj_AR, fj_CI, q_zo0, q_zo1, Option.toList_some, Option.toList_none, List.cons_append, List.nil_append, true_and, and_true, true_or, if_true, if_false, q_l10, q_l01, eq_self, Int32.reduceLT, Int32.reduceLE, Int32.reduceAdd, Int32.reduceSub, fj_up_at, Nat.reduceEqDiff, false_and, and_false, and_self, reduceCtorEq, Nat.reduceAdd, q_ll, c1, c4, e9']
          refine mdl _ (fun M3 u1 u2 u3 u4 u5 u6 => ?_)
          simp only [fs128_41, fs128_43, fs128_44, fs128_47, fs128_48, fs128_51, fs128_52, fs128_53, fs128_56, fs128_59, fs128_61, fs128_62, fs128_65, fs128_66, fs128_67, fs128_69, fs128_104, fs128_105, fs128_108, fs128_109, fs128_110, fs128_113, fs128_114, fs128_117, fs128_118, fs128_119, fs128_120, fs128_121, fs128_122, fs128_125, fs128_126, fs128_127, fs128_130, fs128_131, fs128_132, fs128_135, fj_PV t, fj_OB, fj_AR, fj_CI, q_zo0, q_zo1, Option.toList_some, Option.toList_none, List.cons_append, List.nil_append, true_and, and_true, true_or, if_true, if_false, q_l10, q_l01, eq_self, Int32.reduceLT, Int32.reduceLE, Int32.reduceAdd, Int32.reduceSub, fj_up_at, Nat.reduceEqDiff, false_and, and_false, and_self, reduceCtorEq, Nat.reduceAdd, q_ll, u6.2.2.2.2.1, u6.2.1, e0']
          exact fj_fin_i (fj_In_pl h u1 u2 u3 u4) _
        | some q =>
          have e9' : (onI (wfw (wGo A g a 0 w0)) = -9) = False := by rw [e9, hfw]; exact eq_false (by simp)
          have e0' : (onI (wfw (wGo A g a 0 w0)) < 0) = False := eq_false (Int32.not_lt.mpr (by rw [e0, hfw]; rfl))
          simp only [fs67_25, fs67_27, fs67_29, fs67_32, fs67_34, fs67_35, fs67_37, fs67_38, fs67_41, fs67_42, fs67_45, fs67_48, fs67_49, fs67_50, fs67_53, fs67_56, fs67_58, fs67_61, fs67_63, fs67_64, fs67_67, fs67_70, fs67_71, fs67_72, fs67_74, fs67_108, fs67_109, fs67_112, fs67_115, fs67_116, fs67_117, fs67_120, fs67_123, fs67_124, fs67_125, fs67_128, fs67_131, fs67_132, fs67_133, fs67_136, fs67_139, fs67_140, fs67_141, fs67_144, fs67_147, fj_PV t, fj_OB, fj_AR, fj_CI, q_zo0, q_zo1, Option.toList_some, Option.toList_none, List.cons_append, List.nil_append, true_and, and_true, true_or, if_true, if_false, q_l10, q_l01, eq_self, Int32.reduceLT, Int32.reduceLE, Int32.reduceAdd, Int32.reduceSub, fj_up_at, Nat.reduceEqDiff, false_and, and_false, and_self, reduceCtorEq, Nat.reduceAdd, q_ll, c1, e9']
          refine mdl _ (fun M3 u1 u2 u3 u4 u5 u6 => ?_)
          simp only [fs128_41, fs128_43, fs128_44, fs128_47, fs128_48, fs128_51, fs128_52, fs128_53, fs128_56, fs128_59, fs128_61, fs128_62, fs128_65, fs128_66, fs128_67, fs128_69, fs128_104, fs128_105, fs128_108, fs128_109, fs128_110, fs128_113, fs128_114, fs128_117, fs128_118, fs128_119, fs128_120, fs128_121, fs128_122, fs128_125, fs128_126, fs128_127, fs128_130, fs128_131, fs128_132, fs128_135, fj_PV t, fj_OB, fj_AR, fj_CI, q_zo0, q_zo1, Option.toList_some, Option.toList_none, List.cons_append, List.nil_append, true_and, and_true, true_or, if_true, if_false, q_l10, q_l01, eq_self, Int32.reduceLT, Int32.reduceLE, Int32.reduceAdd, Int32.reduceSub, fj_up_at, Nat.reduceEqDiff, false_and, and_false, and_self, reduceCtorEq, Nat.reduceAdd, q_ll, u6.2.2.2.2.1, e0']
          exact fj_fin_i (fj_In_pl h u1 u2 u3 u4) _
      · rw [show nI 5 = 5 from rfl] at mdl
        rw [show nI 5 = 5 from rfl]
        cases hfw : wfw (wGo A g a 0 w0) with
        | none =>
          have e9' : (onI (wfw (wGo A g a 0 w0)) = -9) = True := by rw [e9, hfw]; exact eq_true rfl
          have e0' : (onI (wfw (wGo A g a 0 w0)) < 0) = True := by rw [hfw]; exact eq_true (by decide)
          simp only [fs67_25, fs67_27, fs67_29, fs67_32, fs67_34, fs67_35, fs67_37, fs67_38, fs67_41, fs67_42, fs67_45, fs67_48, fs67_49, fs67_50, fs67_53, fs67_56, fs67_58, fs67_61, fs67_63, fs67_64, fs67_67, fs67_70, fs67_71, fs67_72, fs67_74, fs67_108, fs67_109, fs67_112, fs67_115, fs67_116, fs67_117, fs67_120, fs67_123, fs67_124, fs67_125, fs67_128, fs67_131, fs67_132, fs67_133, fs67_136, fs67_139, fs67_140, fs67_141, fs67_144, fs67_147, fj_PV t, fj_OB, fj_AR, fj_CI, q_zo0, q_zo1, Option.toList_some, Option.toList_none, List.cons_append, List.nil_append, true_and, and_true, true_or, if_true, if_false, q_l10, q_l01, eq_self, Int32.reduceLT, Int32.reduceLE, Int32.reduceAdd, Int32.reduceSub, fj_up_at, Nat.reduceEqDiff, false_and, and_false, and_self, reduceCtorEq, Nat.reduceAdd, q_ll, c1, c5, e9']
          refine mdl _ (fun M3 u1 u2 u3 u4 u5 u6 => ?_)
          simp only [fs128_41, fs128_43, fs128_44, fs128_47, fs128_48, fs128_51, fs128_52, fs128_53, fs128_56, fs128_59, fs128_61, fs128_62, fs128_65, fs128_66, fs128_67, fs128_69, fs128_104, fs128_105, fs128_108, fs128_109, fs128_110, fs128_113, fs128_114, fs128_117, fs128_118, fs128_119, fs128_120, fs128_121, fs128_122, fs128_125, fs128_126, fs128_127, fs128_130, fs128_131, fs128_132, fs128_135, fj_PV t, fj_OB, fj_AR, fj_CI, q_zo0, q_zo1, Option.toList_some, Option.toList_none, List.cons_append, List.nil_append, true_and, and_true, true_or, if_true, if_false, q_l10, q_l01, eq_self, Int32.reduceLT, Int32.reduceLE, Int32.reduceAdd, Int32.reduceSub, fj_up_at, Nat.reduceEqDiff, false_and, and_false, and_self, reduceCtorEq, Nat.reduceAdd, q_ll, u6.2.2.2.2.1, u6.1, e0']
          exact fj_fin_i (fj_In_pl h u1 u2 u3 u4) _
        | some q =>
          have e9' : (onI (wfw (wGo A g a 0 w0)) = -9) = False := by rw [e9, hfw]; exact eq_false (by simp)
          have e0' : (onI (wfw (wGo A g a 0 w0)) < 0) = False := eq_false (Int32.not_lt.mpr (by rw [e0, hfw]; rfl))
          simp only [fs67_25, fs67_27, fs67_29, fs67_32, fs67_34, fs67_35, fs67_37, fs67_38, fs67_41, fs67_42, fs67_45, fs67_48, fs67_49, fs67_50, fs67_53, fs67_56, fs67_58, fs67_61, fs67_63, fs67_64, fs67_67, fs67_70, fs67_71, fs67_72, fs67_74, fs67_108, fs67_109, fs67_112, fs67_115, fs67_116, fs67_117, fs67_120, fs67_123, fs67_124, fs67_125, fs67_128, fs67_131, fs67_132, fs67_133, fs67_136, fs67_139, fs67_140, fs67_141, fs67_144, fs67_147, fj_PV t, fj_OB, fj_AR, fj_CI, q_zo0, q_zo1, Option.toList_some, Option.toList_none, List.cons_append, List.nil_append, true_and, and_true, true_or, if_true, if_false, q_l10, q_l01, eq_self, Int32.reduceLT, Int32.reduceLE, Int32.reduceAdd, Int32.reduceSub, fj_up_at, Nat.reduceEqDiff, false_and, and_false, and_self, reduceCtorEq, Nat.reduceAdd, q_ll, c1, e9']
          refine mdl _ (fun M3 u1 u2 u3 u4 u5 u6 => ?_)
          simp only [fs128_41, fs128_43, fs128_44, fs128_47, fs128_48, fs128_51, fs128_52, fs128_53, fs128_56, fs128_59, fs128_61, fs128_62, fs128_65, fs128_66, fs128_67, fs128_69, fs128_104, fs128_105, fs128_108, fs128_109, fs128_110, fs128_113, fs128_114, fs128_117, fs128_118, fs128_119, fs128_120, fs128_121, fs128_122, fs128_125, fs128_126, fs128_127, fs128_130, fs128_131, fs128_132, fs128_135, fj_PV t, fj_OB, fj_AR, fj_CI, q_zo0, q_zo1, Option.toList_some, Option.toList_none, List.cons_append, List.nil_append, true_and, and_true, true_or, if_true, if_false, q_l10, q_l01, eq_self, Int32.reduceLT, Int32.reduceLE, Int32.reduceAdd, Int32.reduceSub, fj_up_at, Nat.reduceEqDiff, false_and, and_false, and_self, reduceCtorEq, Nat.reduceAdd, q_ll, u6.2.2.2.2.1, e0']
          exact fj_fin_i (fj_In_pl h u1 u2 u3 u4) _
