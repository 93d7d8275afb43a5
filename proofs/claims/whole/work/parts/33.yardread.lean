/-! ===== the class takes a text, or tells its first fault ===== -/
theorem fj_PC_Y {o : Nat} {M : fj_HM} {h w : Nat} {s : fj_Tx} (hP : fj_PC o M w (h * w) (h * w) s) : fj_YC o M (pYd h w s) := by
  obtain ⟨a0, a1, a2, a3, a4, a5, a6, a7, a8, a9, a10⟩ := hP
  exact ⟨a0, a1, a2, a3, a4, a5, fun c hc => ⟨a6 c hc, a7 c hc⟩, a8, a9⟩
theorem pOk_V {h w : Nat} (h1 : 1 ≤ h) (h4 : h ≤ 4) (w2 : 2 ≤ w) (w6 : w ≤ 6) {s : fj_Tx} (hO : pOk (h * w) s) : fj_YV (pYd h w s) :=
  ⟨Or.inr ⟨h1, h4, w2, w6, Nat.le_refl 1⟩, hO.1, hO.2.1, hO.2.2.1, hO.2.2.2, Nat.two_pow_pos _, show 1 ≤ 6 by decide, show 30 ≤ 99 by decide⟩
theorem m44 {o : Nat} (ho : o = 17 ∨ o = 25) (t : Bool) {n : Nat} (hn : n ≤ 60) {g : Nat → Int32} {M : fj_HM} (hg : ∀ k, gC M n k = g k) (hj : ∀ j, j < 6 → ∃ d, d < 24 ∧ M (o + 4) j = nI d) {Q : fj_Po}
  (hF : ∀ M' f, (∀ o', (o' < o ∨ o + 7 < o') → M' o' = M o') → pAll g n = .inl f → (∀ j, j < 6 → ∃ d, d < 24 ∧ M' (o + 4) j = nI d) → f ≤ 100 → Q (some (.int (nI f))) M' (fj_PY t) 53 7835)
  (hG : ∀ M' A, (∀ o', (o' < o ∨ o + 7 < o') → M' o' = M o') → pAll g n = .inr A → (∀ j, j < 6 → ∃ d, d < 24 ∧ M' (o + 4) j = nI d) → fj_YV A → fj_YC o M' A → Q (some (.int (-9))) M' (fj_PY t) 53 7835) :
  fj_H none 44 0 [.ref o, .ref 16, .int (nI n), .null, .null, .null, .null, .null, .null] [] M (fj_PY t) 53 7835 Q := by
  have fr : ∀ o', (o' < o ∨ o + 7 < o') → (fj_up (fj_up (fj_up (fj_up (fj_up (fj_up M o 0 0) o 1 0) o 2 0) o 3 0) o 4 1) o 5 30) o' = M o' := fun o' h => by
    funext j
    simp only [fj_up_at]
    repeat rw [if_neg (by omega)]
  have hg1 : ∀ k, gC (fj_up (fj_up (fj_up (fj_up (fj_up (fj_up M o 0 0) o 1 0) o 2 0) o 3 0) o 4 1) o 5 30) n k = g k := fun k => by rw [← hg k]; unfold gC; rw [fr 16 (by omega)]
  have hj1 : ∀ j, j < 6 → ∃ d, d < 24 ∧ (fj_up (fj_up (fj_up (fj_up (fj_up (fj_up M o 0 0) o 1 0) o 2 0) o 3 0) o 4 1) o 5 30) (o + 4) j = nI d := fun j h => by
    obtain ⟨d, h1, h2⟩ := hj j h
    refine ⟨d, h1, ?_⟩
    rw [← h2]
    simp only [fj_up_at]
    repeat rw [if_neg (by omega)]
  have hP0 : ∀ w, fj_PC o (fj_up (fj_up (fj_up (fj_up (fj_up (fj_up M o 0 0) o 1 0) o 2 0) o 3 0) o 4 1) o 5 30) w 0 0 p0 := fun w => by
    refine ⟨?_, ?_, ?_, ?_, ?_, ?_, fun k hk => absurd hk (Nat.not_lt_zero k), fun k hk => absurd hk (Nat.not_lt_zero k), fun k hk => absurd hk (Nat.not_lt_zero k), fun k hk => absurd hk (Nat.not_lt_zero k), hj1⟩
    all_goals simp [fj_up_at]
    all_goals rfl
  generalize eM : fj_up (fj_up (fj_up (fj_up (fj_up (fj_up M o 0 0) o 1 0) o 2 0) o 3 0) o 4 1) o 5 30 = M1 at fr hg1 hj1 hP0
  have i1 : (1 : Int32) = nI 1 := rfl
  have i2 : (2 : Int32) = nI 2 := rfl
  have i4 : (4 : Int32) = nI 4 := rfl
  have i6 : (6 : Int32) = nI 6 := rfl
  simp only [fs44_0, fs44_1, fs44_4, fs44_5, fs44_6, fj_YO ho t, fj_OB, fj_AR, fj_CI, q_zo0, q_zo1, Option.toList_some, Option.toList_none, List.cons_append, List.nil_append, true_and, and_true, true_or, if_true, if_false, q_l10, q_l01, eq_self, Int32.reduceLT, Int32.reduceLE, Int32.reduceAdd, Int32.reduceSub, fj_up_at, Nat.reduceEqDiff, false_and, and_false, and_self, reduceCtorEq, Nat.reduceAdd, m45 ho t, eM]
  rw [q_0]
  simp only [fs44_7, fs44_10, fs44_12, fj_OB, fj_AR, fj_CI, q_zo0, q_zo1, Option.toList_some, Option.toList_none, List.cons_append, List.nil_append, true_and, and_true, true_or, if_true, if_false, q_l10, q_l01, eq_self, Int32.reduceLT, Int32.reduceLE, Int32.reduceAdd, Int32.reduceSub, fj_up_at, Nat.reduceEqDiff, false_and, and_false, and_self, reduceCtorEq, Nat.reduceAdd, m46 hn (show 0 < 100000 by decide), hg1]
  unfold pAll at hF hG
  by_cases hy : g 0 = 121
  · rw [if_pos hy]
    rw [if_pos hy] at hF hG
    simp only [fs44_17, fs44_18, fs44_19, fj_OB, fj_AR, fj_CI, q_zo0, q_zo1, Option.toList_some, Option.toList_none, List.cons_append, List.nil_append, true_and, and_true, true_or, if_true, if_false, q_l10, q_l01, eq_self, Int32.reduceLT, Int32.reduceLE, Int32.reduceAdd, Int32.reduceSub, fj_up_at, Nat.reduceEqDiff, false_and, and_false, and_self, reduceCtorEq, Nat.reduceAdd]
    rw [i1]
    simp only [fs44_20, fs44_23, fs44_25, fs44_26, fs44_27, fs44_28, fs44_29, fj_OB, fj_AR, fj_CI, q_zo0, q_zo1, Option.toList_some, Option.toList_none, List.cons_append, List.nil_append, true_and, and_true, true_or, if_true, if_false, q_l10, q_l01, eq_self, Int32.reduceLT, Int32.reduceLE, Int32.reduceAdd, Int32.reduceSub, fj_up_at, Nat.reduceEqDiff, false_and, and_false, and_self, reduceCtorEq, Nat.reduceAdd, m46 hn (show 1 < 100000 by decide), hg1]
    by_cases h1 : g 1 - 48 < 1
    · rw [if_pos h1]
      rw [if_pos h1] at hF
      simp only [fs44_37, fs44_38, fj_OB, fj_AR, fj_CI, q_zo0, q_zo1, Option.toList_some, Option.toList_none, List.cons_append, List.nil_append, true_and, and_true, true_or, if_true, if_false, q_l10, q_l01, eq_self, Int32.reduceLT, Int32.reduceLE, Int32.reduceAdd, Int32.reduceSub, fj_up_at, Nat.reduceEqDiff, false_and, and_false, and_self, reduceCtorEq, Nat.reduceAdd]
      exact hF M1 1 fr rfl hj1 (by decide)
    · rw [if_neg h1]
      rw [if_neg h1] at hF hG
      simp only [fs44_32, fs44_33, fs44_34, fj_OB, fj_AR, fj_CI, q_zo0, q_zo1, Option.toList_some, Option.toList_none, List.cons_append, List.nil_append, true_and, and_true, true_or, if_true, if_false, q_l10, q_l01, eq_self, Int32.reduceLT, Int32.reduceLE, Int32.reduceAdd, Int32.reduceSub, fj_up_at, Nat.reduceEqDiff, false_and, and_false, and_self, reduceCtorEq, Nat.reduceAdd]
      by_cases h4 : g 1 - 48 ≤ 4
      · rw [if_pos h4]
        rw [if_pos h4] at hF hG
        obtain ⟨eh, eh1, eh4⟩ := q_rng (lo := 1) (hi := 4) (by decide) (by decide) h1 h4
        simp only [fs44_39, fs44_40, fs44_41, fj_OB, fj_AR, fj_CI, q_zo0, q_zo1, Option.toList_some, Option.toList_none, List.cons_append, List.nil_append, true_and, and_true, true_or, if_true, if_false, q_l10, q_l01, eq_self, Int32.reduceLT, Int32.reduceLE, Int32.reduceAdd, Int32.reduceSub, fj_up_at, Nat.reduceEqDiff, false_and, and_false, and_self, reduceCtorEq, Nat.reduceAdd]
        rw [i2]
        simp only [fs44_42, fs44_45, fs44_47, fs44_48, fs44_50, fs44_52, fs44_53, fj_OB, fj_AR, fj_CI, q_zo0, q_zo1, Option.toList_some, Option.toList_none, List.cons_append, List.nil_append, true_and, and_true, true_or, if_true, if_false, q_l10, q_l01, eq_self, Int32.reduceLT, Int32.reduceLE, Int32.reduceAdd, Int32.reduceSub, fj_up_at, Nat.reduceEqDiff, false_and, and_false, and_self, reduceCtorEq, Nat.reduceAdd, m46 hn (show 2 < 100000 by decide), hg1]
        by_cases h2 : g 2 - 48 < 2
        · rw [if_pos h2]
          rw [if_pos h2] at hF
          simp only [fs44_63, fs44_64, fj_OB, fj_AR, fj_CI, q_zo0, q_zo1, Option.toList_some, Option.toList_none, List.cons_append, List.nil_append, true_and, and_true, true_or, if_true, if_false, q_l10, q_l01, eq_self, Int32.reduceLT, Int32.reduceLE, Int32.reduceAdd, Int32.reduceSub, fj_up_at, Nat.reduceEqDiff, false_and, and_false, and_self, reduceCtorEq, Nat.reduceAdd]
          exact hF M1 2 fr rfl hj1 (by decide)
        · rw [if_neg h2]
          rw [if_neg h2] at hF hG
          simp only [fs44_56, fs44_58, fs44_60, fj_OB, fj_AR, fj_CI, q_zo0, q_zo1, Option.toList_some, Option.toList_none, List.cons_append, List.nil_append, true_and, and_true, true_or, if_true, if_false, q_l10, q_l01, eq_self, Int32.reduceLT, Int32.reduceLE, Int32.reduceAdd, Int32.reduceSub, fj_up_at, Nat.reduceEqDiff, false_and, and_false, and_self, reduceCtorEq, Nat.reduceAdd]
          by_cases h6 : g 2 - 48 ≤ 6
          · rw [if_pos h6]
            rw [if_pos h6] at hF hG
            obtain ⟨ew, ew2, ew6⟩ := q_rng (lo := 2) (hi := 6) (by decide) (by decide) h2 h6
            generalize (g 1 - 48).toNatClampNeg = h at eh eh1 eh4 hF hG
            generalize (g 2 - 48).toNatClampNeg = w at ew ew2 ew6 hF hG
            simp only [fs44_65, fs44_66, fs44_68, fs44_69, fj_OB, fj_AR, fj_CI, q_zo0, q_zo1, Option.toList_some, Option.toList_none, List.cons_append, List.nil_append, true_and, and_true, true_or, if_true, if_false, q_l10, q_l01, eq_self, Int32.reduceLT, Int32.reduceLE, Int32.reduceAdd, Int32.reduceSub, fj_up_at, Nat.reduceEqDiff, false_and, and_false, and_self, reduceCtorEq, Nat.reduceAdd, eh, ew]
            have L := (m44_go ho t hn ew2 ew6 eh4 (g := g) (Q := Q) (h * w)).1 0 0 p0 M1 .null .null (Nat.zero_le _) (by omega) (by omega) (by decide) hg1 (hP0 w) ⟨Nat.zero_le _, Nat.zero_le _, fun m hm => absurd hm (Nat.not_lt_zero m), fun m hm => absurd hm (Nat.not_lt_zero m)⟩
            refine L (fun M' f f1 e1 b1 l1 => ?_) (fun M' s' d7 d8 f1 e1 p1 o1 l1 => ?_)
            · rw [e1] at hF
              exact hF M' f (fun o' h' => by rw [f1 o' h', fr o' h']) rfl b1 l1
            · rw [e1] at hF hG
              simp only at hF hG
              simp only [fs44_149, fs44_151, fs44_152, fj_OB, fj_AR, fj_CI, q_zo0, q_zo1, Option.toList_some, Option.toList_none, List.cons_append, List.nil_append, true_and, and_true, true_or, if_true, if_false, q_l10, q_l01, eq_self, Int32.reduceLT, Int32.reduceLE, Int32.reduceAdd, Int32.reduceSub, fj_up_at, Nat.reduceEqDiff, false_and, and_false, and_self, reduceCtorEq, Nat.reduceAdd, q_le (show n < 100000 by omega) (show pp s' < 100000 by omega)]
              by_cases hlt : pp s' < n
              · rw [if_neg (show ¬ n ≤ pp s' by omega)]
                rw [if_pos hlt] at hF
                simp only [fs44_155, fs44_157, fs44_162, fj_OB, fj_AR, fj_CI, q_zo0, q_zo1, Option.toList_some, Option.toList_none, List.cons_append, List.nil_append, true_and, and_true, true_or, if_true, if_false, q_l10, q_l01, eq_self, Int32.reduceLT, Int32.reduceLE, Int32.reduceAdd, Int32.reduceSub, fj_up_at, Nat.reduceEqDiff, false_and, and_false, and_self, reduceCtorEq, Nat.reduceAdd]
                exact hF M' (pp s') (fun o' h' => by rw [f1 o' h', fr o' h']) rfl p1.2.2.2.2.2.2.2.2.2.2 l1
              · rw [if_pos (show n ≤ pp s' by omega)]
                rw [if_neg hlt] at hG
                simp only [fs44_160, fs44_162, fj_OB, fj_AR, fj_CI, q_zo0, q_zo1, Option.toList_some, Option.toList_none, List.cons_append, List.nil_append, true_and, and_true, true_or, if_true, if_false, q_l10, q_l01, eq_self, Int32.reduceLT, Int32.reduceLE, Int32.reduceAdd, Int32.reduceSub, fj_up_at, Nat.reduceEqDiff, false_and, and_false, and_self, reduceCtorEq, Nat.reduceAdd]
                exact hG M' (pYd h w s') (fun o' h' => by rw [f1 o' h', fr o' h']) rfl p1.2.2.2.2.2.2.2.2.2.2 (pOk_V eh1 eh4 ew2 ew6 o1) (fj_PC_Y p1)
          · rw [if_neg h6]
            rw [if_neg h6] at hF
            simp only [fs44_63, fs44_64, fj_OB, fj_AR, fj_CI, q_zo0, q_zo1, Option.toList_some, Option.toList_none, List.cons_append, List.nil_append, true_and, and_true, true_or, if_true, if_false, q_l10, q_l01, eq_self, Int32.reduceLT, Int32.reduceLE, Int32.reduceAdd, Int32.reduceSub, fj_up_at, Nat.reduceEqDiff, false_and, and_false, and_self, reduceCtorEq, Nat.reduceAdd]
            exact hF M1 2 fr rfl hj1 (by decide)
      · rw [if_neg h4]
        rw [if_neg h4] at hF
        simp only [fs44_37, fs44_38, fj_OB, fj_AR, fj_CI, q_zo0, q_zo1, Option.toList_some, Option.toList_none, List.cons_append, List.nil_append, true_and, and_true, true_or, if_true, if_false, q_l10, q_l01, eq_self, Int32.reduceLT, Int32.reduceLE, Int32.reduceAdd, Int32.reduceSub, fj_up_at, Nat.reduceEqDiff, false_and, and_false, and_self, reduceCtorEq, Nat.reduceAdd]
        exact hF M1 1 fr rfl hj1 (by decide)
  · rw [if_neg hy]
    rw [if_neg hy] at hF
    simp only [fs44_15, fs44_16, fj_OB, fj_AR, fj_CI, q_zo0, q_zo1, Option.toList_some, Option.toList_none, List.cons_append, List.nil_append, true_and, and_true, true_or, if_true, if_false, q_l10, q_l01, eq_self, Int32.reduceLT, Int32.reduceLE, Int32.reduceAdd, Int32.reduceSub, fj_up_at, Nat.reduceEqDiff, false_and, and_false, and_self, reduceCtorEq, Nat.reduceAdd]
    exact hF M1 0 fr rfl hj1 (by decide)
