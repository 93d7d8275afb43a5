/-! ===== a plan: refused by both alike, or gone through by both ===== -/
theorem stq_cg {A : fj_Yd} {f f' : Nat → Int32} : ∀ {k i : Nat}, (∀ j, i ≤ j → j < i + k → f j = f' j) → stq A f i k = stq A f' i k
  | 0, _, _ => rfl
  | k + 1, i, h => by
    show (stp_ok A (f i) && stq A f (i + 1) k) = (stp_ok A (f' i) && stq A f' (i + 1) k)
    rw [h i (Nat.le_refl _) (by omega), stq_cg (k := k) (i := i + 1) (fun j h1 h2 => h j (by omega) (by omega))]
theorem stp_gok {A : fj_Yd} (hV : fj_YV A) {v : Int32} (h : stp_ok A v = true) : v = nI v.toNatClampNeg ∧ gok A v.toNatClampNeg := by
  have hn := yn_le hV
  have hq := yq_le hV
  have e : v.toNatClampNeg = v.toInt.toNat := rfl
  have z6 : (6 : Int32) = nI 6 := rfl
  have z0 : (0 : Int32).toInt = 0 := rfl
  have bk : 0 ≤ v.toInt → v.toInt < 100000 → v = nI v.toNatClampNeg := fun b1 b2 => by
    apply Int32.toInt_inj.mp
    rw [q_toInt (by omega), e]
    omega
  unfold stp_ok at h
  rw [Bool.or_eq_true, decide_eq_true_iff, decide_eq_true_iff] at h
  rcases h with ⟨h1, h2⟩ | ⟨h1, h2⟩
  · rw [Int32.le_iff_toInt_le, z0] at h1
    rw [Int32.lt_iff_toInt_lt, q_toInt (by omega)] at h2
    exact ⟨bk h1 (by omega), Or.inl (by omega)⟩
  · rw [Int32.le_iff_toInt_le, z6, q_toInt (by decide)] at h1
    rw [Int32.lt_iff_toInt_lt, q_toInt (by omega)] at h2
    exact ⟨bk (by omega) (by omega), Or.inr (by omega)⟩
def wkF (t : Bool) (M : fj_HM) (v w y x : Int32) (b : Bool) (r f : Int32) : Prop :=
  (∀ Q : fj_Po, (∀ M', (∀ o, o ≠ 0 → o ≠ 16 → M' o = M o) → M' 0 8 = M 0 8 → M' 0 9 = f → Q (some (.int r)) M' (fj_PY t) 53 7835) → fj_H none 68 0 [.ref 0, .int v, .int w, .int y, .int x, .int (bI b), .null] [] M (fj_PY t) 53 7835 Q) ∧
  ∀ M1, (∀ o, 33 ≤ o → M1 o = M o) → ∀ Q : fj_Po, Q (some (.int r)) (fj_up M1 33 0 f) (fj_PY t) 53 7835 → fj_H none 127 0 [.ref 33, .int v, .int w, .int y, .int x, .int (bI b), .null, .null] [] M1 (fj_PY t) 53 7835 Q
def wkG (t : Bool) (M : fj_HM) (A : fj_Yd) (v w y x : Int32) (b : Bool) (k i a : Nat) (g : Nat → Nat) : Prop :=
  b = true ∧ v = nI k ∧ y = nI i ∧ x = nI a ∧ a ≤ 20 ∧ 60 * k + i + a ≤ 240 ∧ 0 < yc A ∧ (∀ j, j < a → gok A (g j)) ∧ (∀ j, j < a → M 51 (60 * k + i + j) = nI (g j)) ∧
  (∀ Q : fj_Po, (∀ M', (∀ o, o ≠ 0 → o ≠ 9 → o ≠ 16 → M' o = M o) → M' 0 8 = M 0 8 → M' 0 9 = 0 → fj_WC M' (wGo A g a 0 w0) → Q (some (.int 0)) M' (fj_PY t) 53 7835) → fj_H none 68 0 [.ref 0, .int v, .int w, .int y, .int x, .int (bI b), .null] [] M (fj_PY t) 53 7835 Q) ∧
  ∀ M1, (∀ o, 33 ≤ o → M1 o = M o) → ∀ Q : fj_Po, Q (some (.int 0)) (fj_up M1 33 0 0) (fj_PY t) 53 7835 → fj_H none 127 0 [.ref 33, .int v, .int w, .int y, .int x, .int (bI b), .null, .null] [] M1 (fj_PY t) 53 7835 Q
theorem up09 {M : fj_HM} {v : Int32} : (∀ o, o ≠ 0 → o ≠ 16 → fj_up M 0 9 v o = M o) ∧ fj_up M 0 9 v 0 8 = M 0 8 ∧ fj_up M 0 9 v 0 9 = v := ⟨fun o b1 b2 => by (funext j; simp only [fj_up_at]; repeat (rw [if_neg (by omega)])), by (simp only [fj_up_at]; repeat (first | rw [if_neg (by omega)] | rw [if_pos (by omega)])), rfl⟩
theorem walk_cs {t : Bool} {M : fj_HM} {A : fj_Yd} {R : fj_Rd} (h : fj_In t M A R) (v w y x : Int32) (b : Bool) : (∃ r f, r < 0 ∧ wkF t M v w y x b r f) ∨ ∃ k i a g, wkG t M A v w y x b k i a g := by
  obtain ⟨hV, hC, hM, -, -, -, hS, -⟩ := id h
  have hy := yo_or t
  have n1 : (-1 : Int32) < 0 := by decide
  have n2 : (-2 : Int32) < 0 := by decide
  have n3 : (-3 : Int32) < 0 := by decide
  rcases q_place (n := 4) (by omega) v with e | ⟨e, e'⟩ | ⟨k, hk, rfl, e, e'⟩
  · refine Or.inl ⟨-1, 0, n1, fun Q hQ => ?_, fun M1 m1 Q hQ => ?_⟩
    · simp only [fs68_0, fs68_1, fs68_2, fs68_5, fs68_6, fs68_9, fs68_12, fs68_13, m19, fj_PV t, fj_OB, fj_AR, fj_CI, q_zo0, q_zo1, Option.toList_some, Option.toList_none, List.cons_append, List.nil_append, true_and, and_true, true_or, if_true, if_false, q_l10, q_l01, eq_self, Int32.reduceLT, Int32.reduceLE, Int32.reduceAdd, Int32.reduceSub, fj_up_at, Nat.reduceEqDiff, false_and, and_false, and_self, reduceCtorEq, Nat.reduceAdd, e]
      exact hQ _ up09.1 up09.2.1 up09.2.2
    · simp only [fs127_0, fs127_1, fs127_4, fs127_7, fs127_8, fs127_9, fs127_12, m148, m102, fj_PV t, fj_OB, fj_AR, fj_CI, q_zo0, q_zo1, Option.toList_some, Option.toList_none, List.cons_append, List.nil_append, true_and, and_true, true_or, if_true, if_false, q_l10, q_l01, eq_self, Int32.reduceLT, Int32.reduceLE, Int32.reduceAdd, Int32.reduceSub, fj_up_at, Nat.reduceEqDiff, false_and, and_false, and_self, reduceCtorEq, Nat.reduceAdd, e]
      exact hQ
  · refine Or.inl ⟨-1, 0, n1, fun Q hQ => ?_, fun M1 m1 Q hQ => ?_⟩
    · simp only [fs68_0, fs68_1, fs68_2, fs68_5, fs68_6, fs68_9, fs68_12, fs68_13, m19, fj_PV t, fj_OB, fj_AR, fj_CI, q_zo0, q_zo1, Option.toList_some, Option.toList_none, List.cons_append, List.nil_append, true_and, and_true, true_or, if_true, if_false, q_l10, q_l01, eq_self, Int32.reduceLT, Int32.reduceLE, Int32.reduceAdd, Int32.reduceSub, fj_up_at, Nat.reduceEqDiff, false_and, and_false, and_self, reduceCtorEq, Nat.reduceAdd, e, show ((4 : Int32) ≤ v) = True from e']
      exact hQ _ up09.1 up09.2.1 up09.2.2
    · simp only [fs127_0, fs127_1, fs127_4, fs127_7, fs127_8, fs127_9, fs127_12, m148, m102, fj_PV t, fj_OB, fj_AR, fj_CI, q_zo0, q_zo1, Option.toList_some, Option.toList_none, List.cons_append, List.nil_append, true_and, and_true, true_or, if_true, if_false, q_l10, q_l01, eq_self, Int32.reduceLT, Int32.reduceLE, Int32.reduceAdd, Int32.reduceSub, fj_up_at, Nat.reduceEqDiff, false_and, and_false, and_self, reduceCtorEq, Nat.reduceAdd, e, e']
      exact hQ
  · have e'' : ((4 : Int32) ≤ nI k) = False := e'
    rcases q_span 0 2 (by decide) (by decide) w with f | ⟨f, f', f''⟩ | ⟨l2, l1, l2', rfl, f, f', f''⟩
    · rw [show nI 0 = 0 from rfl] at f
      refine Or.inl ⟨-2, 0, n2, fun Q hQ => ?_, fun M1 m1 Q hQ => ?_⟩
      · simp only [fs68_0, fs68_1, fs68_2, fs68_5, fs68_6, fs68_9, fs68_14, fs68_15, fs68_18, fs68_38, fs68_40, m19, m20, fj_PV t, fj_OB, fj_AR, fj_CI, q_zo0, q_zo1, Option.toList_some, Option.toList_none, List.cons_append, List.nil_append, true_and, and_true, true_or, if_true, if_false, q_l10, q_l01, eq_self, Int32.reduceLT, Int32.reduceLE, Int32.reduceAdd, Int32.reduceSub, fj_up_at, Nat.reduceEqDiff, false_and, and_false, and_self, reduceCtorEq, Nat.reduceAdd, e, e'', f]
        exact hQ _ up09.1 up09.2.1 up09.2.2
      · simp only [fs127_0, fs127_1, fs127_4, fs127_13, fs127_14, fs127_15, fs127_16, fs127_19, fs127_22, fs127_43, fs127_44, fs127_46, fs127_49, m97c q_l0 k_l2, m148, m102, fj_PV t, fj_OB, fj_AR, fj_CI, q_zo0, q_zo1, Option.toList_some, Option.toList_none, List.cons_append, List.nil_append, true_and, and_true, true_or, if_true, if_false, q_l10, q_l01, eq_self, Int32.reduceLT, Int32.reduceLE, Int32.reduceAdd, Int32.reduceSub, fj_up_at, Nat.reduceEqDiff, false_and, and_false, and_self, reduceCtorEq, Nat.reduceAdd, e, e', f]
        exact hQ
    · rw [show nI 0 = 0 from rfl] at f
      rw [show nI 2 = 2 from rfl] at f' f''
      refine Or.inl ⟨-2, 0, n2, fun Q hQ => ?_, fun M1 m1 Q hQ => ?_⟩
      · simp only [fs68_0, fs68_1, fs68_2, fs68_5, fs68_6, fs68_9, fs68_14, fs68_15, fs68_18, fs68_38, fs68_40, m19, m20, fj_PV t, fj_OB, fj_AR, fj_CI, q_zo0, q_zo1, Option.toList_some, Option.toList_none, List.cons_append, List.nil_append, true_and, and_true, true_or, if_true, if_false, q_l10, q_l01, eq_self, Int32.reduceLT, Int32.reduceLE, Int32.reduceAdd, Int32.reduceSub, fj_up_at, Nat.reduceEqDiff, false_and, and_false, and_self, reduceCtorEq, Nat.reduceAdd, e, e'', f, f', f'']
        exact hQ _ up09.1 up09.2.1 up09.2.2
      · simp only [fs127_0, fs127_1, fs127_4, fs127_13, fs127_14, fs127_15, fs127_16, fs127_19, fs127_22, fs127_43, fs127_44, fs127_46, fs127_49, m97c q_l0 k_l2, m148, m102, fj_PV t, fj_OB, fj_AR, fj_CI, q_zo0, q_zo1, Option.toList_some, Option.toList_none, List.cons_append, List.nil_append, true_and, and_true, true_or, if_true, if_false, q_l10, q_l01, eq_self, Int32.reduceLT, Int32.reduceLE, Int32.reduceAdd, Int32.reduceSub, fj_up_at, Nat.reduceEqDiff, false_and, and_false, and_self, reduceCtorEq, Nat.reduceAdd, e, e', f, f', f'']
        exact hQ
    · rw [show nI 0 = 0 from rfl] at f
      rw [show nI 2 = 2 from rfl] at f' f''
      rcases q_span 0 20 (by decide) (by decide) x with g | ⟨g, g', g''⟩ | ⟨a, a1, a2, rfl, g, g', g''⟩
      · rw [show nI 0 = 0 from rfl] at g
        refine Or.inl ⟨-2, 0, n2, fun Q hQ => ?_, fun M1 m1 Q hQ => ?_⟩
        · simp only [fs68_0, fs68_1, fs68_2, fs68_5, fs68_6, fs68_9, fs68_14, fs68_15, fs68_18, fs68_21, fs68_23, fs68_38, fs68_40, m19, m20, fj_PV t, fj_OB, fj_AR, fj_CI, q_zo0, q_zo1, Option.toList_some, Option.toList_none, List.cons_append, List.nil_append, true_and, and_true, true_or, if_true, if_false, q_l10, q_l01, eq_self, Int32.reduceLT, Int32.reduceLE, Int32.reduceAdd, Int32.reduceSub, fj_up_at, Nat.reduceEqDiff, false_and, and_false, and_self, reduceCtorEq, Nat.reduceAdd, e, e'', f, f', f'', g]
          exact hQ _ up09.1 up09.2.1 up09.2.2
        · simp only [fs127_0, fs127_1, fs127_4, fs127_13, fs127_14, fs127_15, fs127_16, fs127_19, fs127_22, fs127_25, fs127_27, fs127_28, fs127_29, fs127_32, fs127_35, fs127_43, fs127_44, fs127_46, fs127_49, m97c q_l0 k_l2, m97c q_l0 k_l20, m148, m102, fj_PV t, fj_OB, fj_AR, fj_CI, q_zo0, q_zo1, Option.toList_some, Option.toList_none, List.cons_append, List.nil_append, true_and, and_true, true_or, if_true, if_false, q_l10, q_l01, eq_self, Int32.reduceLT, Int32.reduceLE, Int32.reduceAdd, Int32.reduceSub, fj_up_at, Nat.reduceEqDiff, false_and, and_false, and_self, reduceCtorEq, Nat.reduceAdd, e, e', f, f', f'', g]
          exact hQ
      · rw [show nI 0 = 0 from rfl] at g
        rw [show nI 20 = 20 from rfl] at g' g''
        refine Or.inl ⟨-2, 0, n2, fun Q hQ => ?_, fun M1 m1 Q hQ => ?_⟩
        · simp only [fs68_0, fs68_1, fs68_2, fs68_5, fs68_6, fs68_9, fs68_14, fs68_15, fs68_18, fs68_21, fs68_23, fs68_26, fs68_28, fs68_30, fs68_38, fs68_40, m19, m20, fj_PV t, fj_OB, fj_AR, fj_CI, q_zo0, q_zo1, Option.toList_some, Option.toList_none, List.cons_append, List.nil_append, true_and, and_true, true_or, if_true, if_false, q_l10, q_l01, eq_self, Int32.reduceLT, Int32.reduceLE, Int32.reduceAdd, Int32.reduceSub, fj_up_at, Nat.reduceEqDiff, false_and, and_false, and_self, reduceCtorEq, Nat.reduceAdd, e, e'', f, f', f'', g, g', g'']
          exact hQ _ up09.1 up09.2.1 up09.2.2
        · simp only [fs127_0, fs127_1, fs127_4, fs127_13, fs127_14, fs127_15, fs127_16, fs127_19, fs127_22, fs127_25, fs127_27, fs127_28, fs127_29, fs127_32, fs127_35, fs127_43, fs127_44, fs127_46, fs127_49, m97c q_l0 k_l2, m97c q_l0 k_l20, m148, m102, fj_PV t, fj_OB, fj_AR, fj_CI, q_zo0, q_zo1, Option.toList_some, Option.toList_none, List.cons_append, List.nil_append, true_and, and_true, true_or, if_true, if_false, q_l10, q_l01, eq_self, Int32.reduceLT, Int32.reduceLE, Int32.reduceAdd, Int32.reduceSub, fj_up_at, Nat.reduceEqDiff, false_and, and_false, and_self, reduceCtorEq, Nat.reduceAdd, e, e', f, f', f'', g, g', g'']
          exact hQ
      · rw [show nI 0 = 0 from rfl] at g
        rw [show nI 20 = 20 from rfl] at g' g''
        cases b with
        | false =>
          have b0 : (bI false = 0) = True := eq_true rfl
          refine Or.inl ⟨-2, 0, n2, fun Q hQ => ?_, fun M1 m1 Q hQ => ?_⟩
          · simp only [fs68_0, fs68_1, fs68_2, fs68_5, fs68_6, fs68_9, fs68_14, fs68_15, fs68_18, fs68_21, fs68_23, fs68_26, fs68_28, fs68_30, fs68_33, fs68_35, fs68_38, fs68_40, m19, m20, fj_PV t, fj_OB, fj_AR, fj_CI, q_zo0, q_zo1, Option.toList_some, Option.toList_none, List.cons_append, List.nil_append, true_and, and_true, true_or, if_true, if_false, q_l10, q_l01, eq_self, Int32.reduceLT, Int32.reduceLE, Int32.reduceAdd, Int32.reduceSub, fj_up_at, Nat.reduceEqDiff, false_and, and_false, and_self, reduceCtorEq, Nat.reduceAdd, e, e'', f, f', f'', g, g', g'', b0]
            exact hQ _ up09.1 up09.2.1 up09.2.2
          · simp only [fs127_0, fs127_1, fs127_4, fs127_13, fs127_14, fs127_15, fs127_16, fs127_19, fs127_22, fs127_25, fs127_27, fs127_28, fs127_29, fs127_32, fs127_35, fs127_38, fs127_40, fs127_43, fs127_44, fs127_46, fs127_49, m97c q_l0 k_l2, m97c q_l0 k_l20, m148, m102, fj_PV t, fj_OB, fj_AR, fj_CI, q_zo0, q_zo1, Option.toList_some, Option.toList_none, List.cons_append, List.nil_append, true_and, and_true, true_or, if_true, if_false, q_l10, q_l01, eq_self, Int32.reduceLT, Int32.reduceLE, Int32.reduceAdd, Int32.reduceSub, fj_up_at, Nat.reduceEqDiff, false_and, and_false, and_self, reduceCtorEq, Nat.reduceAdd, e, e', f, f', f'', g, g', g'', b0]
            exact hQ
        | true =>
          have b0 : (bI true = 0) = False := eq_false (by decide)
          have nx : ¬ nI a < 0 := by rw [g]; exact not_false
          rcases yd_st hV with ⟨s1, s2, s3, s4, s5, s6⟩ | ⟨c0, c1, c2, c3⟩
          · refine Or.inl ⟨-3, 0, n3, fun Q hQ => ?_, fun M1 m1 Q hQ => ?_⟩
            · have nz' : ¬ (yo t = 0) := by omega
              simp only [fs68_0, fs68_1, fs68_2, fs68_5, fs68_6, fs68_9, fs68_14, fs68_15, fs68_18, fs68_21, fs68_23, fs68_26, fs68_28, fs68_30, fs68_33, fs68_35, fs68_41, fs68_42, fs68_45, fs68_48, fs68_51, fs68_53, m19, m20, m40 (yo_or t), nz', hC.1, fj_PV t, fj_YO (yo_or t) t, fj_OB, fj_AR, fj_CI, q_zo0, q_zo1, Option.toList_some, Option.toList_none, List.cons_append, List.nil_append, true_and, and_true, true_or, if_true, if_false, q_l10, q_l01, eq_self, Int32.reduceLT, Int32.reduceLE, Int32.reduceAdd, Int32.reduceSub, fj_up_at, Nat.reduceEqDiff, false_and, and_false, and_self, reduceCtorEq, Nat.reduceAdd, e, e'', f, f', f'', g, g', g'', b0, s3]
              exact hQ _ up09.1 up09.2.1 up09.2.2
            · have m33 : M1 33 1 = nI (yh A) := by rw [m1 33 (by decide)]; exact hM.1
              simp only [fs127_0, fs127_1, fs127_4, fs127_13, fs127_14, fs127_15, fs127_16, fs127_19, fs127_22, fs127_25, fs127_27, fs127_28, fs127_29, fs127_32, fs127_35, fs127_38, fs127_40, fs127_50, fs127_51, fs127_54, fs127_57, fs127_58, fs127_60, fs127_63, m97c q_l0 k_l2, m97c q_l0 k_l20, m148, m102, fj_PV t, fj_OB, fj_AR, fj_CI, q_zo0, q_zo1, Option.toList_some, Option.toList_none, List.cons_append, List.nil_append, true_and, and_true, true_or, if_true, if_false, q_l10, q_l01, eq_self, Int32.reduceLT, Int32.reduceLE, Int32.reduceAdd, Int32.reduceSub, fj_up_at, Nat.reduceEqDiff, false_and, and_false, and_self, reduceCtorEq, Nat.reduceAdd, e, e', f, f', f'', g, g', g'', b0, m33, s4]
              exact hQ
          · have nz : ¬ (yo t = 0) := by omega
            have w0 : ((0 : Int32) ≤ 0) = True := eq_true (by decide)
            rcases hS k hk with ⟨s1, s2, s3⟩ | ⟨s, l, hs, hl, s1, s2, s3, s4, s5⟩
            · refine Or.inl ⟨-11, 1, by decide, fun Q hQ => ?_, fun M1 m1 Q hQ => ?_⟩
              · simp only [fs68_0, fs68_1, fs68_2, fs68_5, fs68_6, fs68_9, fs68_14, fs68_15, fs68_18, fs68_21, fs68_23, fs68_26, fs68_28, fs68_30, fs68_33, fs68_35, fs68_41, fs68_42, fs68_45, fs68_48, fs68_54, fs68_55, fs68_58, fs68_59, fs68_60, fs68_63, fs68_65, fs68_67, fs68_70, fs68_71, fs68_73, fs68_76, m19, m20, m23 hk, m40 (yo_or t), m95, nz, hC.1, fj_PV t, fj_YO (yo_or t) t, fj_OB, fj_AR, fj_CI, q_zo0, q_zo1, Option.toList_some, Option.toList_none, List.cons_append, List.nil_append, true_and, and_true, true_or, if_true, if_false, q_l10, q_l01, eq_self, Int32.reduceLT, Int32.reduceLE, Int32.reduceAdd, Int32.reduceSub, fj_up_at, Nat.reduceEqDiff, false_and, and_false, and_self, reduceCtorEq, Nat.reduceAdd, e, e'', f, f', f'', g, g', g'', b0, c2, s2, fj_up_up]
                exact hQ _ up09.1 up09.2.1 up09.2.2
              · have m33 : M1 33 1 = nI (yh A) := by rw [m1 33 (by decide)]; exact hM.1
                have z1 : M1 49 k = -1 := by rw [m1 49 (by decide)]; exact s1
                simp only [fs127_0, fs127_1, fs127_4, fs127_13, fs127_14, fs127_15, fs127_16, fs127_19, fs127_22, fs127_25, fs127_27, fs127_28, fs127_29, fs127_32, fs127_35, fs127_38, fs127_40, fs127_50, fs127_51, fs127_54, fs127_64, fs127_65, fs127_66, fs127_67, fs127_68, fs127_70, fs127_71, fs127_74, fs127_76, fs127_78, fs127_81, fs127_83, m97c q_l0 k_l2, m97c q_l0 k_l20, m148, m113b hk z1, fj_PV t, fj_OB, fj_AR, fj_CI, q_zo0, q_zo1, Option.toList_some, Option.toList_none, List.cons_append, List.nil_append, true_and, and_true, true_or, if_true, if_false, q_l10, q_l01, eq_self, Int32.reduceLT, Int32.reduceLE, Int32.reduceAdd, Int32.reduceSub, fj_up_at, Nat.reduceEqDiff, false_and, and_false, and_self, reduceCtorEq, Nat.reduceAdd, e, e', f, f', f'', g, g', g'', b0, m33, c3, show ((0 : Int32) ≤ -11) = False from eq_false (by decide)]
                exact hQ
            · have ll : (nI l = nI l2) = (l = l2) := q_eq (by omega) (by omega)
              by_cases hl2 : l = l2
              · by_cases hg : sgN s y (nI a)
                · obtain ⟨i, a', rfl, ea, hia⟩ := hg
                  rw [q_eq (by omega) (by omega)] at ea
                  subst ea
                  have z4 : fj_up M 0 9 0 4 k = nI s := s2
                  -- the class: as far as the steps
                  have cls : ∀ Q : fj_Po, (∀ M1, (∀ o, o ≠ 0 → o ≠ 16 → M1 o = M o) → M1 0 8 = M 0 8 → M1 0 9 = 0 → (∀ j, j < a → M1 16 j = M 51 (60 * k + i + j)) → fj_H none 68 112 [.ref 0, .int (nI k), .int (nI l2), .int (nI i), .int (nI a), .int (bI true), .int 0] [] M1 (fj_PY t) 53 7835 Q) → fj_H none 68 0 [.ref 0, .int (nI k), .int (nI l2), .int (nI i), .int (nI a), .int (bI true), .null] [] M (fj_PY t) 53 7835 Q := by
                    intro Q hQ
                    simp only [fs68_0, fs68_1, fs68_2, fs68_5, fs68_6, fs68_9, fs68_14, fs68_15, fs68_18, fs68_21, fs68_23, fs68_26, fs68_28, fs68_30, fs68_33, fs68_35, fs68_41, fs68_42, fs68_45, fs68_48, fs68_54, fs68_55, fs68_58, fs68_59, fs68_60, fs68_63, fs68_65, fs68_67, fs68_77, fs68_78, fs68_81, fs68_82, fs68_83, fs68_85, fs68_88, fs68_97, fs68_98, fs68_101, fs68_102, fs68_103, fs68_105, fs68_106, fs68_109, m19, m20, m23 hk, m25y hk (show s < 1000 by omega) z4 hia, m40 (yo_or t), nz, hC.1, fj_PV t, fj_YO (yo_or t) t, fj_OB, fj_AR, fj_CI, q_zo0, q_zo1, Option.toList_some, Option.toList_none, List.cons_append, List.nil_append, true_and, and_true, true_or, if_true, if_false, q_l10, q_l01, eq_self, Int32.reduceLT, Int32.reduceLE, Int32.reduceAdd, Int32.reduceSub, fj_up_at, Nat.reduceEqDiff, false_and, and_false, and_self, reduceCtorEq, Nat.reduceAdd, e, e'', f, f', f'', g, g', g'', b0, c2, s3, q_lane hl, q_lane l2', ll, hl2]
                    refine m32 hk (show i + a ≤ 60 by omega) (fun M1 p1 p2 => ?_)
                    refine ⟨Or.inl rfl, ?_⟩
                    refine hQ M1 (fun o b1 b2 => by rw [p1 o b2]; (funext j; simp only [fj_up_at]; repeat (rw [if_neg (by omega)]))) (by rw [p1 0 (by decide)]; (simp only [fj_up_at]; repeat (first | rw [if_neg (by omega)] | rw [if_pos (by omega)]))) (by rw [p1 0 (by decide)]; (simp only [fj_up_at, true_and, and_self, if_true, eq_self, Nat.reduceEqDiff, false_and, if_false])) (fun j hj => ?_)
                    rw [p2 j hj, fj_up_at, if_neg (by omega), s5 _ (by omega), Nat.add_assoc]
                  have mdl : ∀ M1, (∀ o, 33 ≤ o → M1 o = M o) → ∀ Q : fj_Po, Q (some (.int (if stq A (fun j => M 51 (60 * k + i + j)) 0 a = true then 0 else -1))) (fj_up M1 33 0 0) (fj_PY t) 53 7835 → fj_H none 127 0 [.ref 33, .int (nI k), .int (nI l2), .int (nI i), .int (nI a), .int (bI true), .null, .null] [] M1 (fj_PY t) 53 7835 Q := by
                    intro M1 m1 Q hQ
                    have hM1 : fj_YM M1 A := fj_YM_cg (fun o b1 b2 => m1 o (by omega)) (fun k' b1 b2 => by rw [m1 33 (by decide)]) hM
                    have z1 : M1 49 k = nI s := by rw [m1 49 (by decide)]; exact s1
                    have z2 : (M1 50 k = nI l2) = True := by rw [m1 50 (by decide), s4, hl2]; exact eq_true rfl
                    simp only [fs127_0, fs127_1, fs127_4, fs127_13, fs127_14, fs127_15, fs127_16, fs127_19, fs127_22, fs127_25, fs127_27, fs127_28, fs127_29, fs127_32, fs127_35, fs127_38, fs127_40, fs127_50, fs127_51, fs127_54, fs127_64, fs127_65, fs127_66, fs127_67, fs127_68, fs127_70, fs127_71, fs127_74, fs127_76, fs127_78, fs127_84, fs127_85, m97c q_l0 k_l2, m97c q_l0 k_l20, m148, m113y hk (show s < 1000 by omega) z1 z2 hia, fj_PV t, fj_OB, fj_AR, fj_CI, q_zo0, q_zo1, Option.toList_some, Option.toList_none, List.cons_append, List.nil_append, true_and, and_true, true_or, if_true, if_false, q_l10, q_l01, eq_self, Int32.reduceLT, Int32.reduceLE, Int32.reduceAdd, Int32.reduceSub, fj_up_at, Nat.reduceEqDiff, false_and, and_false, and_self, reduceCtorEq, Nat.reduceAdd, e, e', f, f', f'', g, g', g'', b0, hM1.1, c3, w0]
                    have lp := m127_loop (t := t) hV hM1 (k := k) (i := i) (n := a) (by omega) a2 (a2 := .int (nI l2)) (a5 := .int (bI true)) (a6 := .int 0) (Q := Q) a 0 (Nat.zero_add _)
                    rw [show nI 0 = 0 from rfl] at lp
                    refine lp.mpr ?_
                    rw [m1 51 (by decide)]
                    exact hQ
                  by_cases hst : stq A (fun j => M 51 (60 * k + i + j)) 0 a = true
                  · refine Or.inr ⟨k, i, a, fun j => (M 51 (60 * k + i + j)).toNatClampNeg, rfl, rfl, rfl, rfl, a2, by omega, c0, fun j hj => ?_, fun j hj => ?_, fun Q hQ => ?_, fun M1 m1 Q hQ => ?_⟩
                    · exact (stp_gok hV (stq_iff.mp hst j (Nat.zero_le _) (by omega))).2
                    · exact (stp_gok hV (stq_iff.mp hst j (Nat.zero_le _) (by omega))).1
                    · refine cls Q (fun M1 p1 p2 p3 p4 => ?_)
                      have hC1 : fj_YC (yo t) M1 A := fj_YC_cg (fun i' hi' j => by rw [p1 _ (by omega) (by omega)]) hC
                      have est : stq A (M1 16) 0 a = true := by
                        rw [← hst]
                        exact stq_cg (fun j b1 b2 => p4 j (by omega))
                      simp only [fs68_112, fs68_113, fs68_116, fs68_117, fs68_120, fs68_122, fs68_125, m55 (yo_or t) t hV hC1 a2, est, fj_PV t, fj_YO (yo_or t) t, fj_OB, fj_AR, fj_CI, q_zo0, q_zo1, Option.toList_some, Option.toList_none, List.cons_append, List.nil_append, true_and, and_true, true_or, if_true, if_false, q_l10, q_l01, eq_self, Int32.reduceLT, Int32.reduceLE, Int32.reduceAdd, Int32.reduceSub, fj_up_at, Nat.reduceEqDiff, false_and, and_false, and_self, reduceCtorEq, Nat.reduceAdd]
                      simp only [fs68_130, fs68_131, fs68_134, fs68_135, fs68_138, fs68_139, fs68_142, fs68_144, fj_PV t, fj_OB, fj_AR, fj_CI, q_zo0, q_zo1, Option.toList_some, Option.toList_none, List.cons_append, List.nil_append, true_and, and_true, true_or, if_true, if_false, q_l10, q_l01, eq_self, Int32.reduceLT, Int32.reduceLE, Int32.reduceAdd, Int32.reduceSub, fj_up_at, Nat.reduceEqDiff, false_and, and_false, and_self, reduceCtorEq, Nat.reduceAdd]
                      refine m34 (yo_or t) t hV c0 a2 (g := fun j => (M 51 (60 * k + i + j)).toNatClampNeg) (fun j hj => (stp_gok hV (stq_iff.mp hst j (Nat.zero_le _) (by omega))).2) hC1 (fun j hj => by rw [p4 j hj]; exact (stp_gok hV (stq_iff.mp hst j (Nat.zero_le _) (by omega))).1) (fun M2 q1 q2 => ?_)
                      simp only [fs68_147, fs68_148, fj_OB, fj_AR, fj_CI, q_zo0, q_zo1, Option.toList_some, Option.toList_none, List.cons_append, List.nil_append, true_and, and_true, true_or, if_true, if_false, q_l10, q_l01, eq_self, Int32.reduceLT, Int32.reduceLE, Int32.reduceAdd, Int32.reduceSub, fj_up_at, Nat.reduceEqDiff, false_and, and_false, and_self, reduceCtorEq, Nat.reduceAdd]
                      exact hQ M2 (fun o b1 b2 b3 => by rw [q1 o b2, p1 o b1 b3]) (by rw [q1 0 (by decide)]; exact p2) (by rw [q1 0 (by decide)]; exact p3) q2
                    · refine mdl M1 m1 Q ?_
                      rw [if_pos hst]
                      exact hQ
                  · refine Or.inl ⟨-1, 0, n1, fun Q hQ => ?_, fun M1 m1 Q hQ => ?_⟩
                    · refine cls Q (fun M1 p1 p2 p3 p4 => ?_)
                      have hC1 : fj_YC (yo t) M1 A := fj_YC_cg (fun i' hi' j => by rw [p1 _ (by omega) (by omega)]) hC
                      have est : (stq A (M1 16) 0 a = true) = False := by
                        rw [stq_cg (f' := fun j => M 51 (60 * k + i + j)) (fun j b1 b2 => p4 j (by omega))]
                        exact eq_false hst
                      simp only [fs68_112, fs68_113, fs68_116, fs68_117, fs68_120, fs68_122, fs68_125, fs68_128, fs68_129, m55 (yo_or t) t hV hC1 a2, est, fj_PV t, fj_YO (yo_or t) t, fj_OB, fj_AR, fj_CI, q_zo0, q_zo1, Option.toList_some, Option.toList_none, List.cons_append, List.nil_append, true_and, and_true, true_or, if_true, if_false, q_l10, q_l01, eq_self, Int32.reduceLT, Int32.reduceLE, Int32.reduceAdd, Int32.reduceSub, fj_up_at, Nat.reduceEqDiff, false_and, and_false, and_self, reduceCtorEq, Nat.reduceAdd]
                      exact hQ M1 p1 p2 p3
                    · refine mdl M1 m1 Q ?_
                      rw [if_neg hst]
                      exact hQ
                · have z4 : fj_up M 0 9 0 4 k = nI s := s2
                  refine Or.inl ⟨-13, 3, by decide, fun Q hQ => ?_, fun M1 m1 Q hQ => ?_⟩
                  · simp only [fs68_0, fs68_1, fs68_2, fs68_5, fs68_6, fs68_9, fs68_14, fs68_15, fs68_18, fs68_21, fs68_23, fs68_26, fs68_28, fs68_30, fs68_33, fs68_35, fs68_41, fs68_42, fs68_45, fs68_48, fs68_54, fs68_55, fs68_58, fs68_59, fs68_60, fs68_63, fs68_65, fs68_67, fs68_77, fs68_78, fs68_81, fs68_82, fs68_83, fs68_85, fs68_88, fs68_91, fs68_92, fs68_93, fs68_96, m19, m20, m23 hk, m25n hk (show s < 1000 by omega) z4 hg, m40 (yo_or t), m95, nz, hC.1, fj_PV t, fj_YO (yo_or t) t, fj_OB, fj_AR, fj_CI, q_zo0, q_zo1, Option.toList_some, Option.toList_none, List.cons_append, List.nil_append, true_and, and_true, true_or, if_true, if_false, q_l10, q_l01, eq_self, Int32.reduceLT, Int32.reduceLE, Int32.reduceAdd, Int32.reduceSub, fj_up_at, Nat.reduceEqDiff, false_and, and_false, and_self, reduceCtorEq, Nat.reduceAdd, e, e'', f, f', f'', g, g', g'', b0, c2, s3, q_lane hl, q_lane l2', ll, hl2, fj_up_up]
                    exact hQ _ up09.1 up09.2.1 up09.2.2
                  · have m33 : M1 33 1 = nI (yh A) := by rw [m1 33 (by decide)]; exact hM.1
                    have z1 : M1 49 k = nI s := by rw [m1 49 (by decide)]; exact s1
                    have z2 : (M1 50 k = nI l2) = True := by rw [m1 50 (by decide), s4, hl2]; exact eq_true rfl
                    simp only [fs127_0, fs127_1, fs127_4, fs127_13, fs127_14, fs127_15, fs127_16, fs127_19, fs127_22, fs127_25, fs127_27, fs127_28, fs127_29, fs127_32, fs127_35, fs127_38, fs127_40, fs127_50, fs127_51, fs127_54, fs127_64, fs127_65, fs127_66, fs127_67, fs127_68, fs127_70, fs127_71, fs127_74, fs127_76, fs127_78, fs127_81, fs127_83, m97c q_l0 k_l2, m97c q_l0 k_l20, m148, m113n hk (show s < 1000 by omega) z1 z2 nx hg, fj_PV t, fj_OB, fj_AR, fj_CI, q_zo0, q_zo1, Option.toList_some, Option.toList_none, List.cons_append, List.nil_append, true_and, and_true, true_or, if_true, if_false, q_l10, q_l01, eq_self, Int32.reduceLT, Int32.reduceLE, Int32.reduceAdd, Int32.reduceSub, fj_up_at, Nat.reduceEqDiff, false_and, and_false, and_self, reduceCtorEq, Nat.reduceAdd, e, e', f, f', f'', g, g', g'', b0, m33, c3, show ((0 : Int32) ≤ -13) = False from eq_false (by decide)]
                    exact hQ
              · refine Or.inl ⟨-12, 2, by decide, fun Q hQ => ?_, fun M1 m1 Q hQ => ?_⟩
                · simp only [fs68_0, fs68_1, fs68_2, fs68_5, fs68_6, fs68_9, fs68_14, fs68_15, fs68_18, fs68_21, fs68_23, fs68_26, fs68_28, fs68_30, fs68_33, fs68_35, fs68_41, fs68_42, fs68_45, fs68_48, fs68_54, fs68_55, fs68_58, fs68_59, fs68_60, fs68_63, fs68_65, fs68_67, fs68_70, fs68_71, fs68_73, fs68_76, m19, m20, m23 hk, m40 (yo_or t), m95, nz, hC.1, fj_PV t, fj_YO (yo_or t) t, fj_OB, fj_AR, fj_CI, q_zo0, q_zo1, Option.toList_some, Option.toList_none, List.cons_append, List.nil_append, true_and, and_true, true_or, if_true, if_false, q_l10, q_l01, eq_self, Int32.reduceLT, Int32.reduceLE, Int32.reduceAdd, Int32.reduceSub, fj_up_at, Nat.reduceEqDiff, false_and, and_false, and_self, reduceCtorEq, Nat.reduceAdd, q_ll, e, e'', f, f', f'', g, g', g'', b0, c2, s3, q_lane hl, q_lane l2', ll, hl2, fj_up_up]
                  exact hQ _ up09.1 up09.2.1 up09.2.2
                · have m33 : M1 33 1 = nI (yh A) := by rw [m1 33 (by decide)]; exact hM.1
                  have z1 : M1 49 k = nI s := by rw [m1 49 (by decide)]; exact s1
                  have z2 : (M1 50 k = nI l2) = False := by rw [m1 50 (by decide), s4, ll]; exact eq_false hl2
                  simp only [fs127_0, fs127_1, fs127_4, fs127_13, fs127_14, fs127_15, fs127_16, fs127_19, fs127_22, fs127_25, fs127_27, fs127_28, fs127_29, fs127_32, fs127_35, fs127_38, fs127_40, fs127_50, fs127_51, fs127_54, fs127_64, fs127_65, fs127_66, fs127_67, fs127_68, fs127_70, fs127_71, fs127_74, fs127_76, fs127_78, fs127_81, fs127_83, m97c q_l0 k_l2, m97c q_l0 k_l20, m148, m113c hk (show s < 1000 by omega) z1 z2, fj_PV t, fj_OB, fj_AR, fj_CI, q_zo0, q_zo1, Option.toList_some, Option.toList_none, List.cons_append, List.nil_append, true_and, and_true, true_or, if_true, if_false, q_l10, q_l01, eq_self, Int32.reduceLT, Int32.reduceLE, Int32.reduceAdd, Int32.reduceSub, fj_up_at, Nat.reduceEqDiff, false_and, and_false, and_self, reduceCtorEq, Nat.reduceAdd, e, e', f, f', f'', g, g', g'', b0, m33, c3, show ((0 : Int32) ≤ -12) = False from eq_false (by decide)]
                  exact hQ
