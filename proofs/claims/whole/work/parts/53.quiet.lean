/-! ===== pairs: an order by which nobody hears ===== -/
theorem popc_sdf : ∀ le : Nat, le < 64 → ∀ m : Nat, m < 6 → le.testBit m = true → popc (sdf le (2 ^ m)) + 1 = popc le := by decide +kernel
theorem popc_0 : ∀ le : Nat, le < 64 → popc le = 0 → le = 0 := by decide +kernel
theorem popc_all : ∀ n : Nat, n ≤ 6 → popc (2 ^ n - 1) = n := by decide +kernel
theorem yHs_and (A : fj_Yd) (c : Nat) {le m : Nat} (hle : le < 64) : yHs A c (sdf le (2 ^ m)) = yH A c &&& sdf (sdf le (2 ^ m)) (ysl A) := by
  rw [yHs_eq A c (sdf_lt (n := 6) hle)]
  apply nat_ext
  intro i
  rw [sdf_bit, Nat.testBit_and, Nat.testBit_and, sdf_bit (sdf le (2 ^ m))]
  cases (yH A c).testBit i <;> cases (sdf le (2 ^ m)).testBit i <;> cases (ysl A).testBit i <;> rfl
theorem yHs_lt (A : fj_Yd) (c st : Nat) : yHs A c st < 2 ^ yn A := msk_lt _ _
theorem qOk_lt {A : fj_Yd} {le m : Nat} (hle : le < 64) (h : qOk A le m = true) : le.testBit m = true ∧ m < 6 := by
  unfold qOk at h
  rw [Bool.and_eq_true] at h
  refine ⟨h.1, ?_⟩
  by_cases hm : m < 6
  · exact hm
  · have := tb_big (a := le) (n := 6) hle (show 6 ≤ m by omega)
    rw [this] at h
    exact absurd h.1 (by decide)
theorem m129_in {t : Bool} {A : fj_Yd} (hV : fj_YV A) {M : fj_HM} (hY : fj_YM M A) {le q : Nat} (hle : le < 64) (hq : q < 6 ∨ le = 0) (h30 : M 33 30 = nI q) {Q : fj_Po} : ∀ (k i : Nat), i + k = yn A → fj_H none 129 20 [.ref 33, .int (nI le), .int 0, .int (nI i)] [] M (fj_PY t) 53 7835 Q = match fsf (qOk A le) i k with
    | none => Q (some (.int (nI le))) M (fj_PY t) 53 7835
    | some m => fj_H none 129 12 [.ref 33, .int (nI (sdf le (2 ^ m))), .int 1, .int (nI (m + 1))] [] (fj_up (fj_up M 44 q (nI m)) 33 30 (nI (q + 1))) (fj_PY t) 53 7835 Q := by
  have hn := yn_le hV
  have h4 := hY.2.2.1
  intro k
  induction k with
  | zero =>
    intro i hk
    rw [fs129_20]
    simp only [fs129_21, fs129_22, fs129_25, fj_PV t, fj_OB, fj_AR, fj_CI, q_zo0, q_zo1, Option.toList_some, Option.toList_none, List.cons_append, List.nil_append, true_and, and_true, true_or, if_true, if_false, q_l10, q_l01, eq_self, Int32.reduceLT, Int32.reduceLE, Int32.reduceAdd, Int32.reduceSub, fj_up_at, Nat.reduceEqDiff, false_and, and_false, and_self, reduceCtorEq, Nat.reduceAdd, h4, q_le (show yn A < 100000 by omega) (show i < 100000 by omega), eq_true (show yn A ≤ i by omega)]
    simp only [fs129_96, fj_OB, fj_AR, fj_CI, q_zo0, q_zo1, Option.toList_some, Option.toList_none, List.cons_append, List.nil_append, true_and, and_true, true_or, if_true, if_false, q_l10, q_l01, eq_self, Int32.reduceLT, Int32.reduceLE, Int32.reduceAdd, Int32.reduceSub, fj_up_at, Nat.reduceEqDiff, false_and, and_false, and_self, reduceCtorEq, Nat.reduceAdd]
    rw [fs129_12]
    simp only [fs129_13, fs129_99, fs129_100, fj_OB, fj_AR, fj_CI, q_zo0, q_zo1, Option.toList_some, Option.toList_none, List.cons_append, List.nil_append, true_and, and_true, true_or, if_true, if_false, q_l10, q_l01, eq_self, Int32.reduceLT, Int32.reduceLE, Int32.reduceAdd, Int32.reduceSub, fj_up_at, Nat.reduceEqDiff, false_and, and_false, and_self, reduceCtorEq, Nat.reduceAdd]
    rfl
  | succ k ih =>
    intro i hk
    have hi : i < yn A := by omega
    obtain ⟨b1, b2, b3⟩ := hY.2.2.2.2.2.2.2.2.1 i hi
    have eF : fsf (qOk A le) i (k + 1) = if qOk A le i = true then some i else fsf (qOk A le) (i + 1) k := rfl
    rw [fs129_20]
    simp only [fs129_21, fs129_22, fs129_25, fs129_28, fs129_29, fs129_32, fs129_33, fs129_34, fj_PV t, fj_OB, fj_AR, fj_CI, q_zo0, q_zo1, Option.toList_some, Option.toList_none, List.cons_append, List.nil_append, true_and, and_true, true_or, if_true, if_false, q_l10, q_l01, eq_self, Int32.reduceLT, Int32.reduceLE, Int32.reduceAdd, Int32.reduceSub, fj_up_at, Nat.reduceEqDiff, false_and, and_false, and_self, reduceCtorEq, Nat.reduceAdd, h4, q_le (show yn A < 100000 by omega) (show i < 100000 by omega), eq_false (show ¬ yn A ≤ i by omega), m99 (show le < 100000 by omega) (show i < 31 by omega)]
    have no : qOk A le i = false → fj_H none 129 90 [.ref 33, .int (nI le), .int 0, .int (nI i)] [] M (fj_PY t) 53 7835 Q = match fsf (qOk A le) i (k + 1) with
        | none => Q (some (.int (nI le))) M (fj_PY t) 53 7835
        | some m => fj_H none 129 12 [.ref 33, .int (nI (sdf le (2 ^ m))), .int 1, .int (nI (m + 1))] [] (fj_up (fj_up M 44 q (nI m)) 33 30 (nI (q + 1))) (fj_PY t) 53 7835 Q := by
      intro h
      rw [eF, h]
      simp only [fs129_90, fs129_93, fj_OB, fj_AR, fj_CI, q_zo0, q_zo1, Option.toList_some, Option.toList_none, List.cons_append, List.nil_append, true_and, and_true, true_or, if_true, if_false, q_l10, q_l01, eq_self, Int32.reduceLT, Int32.reduceLE, Int32.reduceAdd, Int32.reduceSub, fj_up_at, Nat.reduceEqDiff, false_and, and_false, and_self, reduceCtorEq, Nat.reduceAdd, nI_1, Bool.false_eq_true]
      exact ih (i + 1) (by omega)
    cases hb : le.testBit i with
    | false =>
      simp only [bI, Bool.false_eq_true, if_false, fs129_37, fj_OB, fj_AR, fj_CI, q_zo0, q_zo1, Option.toList_some, Option.toList_none, List.cons_append, List.nil_append, true_and, and_true, true_or, if_true, if_false, q_l10, q_l01, eq_self, Int32.reduceLT, Int32.reduceLE, Int32.reduceAdd, Int32.reduceSub, fj_up_at, Nat.reduceEqDiff, false_and, and_false, and_self, reduceCtorEq, Nat.reduceAdd]
      exact no (by unfold qOk; rw [hb]; rfl)
    | true =>
      have hs : sdf le (2 ^ i) < 64 := sdf_lt (n := 6) hle
      have hl : yHs A (ymc A i) (sdf le (2 ^ i)) < 64 := Nat.lt_of_lt_of_le (yHs_lt _ _ _) (p2_le hn)
      have ez : (nI (yHs A (ymc A i) (sdf le (2 ^ i))) = 0) = (yHs A (ymc A i) (sdf le (2 ^ i)) = 0) := by rw [q_0]; exact q_eq (by omega) (by decide)
      simp only [bI, if_true, fs129_37, fs129_40, fs129_41, fs129_42, fs129_45, fs129_46, fs129_47, fs129_48, fs129_49, fs129_50, fs129_51, fs129_52, fs129_53, fs129_54, fs129_57, fj_PV t, fj_OB, fj_AR, fj_CI, q_zo0, q_zo1, Option.toList_some, Option.toList_none, List.cons_append, List.nil_append, true_and, and_true, true_or, if_true, if_false, q_l10, q_l01, eq_self, Int32.reduceLT, Int32.reduceLE, Int32.reduceAdd, Int32.reduceSub, fj_up_at, Nat.reduceEqDiff, false_and, and_false, and_self, reduceCtorEq, Nat.reduceAdd, b3, q_in (show i < 6 by omega), q_clamp (show i < 100000 by omega), q_shl i (by omega), q_sdf, m123 hV hY (ym_mc hV hi) hs, ez]
      by_cases h : yHs A (ymc A i) (sdf le (2 ^ i)) = 0
      · have hq6 : q < 6 := by
          rcases hq with z | z
          · exact z
          · rw [z, Nat.zero_testBit] at hb
            cases hb
        have hok : qOk A le i = true := by
          unfold qOk
          rw [hb, decide_eq_true (by rw [← yHs_and A _ hle]; exact h)]
          rfl
        rw [if_pos h, eF, if_pos hok]
        simp only [fs129_60, fs129_61, fs129_62, fs129_63, fs129_64, fs129_65, fs129_66, fs129_67, fs129_68, fs129_69, fs129_72, fs129_73, fs129_76, fs129_77, fs129_78, fs129_79, fs129_79i, fs129_80, fs129_83, fs129_84, fs129_85, fs129_88, fs129_89, fs129_90, fs129_93, fj_PV t, fj_OB, fj_AR, fj_CI, q_zo0, q_zo1, Option.toList_some, Option.toList_none, List.cons_append, List.nil_append, true_and, and_true, true_or, if_true, if_false, q_l10, q_l01, eq_self, Int32.reduceLT, Int32.reduceLE, Int32.reduceAdd, Int32.reduceSub, fj_up_at, Nat.reduceEqDiff, false_and, and_false, and_self, reduceCtorEq, Nat.reduceAdd, h30, q_in hq6, q_clamp (show q < 100000 by omega), q_shl i (by omega), q_sdf, nI_1]
        rw [fs129_20]
        have h4' : fj_up (fj_up M 44 q (nI i)) 33 30 (nI (q + 1)) 33 4 = nI (yn A) := h4
        by_cases he : yn A ≤ i + 1
        · simp only [fs129_21, fs129_22, fs129_25, fj_PV t, fj_OB, fj_AR, fj_CI, q_zo0, q_zo1, Option.toList_some, Option.toList_none, List.cons_append, List.nil_append, true_and, and_true, true_or, if_true, if_false, q_l10, q_l01, eq_self, Int32.reduceLT, Int32.reduceLE, Int32.reduceAdd, Int32.reduceSub, fj_up_at, Nat.reduceEqDiff, false_and, and_false, and_self, reduceCtorEq, Nat.reduceAdd, h4, q_le (show yn A < 100000 by omega) (show i + 1 < 100000 by omega), eq_true he]
          simp only [fs129_96, fj_OB, fj_AR, fj_CI, q_zo0, q_zo1, Option.toList_some, Option.toList_none, List.cons_append, List.nil_append, true_and, and_true, true_or, if_true, if_false, q_l10, q_l01, eq_self, Int32.reduceLT, Int32.reduceLE, Int32.reduceAdd, Int32.reduceSub, fj_up_at, Nat.reduceEqDiff, false_and, and_false, and_self, reduceCtorEq, Nat.reduceAdd]
        · simp only [fs129_21, fs129_22, fs129_25, fs129_28, fs129_29, fj_PV t, fj_OB, fj_AR, fj_CI, q_zo0, q_zo1, Option.toList_some, Option.toList_none, List.cons_append, List.nil_append, true_and, and_true, true_or, if_true, if_false, q_l10, q_l01, eq_self, Int32.reduceLT, Int32.reduceLE, Int32.reduceAdd, Int32.reduceSub, fj_up_at, Nat.reduceEqDiff, false_and, and_false, and_self, reduceCtorEq, Nat.reduceAdd, h4, q_le (show yn A < 100000 by omega) (show i + 1 < 100000 by omega), eq_false he]
          simp only [fs129_96, fj_OB, fj_AR, fj_CI, q_zo0, q_zo1, Option.toList_some, Option.toList_none, List.cons_append, List.nil_append, true_and, and_true, true_or, if_true, if_false, q_l10, q_l01, eq_self, Int32.reduceLT, Int32.reduceLE, Int32.reduceAdd, Int32.reduceSub, fj_up_at, Nat.reduceEqDiff, false_and, and_false, and_self, reduceCtorEq, Nat.reduceAdd]
      · rw [if_neg h]
        exact no (by
          unfold qOk
          rw [hb, decide_eq_false (by rw [← yHs_and A _ hle]; exact h)]
          rfl)
theorem m129_loop {t : Bool} {A : fj_Yd} (hV : fj_YV A) {Q : fj_Po} : ∀ (k : Nat) (row : List Nat) (le : Nat) (M : fj_HM) (d : Value), popc le ≤ k → le < 64 → row.length + popc le ≤ 6 → fj_YM M A → M 33 30 = nI row.length → (∀ i, i < row.length → M 44 i = nI (row.getD i 0)) → (∀ M', (∀ o, o ≠ 33 → o ≠ 44 → M' o = M o) → (∀ j, j ≠ 30 → M' 33 j = M 33 j) → (∀ i, i < (qGo A k row le).1.length → M' 44 i = nI ((qGo A k row le).1.getD i 0)) → Q (some (.int (nI (qGo A k row le).2))) M' (fj_PY t) 53 7835) → fj_H none 129 12 [.ref 33, .int (nI le), .int 1, d] [] M (fj_PY t) 53 7835 Q := by
  intro k
  induction k with
  | zero =>
    intro row le M d hk hle hr hY h30 hrow hQ
    have h0 : le = 0 := popc_0 le hle (by omega)
    subst h0
    rw [fs129_12]
    simp only [fs129_13, fs129_16, fs129_17, fs129_18, fs129_19, fj_OB, fj_AR, fj_CI, q_zo0, q_zo1, Option.toList_some, Option.toList_none, List.cons_append, List.nil_append, true_and, and_true, true_or, if_true, if_false, q_l10, q_l01, eq_self, Int32.reduceLT, Int32.reduceLE, Int32.reduceAdd, Int32.reduceSub, fj_up_at, Nat.reduceEqDiff, false_and, and_false, and_self, reduceCtorEq, Nat.reduceAdd]
    have e := m129_in (t := t) hV hY (q := row.length) (by decide) (Or.inr rfl) h30 (Q := Q) (yn A) 0 (by omega)
    have ef : ∀ k i, fsf (qOk A 0) i k = none := by
      intro k
      induction k with
      | zero => intro i; rfl
      | succ k ih =>
        intro i
        show (if qOk A 0 i = true then some i else fsf (qOk A 0) (i + 1) k) = none
        rw [if_neg (by unfold qOk; rw [Nat.zero_testBit]; exact Bool.false_ne_true)]
        exact ih _
    rw [ef] at e
    rw [show nI 0 = 0 from rfl] at e
    refine e.mpr ?_
    exact hQ M (fun _ _ _ => rfl) (fun _ _ => rfl) hrow
  | succ k ih =>
    intro row le M d hk hle hr hY h30 hrow hQ
    rw [fs129_12]
    simp only [fs129_13, fs129_16, fs129_17, fs129_18, fs129_19, fj_OB, fj_AR, fj_CI, q_zo0, q_zo1, Option.toList_some, Option.toList_none, List.cons_append, List.nil_append, true_and, and_true, true_or, if_true, if_false, q_l10, q_l01, eq_self, Int32.reduceLT, Int32.reduceLE, Int32.reduceAdd, Int32.reduceSub, fj_up_at, Nat.reduceEqDiff, false_and, and_false, and_self, reduceCtorEq, Nat.reduceAdd]
    have hq : row.length < 6 ∨ le = 0 := by
      by_cases z : popc le = 0
      · exact Or.inr (popc_0 le hle z)
      · exact Or.inl (by omega)
    have e := m129_in (t := t) hV hY hle hq h30 (Q := Q) (yn A) 0 (by omega)
    rw [show nI 0 = 0 from rfl] at e
    refine e.mpr ?_
    have eG : qGo A (k + 1) row le = match fsf (qOk A le) 0 (yn A) with
      | none => (row, le)
      | some m => qGo A k (row ++ [m]) (sdf le (2 ^ m)) := rfl
    cases hf : fsf (qOk A le) 0 (yn A) with
    | none =>
      rw [hf] at eG
      rw [eG] at hQ
      exact hQ M (fun _ _ _ => rfl) (fun _ _ => rfl) hrow
    | some m =>
      rw [hf] at eG
      rw [eG] at hQ
      obtain ⟨f1, f2, f3⟩ := fsf_some hf
      obtain ⟨g1, g2⟩ := qOk_lt hle f3
      have hp := popc_sdf le hle m g2 g1
      have hl : (row ++ [m]).length = row.length + 1 := by simp
      refine ih (row ++ [m]) (sdf le (2 ^ m)) _ _ (by omega) (sdf_lt (n := 6) hle) (by rw [hl]; omega) (fj_YM_cg (fun o _ _ => by (funext j; simp only [fj_up_at]; repeat (rw [if_neg (by omega)]))) (fun k' _ _ => by (simp only [fj_up_at]; repeat (first | rw [if_neg (by omega)] | rw [if_pos (by omega)]))) hY) ?_ (fun i hi => ?_) (fun M' u1 u2 u3 => hQ M' (fun o b1 b2 => by rw [u1 o b1 b2]; (funext j; simp only [fj_up_at]; repeat (rw [if_neg (by omega)]))) (fun j hj => by rw [u2 j hj]; (simp only [fj_up_at]; repeat (first | rw [if_neg (by omega)] | rw [if_pos (by omega)]))) u3)
      · rw [hl]
        (simp only [fj_up_at, true_and, and_self, if_true, eq_self, Nat.reduceEqDiff, false_and, if_false])
      · rw [hl] at hi
        by_cases ei : i = row.length
        · rw [ei]
          simp only [fj_up_at, List.getD_eq_getElem?_getD, List.getElem?_concat_length, Option.getD_some, true_and, and_self, if_true, Nat.reduceEqDiff, false_and, if_false]
        · have hi' : i < row.length := by omega
          have eg : (row ++ [m]).getD i 0 = row.getD i 0 := by
            rw [List.getD_eq_getElem?_getD, List.getD_eq_getElem?_getD, List.getElem?_append_left hi']
          rw [eg, ← hrow i hi']
          (simp only [fj_up_at]; repeat (first | rw [if_neg (by omega)] | rw [if_pos (by omega)]))
theorem qGo_len {A : fj_Yd} : ∀ (k : Nat) (row : List Nat) (le : Nat), le < 64 → (qGo A k row le).1.length + popc (qGo A k row le).2 = row.length + popc le ∧ (qGo A k row le).2 < 64
  | 0, row, le, h => ⟨rfl, h⟩
  | k + 1, row, le, h => by
    have eG : qGo A (k + 1) row le = match fsf (qOk A le) 0 (yn A) with
      | none => (row, le)
      | some m => qGo A k (row ++ [m]) (sdf le (2 ^ m)) := rfl
    rw [eG]
    cases hf : fsf (qOk A le) 0 (yn A) with
    | none => exact ⟨rfl, h⟩
    | some m =>
      obtain ⟨f1, f2, f3⟩ := fsf_some hf
      obtain ⟨g1, g2⟩ := qOk_lt h f3
      have hp := popc_sdf le h m g2 g1
      have hl : (row ++ [m]).length = row.length + 1 := by simp
      obtain ⟨i1, i2⟩ := qGo_len k (row ++ [m]) (sdf le (2 ^ m)) (sdf_lt (n := 6) h)
      refine ⟨?_, i2⟩
      show (qGo A k (row ++ [m]) (sdf le (2 ^ m))).1.length + popc (qGo A k (row ++ [m]) (sdf le (2 ^ m))).2 = _
      rw [i1, hl]
      omega
theorem m129 {t : Bool} {A : fj_Yd} (hV : fj_YV A) {M : fj_HM} (hY : fj_YM M A) {Q : fj_Po} (hQ : ∀ M', (∀ o, o ≠ 33 → o ≠ 44 → M' o = M o) → (∀ j, j ≠ 30 → M' 33 j = M 33 j) → (∀ i, i < (qGo A (yn A) [] (2 ^ yn A - 1)).1.length → M' 44 i = nI ((qGo A (yn A) [] (2 ^ yn A - 1)).1.getD i 0)) → Q (some (.int (nI (qGo A (yn A) [] (2 ^ yn A - 1)).2))) M' (fj_PY t) 53 7835) : fj_H none 129 0 [.ref 33, .null, .null, .null] [] M (fj_PY t) 53 7835 Q := by
  have hn := yn_le hV
  simp only [fs129_0, fs129_1, fs129_4, fs129_5, fs129_6, fs129_7, fs129_10, fs129_11, m107 hn hY.2.2.1, fj_PV t, fj_OB, fj_AR, fj_CI, q_zo0, q_zo1, Option.toList_some, Option.toList_none, List.cons_append, List.nil_append, true_and, and_true, true_or, if_true, if_false, q_l10, q_l01, eq_self, Int32.reduceLT, Int32.reduceLE, Int32.reduceAdd, Int32.reduceSub, fj_up_at, Nat.reduceEqDiff, false_and, and_false, and_self, reduceCtorEq, Nat.reduceAdd]
  refine m129_loop hV (yn A) [] (2 ^ yn A - 1) _ _ (by rw [popc_all _ hn]; exact Nat.le_refl _) (all_lt hn) (by rw [popc_all _ hn]; simpa using hn) (fj_YM_cg (fun o _ _ => by (funext j; simp only [fj_up_at]; repeat (rw [if_neg (by omega)]))) (fun k' _ _ => by (simp only [fj_up_at]; repeat (first | rw [if_neg (by omega)] | rw [if_pos (by omega)]))) hY) ?_ (fun i hi => absurd hi (Nat.not_lt_zero i)) (fun M' u1 u2 u3 => hQ M' (fun o b1 b2 => by rw [u1 o b1 b2]; (funext j; simp only [fj_up_at]; repeat (rw [if_neg (by omega)]))) (fun j hj => by rw [u2 j hj]; (simp only [fj_up_at]; repeat (first | rw [if_neg (by omega)] | rw [if_pos (by omega)]))) u3)
  (simp only [fj_up_at, true_and, and_self, if_true, eq_self, Nat.reduceEqDiff, false_and, if_false])
  rfl
theorem pr_stuck {t : Bool} {M : fj_HM} (h : fj_Iv t M) : fj_pr isI t M 70 [.ref 0] 131 [.ref 33] := by
  obtain ⟨A, R, h⟩ := h
  obtain ⟨hV, hC, hM, -⟩ := id h
  have hy := yo_or t
  unfold fj_pr
  rcases yd_st hV with ⟨s1, s2, s3, s4, s5, s6⟩ | ⟨s1, s2, s3, s4⟩
  · simp only [fs70_0, fs70_1, fs70_4, fs70_7, fs70_10, fs70_12, fs131_0, fs131_1, fs131_4, fs131_7, fs131_9, fs131_16, m40 (yo_or t), fj_PV t, fj_YO (yo_or t) t, fj_OB, fj_AR, fj_CI, q_zo0, q_zo1, Option.toList_some, Option.toList_none, List.cons_append, List.nil_append, true_and, and_true, true_or, if_true, if_false, q_l10, q_l01, eq_self, Int32.reduceLT, Int32.reduceLE, Int32.reduceAdd, Int32.reduceSub, fj_up_at, Nat.reduceEqDiff, false_and, and_false, and_self, reduceCtorEq, Nat.reduceAdd, hC.1, hM.1, s3, s4]
    exact fj_fin_i h _
  · simp only [fs70_0, fs70_1, fs70_4, fs70_7, fs70_13, fs70_14, fs70_17, fs70_18, fs70_21, m40 (yo_or t), fj_PV t, fj_YO (yo_or t) t, fj_OB, fj_AR, fj_CI, q_zo0, q_zo1, Option.toList_some, Option.toList_none, List.cons_append, List.nil_append, true_and, and_true, true_or, if_true, if_false, q_l10, q_l01, eq_self, Int32.reduceLT, Int32.reduceLE, Int32.reduceAdd, Int32.reduceSub, fj_up_at, Nat.reduceEqDiff, false_and, and_false, and_self, reduceCtorEq, Nat.reduceAdd, hC.1, s3]
    refine m1 (yo_or t) t hV hC (fun M1 p1 p2 => ?_)
    simp only [fs70_24, fs70_25, fs70_28, fs70_31, fj_PV t, fj_OB, fj_AR, fj_CI, q_zo0, q_zo1, Option.toList_some, Option.toList_none, List.cons_append, List.nil_append, true_and, and_true, true_or, if_true, if_false, q_l10, q_l01, eq_self, Int32.reduceLT, Int32.reduceLE, Int32.reduceAdd, Int32.reduceSub, fj_up_at, Nat.reduceEqDiff, false_and, and_false, and_self, reduceCtorEq, Nat.reduceAdd, p2.2.1]
    have hM1 : fj_YM M1 A := fj_YM_cg (fun o b1 b2 => p1 o (by omega) (by omega)) (fun k b1 b2 => by rw [p1 33 (by decide) (by decide)]) hM
    simp only [fs131_0, fs131_1, fs131_4, fs131_12, fs131_13, fj_PV t, fj_OB, fj_AR, fj_CI, q_zo0, q_zo1, Option.toList_some, Option.toList_none, List.cons_append, List.nil_append, true_and, and_true, true_or, if_true, if_false, q_l10, q_l01, eq_self, Int32.reduceLT, Int32.reduceLE, Int32.reduceAdd, Int32.reduceSub, fj_up_at, Nat.reduceEqDiff, false_and, and_false, and_self, reduceCtorEq, Nat.reduceAdd, hM1.1, s4]
    refine m129 hV hM1 (fun M2 q1 q2 q3 => ?_)
    simp only [fs131_16, fj_OB, fj_AR, fj_CI, q_zo0, q_zo1, Option.toList_some, Option.toList_none, List.cons_append, List.nil_append, true_and, and_true, true_or, if_true, if_false, q_l10, q_l01, eq_self, Int32.reduceLT, Int32.reduceLE, Int32.reduceAdd, Int32.reduceSub, fj_up_at, Nat.reduceEqDiff, false_and, and_false, and_self, reduceCtorEq, Nat.reduceAdd]
    refine fj_fin_i (fj_In_fr h (fun o ho => ?_) ?_ ?_ (fun k hk => ?_)) _
    · rw [q1 o (by omega) (by omega), p1 o (by omega) (by omega)]
    · rw [q1 0 (by decide) (by decide), q2 40 (by decide), p1 0 (by decide) (by decide), p1 33 (by decide) (by decide)]
      exact h.2.2.2.2.2.2.2.2.1
    · rw [q1 0 (by decide) (by decide), q2 0 (by decide), p1 0 (by decide) (by decide), p1 33 (by decide) (by decide)]
      exact h.2.2.2.2.2.2.2.2.2
    · rw [q2 k (by omega), p1 33 (by decide) (by decide)]
theorem pr_quiet {t : Bool} {M : fj_HM} (h : fj_Iv t M) (v : Int32) : fj_pr isI t M 69 [.ref 0, .int v] 130 [.ref 33, .int v] := by
  obtain ⟨A, R, h⟩ := h
  obtain ⟨hV, hC, hM, -⟩ := id h
  have hy := yo_or t
  have hn := yn_le hV
  unfold fj_pr
  by_cases e : v < 0
  · have e' : ((0 : Int32) ≤ v) = False := eq_false (Int32.not_le.mpr e)
    simp only [fs69_0, fs69_1, fs69_4, fs69_5, fs130_0, fs130_1, fs130_4, fs130_5, fj_OB, fj_AR, fj_CI, q_zo0, q_zo1, Option.toList_some, Option.toList_none, List.cons_append, List.nil_append, true_and, and_true, true_or, if_true, if_false, q_l10, q_l01, eq_self, Int32.reduceLT, Int32.reduceLE, Int32.reduceAdd, Int32.reduceSub, fj_up_at, Nat.reduceEqDiff, false_and, and_false, and_self, reduceCtorEq, Nat.reduceAdd, e']
    exact fj_fin_i h _
  · have e' : ((0 : Int32) ≤ v) = True := eq_true (Int32.not_lt.mp e)
    rcases yd_st hV with ⟨s1, s2, s3, s4, s5, s6⟩ | ⟨s1, s2, s3, s4⟩
    · simp only [fs69_0, fs69_1, fs69_6, fs69_7, fs69_10, fs69_13, fs69_16, fs69_18, fs130_0, fs130_1, fs130_6, fs130_7, fs130_10, fs130_13, fs130_15, m40 (yo_or t), fj_PV t, fj_YO (yo_or t) t, fj_OB, fj_AR, fj_CI, q_zo0, q_zo1, Option.toList_some, Option.toList_none, List.cons_append, List.nil_append, true_and, and_true, true_or, if_true, if_false, q_l10, q_l01, eq_self, Int32.reduceLT, Int32.reduceLE, Int32.reduceAdd, Int32.reduceSub, fj_up_at, Nat.reduceEqDiff, false_and, and_false, and_self, reduceCtorEq, Nat.reduceAdd, hC.1, hM.1, s3, s4, e']
      exact fj_fin_i h _
    · simp only [fs69_0, fs69_1, fs69_6, fs69_7, fs69_10, fs69_13, fs69_19, fs69_20, fs69_23, fs69_24, fs69_27, m40 (yo_or t), fj_PV t, fj_YO (yo_or t) t, fj_OB, fj_AR, fj_CI, q_zo0, q_zo1, Option.toList_some, Option.toList_none, List.cons_append, List.nil_append, true_and, and_true, true_or, if_true, if_false, q_l10, q_l01, eq_self, Int32.reduceLT, Int32.reduceLE, Int32.reduceAdd, Int32.reduceSub, fj_up_at, Nat.reduceEqDiff, false_and, and_false, and_self, reduceCtorEq, Nat.reduceAdd, hC.1, s3, e']
      refine m1 (yo_or t) t hV hC (fun M1 p1 p2 => ?_)
      have hM1 : fj_YM M1 A := fj_YM_cg (fun o b1 b2 => p1 o (by omega) (by omega)) (fun k b1 b2 => by rw [p1 33 (by decide) (by decide)]) hM
      obtain ⟨g1, g2⟩ := qGo_len (A := A) (yn A) [] (2 ^ yn A - 1) (all_lt hn)
      rw [popc_all _ hn] at g1
      have g3 : (qGo A (yn A) [] (2 ^ yn A - 1)).1.length + popc (qGo A (yn A) [] (2 ^ yn A - 1)).2 = yn A := by simpa using g1
      obtain ⟨o1, o2, o3⟩ := p2
      have fin : ∀ M2, (∀ o, o ≠ 33 → o ≠ 44 → M2 o = M1 o) → (∀ j, j ≠ 30 → M2 33 j = M1 33 j) → ∀ w, fj_fin isI (some (.int w)) (some (.int w)) M2 (fj_PY t) 53 7835 := by
        intro M2 q1 q2 w
        refine fj_fin_i (fj_In_fr h (fun o ho => ?_) ?_ ?_ (fun k hk => ?_)) _
        · rw [q1 o (by omega) (by omega), p1 o (by omega) (by omega)]
        · rw [q1 0 (by decide) (by decide), q2 40 (by decide), p1 0 (by decide) (by decide), p1 33 (by decide) (by decide)]
          exact h.2.2.2.2.2.2.2.2.1
        · rw [q1 0 (by decide) (by decide), q2 0 (by decide), p1 0 (by decide) (by decide), p1 33 (by decide) (by decide)]
          exact h.2.2.2.2.2.2.2.2.2
        · rw [q2 k (by omega), p1 33 (by decide) (by decide)]
      have el : (nI (qGo A (yn A) [] (2 ^ yn A - 1)).2 = 0) = ((qGo A (yn A) [] (2 ^ yn A - 1)).2 = 0) := by rw [q_0]; exact q_eq (by omega) (by decide)
      by_cases hl : (qGo A (yn A) [] (2 ^ yn A - 1)).2 = 0
      · have len : (qGo A (yn A) [] (2 ^ yn A - 1)).1.length = yn A := by
          rw [hl] at g3
          have : popc 0 = 0 := rfl
          omega
        by_cases hv : nI (yn A) ≤ v
        · have hv2 : (v < nI (yn A)) = False := eq_false (Int32.not_lt.mpr hv)
          simp only [fs69_30, fs69_31, fs69_34, fs69_37, fs69_40, fs69_41, fs69_42, fs69_45, fs69_48, fs69_51, fs69_53, fj_PV t, fj_OB, fj_AR, fj_CI, q_zo0, q_zo1, Option.toList_some, Option.toList_none, List.cons_append, List.nil_append, true_and, and_true, true_or, if_true, if_false, q_l10, q_l01, eq_self, Int32.reduceLT, Int32.reduceLE, Int32.reduceAdd, Int32.reduceSub, fj_up_at, Nat.reduceEqDiff, false_and, and_false, and_self, reduceCtorEq, Nat.reduceAdd, o1, o2, el, eq_true hl, len, hv2]
          simp only [fs130_0, fs130_1, fs130_6, fs130_7, fs130_10, fs130_16, fs130_17, fj_PV t, fj_OB, fj_AR, fj_CI, q_zo0, q_zo1, Option.toList_some, Option.toList_none, List.cons_append, List.nil_append, true_and, and_true, true_or, if_true, if_false, q_l10, q_l01, eq_self, Int32.reduceLT, Int32.reduceLE, Int32.reduceAdd, Int32.reduceSub, fj_up_at, Nat.reduceEqDiff, false_and, and_false, and_self, reduceCtorEq, Nat.reduceAdd, hM1.1, s4, e']
          refine m129 hV hM1 (fun M2 q1 q2 q3 => ?_)
          have h4 : M2 33 4 = nI (yn A) := by rw [q2 4 (by decide)]; exact hM1.2.2.1
          simp only [fs130_20, fs130_23, fs130_24, fs130_25, fs130_28, fs130_40, fs130_42, fj_PV t, fj_OB, fj_AR, fj_CI, q_zo0, q_zo1, Option.toList_some, Option.toList_none, List.cons_append, List.nil_append, true_and, and_true, true_or, if_true, if_false, q_l10, q_l01, eq_self, Int32.reduceLT, Int32.reduceLE, Int32.reduceAdd, Int32.reduceSub, fj_up_at, Nat.reduceEqDiff, false_and, and_false, and_self, reduceCtorEq, Nat.reduceAdd, el, eq_true hl, h4, eq_true hv]
          exact fin M2 q1 q2 _
        · obtain ⟨i, hi, rfl⟩ := inN_of (n := yn A) (by omega) ⟨e, hv⟩
          have hv2 : (nI i < nI (yn A)) = True := by rw [q_lt (by omega) (by omega)]; exact eq_true hi
          simp only [fs69_30, fs69_31, fs69_34, fs69_37, fs69_40, fs69_41, fs69_42, fs69_45, fs69_48, fs69_54, fs69_55, fs69_58, fs69_61, fs69_62, fs69_63, fj_PV t, fj_OB, fj_AR, fj_CI, q_zo0, q_zo1, Option.toList_some, Option.toList_none, List.cons_append, List.nil_append, true_and, and_true, true_or, if_true, if_false, q_l10, q_l01, eq_self, Int32.reduceLT, Int32.reduceLE, Int32.reduceAdd, Int32.reduceSub, fj_up_at, Nat.reduceEqDiff, false_and, and_false, and_self, reduceCtorEq, Nat.reduceAdd, o1, o2, el, eq_true hl, len, hv2, q_in (show i < 6 by omega), q_clamp (show i < 100000 by omega), o3 i (by omega)]
          simp only [fs130_0, fs130_1, fs130_6, fs130_7, fs130_10, fs130_16, fs130_17, fj_PV t, fj_OB, fj_AR, fj_CI, q_zo0, q_zo1, Option.toList_some, Option.toList_none, List.cons_append, List.nil_append, true_and, and_true, true_or, if_true, if_false, q_l10, q_l01, eq_self, Int32.reduceLT, Int32.reduceLE, Int32.reduceAdd, Int32.reduceSub, fj_up_at, Nat.reduceEqDiff, false_and, and_false, and_self, reduceCtorEq, Nat.reduceAdd, hM1.1, s4, e']
          refine m129 hV hM1 (fun M2 q1 q2 q3 => ?_)
          have h4 : M2 33 4 = nI (yn A) := by rw [q2 4 (by decide)]; exact hM1.2.2.1
          simp only [fs130_20, fs130_23, fs130_24, fs130_25, fs130_28, fs130_31, fs130_32, fs130_35, fs130_36, fs130_37, fs130_42, fj_PV t, fj_OB, fj_AR, fj_CI, q_zo0, q_zo1, Option.toList_some, Option.toList_none, List.cons_append, List.nil_append, true_and, and_true, true_or, if_true, if_false, q_l10, q_l01, eq_self, Int32.reduceLT, Int32.reduceLE, Int32.reduceAdd, Int32.reduceSub, fj_up_at, Nat.reduceEqDiff, false_and, and_false, and_self, reduceCtorEq, Nat.reduceAdd, el, eq_true hl, h4, eq_false hv, q_in (show i < 6 by omega), q_clamp (show i < 100000 by omega), q3 i (by omega)]
          exact fin M2 q1 q2 _
      · simp only [fs69_30, fs69_31, fs69_34, fs69_37, fs69_51, fs69_53, fj_PV t, fj_OB, fj_AR, fj_CI, q_zo0, q_zo1, Option.toList_some, Option.toList_none, List.cons_append, List.nil_append, true_and, and_true, true_or, if_true, if_false, q_l10, q_l01, eq_self, Int32.reduceLT, Int32.reduceLE, Int32.reduceAdd, Int32.reduceSub, fj_up_at, Nat.reduceEqDiff, false_and, and_false, and_self, reduceCtorEq, Nat.reduceAdd, o2, el, eq_false hl]
        simp only [fs130_0, fs130_1, fs130_6, fs130_7, fs130_10, fs130_16, fs130_17, fj_PV t, fj_OB, fj_AR, fj_CI, q_zo0, q_zo1, Option.toList_some, Option.toList_none, List.cons_append, List.nil_append, true_and, and_true, true_or, if_true, if_false, q_l10, q_l01, eq_self, Int32.reduceLT, Int32.reduceLE, Int32.reduceAdd, Int32.reduceSub, fj_up_at, Nat.reduceEqDiff, false_and, and_false, and_self, reduceCtorEq, Nat.reduceAdd, hM1.1, s4, e']
        refine m129 hV hM1 (fun M2 q1 q2 q3 => ?_)
        simp only [fs130_20, fs130_40, fs130_42, fj_OB, fj_AR, fj_CI, q_zo0, q_zo1, Option.toList_some, Option.toList_none, List.cons_append, List.nil_append, true_and, and_true, true_or, if_true, if_false, q_l10, q_l01, eq_self, Int32.reduceLT, Int32.reduceLE, Int32.reduceAdd, Int32.reduceSub, fj_up_at, Nat.reduceEqDiff, false_and, and_false, and_self, reduceCtorEq, Nat.reduceAdd, el, eq_false hl]
        exact fin M2 q1 q2 _
