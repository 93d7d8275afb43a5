/-! ===== quiet orders ===== -/
def qOk (A : fj_Yd) (le m : Nat) : Bool := le.testBit m && decide (yH A (ymc A m) &&& sdf (sdf le (2 ^ m)) (ysl A) = 0)
/-- the first of k from the i-th on -/
def fsf (p : Nat → Bool) : Nat → Nat → Option Nat
  | _, 0 => none
  | i, k + 1 => if p i = true then some i else fsf p (i + 1) k
theorem fsf_some {p : Nat → Bool} : ∀ {k i m : Nat}, fsf p i k = some m → i ≤ m ∧ m < i + k ∧ p m = true
  | 0, _, _, h => by cases h
  | k + 1, i, m, h => by
    unfold fsf at h
    split at h
    · rename_i hp
      cases h
      exact ⟨Nat.le_refl _, by omega, hp⟩
    · have := fsf_some h
      exact ⟨by omega, by omega, this.2.2⟩
def qGo (A : fj_Yd) : Nat → List Nat → Nat → List Nat × Nat
  | 0, row, le => (row, le)
  | k + 1, row, le => match fsf (qOk A le) 0 (yn A) with
    | none => (row, le)
    | some m => qGo A k (row ++ [m]) (sdf le (2 ^ m))
theorem m2_loop {o : Nat} (ho : o = 17 ∨ o = 25) (t : Bool) {A : fj_Yd} (hV : fj_YV A) {M : fj_HM} (hY : fj_YC o M A) {le : Nat} (hle : le < 64) (hM : M 10 2 = nI le) {Q : fj_Po} : ∀ (k i : Nat) (d1 d2 : Value), i + k = yn A → fj_H none 2 2 [.ref 10, .ref o, .int (nI i), d1, d2] [] M (fj_PY t) 53 7835 Q = Q (some (.int (onI (fsf (qOk A le) i k)))) M (fj_PY t) 53 7835 := by
  have h6 := yn_le hV
  have hsl := ysl_lt hV
  obtain ⟨-, y2, -, y4, -, -, -, h8, -⟩ := id hY
  intro k
  induction k with
  | zero =>
    intro i d1 d2 hi
    obtain rfl : i = yn A := by omega
    rw [fs2_2]
    simp only [fs2_3, fs2_4, fs2_7, fj_YO ho t, fj_OB, fj_AR, fj_CI, q_zo0, q_zo1, Option.toList_some, Option.toList_none, List.cons_append, List.nil_append, true_and, and_true, true_or, if_true, if_false, q_l10, q_l01, eq_self, Int32.reduceLT, Int32.reduceLE, Int32.reduceAdd, Int32.reduceSub, fj_up_at, Nat.reduceEqDiff, false_and, and_false, and_self, reduceCtorEq, Nat.reduceAdd, y2, q_le (show yn A < 100000 by omega) (show yn A < 100000 by omega), if_pos (Nat.le_refl (yn A))]
    simp only [fs2_74, fs2_76, fj_OB, fj_AR, fj_CI, q_zo0, q_zo1, Option.toList_some, Option.toList_none, List.cons_append, List.nil_append, true_and, and_true, true_or, if_true, if_false, q_l10, q_l01, eq_self, Int32.reduceLT, Int32.reduceLE, Int32.reduceAdd, Int32.reduceSub, fj_up_at, Nat.reduceEqDiff, false_and, and_false, and_self, reduceCtorEq, Nat.reduceAdd]
    rfl
  | succ k ih =>
    intro i d1 d2 hi
    have hin : i < yn A := by omega
    have h2i : 2 ^ i ≤ 64 := p2_le (by omega)
    have hmc := ym_mc hV hin
    have hH := yH_lt A (ymc A i)
    have h64 := p2_le h6
    have ho1 : sdf (sdf le (2 ^ i)) (ysl A) < 2 ^ 6 := sdf_lt (sdf_lt hle)
    have ha : yH A (ymc A i) &&& sdf (sdf le (2 ^ i)) (ysl A) ≤ yH A (ymc A i) := Nat.and_le_left
    have hz0 : (nI (yH A (ymc A i) &&& sdf (sdf le (2 ^ i)) (ysl A)) = 0) = (yH A (ymc A i) &&& sdf (sdf le (2 ^ i)) (ysl A) = 0) := by rw [q_0, q_eq (by omega) (by omega)]
    rw [fs2_2]
    simp only [fs2_3, fs2_4, fs2_7, fj_YO ho t, fj_OB, fj_AR, fj_CI, q_zo0, q_zo1, Option.toList_some, Option.toList_none, List.cons_append, List.nil_append, true_and, and_true, true_or, if_true, if_false, q_l10, q_l01, eq_self, Int32.reduceLT, Int32.reduceLE, Int32.reduceAdd, Int32.reduceSub, fj_up_at, Nat.reduceEqDiff, false_and, and_false, and_self, reduceCtorEq, Nat.reduceAdd, y2, q_le (show yn A < 100000 by omega) (show i < 100000 by omega), if_neg (show ¬ yn A ≤ i by omega)]
    simp only [fs2_10, fs2_11, fs2_14, fs2_15, fs2_16, fs2_17, fs2_18, fs2_19, fs2_20, fs2_21, fs2_24, fs2_25, fs2_26, fs2_27, fs2_28, fs2_29, fs2_32, fs2_33, fs2_34, fs2_35, fs2_36, fj_YO ho t, fj_OB, fj_AR, fj_CI, q_zo0, q_zo1, Option.toList_some, Option.toList_none, List.cons_append, List.nil_append, true_and, and_true, true_or, if_true, if_false, q_l10, q_l01, eq_self, Int32.reduceLT, Int32.reduceLE, Int32.reduceAdd, Int32.reduceSub, fj_up_at, Nat.reduceEqDiff, false_and, and_false, and_self, reduceCtorEq, Nat.reduceAdd, hM, y4, q_shl i (by omega), q_sdf]
    have nxt : fsf (qOk A le) i (k + 1) = if qOk A le i = true then some i else fsf (qOk A le) (i + 1) k := rfl
    by_cases hb : le.testBit i = false
    · rw [if_pos (by rw [q_bit0 (by omega) (by omega)]; exact hb)]
      simp only [fs2_43, fs2_44, fs2_46, fs2_48, fs2_68, fs2_71, fj_OB, fj_AR, fj_CI, q_zo0, q_zo1, Option.toList_some, Option.toList_none, List.cons_append, List.nil_append, true_and, and_true, true_or, if_true, if_false, q_l10, q_l01, eq_self, Int32.reduceLT, Int32.reduceLE, Int32.reduceAdd, Int32.reduceSub, fj_up_at, Nat.reduceEqDiff, false_and, and_false, and_self, reduceCtorEq, Nat.reduceAdd, nI_1]
      rw [ih (i + 1) _ _ (by omega), nxt, if_neg (by unfold qOk; rw [hb]; simp)]
    · rw [if_neg (by rw [q_bit0 (by omega) (by omega)]; exact hb)]
      simp only [fs2_39, fs2_40, fs2_44, fs2_46, fs2_48, fs2_51, fs2_52, fs2_53, fs2_56, fs2_57, fs2_58, fs2_61, fs2_62, fs2_63, fj_YO ho t, fj_OB, fj_AR, fj_CI, q_zo0, q_zo1, Option.toList_some, Option.toList_none, List.cons_append, List.nil_append, true_and, and_true, true_or, if_true, if_false, q_l10, q_l01, eq_self, Int32.reduceLT, Int32.reduceLE, Int32.reduceAdd, Int32.reduceSub, fj_up_at, Nat.reduceEqDiff, false_and, and_false, and_self, reduceCtorEq, Nat.reduceAdd, q_in (show i < 6 by omega), q_clamp (show i < 100000 by omega), (h8 i hin).2.2, m54 ho t hV hY hmc, q_and]
      have hb' : le.testBit i = true := by cases h : le.testBit i <;> simp_all
      by_cases hz : yH A (ymc A i) &&& sdf (sdf le (2 ^ i)) (ysl A) = 0
      · rw [if_pos (hz0 ▸ hz)]
        simp only [fs2_66, fs2_67, fj_OB, fj_AR, fj_CI, q_zo0, q_zo1, Option.toList_some, Option.toList_none, List.cons_append, List.nil_append, true_and, and_true, true_or, if_true, if_false, q_l10, q_l01, eq_self, Int32.reduceLT, Int32.reduceLE, Int32.reduceAdd, Int32.reduceSub, fj_up_at, Nat.reduceEqDiff, false_and, and_false, and_self, reduceCtorEq, Nat.reduceAdd]
        rw [nxt, if_pos (by unfold qOk; rw [hb', hz]; decide)]
        rfl
      · rw [if_neg (fun h => hz (hz0 ▸ h))]
        simp only [fs2_68, fs2_71, fj_OB, fj_AR, fj_CI, q_zo0, q_zo1, Option.toList_some, Option.toList_none, List.cons_append, List.nil_append, true_and, and_true, true_or, if_true, if_false, q_l10, q_l01, eq_self, Int32.reduceLT, Int32.reduceLE, Int32.reduceAdd, Int32.reduceSub, fj_up_at, Nat.reduceEqDiff, false_and, and_false, and_self, reduceCtorEq, Nat.reduceAdd, nI_1]
        rw [ih (i + 1) _ _ (by omega), nxt, if_neg (by unfold qOk; rw [hb']; simp [hz])]
theorem m2 {o : Nat} (ho : o = 17 ∨ o = 25) (t : Bool) {A : fj_Yd} (hV : fj_YV A) {M : fj_HM} (hY : fj_YC o M A) {le : Nat} (hle : le < 64) (hM : M 10 2 = nI le) {Q : fj_Po} : fj_H none 2 0 [.ref 10, .ref o, .null, .null, .null] [] M (fj_PY t) 53 7835 Q = Q (some (.int (onI (fsf (qOk A le) 0 (yn A))))) M (fj_PY t) 53 7835 := by
  have h := m2_loop ho t hV hY hle hM (Q := Q) (yn A) 0 .null .null (Nat.zero_add _)
  simp only [fs2_0, fs2_1]
  exact h
def fj_OC (M : fj_HM) (r : List Nat × Nat) : Prop := M 10 1 = nI r.1.length ∧ M 10 2 = nI r.2 ∧ ∀ i, i < r.1.length → M 11 i = nI (r.1.getD i 0)
theorem onI_lt {x : Option Nat} (h : ∀ k, x = some k → k < 1000) : (onI x = -9) = (x = none) := onI_none h
theorem m1_loop {o : Nat} (ho : o = 17 ∨ o = 25) (t : Bool) {A : fj_Yd} (hV : fj_YV A) {Q : fj_Po} : ∀ (k : Nat) (row : List Nat) (le : Nat) (M : fj_HM) (d : Value), row.length + k = yn A → le < 64 → fj_YC o M A → fj_OC M (row, le) → (∀ M', (∀ o', o' ≠ 10 → o' ≠ 11 → M' o' = M o') → fj_OC M' (qGo A k row le) → Q none M' (fj_PY t) 53 7835) → fj_H none 1 19 [.ref 10, .ref o, .int (nI row.length), d] [] M (fj_PY t) 53 7835 Q := by
  have h6 := yn_le hV
  intro k
  induction k with
  | zero =>
    intro row le M d hi hle hY hO hQ
    have y2 := hY.2.1
    have e : row.length = yn A := by omega
    rw [fs1_19]
    simp only [fs1_20, fs1_21, fs1_24, fj_YO ho t, fj_OB, fj_AR, fj_CI, q_zo0, q_zo1, Option.toList_some, Option.toList_none, List.cons_append, List.nil_append, true_and, and_true, true_or, if_true, if_false, q_l10, q_l01, eq_self, Int32.reduceLT, Int32.reduceLE, Int32.reduceAdd, Int32.reduceSub, fj_up_at, Nat.reduceEqDiff, false_and, and_false, and_self, reduceCtorEq, Nat.reduceAdd, y2, q_le (show yn A < 100000 by omega) (show row.length < 100000 by omega), if_pos (show yn A ≤ row.length by omega)]
    simp only [fs1_80, fj_OB, fj_AR, fj_CI, q_zo0, q_zo1, Option.toList_some, Option.toList_none, List.cons_append, List.nil_append, true_and, and_true, true_or, if_true, if_false, q_l10, q_l01, eq_self, Int32.reduceLT, Int32.reduceLE, Int32.reduceAdd, Int32.reduceSub, fj_up_at, Nat.reduceEqDiff, false_and, and_false, and_self, reduceCtorEq, Nat.reduceAdd]
    exact hQ M (fun _ _ _ => rfl) hO
  | succ k ih =>
    intro row le M d hi hle hY hO hQ
    have y2 := hY.2.1
    have hin : row.length < yn A := by omega
    rw [fs1_19]
    simp only [fs1_20, fs1_21, fs1_24, fj_YO ho t, fj_OB, fj_AR, fj_CI, q_zo0, q_zo1, Option.toList_some, Option.toList_none, List.cons_append, List.nil_append, true_and, and_true, true_or, if_true, if_false, q_l10, q_l01, eq_self, Int32.reduceLT, Int32.reduceLE, Int32.reduceAdd, Int32.reduceSub, fj_up_at, Nat.reduceEqDiff, false_and, and_false, and_self, reduceCtorEq, Nat.reduceAdd, y2, q_le (show yn A < 100000 by omega) (show row.length < 100000 by omega), if_neg (show ¬ yn A ≤ row.length by omega)]
    simp only [fs1_27, fs1_28, fs1_29, fs1_32, fs1_33, fs1_34, fs1_36, fj_OB, fj_AR, fj_CI, q_zo0, q_zo1, Option.toList_some, Option.toList_none, List.cons_append, List.nil_append, true_and, and_true, true_or, if_true, if_false, q_l10, q_l01, eq_self, Int32.reduceLT, Int32.reduceLE, Int32.reduceAdd, Int32.reduceSub, fj_up_at, Nat.reduceEqDiff, false_and, and_false, and_self, reduceCtorEq, Nat.reduceAdd, m2 ho t hV hY hle hO.2.1]
    cases hf : fsf (qOk A le) 0 (yn A) with
    | none =>
      simp only [onI, if_true, eq_self, fs1_39]
      refine hQ M (fun _ _ _ => rfl) ?_
      show fj_OC M (match fsf (qOk A le) 0 (yn A) with | none => _ | some m => _)
      rw [hf]
      exact hO
    | some m =>
      have hm := fsf_some hf
      have hmn : m < yn A := by omega
      have hne : ¬ onI (some m) = -9 := by
        rw [onI_none (x := some m) (fun k hk => by cases hk; omega)]
        simp
      rw [if_neg hne]
      obtain ⟨o1, o2, o3⟩ := hO
      simp only at o1 o2 o3
      have eG : qGo A (k + 1) row le = qGo A k (row ++ [m]) (sdf le (2 ^ m)) := by
        show (match fsf (qOk A le) 0 (yn A) with | none => _ | some m => _) = _
        rw [hf]
      rw [eG] at hQ
      simp only [fs1_6, fs1_7, fs1_8, fs1_11, fs1_12, fs1_13, fs1_14, fs1_17, fs1_18, fs1_27, fs1_28, fs1_29, fs1_32, fs1_33, fs1_34, fs1_36, fs1_39, fs1_40, fs1_41, fs1_44, fs1_45, fs1_48, fs1_49, fs1_50, fs1_51, fs1_51i, fs1_52, fs1_55, fs1_56, fs1_57, fs1_60, fs1_61, fs1_61i, fs1_62, fs1_65, fs1_66, fs1_67, fs1_68, fs1_69, fs1_70, fs1_71, fs1_74, fs1_77, fs1_80, onI, fj_PV t, fj_OB, fj_AR, fj_CI, q_zo0, q_zo1, Option.toList_some, Option.toList_none, List.cons_append, List.nil_append, true_and, and_true, true_or, if_true, if_false, q_l10, q_l01, eq_self, Int32.reduceLT, Int32.reduceLE, Int32.reduceAdd, Int32.reduceSub, fj_up_at, Nat.reduceEqDiff, false_and, and_false, and_self, reduceCtorEq, Nat.reduceAdd, o1, o2, q_in (show row.length < 6 by omega), q_clamp (show row.length < 100000 by omega), show (10 : Nat) ≠ 11 by decide, q_shl m (by omega), q_sdf, nI_1]
      have hlen : (row ++ [m]).length = row.length + 1 := by simp
      rw [← hlen]
      refine ih (row ++ [m]) (sdf le (2 ^ m)) _ _ (by rw [hlen]; omega) (sdf_lt (n := 6) hle) ?_ ?_ ?_
      · simp only [fj_YC_up ho (show 10 < 17 ∨ 32 < 10 by decide), fj_YC_up ho (show 11 < 17 ∨ 32 < 11 by decide)]; exact hY
      · refine ⟨?_, ?_, ?_⟩
        · simp [fj_up_at]
        · simp [fj_up_at]
        · intro i hi
          simp only [hlen] at hi
          simp only [fj_up_at, show (11 : Nat) ≠ 10 by decide, false_and, if_false, true_and]
          by_cases e : i = row.length
          · rw [if_pos e, e]
            simp
          · rw [if_neg e, o3 i (by omega)]
            congr 1
            rw [List.getD_eq_getElem?_getD, List.getD_eq_getElem?_getD, List.getElem?_append_left (by omega)]
      · intro M' g1 g2
        refine hQ M' (fun o' h1 h2 => ?_) g2
        rw [g1 o' h1 h2]
        funext j
        simp only [fj_up_at, h1, h2, false_and, if_false]
theorem m1 {o : Nat} (ho : o = 17 ∨ o = 25) (t : Bool) {A : fj_Yd} (hV : fj_YV A) {M : fj_HM} (hY : fj_YC o M A) {Q : fj_Po} (hQ : ∀ M', (∀ o', o' ≠ 10 → o' ≠ 11 → M' o' = M o') → fj_OC M' (qGo A (yn A) [] (2 ^ yn A - 1)) → Q none M' (fj_PY t) 53 7835) : fj_H none 1 0 [.ref 10, .ref o, .null, .null] [] M (fj_PY t) 53 7835 Q := by
  have h6 := yn_le hV
  have h64 := p2_le h6
  have y2 := hY.2.1
  have e1 : nI (2 ^ yn A) - 1 = nI (2 ^ yn A - 1) := by rw [q_1, pk_sub (Nat.one_le_two_pow)]
  simp only [fs1_0, fs1_1, fs1_2, fs1_5, fs1_6, fs1_7, fs1_8, fs1_11, fs1_12, fs1_13, fs1_14, fs1_17, fs1_18, fs1_27, fs1_28, fs1_29, fs1_32, fs1_33, fs1_34, fs1_36, fs1_39, fs1_40, fs1_41, fs1_44, fs1_45, fs1_48, fs1_49, fs1_50, fs1_51, fs1_51i, fs1_52, fs1_55, fs1_56, fs1_57, fs1_60, fs1_61, fs1_61i, fs1_62, fs1_65, fs1_66, fs1_67, fs1_68, fs1_69, fs1_70, fs1_71, fs1_74, fs1_77, fs1_80, fj_YO ho t, fj_PV t, fj_OB, fj_AR, fj_CI, q_zo0, q_zo1, Option.toList_some, Option.toList_none, List.cons_append, List.nil_append, true_and, and_true, true_or, if_true, if_false, q_l10, q_l01, eq_self, Int32.reduceLT, Int32.reduceLE, Int32.reduceAdd, Int32.reduceSub, fj_up_at, Nat.reduceEqDiff, false_and, and_false, and_self, reduceCtorEq, Nat.reduceAdd, show (o = 10) = False from eq_false (by omega), y2, q_shl (yn A) (by omega), e1]
  refine m1_loop ho t hV (yn A) [] (2 ^ yn A - 1) _ _ (Nat.zero_add _) (by omega) ?_ ?_ ?_
  · simp only [fj_YC_up ho (show 10 < 17 ∨ 32 < 10 by decide)]; exact hY
  · refine ⟨?_, ?_, ?_⟩
    · simp [fj_up_at, q_0]
    · simp [fj_up_at]
    · intro i hi; simp at hi
  · intro M' g1 g2
    refine hQ M' (fun o' h1 h2 => ?_) g2
    rw [g1 o' h1 h2]
    funext j
    simp only [fj_up_at, h1, false_and, if_false]
