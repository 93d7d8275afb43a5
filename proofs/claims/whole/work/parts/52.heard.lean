/-! ===== pairs: what was heard ===== -/
theorem m143_loop {t : Bool} {A : fj_Yd} (hV : fj_YV A) {M : fj_HM} (hY : fj_YM M A) {R : fj_Rd} (hRV : fj_RV A R) (hR : fj_RM M R) {Q : fj_Po} : ∀ (k i : Nat) (b : Bool) (d3 d4 : Value), i + k = R.1 → fj_H none 143 4 [.ref 33, .int (bI b), .int (nI i), d3, d4] [] M (fj_PY t) 53 7835 Q = Q (some (.int (bI (b && alF (fun x => soB A R x (ykd A (R.2.1 x)) (yer A (R.2.1 x))) i k)))) M (fj_PY t) 53 7835 := by
  have hr8 := hRV.1
  have hn := yn_le hV
  intro k
  induction k with
  | zero =>
    intro i b d3 d4 hk
    have hi : i = R.1 := by omega
    rw [fs143_4]
    simp only [fs143_5, fs143_6, fs143_9, fj_PV t, fj_OB, fj_AR, fj_CI, q_zo0, q_zo1, Option.toList_some, Option.toList_none, List.cons_append, List.nil_append, true_and, and_true, true_or, if_true, if_false, q_l10, q_l01, eq_self, Int32.reduceLT, Int32.reduceLE, Int32.reduceAdd, Int32.reduceSub, fj_up_at, Nat.reduceEqDiff, false_and, and_false, and_self, reduceCtorEq, Nat.reduceAdd, hR.1, q_le (show R.1 < 100000 by omega) (show i < 100000 by omega), eq_true (show R.1 ≤ i by omega)]
    simp only [fs143_77, fs143_78, fj_OB, fj_AR, fj_CI, q_zo0, q_zo1, Option.toList_some, Option.toList_none, List.cons_append, List.nil_append, true_and, and_true, true_or, if_true, if_false, q_l10, q_l01, eq_self, Int32.reduceLT, Int32.reduceLE, Int32.reduceAdd, Int32.reduceSub, fj_up_at, Nat.reduceEqDiff, false_and, and_false, and_self, reduceCtorEq, Nat.reduceAdd, alF, Bool.and_true, bI_zo]
  | succ k ih =>
    intro i b d3 d4 hk
    have hi : i < R.1 := by omega
    obtain ⟨r1, r2, r3⟩ := hR.2 i hi
    obtain ⟨u1, u2⟩ := hRV.2 i hi
    obtain ⟨b1, b2, b3⟩ := hY.2.2.2.2.2.2.2.2.1 _ u1
    have hmc := ym_mc hV u1
    have hD : yD A (ymc A (R.2.1 i)) (R.2.2.1 i) ≤ 60 := yD_le hV hmc u2
    have hh : hN (ykd A (R.2.1 i)) (yer A (R.2.1 i)) ≤ 12 := hN_le (ym_er hV u1)
    have rest : ∀ c : Bool, c = soB A R i (ykd A (R.2.1 i)) (yer A (R.2.1 i)) → fj_H none 143 70 [.ref 33, .int (bI b), .int (nI i), .int (nI (R.2.1 i)), .int (bI (decide (yD A (ymc A (R.2.1 i)) (R.2.2.1 i) ≤ hN (ykd A (R.2.1 i)) (yer A (R.2.1 i)))))] [.int (bI (b && c))] M (fj_PY t) 53 7835 Q = Q (some (.int (bI (b && alF (fun x => soB A R x (ykd A (R.2.1 x)) (yer A (R.2.1 x))) i (k + 1))))) M (fj_PY t) 53 7835 := by
      intro c hc
      simp only [fs143_70, fs143_71, fs143_74, fj_OB, fj_AR, fj_CI, q_zo0, q_zo1, Option.toList_some, Option.toList_none, List.cons_append, List.nil_append, true_and, and_true, true_or, if_true, if_false, q_l10, q_l01, eq_self, Int32.reduceLT, Int32.reduceLE, Int32.reduceAdd, Int32.reduceSub, fj_up_at, Nat.reduceEqDiff, false_and, and_false, and_self, reduceCtorEq, Nat.reduceAdd, nI_1]
      rw [ih (i + 1) (b && c) _ _ (by omega)]
      show _ = Q (some (.int (bI (b && (soB A R i (ykd A (R.2.1 i)) (yer A (R.2.1 i)) && alF _ (i + 1) k))))) M (fj_PY t) 53 7835
      rw [← hc, Bool.and_assoc]
    have so : soB A R i (ykd A (R.2.1 i)) (yer A (R.2.1 i)) = (decide (yD A (ymc A (R.2.1 i)) (R.2.2.1 i) ≤ hN (ykd A (R.2.1 i)) (yer A (R.2.1 i))) == R.2.2.2 i) := by
      unfold soB
      rw [yD_c]
    have fin : fj_H none 143 48 [.ref 33, .int (bI b), .int (nI i), .int (nI (R.2.1 i)), d4] [.int (bI (decide (yD A (ymc A (R.2.1 i)) (R.2.2.1 i) ≤ hN (ykd A (R.2.1 i)) (yer A (R.2.1 i)))))] M (fj_PY t) 53 7835 Q = Q (some (.int (bI (b && alF (fun x => soB A R x (ykd A (R.2.1 x)) (yer A (R.2.1 x))) i (k + 1))))) M (fj_PY t) 53 7835 := by
      generalize decide (yD A (ymc A (R.2.1 i)) (R.2.2.1 i) ≤ hN (ykd A (R.2.1 i)) (yer A (R.2.1 i))) = g at so rest
      cases b with
      | false =>
        have rr := rest _ rfl
        rw [Bool.false_and] at rr
        simp only [fs143_48, fs143_50, fs143_51, fs143_69, fj_OB, fj_AR, fj_CI, q_zo0, q_zo1, Option.toList_some, Option.toList_none, List.cons_append, List.nil_append, true_and, and_true, true_or, if_true, if_false, q_l10, q_l01, eq_self, Int32.reduceLT, Int32.reduceLE, Int32.reduceAdd, Int32.reduceSub, fj_up_at, Nat.reduceEqDiff, false_and, and_false, and_self, reduceCtorEq, Nat.reduceAdd, show (bI false = 0) = True from eq_true rfl]
        exact rr
      | true =>
        have rr := rest _ rfl
        rw [Bool.true_and, so] at rr
        simp only [fs143_48, fs143_50, fs143_51, fs143_54, fs143_56, fs143_57, fs143_60, fs143_61, fs143_62, fj_PV t, fj_OB, fj_AR, fj_CI, q_zo0, q_zo1, Option.toList_some, Option.toList_none, List.cons_append, List.nil_append, true_and, and_true, true_or, if_true, if_false, q_l10, q_l01, eq_self, Int32.reduceLT, Int32.reduceLE, Int32.reduceAdd, Int32.reduceSub, fj_up_at, Nat.reduceEqDiff, false_and, and_false, and_self, reduceCtorEq, Nat.reduceAdd, show (bI true = 0) = False from eq_false (by decide), r3, q_in (show i < 8 by omega), q_clamp (show i < 100000 by omega), bI_inj]
        by_cases e : g = R.2.2.2 i
        · rw [if_pos e]
          simp only [fs143_65, fs143_66, fj_OB, fj_AR, fj_CI, q_zo0, q_zo1, Option.toList_some, Option.toList_none, List.cons_append, List.nil_append, true_and, and_true, true_or, if_true, if_false, q_l10, q_l01, eq_self, Int32.reduceLT, Int32.reduceLE, Int32.reduceAdd, Int32.reduceSub, fj_up_at, Nat.reduceEqDiff, false_and, and_false, and_self, reduceCtorEq, Nat.reduceAdd]
          rw [e, beq_self_eq_true] at rr
          rw [e]
          exact rr
        · rw [if_neg e]
          simp only [fs143_69, fj_OB, fj_AR, fj_CI, q_zo0, q_zo1, Option.toList_some, Option.toList_none, List.cons_append, List.nil_append, true_and, and_true, true_or, if_true, if_false, q_l10, q_l01, eq_self, Int32.reduceLT, Int32.reduceLE, Int32.reduceAdd, Int32.reduceSub, fj_up_at, Nat.reduceEqDiff, false_and, and_false, and_self, reduceCtorEq, Nat.reduceAdd]
          rw [beq_false_of_ne e] at rr
          exact rr
    rw [fs143_4]
    simp only [fs143_5, fs143_6, fs143_9, fj_PV t, fj_OB, fj_AR, fj_CI, q_zo0, q_zo1, Option.toList_some, Option.toList_none, List.cons_append, List.nil_append, true_and, and_true, true_or, if_true, if_false, q_l10, q_l01, eq_self, Int32.reduceLT, Int32.reduceLE, Int32.reduceAdd, Int32.reduceSub, fj_up_at, Nat.reduceEqDiff, false_and, and_false, and_self, reduceCtorEq, Nat.reduceAdd, hR.1, q_le (show R.1 < 100000 by omega) (show i < 100000 by omega), eq_false (show ¬ R.1 ≤ i by omega)]
    simp only [fs143_12, fs143_13, fs143_16, fs143_17, fs143_18, fs143_19, fs143_20, fs143_21, fs143_24, fs143_25, fs143_26, fs143_27, fs143_30, fs143_31, fs143_32, fs143_35, fs143_36, fs143_37, fs143_40, fj_PV t, fj_OB, fj_AR, fj_CI, q_zo0, q_zo1, Option.toList_some, Option.toList_none, List.cons_append, List.nil_append, true_and, and_true, true_or, if_true, if_false, q_l10, q_l01, eq_self, Int32.reduceLT, Int32.reduceLE, Int32.reduceAdd, Int32.reduceSub, fj_up_at, Nat.reduceEqDiff, false_and, and_false, and_self, reduceCtorEq, Nat.reduceAdd, r1, r2, b3, q_in (show i < 8 by omega), q_clamp (show i < 100000 by omega), q_in (show R.2.1 i < 6 by omega), q_clamp (show R.2.1 i < 100000 by omega), m118 hV hY hmc u2, m116 hV hY u1, q_lt (show hN (ykd A (R.2.1 i)) (yer A (R.2.1 i)) < 100000 by omega) (show yD A (ymc A (R.2.1 i)) (R.2.2.1 i) < 100000 by omega)]
    by_cases h : hN (ykd A (R.2.1 i)) (yer A (R.2.1 i)) < yD A (ymc A (R.2.1 i)) (R.2.2.1 i)
    · rw [if_pos h]
      rw [decide_eq_false (show ¬ yD A (ymc A (R.2.1 i)) (R.2.2.1 i) ≤ hN (ykd A (R.2.1 i)) (yer A (R.2.1 i)) by omega)] at fin
      simp only [fs143_47, fj_OB, fj_AR, fj_CI, q_zo0, q_zo1, Option.toList_some, Option.toList_none, List.cons_append, List.nil_append, true_and, and_true, true_or, if_true, if_false, q_l10, q_l01, eq_self, Int32.reduceLT, Int32.reduceLE, Int32.reduceAdd, Int32.reduceSub, fj_up_at, Nat.reduceEqDiff, false_and, and_false, and_self, reduceCtorEq, Nat.reduceAdd]
      exact fin
    · rw [if_neg h]
      rw [decide_eq_true (show yD A (ymc A (R.2.1 i)) (R.2.2.1 i) ≤ hN (ykd A (R.2.1 i)) (yer A (R.2.1 i)) by omega)] at fin
      simp only [fs143_43, fs143_44, fj_OB, fj_AR, fj_CI, q_zo0, q_zo1, Option.toList_some, Option.toList_none, List.cons_append, List.nil_append, true_and, and_true, true_or, if_true, if_false, q_l10, q_l01, eq_self, Int32.reduceLT, Int32.reduceLE, Int32.reduceAdd, Int32.reduceSub, fj_up_at, Nat.reduceEqDiff, false_and, and_false, and_self, reduceCtorEq, Nat.reduceAdd]
      exact fin
theorem m143 {t : Bool} {A : fj_Yd} (hV : fj_YV A) {M : fj_HM} (hY : fj_YM M A) {R : fj_Rd} (hRV : fj_RV A R) (hR : fj_RM M R) {Q : fj_Po} : fj_H none 143 0 [.ref 33, .null, .null, .null, .null] [] M (fj_PY t) 53 7835 Q = Q (some (.int (bI (soA A R (ykd A) (yer A))))) M (fj_PY t) 53 7835 := by
  simp only [fs143_0, fs143_1, fs143_2, fs143_3, fj_OB, fj_AR, fj_CI, q_zo0, q_zo1, Option.toList_some, Option.toList_none, List.cons_append, List.nil_append, true_and, and_true, true_or, if_true, if_false, q_l10, q_l01, eq_self, Int32.reduceLT, Int32.reduceLE, Int32.reduceAdd, Int32.reduceSub, fj_up_at, Nat.reduceEqDiff, false_and, and_false, and_self, reduceCtorEq, Nat.reduceAdd]
  have := m143_loop (t := t) hV hY hRV hR (Q := Q) R.1 0 true .null .null (Nat.zero_add _)
  rw [Bool.true_and] at this
  exact this
theorem pr_holds {t : Bool} {M : fj_HM} (h : fj_Iv t M) : fj_pr isI t M 76 [.ref 0] 144 [.ref 33] := by
  obtain ⟨A, R, h⟩ := h
  obtain ⟨hV, hC, hM, hRV, hRC, hRM, -⟩ := id h
  unfold fj_pr
  rcases yd_st hV with ⟨s1, s2, s3, s4, s5, s6⟩ | ⟨s1, s2, s3, s4⟩
  · simp only [fs76_0, fs76_1, fs76_4, fs76_7, fs76_10, fs76_12, fs144_0, fs144_1, fs144_4, fs144_7, fs144_9, fs144_24, m40 (yo_or t), fj_PV t, fj_YO (yo_or t) t, fj_OB, fj_AR, fj_CI, q_zo0, q_zo1, Option.toList_some, Option.toList_none, List.cons_append, List.nil_append, true_and, and_true, true_or, if_true, if_false, q_l10, q_l01, eq_self, Int32.reduceLT, Int32.reduceLE, Int32.reduceAdd, Int32.reduceSub, fj_up_at, Nat.reduceEqDiff, false_and, and_false, and_self, reduceCtorEq, Nat.reduceAdd, hC.1, hM.1, s3, s4]
    exact fj_fin_i h _
  · cases hb : soA A R (ykd A) (yer A) with
    | false =>
      simp only [fs76_0, fs76_1, fs76_4, fs76_7, fs76_13, fs76_14, fs76_17, fs76_18, fs76_21, fs76_24, fs76_27, fs76_28, fs76_31, fs76_32, fs144_0, fs144_1, fs144_4, fs144_12, fs144_13, fs144_16, fs144_19, fs144_20, fs144_23, fs144_24, m40 (yo_or t), m5 (yo_or t) t hV hC hRV hRC, m143 hV hM hRV hRM, fj_PV t, fj_YO (yo_or t) t, fj_OB, fj_AR, fj_CI, q_zo0, q_zo1, Option.toList_some, Option.toList_none, List.cons_append, List.nil_append, true_and, and_true, true_or, if_true, if_false, q_l10, q_l01, eq_self, Int32.reduceLT, Int32.reduceLE, Int32.reduceAdd, Int32.reduceSub, fj_up_at, Nat.reduceEqDiff, false_and, and_false, and_self, reduceCtorEq, Nat.reduceAdd, hC.1, hM.1, s3, s4, hb, bI, Bool.false_eq_true]
      exact fj_fin_i h _
    | true =>
      simp only [fs76_0, fs76_1, fs76_4, fs76_7, fs76_13, fs76_14, fs76_17, fs76_18, fs76_21, fs76_24, fs76_27, fs76_28, fs76_31, fs76_32, fs144_0, fs144_1, fs144_4, fs144_12, fs144_13, fs144_16, fs144_19, fs144_20, fs144_23, fs144_24, m40 (yo_or t), m5 (yo_or t) t hV hC hRV hRC, m143 hV hM hRV hRM, fj_PV t, fj_YO (yo_or t) t, fj_OB, fj_AR, fj_CI, q_zo0, q_zo1, Option.toList_some, Option.toList_none, List.cons_append, List.nil_append, true_and, and_true, true_or, if_true, if_false, q_l10, q_l01, eq_self, Int32.reduceLT, Int32.reduceLE, Int32.reduceAdd, Int32.reduceSub, fj_up_at, Nat.reduceEqDiff, false_and, and_false, and_self, reduceCtorEq, Nat.reduceAdd, hC.1, hM.1, s3, s4, hb, bI]
      exact fj_fin_i h _
theorem upN_id {f : Nat → Nat} {m : Nat} : upN f m (f m) = f := by
  funext x
  unfold upN
  by_cases e : x = m
  · rw [if_pos e, e]
  · rw [if_neg e]
def yEr (A : fj_Yd) (f : Nat → Nat) : fj_Yd := (yh A, yw A, yn A, yq A, ysl A, ycn A, ysg A, yic A, ykd A, f, ymc A, yoc A)
def yKd (A : fj_Yd) (f : Nat → Nat) : fj_Yd := (yh A, yw A, yn A, yq A, ysl A, ycn A, ysg A, yic A, f, yer A, ymc A, yoc A)
theorem k_or0 (x : Nat) : nI x ||| (0 : Int32) = nI x := by rw [q_0, q_or, Nat.or_zero]
theorem m77_loop {t : Bool} {A : fj_Yd} (hV : fj_YV A) {M : fj_HM} (hY : fj_YC (yo t) M A) {R : fj_Rd} (hRV : fj_RV A R) (hR : fj_RC M R) {m : Nat} (hm : m < yn A) {Q : fj_Po} : ∀ (k e : Nat), e + k = 6 → fj_H none 77 17 [.ref 0, .int (nI m), .int (nI (msk (fun e => soA A R (ykd A) (upN (yer A) m e)) e)), .int (nI e)] [] M (fj_PY t) 53 7835 Q = Q (some (.int (nI (msk (fun e => soA A R (ykd A) (upN (yer A) m e)) 6)))) M (fj_PY t) 53 7835 := by
  have hn := yn_le hV
  obtain ⟨b1, b2, b3⟩ := hY.2.2.2.2.2.2.2.1 m hm
  intro k
  induction k with
  | zero =>
    intro e hk
    have he : e = 6 := by omega
    subst he
    rw [fs77_17]
    simp only [fs77_18, fs77_19, fj_OB, fj_AR, fj_CI, q_zo0, q_zo1, Option.toList_some, Option.toList_none, List.cons_append, List.nil_append, true_and, and_true, true_or, if_true, if_false, q_l10, q_l01, eq_self, Int32.reduceLT, Int32.reduceLE, Int32.reduceAdd, Int32.reduceSub, fj_up_at, Nat.reduceEqDiff, false_and, and_false, and_self, reduceCtorEq, Nat.reduceAdd, show ((5 : Int32) < nI 6) = True from eq_true (by decide)]
    simp only [fs77_59, fs77_60, fj_OB, fj_AR, fj_CI, q_zo0, q_zo1, Option.toList_some, Option.toList_none, List.cons_append, List.nil_append, true_and, and_true, true_or, if_true, if_false, q_l10, q_l01, eq_self, Int32.reduceLT, Int32.reduceLE, Int32.reduceAdd, Int32.reduceSub, fj_up_at, Nat.reduceEqDiff, false_and, and_false, and_self, reduceCtorEq, Nat.reduceAdd]
  | succ k ih =>
    intro e hk
    have e5 : ((5 : Int32) < nI e) = False := eq_false (by rw [show (5 : Int32) = nI 5 from rfl, q_lt (by decide) (by omega)]; omega)
    rw [fs77_17]
    simp only [fs77_18, fs77_19, fj_OB, fj_AR, fj_CI, q_zo0, q_zo1, Option.toList_some, Option.toList_none, List.cons_append, List.nil_append, true_and, and_true, true_or, if_true, if_false, q_l10, q_l01, eq_self, Int32.reduceLT, Int32.reduceLE, Int32.reduceAdd, Int32.reduceSub, fj_up_at, Nat.reduceEqDiff, false_and, and_false, and_self, reduceCtorEq, Nat.reduceAdd, e5]
    simp only [fs77_22, fs77_23, fs77_26, fs77_27, fs77_30, fs77_31, fs77_32, fs77_35, fs77_38, fs77_39, fs77_40, fs77_41, fj_PV t, fj_YO (yo_or t) t, fj_OB, fj_AR, fj_CI, q_zo0, q_zo1, Option.toList_some, Option.toList_none, List.cons_append, List.nil_append, true_and, and_true, true_or, if_true, if_false, q_l10, q_l01, eq_self, Int32.reduceLT, Int32.reduceLE, Int32.reduceAdd, Int32.reduceSub, fj_up_at, Nat.reduceEqDiff, false_and, and_false, and_self, reduceCtorEq, Nat.reduceAdd, b1, q_in (show m < 6 by omega), q_clamp (show m < 100000 by omega), m6 (yo_or t) t hV hY hRV hR (show m < 6 by omega) (ym_kd hV hm) (show e ≤ 5 by omega), upN_id]
    cases hb : soA A R (ykd A) (upN (yer A) m e) with
    | true =>
      have er := msk_t (f := fun e => soA A R (ykd A) (upN (yer A) m e)) (n := e) hb
      simp only [bI, if_true, fs77_44, fs77_47, fs77_48, fs77_49, fs77_50, fs77_51, fs77_52, fs77_53, fs77_56, fj_OB, fj_AR, fj_CI, q_zo0, q_zo1, Option.toList_some, Option.toList_none, List.cons_append, List.nil_append, true_and, and_true, true_or, if_true, if_false, q_l10, q_l01, eq_self, Int32.reduceLT, Int32.reduceLE, Int32.reduceAdd, Int32.reduceSub, fj_up_at, Nat.reduceEqDiff, false_and, and_false, and_self, reduceCtorEq, Nat.reduceAdd, q_shl e (by omega), q_or, nI_1, ← er]
      exact ih (e + 1) (by omega)
    | false =>
      have er := msk_f (f := fun e => soA A R (ykd A) (upN (yer A) m e)) (n := e) hb
      simp only [bI, Bool.false_eq_true, if_false, fs77_44, fs77_53, fs77_56, fj_OB, fj_AR, fj_CI, q_zo0, q_zo1, Option.toList_some, Option.toList_none, List.cons_append, List.nil_append, true_and, and_true, true_or, if_true, if_false, q_l10, q_l01, eq_self, Int32.reduceLT, Int32.reduceLE, Int32.reduceAdd, Int32.reduceSub, fj_up_at, Nat.reduceEqDiff, false_and, and_false, and_self, reduceCtorEq, Nat.reduceAdd, nI_1, ← er]
      exact ih (e + 1) (by omega)
theorem yV_yEr {A : fj_Yd} (hV : fj_YV A) {m v : Nat} (hv : v ≤ 5) : fj_YV (yEr A (upN (yer A) m v)) := by
  obtain ⟨v0, v1, v2, v3, v4, v5, v6, v7⟩ := hV
  refine ⟨v0, v1, v2, fun x hx => ?_, v4, v5, v6, v7⟩
  obtain ⟨c1, c2, c3⟩ := v3 x hx
  refine ⟨c1, ?_, c3⟩
  show upN (yer A) m v x ≤ 5
  unfold upN
  by_cases e : x = m
  · rw [if_pos e]; exact hv
  · rw [if_neg e]; exact c2
theorem m145_loop {t : Bool} {A : fj_Yd} (hV : fj_YV A) {M : fj_HM} (hY : fj_YM M A) {R : fj_Rd} (hRV : fj_RV A R) (hR : fj_RM M R) {m : Nat} (hm : m < yn A) {Q : fj_Po} : ∀ (k e : Nat) (M' : fj_HM), e + k = 6 → (∀ o j, ¬ (o = 36 ∧ j = m) → M' o j = M o j) → fj_H none 145 22 [.ref 33, .int (nI m), .int (nI (yer A m)), .int (nI (msk (fun e => soA A R (ykd A) (upN (yer A) m e)) e)), .int (nI e)] [] M' (fj_PY t) 53 7835 Q = Q (some (.int (nI (msk (fun e => soA A R (ykd A) (upN (yer A) m e)) 6)))) M (fj_PY t) 53 7835 := by
  have hn := yn_le hV
  obtain ⟨b1, b2, b3⟩ := hY.2.2.2.2.2.2.2.2.1 m hm
  intro k
  induction k with
  | zero =>
    intro e M' hk hM
    have he : e = 6 := by omega
    subst he
    have z : fj_up M' 36 m (nI (yer A m)) = M := by
      funext o j
      rw [fj_up_at]
      by_cases c : o = 36 ∧ j = m
      · rw [if_pos c, c.1, c.2]; exact b2.symm
      · rw [if_neg c]; exact hM o j c
    rw [fs145_22]
    simp only [fs145_24, fs145_26, fj_OB, fj_AR, fj_CI, q_zo0, q_zo1, Option.toList_some, Option.toList_none, List.cons_append, List.nil_append, true_and, and_true, true_or, if_true, if_false, q_l10, q_l01, eq_self, Int32.reduceLT, Int32.reduceLE, Int32.reduceAdd, Int32.reduceSub, fj_up_at, Nat.reduceEqDiff, false_and, and_false, and_self, reduceCtorEq, Nat.reduceAdd, show ((6 : Int32) ≤ nI 6) = True from eq_true (by decide)]
    simp only [fs145_61, fs145_62, fs145_65, fs145_66, fs145_67, fs145_68, fs145_69, fj_PV t, fj_OB, fj_AR, fj_CI, q_zo0, q_zo1, Option.toList_some, Option.toList_none, List.cons_append, List.nil_append, true_and, and_true, true_or, if_true, if_false, q_l10, q_l01, eq_self, Int32.reduceLT, Int32.reduceLE, Int32.reduceAdd, Int32.reduceSub, fj_up_at, Nat.reduceEqDiff, false_and, and_false, and_self, reduceCtorEq, Nat.reduceAdd, q_in (show m < 6 by omega), q_clamp (show m < 100000 by omega), z]
  | succ k ih =>
    intro e M' hk hM
    have e5 : ((6 : Int32) ≤ nI e) = False := eq_false (by rw [show (6 : Int32) = nI 6 from rfl, q_le (by decide) (by omega)]; omega)
    have hM2 : ∀ o j, ¬ (o = 36 ∧ j = m) → fj_up M' 36 m (nI e) o j = M o j := fun o j c => by rw [fj_up_at, if_neg c]; exact hM o j c
    have hY2 : fj_YM (fj_up M' 36 m (nI e)) (yEr A (upN (yer A) m e)) := by
      obtain ⟨d0, d1, d2, d3, d4, d5, d6, d7, d8, d9⟩ := hY
      refine ⟨(hM2 _ _ (by omega)).trans d0, (hM2 _ _ (by omega)).trans d1, (hM2 _ _ (by omega)).trans d2, (hM2 _ _ (by omega)).trans d3, (hM2 _ _ (by omega)).trans d4, (hM2 _ _ (by omega)).trans d5, (hM2 _ _ (by omega)).trans d6, fun c hc => (hM2 _ _ (by omega)).trans (d7 c hc), fun x hx => ?_, fun x hx => (hM2 _ _ (by omega)).trans (d9 x hx)⟩
      obtain ⟨c1, c2, c3⟩ := d8 x hx
      refine ⟨(hM2 _ _ (by omega)).trans c1, ?_, (hM2 _ _ (by omega)).trans c3⟩
      show fj_up M' 36 m (nI e) 36 x = nI (upN (yer A) m e x)
      unfold upN
      by_cases c : x = m
      · rw [if_pos c, fj_up_at, if_pos ⟨rfl, c⟩]
      · rw [if_neg c, hM2 _ _ (fun z => c z.2)]; exact c2
    have hR2 : fj_RM (fj_up M' 36 m (nI e)) R := by
      refine ⟨(hM2 _ _ (by omega)).trans hR.1, fun x hx => ?_⟩
      obtain ⟨c1, c2, c3⟩ := hR.2 x hx
      exact ⟨(hM2 _ _ (by omega)).trans c1, (hM2 _ _ (by omega)).trans c2, (hM2 _ _ (by omega)).trans c3⟩
    have hRV2 : fj_RV (yEr A (upN (yer A) m e)) R := hRV
    have hso : soA (yEr A (upN (yer A) m e)) R (ykd (yEr A (upN (yer A) m e))) (yer (yEr A (upN (yer A) m e))) = soA A R (ykd A) (upN (yer A) m e) := rfl
    rw [fs145_22]
    simp only [fs145_24, fs145_26, fj_OB, fj_AR, fj_CI, q_zo0, q_zo1, Option.toList_some, Option.toList_none, List.cons_append, List.nil_append, true_and, and_true, true_or, if_true, if_false, q_l10, q_l01, eq_self, Int32.reduceLT, Int32.reduceLE, Int32.reduceAdd, Int32.reduceSub, fj_up_at, Nat.reduceEqDiff, false_and, and_false, and_self, reduceCtorEq, Nat.reduceAdd, e5]
    simp only [fs145_29, fs145_30, fs145_33, fs145_34, fs145_36, fs145_37, fs145_38, fs145_39, fj_PV t, fj_OB, fj_AR, fj_CI, q_zo0, q_zo1, Option.toList_some, Option.toList_none, List.cons_append, List.nil_append, true_and, and_true, true_or, if_true, if_false, q_l10, q_l01, eq_self, Int32.reduceLT, Int32.reduceLE, Int32.reduceAdd, Int32.reduceSub, fj_up_at, Nat.reduceEqDiff, false_and, and_false, and_self, reduceCtorEq, Nat.reduceAdd, q_in (show m < 6 by omega), q_clamp (show m < 100000 by omega), m143 (yV_yEr hV (show e ≤ 5 by omega)) hY2 hRV2 hR2, hso]
    cases hb : soA A R (ykd A) (upN (yer A) m e) with
    | true =>
      have er := msk_t (f := fun e => soA A R (ykd A) (upN (yer A) m e)) (n := e) hb
      simp only [bI, if_true, fs145_42, fs145_45, fs145_46, fs145_48, fs145_49, fs145_53, fs145_54, fs145_55, fs145_58, fj_OB, fj_AR, fj_CI, q_zo0, q_zo1, Option.toList_some, Option.toList_none, List.cons_append, List.nil_append, true_and, and_true, true_or, if_true, if_false, q_l10, q_l01, eq_self, Int32.reduceLT, Int32.reduceLE, Int32.reduceAdd, Int32.reduceSub, fj_up_at, Nat.reduceEqDiff, false_and, and_false, and_self, reduceCtorEq, Nat.reduceAdd, q_shl e (by omega), q_or, nI_1, ← er]
      exact ih (e + 1) _ (by omega) hM2
    | false =>
      have er := msk_f (f := fun e => soA A R (ykd A) (upN (yer A) m e)) (n := e) hb
      simp only [bI, Bool.false_eq_true, if_false, fs145_42, fs145_52, fs145_53, fs145_54, fs145_55, fs145_58, fj_OB, fj_AR, fj_CI, q_zo0, q_zo1, Option.toList_some, Option.toList_none, List.cons_append, List.nil_append, true_and, and_true, true_or, if_true, if_false, q_l10, q_l01, eq_self, Int32.reduceLT, Int32.reduceLE, Int32.reduceAdd, Int32.reduceSub, fj_up_at, Nat.reduceEqDiff, false_and, and_false, and_self, reduceCtorEq, Nat.reduceAdd, k_or0, nI_1, ← er]
      exact ih (e + 1) _ (by omega) hM2
theorem pr_hearing {t : Bool} {M : fj_HM} (h : fj_Iv t M) (v : Int32) : fj_pr isI t M 77 [.ref 0, .int v, .null, .null] 145 [.ref 33, .int v, .null, .null, .null] := by
  obtain ⟨A, R, h⟩ := h
  obtain ⟨hV, hC, hM, hRV, hRC, hRM, -⟩ := id h
  have hn := yn_le hV
  have h4 := hM.2.2.1
  unfold fj_pr
  rcases q_place (n := yn A) (by omega) v with e | ⟨e, e'⟩ | ⟨m, hm, rfl, e, e'⟩
  · simp only [fs77_0, fs77_1, fs77_4, fs77_5, fs77_8, fs77_11, fs77_12, fs145_0, fs145_1, fs145_2, fs145_5, fs145_8, fs145_9, m42 (yo_or t), m106 (show yn A < 100000 by omega) h4, fj_PV t, fj_YO (yo_or t) t, fj_OB, fj_AR, fj_CI, q_zo0, q_zo1, Option.toList_some, Option.toList_none, List.cons_append, List.nil_append, true_and, and_true, true_or, if_true, if_false, q_l10, q_l01, eq_self, Int32.reduceLT, Int32.reduceLE, Int32.reduceAdd, Int32.reduceSub, fj_up_at, Nat.reduceEqDiff, false_and, and_false, and_self, reduceCtorEq, Nat.reduceAdd, hC.2.1, e]
    exact fj_fin_i h _
  · simp only [fs77_0, fs77_1, fs77_4, fs77_5, fs77_8, fs77_11, fs77_12, fs145_0, fs145_1, fs145_2, fs145_5, fs145_8, fs145_9, m42 (yo_or t), m106 (show yn A < 100000 by omega) h4, fj_PV t, fj_YO (yo_or t) t, fj_OB, fj_AR, fj_CI, q_zo0, q_zo1, Option.toList_some, Option.toList_none, List.cons_append, List.nil_append, true_and, and_true, true_or, if_true, if_false, q_l10, q_l01, eq_self, Int32.reduceLT, Int32.reduceLE, Int32.reduceAdd, Int32.reduceSub, fj_up_at, Nat.reduceEqDiff, false_and, and_false, and_self, reduceCtorEq, Nat.reduceAdd, hC.2.1, e, e']
    exact fj_fin_i h _
  · obtain ⟨b1, b2, b3⟩ := hM.2.2.2.2.2.2.2.2.1 m hm
    have l1 := fun Q => m77_loop (t := t) hV hC hRV hRC hm (Q := Q) 6 0 rfl
    have l2 := fun Q => m145_loop (t := t) hV hM hRV hRM hm (Q := Q) 6 0 M rfl (fun _ _ _ => rfl)
    have e0 : nI (msk (fun e => soA A R (ykd A) (upN (yer A) m e)) 0) = 0 := rfl
    rw [e0] at l1 l2
    simp only [fs77_0, fs77_1, fs77_4, fs77_5, fs77_8, fs77_13, fs77_14, fs77_15, fs77_16, m42 (yo_or t), fj_PV t, fj_YO (yo_or t) t, fj_OB, fj_AR, fj_CI, q_zo0, q_zo1, Option.toList_some, Option.toList_none, List.cons_append, List.nil_append, true_and, and_true, true_or, if_true, if_false, q_l10, q_l01, eq_self, Int32.reduceLT, Int32.reduceLE, Int32.reduceAdd, Int32.reduceSub, fj_up_at, Nat.reduceEqDiff, false_and, and_false, and_self, reduceCtorEq, Nat.reduceAdd, hC.2.1, e, e']
    have l1' := l1 (fun r1 M1 P1 c1 z1 => c1 = 53 ∧ z1 = 7835 ∧ fj_H none 145 0 [.ref 33, .int (nI m), .null, .null, .null] [] M1 P1 53 7835 (fj_fin isI r1))
    rw [show nI 0 = 0 from rfl] at l1' l2
    refine l1'.mpr ?_
    refine ⟨rfl, rfl, ?_⟩
    simp only [fs145_0, fs145_1, fs145_2, fs145_5, fs145_10, fs145_11, fs145_14, fs145_15, fs145_16, fs145_17, fs145_18, fs145_19, fs145_20, m106 (show yn A < 100000 by omega) h4, fj_PV t, fj_OB, fj_AR, fj_CI, q_zo0, q_zo1, Option.toList_some, Option.toList_none, List.cons_append, List.nil_append, true_and, and_true, true_or, if_true, if_false, q_l10, q_l01, eq_self, Int32.reduceLT, Int32.reduceLE, Int32.reduceAdd, Int32.reduceSub, fj_up_at, Nat.reduceEqDiff, false_and, and_false, and_self, reduceCtorEq, Nat.reduceAdd, e, e', q_in (show m < 6 by omega), q_clamp (show m < 100000 by omega), b2]
    refine (l2 _).mpr ?_
    exact fj_fin_i h _
theorem m78_loop {t : Bool} {A : fj_Yd} (hV : fj_YV A) {M : fj_HM} (hY : fj_YC (yo t) M A) {R : fj_Rd} (hRV : fj_RV A R) (hR : fj_RC M R) {m : Nat} (hm : m < yn A) {Q : fj_Po} : ∀ (k e : Nat), e + k = 3 → fj_H none 78 17 [.ref 0, .int (nI m), .int (nI (msk (fun e => soA A R (upN (ykd A) m e) (yer A)) e)), .int (nI e)] [] M (fj_PY t) 53 7835 Q = Q (some (.int (nI (msk (fun e => soA A R (upN (ykd A) m e) (yer A)) 3)))) M (fj_PY t) 53 7835 := by
  have hn := yn_le hV
  obtain ⟨b1, b2, b3⟩ := hY.2.2.2.2.2.2.2.1 m hm
  intro k
  induction k with
  | zero =>
    intro e hk
    have he : e = 3 := by omega
    subst he
    rw [fs78_17]
    simp only [fs78_18, fs78_19, fj_OB, fj_AR, fj_CI, q_zo0, q_zo1, Option.toList_some, Option.toList_none, List.cons_append, List.nil_append, true_and, and_true, true_or, if_true, if_false, q_l10, q_l01, eq_self, Int32.reduceLT, Int32.reduceLE, Int32.reduceAdd, Int32.reduceSub, fj_up_at, Nat.reduceEqDiff, false_and, and_false, and_self, reduceCtorEq, Nat.reduceAdd, show ((2 : Int32) < nI 3) = True from eq_true (by decide)]
    simp only [fs78_59, fs78_60, fj_OB, fj_AR, fj_CI, q_zo0, q_zo1, Option.toList_some, Option.toList_none, List.cons_append, List.nil_append, true_and, and_true, true_or, if_true, if_false, q_l10, q_l01, eq_self, Int32.reduceLT, Int32.reduceLE, Int32.reduceAdd, Int32.reduceSub, fj_up_at, Nat.reduceEqDiff, false_and, and_false, and_self, reduceCtorEq, Nat.reduceAdd]
  | succ k ih =>
    intro e hk
    have e5 : ((2 : Int32) < nI e) = False := eq_false (by rw [show (2 : Int32) = nI 2 from rfl, q_lt (by decide) (by omega)]; omega)
    rw [fs78_17]
    simp only [fs78_18, fs78_19, fj_OB, fj_AR, fj_CI, q_zo0, q_zo1, Option.toList_some, Option.toList_none, List.cons_append, List.nil_append, true_and, and_true, true_or, if_true, if_false, q_l10, q_l01, eq_self, Int32.reduceLT, Int32.reduceLE, Int32.reduceAdd, Int32.reduceSub, fj_up_at, Nat.reduceEqDiff, false_and, and_false, and_self, reduceCtorEq, Nat.reduceAdd, e5]
    simp only [fs78_22, fs78_23, fs78_26, fs78_27, fs78_30, fs78_31, fs78_32, fs78_33, fs78_36, fs78_39, fs78_40, fs78_41, fj_PV t, fj_YO (yo_or t) t, fj_OB, fj_AR, fj_CI, q_zo0, q_zo1, Option.toList_some, Option.toList_none, List.cons_append, List.nil_append, true_and, and_true, true_or, if_true, if_false, q_l10, q_l01, eq_self, Int32.reduceLT, Int32.reduceLE, Int32.reduceAdd, Int32.reduceSub, fj_up_at, Nat.reduceEqDiff, false_and, and_false, and_self, reduceCtorEq, Nat.reduceAdd, b2, q_in (show m < 6 by omega), q_clamp (show m < 100000 by omega), m6 (yo_or t) t hV hY hRV hR (show m < 6 by omega) (show e ≤ 2 by omega) (ym_er hV hm), upN_id]
    cases hb : soA A R (upN (ykd A) m e) (yer A) with
    | true =>
      have er := msk_t (f := fun e => soA A R (upN (ykd A) m e) (yer A)) (n := e) hb
      simp only [bI, if_true, fs78_44, fs78_47, fs78_48, fs78_49, fs78_50, fs78_51, fs78_52, fs78_53, fs78_56, fj_OB, fj_AR, fj_CI, q_zo0, q_zo1, Option.toList_some, Option.toList_none, List.cons_append, List.nil_append, true_and, and_true, true_or, if_true, if_false, q_l10, q_l01, eq_self, Int32.reduceLT, Int32.reduceLE, Int32.reduceAdd, Int32.reduceSub, fj_up_at, Nat.reduceEqDiff, false_and, and_false, and_self, reduceCtorEq, Nat.reduceAdd, q_shl e (by omega), q_or, nI_1, ← er]
      exact ih (e + 1) (by omega)
    | false =>
      have er := msk_f (f := fun e => soA A R (upN (ykd A) m e) (yer A)) (n := e) hb
      simp only [bI, Bool.false_eq_true, if_false, fs78_44, fs78_53, fs78_56, fj_OB, fj_AR, fj_CI, q_zo0, q_zo1, Option.toList_some, Option.toList_none, List.cons_append, List.nil_append, true_and, and_true, true_or, if_true, if_false, q_l10, q_l01, eq_self, Int32.reduceLT, Int32.reduceLE, Int32.reduceAdd, Int32.reduceSub, fj_up_at, Nat.reduceEqDiff, false_and, and_false, and_self, reduceCtorEq, Nat.reduceAdd, nI_1, ← er]
      exact ih (e + 1) (by omega)
theorem yV_yKd {A : fj_Yd} (hV : fj_YV A) {m v : Nat} (hv : v ≤ 2) : fj_YV (yKd A (upN (ykd A) m v)) := by
  obtain ⟨v0, v1, v2, v3, v4, v5, v6, v7⟩ := hV
  refine ⟨v0, v1, v2, fun x hx => ?_, v4, v5, v6, v7⟩
  obtain ⟨c1, c2, c3⟩ := v3 x hx
  refine ⟨?_, c2, c3⟩
  show upN (ykd A) m v x ≤ 2
  unfold upN
  by_cases e : x = m
  · rw [if_pos e]; exact hv
  · rw [if_neg e]; exact c1
theorem m146_loop {t : Bool} {A : fj_Yd} (hV : fj_YV A) {M : fj_HM} (hY : fj_YM M A) {R : fj_Rd} (hRV : fj_RV A R) (hR : fj_RM M R) {m : Nat} (hm : m < yn A) {Q : fj_Po} : ∀ (k e : Nat) (M' : fj_HM), e + k = 3 → (∀ o j, ¬ (o = 35 ∧ j = m) → M' o j = M o j) → fj_H none 146 22 [.ref 33, .int (nI m), .int (nI (ykd A m)), .int (nI (msk (fun e => soA A R (upN (ykd A) m e) (yer A)) e)), .int (nI e)] [] M' (fj_PY t) 53 7835 Q = Q (some (.int (nI (msk (fun e => soA A R (upN (ykd A) m e) (yer A)) 3)))) M (fj_PY t) 53 7835 := by
  have hn := yn_le hV
  obtain ⟨b1, b2, b3⟩ := hY.2.2.2.2.2.2.2.2.1 m hm
  intro k
  induction k with
  | zero =>
    intro e M' hk hM
    have he : e = 3 := by omega
    subst he
    have z : fj_up M' 35 m (nI (ykd A m)) = M := by
      funext o j
      rw [fj_up_at]
      by_cases c : o = 35 ∧ j = m
      · rw [if_pos c, c.1, c.2]; exact b1.symm
      · rw [if_neg c]; exact hM o j c
    rw [fs146_22]
    simp only [fs146_24, fs146_25, fj_OB, fj_AR, fj_CI, q_zo0, q_zo1, Option.toList_some, Option.toList_none, List.cons_append, List.nil_append, true_and, and_true, true_or, if_true, if_false, q_l10, q_l01, eq_self, Int32.reduceLT, Int32.reduceLE, Int32.reduceAdd, Int32.reduceSub, fj_up_at, Nat.reduceEqDiff, false_and, and_false, and_self, reduceCtorEq, Nat.reduceAdd, show ((3 : Int32) ≤ nI 3) = True from eq_true (by decide)]
    simp only [fs146_60, fs146_61, fs146_64, fs146_65, fs146_66, fs146_67, fs146_68, fj_PV t, fj_OB, fj_AR, fj_CI, q_zo0, q_zo1, Option.toList_some, Option.toList_none, List.cons_append, List.nil_append, true_and, and_true, true_or, if_true, if_false, q_l10, q_l01, eq_self, Int32.reduceLT, Int32.reduceLE, Int32.reduceAdd, Int32.reduceSub, fj_up_at, Nat.reduceEqDiff, false_and, and_false, and_self, reduceCtorEq, Nat.reduceAdd, q_in (show m < 6 by omega), q_clamp (show m < 100000 by omega), z]
  | succ k ih =>
    intro e M' hk hM
    have e5 : ((3 : Int32) ≤ nI e) = False := eq_false (by rw [show (3 : Int32) = nI 3 from rfl, q_le (by decide) (by omega)]; omega)
    have hM2 : ∀ o j, ¬ (o = 35 ∧ j = m) → fj_up M' 35 m (nI e) o j = M o j := fun o j c => by rw [fj_up_at, if_neg c]; exact hM o j c
    have hY2 : fj_YM (fj_up M' 35 m (nI e)) (yKd A (upN (ykd A) m e)) := by
      obtain ⟨d0, d1, d2, d3, d4, d5, d6, d7, d8, d9⟩ := hY
      refine ⟨(hM2 _ _ (by omega)).trans d0, (hM2 _ _ (by omega)).trans d1, (hM2 _ _ (by omega)).trans d2, (hM2 _ _ (by omega)).trans d3, (hM2 _ _ (by omega)).trans d4, (hM2 _ _ (by omega)).trans d5, (hM2 _ _ (by omega)).trans d6, fun c hc => (hM2 _ _ (by omega)).trans (d7 c hc), fun x hx => ?_, fun x hx => (hM2 _ _ (by omega)).trans (d9 x hx)⟩
      obtain ⟨c1, c2, c3⟩ := d8 x hx
      refine ⟨?_, (hM2 _ _ (by omega)).trans c2, (hM2 _ _ (by omega)).trans c3⟩
      show fj_up M' 35 m (nI e) 35 x = nI (upN (ykd A) m e x)
      unfold upN
      by_cases c : x = m
      · rw [if_pos c, fj_up_at, if_pos ⟨rfl, c⟩]
      · rw [if_neg c, hM2 _ _ (fun z => c z.2)]; exact c1
    have hR2 : fj_RM (fj_up M' 35 m (nI e)) R := by
      refine ⟨(hM2 _ _ (by omega)).trans hR.1, fun x hx => ?_⟩
      obtain ⟨c1, c2, c3⟩ := hR.2 x hx
      exact ⟨(hM2 _ _ (by omega)).trans c1, (hM2 _ _ (by omega)).trans c2, (hM2 _ _ (by omega)).trans c3⟩
    have hRV2 : fj_RV (yKd A (upN (ykd A) m e)) R := hRV
    have hso : soA (yKd A (upN (ykd A) m e)) R (ykd (yKd A (upN (ykd A) m e))) (yer (yKd A (upN (ykd A) m e))) = soA A R (upN (ykd A) m e) (yer A) := rfl
    rw [fs146_22]
    simp only [fs146_24, fs146_25, fj_OB, fj_AR, fj_CI, q_zo0, q_zo1, Option.toList_some, Option.toList_none, List.cons_append, List.nil_append, true_and, and_true, true_or, if_true, if_false, q_l10, q_l01, eq_self, Int32.reduceLT, Int32.reduceLE, Int32.reduceAdd, Int32.reduceSub, fj_up_at, Nat.reduceEqDiff, false_and, and_false, and_self, reduceCtorEq, Nat.reduceAdd, e5]
    simp only [fs146_28, fs146_29, fs146_32, fs146_33, fs146_35, fs146_36, fs146_37, fs146_38, fj_PV t, fj_OB, fj_AR, fj_CI, q_zo0, q_zo1, Option.toList_some, Option.toList_none, List.cons_append, List.nil_append, true_and, and_true, true_or, if_true, if_false, q_l10, q_l01, eq_self, Int32.reduceLT, Int32.reduceLE, Int32.reduceAdd, Int32.reduceSub, fj_up_at, Nat.reduceEqDiff, false_and, and_false, and_self, reduceCtorEq, Nat.reduceAdd, q_in (show m < 6 by omega), q_clamp (show m < 100000 by omega), m143 (yV_yKd hV (show e ≤ 2 by omega)) hY2 hRV2 hR2, hso]
    cases hb : soA A R (upN (ykd A) m e) (yer A) with
    | true =>
      have er := msk_t (f := fun e => soA A R (upN (ykd A) m e) (yer A)) (n := e) hb
      simp only [bI, if_true, fs146_41, fs146_44, fs146_45, fs146_47, fs146_48, fs146_52, fs146_53, fs146_54, fs146_57, fj_OB, fj_AR, fj_CI, q_zo0, q_zo1, Option.toList_some, Option.toList_none, List.cons_append, List.nil_append, true_and, and_true, true_or, if_true, if_false, q_l10, q_l01, eq_self, Int32.reduceLT, Int32.reduceLE, Int32.reduceAdd, Int32.reduceSub, fj_up_at, Nat.reduceEqDiff, false_and, and_false, and_self, reduceCtorEq, Nat.reduceAdd, q_shl e (by omega), q_or, nI_1, ← er]
      exact ih (e + 1) _ (by omega) hM2
    | false =>
      have er := msk_f (f := fun e => soA A R (upN (ykd A) m e) (yer A)) (n := e) hb
      simp only [bI, Bool.false_eq_true, if_false, fs146_41, fs146_51, fs146_52, fs146_53, fs146_54, fs146_57, fj_OB, fj_AR, fj_CI, q_zo0, q_zo1, Option.toList_some, Option.toList_none, List.cons_append, List.nil_append, true_and, and_true, true_or, if_true, if_false, q_l10, q_l01, eq_self, Int32.reduceLT, Int32.reduceLE, Int32.reduceAdd, Int32.reduceSub, fj_up_at, Nat.reduceEqDiff, false_and, and_false, and_self, reduceCtorEq, Nat.reduceAdd, k_or0, nI_1, ← er]
      exact ih (e + 1) _ (by omega) hM2
theorem pr_kinds {t : Bool} {M : fj_HM} (h : fj_Iv t M) (v : Int32) : fj_pr isI t M 78 [.ref 0, .int v, .null, .null] 146 [.ref 33, .int v, .null, .null, .null] := by
  obtain ⟨A, R, h⟩ := h
  obtain ⟨hV, hC, hM, hRV, hRC, hRM, -⟩ := id h
  have hn := yn_le hV
  have h4 := hM.2.2.1
  unfold fj_pr
  rcases q_place (n := yn A) (by omega) v with e | ⟨e, e'⟩ | ⟨m, hm, rfl, e, e'⟩
  · simp only [fs78_0, fs78_1, fs78_4, fs78_5, fs78_8, fs78_11, fs78_12, fs146_0, fs146_1, fs146_2, fs146_5, fs146_8, fs146_9, m42 (yo_or t), m106 (show yn A < 100000 by omega) h4, fj_PV t, fj_YO (yo_or t) t, fj_OB, fj_AR, fj_CI, q_zo0, q_zo1, Option.toList_some, Option.toList_none, List.cons_append, List.nil_append, true_and, and_true, true_or, if_true, if_false, q_l10, q_l01, eq_self, Int32.reduceLT, Int32.reduceLE, Int32.reduceAdd, Int32.reduceSub, fj_up_at, Nat.reduceEqDiff, false_and, and_false, and_self, reduceCtorEq, Nat.reduceAdd, hC.2.1, e]
    exact fj_fin_i h _
  · simp only [fs78_0, fs78_1, fs78_4, fs78_5, fs78_8, fs78_11, fs78_12, fs146_0, fs146_1, fs146_2, fs146_5, fs146_8, fs146_9, m42 (yo_or t), m106 (show yn A < 100000 by omega) h4, fj_PV t, fj_YO (yo_or t) t, fj_OB, fj_AR, fj_CI, q_zo0, q_zo1, Option.toList_some, Option.toList_none, List.cons_append, List.nil_append, true_and, and_true, true_or, if_true, if_false, q_l10, q_l01, eq_self, Int32.reduceLT, Int32.reduceLE, Int32.reduceAdd, Int32.reduceSub, fj_up_at, Nat.reduceEqDiff, false_and, and_false, and_self, reduceCtorEq, Nat.reduceAdd, hC.2.1, e, e']
    exact fj_fin_i h _
  · obtain ⟨b1, b2, b3⟩ := hM.2.2.2.2.2.2.2.2.1 m hm
    have l1 := fun Q => m78_loop (t := t) hV hC hRV hRC hm (Q := Q) 3 0 rfl
    have l2 := fun Q => m146_loop (t := t) hV hM hRV hRM hm (Q := Q) 3 0 M rfl (fun _ _ _ => rfl)
    have e0 : nI (msk (fun e => soA A R (upN (ykd A) m e) (yer A)) 0) = 0 := rfl
    rw [e0] at l1 l2
    simp only [fs78_0, fs78_1, fs78_4, fs78_5, fs78_8, fs78_13, fs78_14, fs78_15, fs78_16, m42 (yo_or t), fj_PV t, fj_YO (yo_or t) t, fj_OB, fj_AR, fj_CI, q_zo0, q_zo1, Option.toList_some, Option.toList_none, List.cons_append, List.nil_append, true_and, and_true, true_or, if_true, if_false, q_l10, q_l01, eq_self, Int32.reduceLT, Int32.reduceLE, Int32.reduceAdd, Int32.reduceSub, fj_up_at, Nat.reduceEqDiff, false_and, and_false, and_self, reduceCtorEq, Nat.reduceAdd, hC.2.1, e, e']
    have l1' := l1 (fun r1 M1 P1 c1 z1 => c1 = 53 ∧ z1 = 7835 ∧ fj_H none 146 0 [.ref 33, .int (nI m), .null, .null, .null] [] M1 P1 53 7835 (fj_fin isI r1))
    rw [show nI 0 = 0 from rfl] at l1' l2
    refine l1'.mpr ?_
    refine ⟨rfl, rfl, ?_⟩
    simp only [fs146_0, fs146_1, fs146_2, fs146_5, fs146_10, fs146_11, fs146_14, fs146_15, fs146_16, fs146_17, fs146_18, fs146_19, fs146_20, m106 (show yn A < 100000 by omega) h4, fj_PV t, fj_OB, fj_AR, fj_CI, q_zo0, q_zo1, Option.toList_some, Option.toList_none, List.cons_append, List.nil_append, true_and, and_true, true_or, if_true, if_false, q_l10, q_l01, eq_self, Int32.reduceLT, Int32.reduceLE, Int32.reduceAdd, Int32.reduceSub, fj_up_at, Nat.reduceEqDiff, false_and, and_false, and_self, reduceCtorEq, Nat.reduceAdd, e, e', q_in (show m < 6 by omega), q_clamp (show m < 100000 by omega), b1]
    refine (l2 _).mpr ?_
    exact fj_fin_i h _
