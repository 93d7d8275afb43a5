/-! ===== pairs: most ===== -/
def bsum : Nat → Nat → Nat
  | 0, _ => 0
  | k + 1, v => v % 2 + bsum k (v / 2)
theorem bsum_le : ∀ k v, bsum k v ≤ k
  | 0, _ => Nat.le_refl 0
  | k + 1, v => by
    have := bsum_le k (v / 2)
    show v % 2 + bsum k (v / 2) ≤ k + 1
    omega
theorem bsum_0 : ∀ k, bsum k 0 = 0
  | 0 => rfl
  | k + 1 => by
    show 0 % 2 + bsum k (0 / 2) = 0
    rw [show 0 / 2 = 0 from rfl, bsum_0 k]
theorem bsum_6 (v : Nat) : bsum 6 v = popc v := by
  show v % 2 + (v / 2 % 2 + (v / 2 / 2 % 2 + (v / 2 / 2 / 2 % 2 + (v / 2 / 2 / 2 / 2 % 2 + (v / 2 / 2 / 2 / 2 / 2 % 2 + 0))))) = v % 2 + v / 2 % 2 + v / 4 % 2 + v / 8 % 2 + v / 16 % 2 + v / 32 % 2
  omega
theorem m100_loop {M : fj_HM} {P : fj_HP} {a0 : Value} {Q : fj_Po} : ∀ (k v acc : Nat), v < 2 ^ k → k ≤ 6 → fj_H none 100 4 [a0, .int (nI acc), .int (nI v)] [] M P 53 7835 Q = Q (some (.int (nI (acc + bsum k v)))) M P 53 7835 := by
  intro k
  induction k with
  | zero =>
    intro v acc hv hk
    have hv0 : v = 0 := by
      have : v < 1 := hv
      omega
    subst hv0
    rw [fs100_4]
    simp only [fs100_5, fs100_21, fs100_22, fj_OB, fj_AR, fj_CI, q_zo0, q_zo1, Option.toList_some, Option.toList_none, List.cons_append, List.nil_append, true_and, and_true, true_or, if_true, if_false, q_l10, q_l01, eq_self, Int32.reduceLT, Int32.reduceLE, Int32.reduceAdd, Int32.reduceSub, fj_up_at, Nat.reduceEqDiff, false_and, and_false, and_self, reduceCtorEq, Nat.reduceAdd, show (nI 0 ≤ 0) = True from eq_true (by decide)]
    rfl
  | succ k ih =>
    intro v acc hv hk
    have hp : 2 ^ (k + 1) ≤ 64 := p2_le hk
    have e0 : (nI v ≤ 0) = (v ≤ 0) := by rw [q_0]; exact q_le (by omega) (by decide)
    rw [fs100_4]
    simp only [fs100_5, fj_OB, fj_AR, fj_CI, q_zo0, q_zo1, Option.toList_some, Option.toList_none, List.cons_append, List.nil_append, true_and, and_true, true_or, if_true, if_false, q_l10, q_l01, eq_self, Int32.reduceLT, Int32.reduceLE, Int32.reduceAdd, Int32.reduceSub, fj_up_at, Nat.reduceEqDiff, false_and, and_false, and_self, reduceCtorEq, Nat.reduceAdd, e0]
    by_cases h : v ≤ 0
    · rw [if_pos h]
      have hv0 : v = 0 := by omega
      subst hv0
      simp only [fs100_21, fs100_22, fj_OB, fj_AR, fj_CI, q_zo0, q_zo1, Option.toList_some, Option.toList_none, List.cons_append, List.nil_append, true_and, and_true, true_or, if_true, if_false, q_l10, q_l01, eq_self, Int32.reduceLT, Int32.reduceLE, Int32.reduceAdd, Int32.reduceSub, fj_up_at, Nat.reduceEqDiff, false_and, and_false, and_self, reduceCtorEq, Nat.reduceAdd, bsum_0, Nat.add_zero]
    · rw [if_neg h]
      have e1 : nI v &&& (1 : Int32) = nI (v % 2) := by rw [q_1, q_and, Nat.and_one_is_mod]
      have e2 : nI v >>> ((1 : Int32) &&& 31) = nI (v / 2) := by
        have := q_shr (a := v) (m := 1) (by omega) (by decide)
        rw [show (nI 1) = (1 : Int32) from rfl] at this
        exact this
      simp only [fs100_8, fs100_9, fs100_10, fs100_11, fs100_12, fs100_13, fs100_14, fs100_15, fs100_16, fs100_17, fs100_18, fj_OB, fj_AR, fj_CI, q_zo0, q_zo1, Option.toList_some, Option.toList_none, List.cons_append, List.nil_append, true_and, and_true, true_or, if_true, if_false, q_l10, q_l01, eq_self, Int32.reduceLT, Int32.reduceLE, Int32.reduceAdd, Int32.reduceSub, fj_up_at, Nat.reduceEqDiff, false_and, and_false, and_self, reduceCtorEq, Nat.reduceAdd, e1, e2, nI_add]
      have hlt : v / 2 < 2 ^ k := by
        rw [Nat.pow_succ] at hv
        omega
      rw [ih (v / 2) (acc + v % 2) hlt (by omega)]
      show Q (some (.int (nI (acc + v % 2 + bsum k (v / 2))))) M P 53 7835 = Q (some (.int (nI (acc + (v % 2 + bsum k (v / 2)))))) M P 53 7835
      rw [Nat.add_assoc]
theorem m100 {v : Nat} (hv : v < 64) {M : fj_HM} {P : fj_HP} {Q : fj_Po} : fj_H none 100 0 [.int (nI v), .null, .null] [] M P 53 7835 Q = Q (some (.int (nI (popc v)))) M P 53 7835 := by
  have l := m100_loop (M := M) (P := P) (a0 := .int (nI v)) (Q := Q) 6 v 0 hv (by decide)
  rw [Nat.zero_add, bsum_6, show nI 0 = 0 from rfl] at l
  simp only [fs100_0, fs100_1, fs100_2, fs100_3, fj_OB, fj_AR, fj_CI, q_zo0, q_zo1, Option.toList_some, Option.toList_none, List.cons_append, List.nil_append, true_and, and_true, true_or, if_true, if_false, q_l10, q_l01, eq_self, Int32.reduceLT, Int32.reduceLE, Int32.reduceAdd, Int32.reduceSub, fj_up_at, Nat.reduceEqDiff, false_and, and_false, and_self, reduceCtorEq, Nat.reduceAdd]
  exact l
theorem m139_loop {t : Bool} {A : fj_Yd} (hV : fj_YV A) (hc : 0 < yc A) (hcn : 1 ≤ ycn A) {M : fj_HM} (hY : fj_YM M A) {F : Nat → Nat} (hF : sB M F) (hX : sFix A (2 ^ yn A - 1) F) {L : Nat → Option Nat} (hL : ∀ set, set ≤ 2 ^ yn A - 1 → sMin A (2 ^ yn A - 1) set (L set)) {Q : fj_Po} (hQ : Q (some (.int (nI (lgGo (inT L (ysg A)) (2 ^ yn A))))) M (fj_PY t) 53 7835) : ∀ (k set : Nat) (d : Value), set + k = 2 ^ yn A → fj_H none 139 22 [.ref 33, .int (nI (lgGo (inT L (ysg A)) set)), .int (nI set), d] [] M (fj_PY t) 53 7835 Q := by
  have hn := yn_le hV
  have h64 := p2_le hn
  have hpw := Nat.two_pow_pos (yn A)
  have hsg : ysg A ≤ 99 := hV.2.2.2.2.2.2.2
  have h4 := hY.2.2.1
  intro k
  induction k with
  | zero =>
    intro set d hk
    have hs : set = 2 ^ yn A := by omega
    subst hs
    rw [fs139_22]
    simp only [fs139_23, fs139_24, fs139_27, fj_PV t, fj_OB, fj_AR, fj_CI, q_zo0, q_zo1, Option.toList_some, Option.toList_none, List.cons_append, List.nil_append, true_and, and_true, true_or, if_true, if_false, q_l10, q_l01, eq_self, Int32.reduceLT, Int32.reduceLE, Int32.reduceAdd, Int32.reduceSub, fj_up_at, Nat.reduceEqDiff, false_and, and_false, and_self, reduceCtorEq, Nat.reduceAdd, m107 hn h4, q_lt (show 2 ^ yn A - 1 < 100000 by omega) (show 2 ^ yn A < 100000 by omega), eq_true (show 2 ^ yn A - 1 < 2 ^ yn A by omega)]
    simp only [fs139_82, fs139_83, fj_OB, fj_AR, fj_CI, q_zo0, q_zo1, Option.toList_some, Option.toList_none, List.cons_append, List.nil_append, true_and, and_true, true_or, if_true, if_false, q_l10, q_l01, eq_self, Int32.reduceLT, Int32.reduceLE, Int32.reduceAdd, Int32.reduceSub, fj_up_at, Nat.reduceEqDiff, false_and, and_false, and_self, reduceCtorEq, Nat.reduceAdd]
    exact hQ
  | succ k ih =>
    intro set d hk
    have hlg := lgGo_lt (inT L (ysg A)) set
    have hset : set < 2 ^ yn A := by omega
    have eL : lgGo (inT L (ysg A)) (set + 1) = if inT L (ysg A) set = true ∧ popc (lgGo (inT L (ysg A)) set) < popc set then set else lgGo (inT L (ysg A)) set := rfl
    have p1 := popc_le set
    have p2 := popc_le (lgGo (inT L (ysg A)) set)
    have nxt : ∀ b : Bool, (b = true ↔ inT L (ysg A) set = true ∧ popc (lgGo (inT L (ysg A)) set) < popc set) → fj_H none 139 65 [.ref 33, .int (nI (lgGo (inT L (ysg A)) set)), .int (nI set), d] [.int (bI b)] M (fj_PY t) 53 7835 Q := by
      intro b hb
      have r := ih (set + 1)
      rw [eL] at r
      cases b with
      | true =>
        rw [if_pos (hb.mp rfl)] at r
        simp only [fs139_65, fs139_66, fs139_67, fs139_70, fs139_71, fs139_75, fs139_76, fs139_79, fj_OB, fj_AR, fj_CI, q_zo0, q_zo1, Option.toList_some, Option.toList_none, List.cons_append, List.nil_append, true_and, and_true, true_or, if_true, if_false, q_l10, q_l01, eq_self, Int32.reduceLT, Int32.reduceLE, Int32.reduceAdd, Int32.reduceSub, fj_up_at, Nat.reduceEqDiff, false_and, and_false, and_self, reduceCtorEq, Nat.reduceAdd, show (bI true = 0) = False from eq_false (by decide), nI_1]
        exact r _ (by omega)
      | false =>
        rw [if_neg (fun z => by have := hb.mpr z; cases this)] at r
        simp only [fs139_65, fs139_66, fs139_67, fs139_74, fs139_75, fs139_76, fs139_79, fj_OB, fj_AR, fj_CI, q_zo0, q_zo1, Option.toList_some, Option.toList_none, List.cons_append, List.nil_append, true_and, and_true, true_or, if_true, if_false, q_l10, q_l01, eq_self, Int32.reduceLT, Int32.reduceLE, Int32.reduceAdd, Int32.reduceSub, fj_up_at, Nat.reduceEqDiff, false_and, and_false, and_self, reduceCtorEq, Nat.reduceAdd, show (bI false = 0) = True from eq_true rfl, nI_1]
        exact r _ (by omega)
    rw [fs139_22]
    simp only [fs139_23, fs139_24, fs139_27, fj_PV t, fj_OB, fj_AR, fj_CI, q_zo0, q_zo1, Option.toList_some, Option.toList_none, List.cons_append, List.nil_append, true_and, and_true, true_or, if_true, if_false, q_l10, q_l01, eq_self, Int32.reduceLT, Int32.reduceLE, Int32.reduceAdd, Int32.reduceSub, fj_up_at, Nat.reduceEqDiff, false_and, and_false, and_self, reduceCtorEq, Nat.reduceAdd, m107 hn h4, q_lt (show 2 ^ yn A - 1 < 100000 by omega) (show set < 100000 by omega), eq_false (show ¬ 2 ^ yn A - 1 < set by omega)]
    simp only [fs139_30, fs139_31, fs139_34, fs139_35, fs139_38, fj_PV t, fj_OB, fj_AR, fj_CI, q_zo0, q_zo1, Option.toList_some, Option.toList_none, List.cons_append, List.nil_append, true_and, and_true, true_or, if_true, if_false, q_l10, q_l01, eq_self, Int32.reduceLT, Int32.reduceLE, Int32.reduceAdd, Int32.reduceSub, fj_up_at, Nat.reduceEqDiff, false_and, and_false, and_self, reduceCtorEq, Nat.reduceAdd, m100 (show set < 64 by omega), m100 (show lgGo (inT L (ysg A)) set < 64 by omega), q_le (show popc set < 100000 by omega) (show popc (lgGo (inT L (ysg A)) set) < 100000 by omega)]
    by_cases hb : popc set ≤ popc (lgGo (inT L (ysg A)) set)
    · rw [if_pos hb]
      simp only [fs139_64, fj_OB, fj_AR, fj_CI, q_zo0, q_zo1, Option.toList_some, Option.toList_none, List.cons_append, List.nil_append, true_and, and_true, true_or, if_true, if_false, q_l10, q_l01, eq_self, Int32.reduceLT, Int32.reduceLE, Int32.reduceAdd, Int32.reduceSub, fj_up_at, Nat.reduceEqDiff, false_and, and_false, and_self, reduceCtorEq, Nat.reduceAdd]
      exact nxt false ⟨fun z => (by cases z), fun z => absurd z.2 (by omega)⟩
    · rw [if_neg hb]
      have hst : sdf (2 ^ yn A - 1) set < 64 := Nat.lt_of_lt_of_le (sdf_lt (show 2 ^ yn A - 1 < 2 ^ yn A by omega)) h64
      have hsub : sdf (sdf (2 ^ yn A - 1) set) (2 ^ yn A - 1) = 0 := sdf_sub (sdf_self _)
      have hdd : sdf (2 ^ yn A - 1) (sdf (2 ^ yn A - 1) set) = set := sdf_all hset
      simp only [fs139_41, fs139_42, fs139_43, fs139_46, fs139_47, fs139_48, fs139_49, fs139_50, m107 hn h4, fj_PV t, fj_OB, fj_AR, fj_CI, q_zo0, q_zo1, Option.toList_some, Option.toList_none, List.cons_append, List.nil_append, true_and, and_true, true_or, if_true, if_false, q_l10, q_l01, eq_self, Int32.reduceLT, Int32.reduceLE, Int32.reduceAdd, Int32.reduceSub, fj_up_at, Nat.reduceEqDiff, false_and, and_false, and_self, reduceCtorEq, Nat.reduceAdd, q_sdf]
      refine m136 hF hst (fun W hW => ?_)
      obtain ⟨s1, s2⟩ := s_W hV hc hcn (show 2 ^ yn A - 1 < 2 ^ yn A by omega) (fun i hi => (hF i hi).2) hX hsub hW (o := L set) (by rw [hdd]; exact hL set (by omega))
      have hW9 := hW.1
      have hin : inT L (ysg A) set = true ↔ W ≤ ysg A := by
        unfold inT
        cases hL2 : L set with
        | none =>
          have := s1 hL2
          exact ⟨(fun z => (by cases z)), (fun z => absurd z (by omega))⟩
        | some v =>
          obtain ⟨e1, e2⟩ := s2 v hL2
          rw [e1]
          exact ⟨fun z => of_decide_eq_true z, fun z => decide_eq_true z⟩
      simp only [fs139_53, fs139_54, fs139_57, fj_PV t, fj_OB, fj_AR, fj_CI, q_zo0, q_zo1, Option.toList_some, Option.toList_none, List.cons_append, List.nil_append, true_and, and_true, true_or, if_true, if_false, q_l10, q_l01, eq_self, Int32.reduceLT, Int32.reduceLE, Int32.reduceAdd, Int32.reduceSub, fj_up_at, Nat.reduceEqDiff, false_and, and_false, and_self, reduceCtorEq, Nat.reduceAdd, hY.2.2.2.2.2.2.1, q_lt (show ysg A < 100000 by omega) (show W < 100000 by omega)]
      by_cases hw : ysg A < W
      · rw [if_pos hw]
        simp only [fs139_64, fj_OB, fj_AR, fj_CI, q_zo0, q_zo1, Option.toList_some, Option.toList_none, List.cons_append, List.nil_append, true_and, and_true, true_or, if_true, if_false, q_l10, q_l01, eq_self, Int32.reduceLT, Int32.reduceLE, Int32.reduceAdd, Int32.reduceSub, fj_up_at, Nat.reduceEqDiff, false_and, and_false, and_self, reduceCtorEq, Nat.reduceAdd]
        exact nxt false ⟨fun z => (by cases z), fun z => absurd (hin.mp z.1) (by omega)⟩
      · rw [if_neg hw]
        simp only [fs139_60, fs139_61, fj_OB, fj_AR, fj_CI, q_zo0, q_zo1, Option.toList_some, Option.toList_none, List.cons_append, List.nil_append, true_and, and_true, true_or, if_true, if_false, q_l10, q_l01, eq_self, Int32.reduceLT, Int32.reduceLE, Int32.reduceAdd, Int32.reduceSub, fj_up_at, Nat.reduceEqDiff, false_and, and_false, and_self, reduceCtorEq, Nat.reduceAdd]
        exact nxt true ⟨fun _ => ⟨hin.mpr (by omega), by omega⟩, fun _ => rfl⟩
theorem pr_most {t : Bool} {M : fj_HM} (h : fj_Iv t M) : fj_pr isI t M 72 [.ref 0] 139 [.ref 33, .null, .null, .null] := by
  obtain ⟨A, R, h⟩ := h
  obtain ⟨hV, hC, hM, -, -, -, -, hB, -⟩ := id h
  have hy := yo_or t
  have hn := yn_le hV
  have h64 := p2_le hn
  have hpw := Nat.two_pow_pos (yn A)
  have hsg : ysg A ≤ 99 := hV.2.2.2.2.2.2.2
  unfold fj_pr
  rcases yd_st hV with ⟨s1, s2, s3, s4, s5, s6⟩ | ⟨s1, s2, s3, s4⟩
  · simp only [fs72_0, fs72_1, fs72_4, fs72_7, fs72_10, fs72_12, fs139_0, fs139_1, fs139_4, fs139_7, fs139_9, m40 (yo_or t), fj_PV t, fj_YO (yo_or t) t, fj_OB, fj_AR, fj_CI, q_zo0, q_zo1, Option.toList_some, Option.toList_none, List.cons_append, List.nil_append, true_and, and_true, true_or, if_true, if_false, q_l10, q_l01, eq_self, Int32.reduceLT, Int32.reduceLE, Int32.reduceAdd, Int32.reduceSub, fj_up_at, Nat.reduceEqDiff, false_and, and_false, and_self, reduceCtorEq, Nat.reduceAdd, hC.1, hM.1, s3, s4]
    exact fj_fin_i h _
  · simp only [fs72_0, fs72_1, fs72_4, fs72_7, fs72_13, fs72_14, fs72_17, fs72_18, fs72_21, fs72_22, fs72_25, fs72_28, m40 (yo_or t), fj_PV t, fj_YO (yo_or t) t, fj_OB, fj_AR, fj_CI, q_zo0, q_zo1, Option.toList_some, Option.toList_none, List.cons_append, List.nil_append, true_and, and_true, true_or, if_true, if_false, q_l10, q_l01, eq_self, Int32.reduceLT, Int32.reduceLE, Int32.reduceAdd, Int32.reduceSub, fj_up_at, Nat.reduceEqDiff, false_and, and_false, and_self, reduceCtorEq, Nat.reduceAdd, hC.1, hC.2.2.2.2.2.1, s3]
    refine m10 (yo_or t) t hV s1 s2 (w := ysg A) (by omega) hC (hB _ hy) (fun M1 L p1 p2 => ?_)
    simp only [fs72_31, fj_OB, fj_AR, fj_CI, q_zo0, q_zo1, Option.toList_some, Option.toList_none, List.cons_append, List.nil_append, true_and, and_true, true_or, if_true, if_false, q_l10, q_l01, eq_self, Int32.reduceLT, Int32.reduceLE, Int32.reduceAdd, Int32.reduceSub, fj_up_at, Nat.reduceEqDiff, false_and, and_false, and_self, reduceCtorEq, Nat.reduceAdd]
    have hM1 : fj_YM M1 A := fj_YM_cg (fun o b1 b2 => p1 o (by omega) (by omega) (by omega)) (fun k b1 b2 => by rw [p1 33 (by decide) (by decide) (by decide)]) hM
    simp only [fs139_0, fs139_1, fs139_4, fs139_10, fs139_11, fs139_12, fs139_15, m107 hn hM1.2.2.1, fj_PV t, fj_OB, fj_AR, fj_CI, q_zo0, q_zo1, Option.toList_some, Option.toList_none, List.cons_append, List.nil_append, true_and, and_true, true_or, if_true, if_false, q_l10, q_l01, eq_self, Int32.reduceLT, Int32.reduceLE, Int32.reduceAdd, Int32.reduceSub, fj_up_at, Nat.reduceEqDiff, false_and, and_false, and_self, reduceCtorEq, Nat.reduceAdd, hM1.1, s4]
    refine m135 hV s1 (show 2 ^ yn A - 1 < 2 ^ yn A by omega) hM1 (fun M2 F q1 q2 q3 => ?_)
    have hM2 : fj_YM M2 A := fj_YM_cg (fun o b1 b2 => q1 o (by omega)) (fun k b1 b2 => by rw [q1 33 (by decide)]) hM1
    simp only [fs139_18, fs139_19, fs139_20, fs139_21, fj_OB, fj_AR, fj_CI, q_zo0, q_zo1, Option.toList_some, Option.toList_none, List.cons_append, List.nil_append, true_and, and_true, true_or, if_true, if_false, q_l10, q_l01, eq_self, Int32.reduceLT, Int32.reduceLE, Int32.reduceAdd, Int32.reduceSub, fj_up_at, Nat.reduceEqDiff, false_and, and_false, and_self, reduceCtorEq, Nat.reduceAdd]
    have lp := m139_loop (t := t) hV s1 s2 hM2 q2 q3 p2 (Q := fj_fin isI (some (.int (nI (lgGo (inT L (ysg A)) (2 ^ yn A)))))) (fj_fin_i (fj_In_so h p1 q1) _) (2 ^ yn A - 1) 1 .null (by omega)
    have e1 : lgGo (inT L (ysg A)) 1 = 0 := by
      show (if inT L (ysg A) 0 = true ∧ popc 0 < popc 0 then 0 else 0) = 0
      rw [if_neg (fun z => Nat.lt_irrefl _ z.2)]
    rw [e1, show nI 0 = 0 from rfl, show nI 1 = 1 from rfl] at lp
    exact lp
