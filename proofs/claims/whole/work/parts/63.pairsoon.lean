/-! ===== pairs: soonest, without ===== -/
/-- the least of the table for who stands, as far as one has looked -/
def sLw (F : Nat → Nat) (st pl can W : Nat) : Prop := W ≤ 99999 ∧ (W = 99999 ∨ ∃ a b, a < 9 ∧ b < 7 ∧ W = F (stI a st b)) ∧ ∀ a b, b < 7 → (a < pl ∨ (a = pl ∧ b < can)) → W ≤ F (stI a st b)
theorem m136_in {t : Bool} {F : Nat → Nat} {M : fj_HM} (hF : sB M F) {st pl : Nat} (hst : st < 64) (hpl : pl < 9) {Q : fj_Po} : ∀ (r can W : Nat) (d5 : Value), can + r = 7 → sLw F st pl can W → (∀ W' d5', sLw F st pl 7 W' → fj_H none 136 54 [.ref 33, .int (nI st), .int (nI W'), .int (nI pl), .int (nI 7), d5'] [] M (fj_PY t) 53 7835 Q) → fj_H none 136 14 [.ref 33, .int (nI st), .int (nI W), .int (nI pl), .int (nI can), d5] [] M (fj_PY t) 53 7835 Q := by
  intro r
  induction r with
  | zero =>
    intro can W d5 hr hW hQ
    have hc : can = 7 := by omega
    subst hc
    rw [fs136_14]
    simp only [fs136_16, fs136_18, fj_OB, fj_AR, fj_CI, q_zo0, q_zo1, Option.toList_some, Option.toList_none, List.cons_append, List.nil_append, true_and, and_true, true_or, if_true, if_false, q_l10, q_l01, eq_self, Int32.reduceLT, Int32.reduceLE, Int32.reduceAdd, Int32.reduceSub, fj_up_at, Nat.reduceEqDiff, false_and, and_false, and_self, reduceCtorEq, Nat.reduceAdd, show (7 : Int32) = nI 7 from rfl, q_le (show 7 < 100000 by decide) (show 7 < 100000 by decide), eq_true (Nat.le_refl 7)]
    exact hQ W d5 hW
  | succ r ih =>
    intro can W d5 hr hW hQ
    have hi := stI_lt hpl hst (show can < 7 by omega)
    obtain ⟨f1, f2⟩ := hF _ hi
    obtain ⟨w1, w2, w3⟩ := hW
    rw [fs136_14]
    simp only [fs136_16, fs136_18, fj_OB, fj_AR, fj_CI, q_zo0, q_zo1, Option.toList_some, Option.toList_none, List.cons_append, List.nil_append, true_and, and_true, true_or, if_true, if_false, q_l10, q_l01, eq_self, Int32.reduceLT, Int32.reduceLE, Int32.reduceAdd, Int32.reduceSub, fj_up_at, Nat.reduceEqDiff, false_and, and_false, and_self, reduceCtorEq, Nat.reduceAdd, show (7 : Int32) = nI 7 from rfl, q_le (show 7 < 100000 by decide) (show can < 100000 by omega), eq_false (show ¬ 7 ≤ can by omega)]
    simp only [fs136_21, fs136_22, fs136_25, fs136_26, fs136_27, fs136_29, fs136_32, fs136_33, fs136_35, fs136_37, fs136_38, m133, fj_PV t, fj_OB, fj_AR, fj_CI, q_zo0, q_zo1, Option.toList_some, Option.toList_none, List.cons_append, List.nil_append, true_and, and_true, true_or, if_true, if_false, q_l10, q_l01, eq_self, Int32.reduceLT, Int32.reduceLE, Int32.reduceAdd, Int32.reduceSub, fj_up_at, Nat.reduceEqDiff, false_and, and_false, and_self, reduceCtorEq, Nat.reduceAdd, q_in hi, q_clamp (show stI pl st can < 100000 by omega), f1, q_le (show W < 100000 by omega) (show F (stI pl st can) < 100000 by omega)]
    by_cases h : W ≤ F (stI pl st can)
    · rw [if_pos h]
      simp only [fs136_46, fs136_47, fs136_48, fs136_51, fj_OB, fj_AR, fj_CI, q_zo0, q_zo1, Option.toList_some, Option.toList_none, List.cons_append, List.nil_append, true_and, and_true, true_or, if_true, if_false, q_l10, q_l01, eq_self, Int32.reduceLT, Int32.reduceLE, Int32.reduceAdd, Int32.reduceSub, fj_up_at, Nat.reduceEqDiff, false_and, and_false, and_self, reduceCtorEq, Nat.reduceAdd, nI_1]
      refine ih (can + 1) W _ (by omega) ⟨w1, w2, fun a b hb hab => ?_⟩ hQ
      by_cases e : a = pl ∧ b = can
      · rw [e.1, e.2]; exact h
      · exact w3 a b hb (by omega)
    · rw [if_neg h]
      simp only [fs136_41, fs136_43, fs136_47, fs136_48, fs136_51, fj_OB, fj_AR, fj_CI, q_zo0, q_zo1, Option.toList_some, Option.toList_none, List.cons_append, List.nil_append, true_and, and_true, true_or, if_true, if_false, q_l10, q_l01, eq_self, Int32.reduceLT, Int32.reduceLE, Int32.reduceAdd, Int32.reduceSub, fj_up_at, Nat.reduceEqDiff, false_and, and_false, and_self, reduceCtorEq, Nat.reduceAdd, nI_1]
      refine ih (can + 1) (F (stI pl st can)) _ (by omega) ⟨f2, Or.inr ⟨pl, can, hpl, by omega, rfl⟩, fun a b hb hab => ?_⟩ hQ
      by_cases e : a = pl ∧ b = can
      · rw [e.1, e.2]; exact Nat.le_refl _
      · have := w3 a b hb (by omega)
        omega
theorem m136_out {t : Bool} {F : Nat → Nat} {M : fj_HM} (hF : sB M F) {st : Nat} (hst : st < 64) {Q : fj_Po} : ∀ (r pl W : Nat) (d4 d5 : Value), pl + r = 9 → sLw F st pl 0 W → (∀ W', sLw F st 9 0 W' → Q (some (.int (nI W'))) M (fj_PY t) 53 7835) → fj_H none 136 5 [.ref 33, .int (nI st), .int (nI W), .int (nI pl), d4, d5] [] M (fj_PY t) 53 7835 Q := by
  intro r
  induction r with
  | zero =>
    intro pl W d4 d5 hr hW hQ
    have hc : pl = 9 := by omega
    subst hc
    rw [fs136_5]
    simp only [fs136_6, fs136_8, fj_OB, fj_AR, fj_CI, q_zo0, q_zo1, Option.toList_some, Option.toList_none, List.cons_append, List.nil_append, true_and, and_true, true_or, if_true, if_false, q_l10, q_l01, eq_self, Int32.reduceLT, Int32.reduceLE, Int32.reduceAdd, Int32.reduceSub, fj_up_at, Nat.reduceEqDiff, false_and, and_false, and_self, reduceCtorEq, Nat.reduceAdd, show (9 : Int32) = nI 9 from rfl, q_le (show 9 < 100000 by decide) (show 9 < 100000 by decide), eq_true (Nat.le_refl 9)]
    simp only [fs136_60, fs136_61, fj_OB, fj_AR, fj_CI, q_zo0, q_zo1, Option.toList_some, Option.toList_none, List.cons_append, List.nil_append, true_and, and_true, true_or, if_true, if_false, q_l10, q_l01, eq_self, Int32.reduceLT, Int32.reduceLE, Int32.reduceAdd, Int32.reduceSub, fj_up_at, Nat.reduceEqDiff, false_and, and_false, and_self, reduceCtorEq, Nat.reduceAdd]
    exact hQ W hW
  | succ r ih =>
    intro pl W d4 d5 hr hW hQ
    rw [fs136_5]
    simp only [fs136_6, fs136_8, fj_OB, fj_AR, fj_CI, q_zo0, q_zo1, Option.toList_some, Option.toList_none, List.cons_append, List.nil_append, true_and, and_true, true_or, if_true, if_false, q_l10, q_l01, eq_self, Int32.reduceLT, Int32.reduceLE, Int32.reduceAdd, Int32.reduceSub, fj_up_at, Nat.reduceEqDiff, false_and, and_false, and_self, reduceCtorEq, Nat.reduceAdd, show (9 : Int32) = nI 9 from rfl, q_le (show 9 < 100000 by decide) (show pl < 100000 by omega), eq_false (show ¬ 9 ≤ pl by omega)]
    simp only [fs136_11, fs136_12, fj_OB, fj_AR, fj_CI, q_zo0, q_zo1, Option.toList_some, Option.toList_none, List.cons_append, List.nil_append, true_and, and_true, true_or, if_true, if_false, q_l10, q_l01, eq_self, Int32.reduceLT, Int32.reduceLE, Int32.reduceAdd, Int32.reduceSub, fj_up_at, Nat.reduceEqDiff, false_and, and_false, and_self, reduceCtorEq, Nat.reduceAdd]
    have inn := m136_in (t := t) hF hst (show pl < 9 by omega) (Q := Q) 7 0 W d5 (by decide) hW
    rw [show nI 0 = 0 from rfl] at inn
    refine inn (fun W' d5' hW' => ?_)
    simp only [fs136_54, fs136_57, fj_OB, fj_AR, fj_CI, q_zo0, q_zo1, Option.toList_some, Option.toList_none, List.cons_append, List.nil_append, true_and, and_true, true_or, if_true, if_false, q_l10, q_l01, eq_self, Int32.reduceLT, Int32.reduceLE, Int32.reduceAdd, Int32.reduceSub, fj_up_at, Nat.reduceEqDiff, false_and, and_false, and_self, reduceCtorEq, Nat.reduceAdd, nI_1]
    refine ih (pl + 1) W' _ _ (by omega) ⟨hW'.1, hW'.2.1, fun a b hb hab => hW'.2.2 a b hb (by omega)⟩ hQ
theorem m136 {t : Bool} {F : Nat → Nat} {M : fj_HM} (hF : sB M F) {st : Nat} (hst : st < 64) {Q : fj_Po} (hQ : ∀ W, sLw F st 9 0 W → Q (some (.int (nI W))) M (fj_PY t) 53 7835) : fj_H none 136 0 [.ref 33, .int (nI st), .null, .null, .null, .null] [] M (fj_PY t) 53 7835 Q := by
  simp only [fs136_0, fs136_2, fs136_3, fs136_4, fj_OB, fj_AR, fj_CI, q_zo0, q_zo1, Option.toList_some, Option.toList_none, List.cons_append, List.nil_append, true_and, and_true, true_or, if_true, if_false, q_l10, q_l01, eq_self, Int32.reduceLT, Int32.reduceLE, Int32.reduceAdd, Int32.reduceSub, fj_up_at, Nat.reduceEqDiff, false_and, and_false, and_self, reduceCtorEq, Nat.reduceAdd]
  have o := m136_out (t := t) hF hst (Q := Q) 9 0 99999 .null .null (by decide) ⟨Nat.le_refl _, Or.inl rfl, fun a b hb hab => absurd hab (by omega)⟩ hQ
  rw [show nI 0 = 0 from rfl, show nI 99999 = 99999 from rfl] at o
  exact o
/-- the least of the reference is the class's least -/
theorem s_W {A : fj_Yd} (hV : fj_YV A) (hc : 0 < yc A) (hcn : 1 ≤ ycn A) {p : Nat} (hp : p < 2 ^ yn A) {F : Nat → Nat} (h99 : ∀ i, i < 4032 → F i ≤ 99999) (hFx : sFix A p F) {st W : Nat} (hst : sdf st p = 0) (hW : sLw F st 9 0 W) {o : Option Nat} (hm : sMin A p (sdf p st) o) : (o = none → W = 99999) ∧ ∀ v, o = some v → W = v ∧ v < 99999 := by
  have hn := yn_le hV
  have h64 : p < 64 := Nat.lt_of_lt_of_le hp (p2_le hn)
  have hst64 : st < 64 := Nat.lt_of_le_of_lt (sub_le hst) h64
  obtain ⟨w1, w2, w3⟩ := hW
  obtain ⟨m1, m2⟩ := hm
  have back : W < 99999 → ∃ v'', o = some v'' ∧ v'' ≤ W := by
    intro hlt
    rcases w2 with z | ⟨a, b, ha, hb, e⟩
    · omega
    · have hr := hFx.1 a st b ha hst64 hb (by rw [← e]; exact hlt)
      rw [← e] at hr
      obtain ⟨last, left, v', s1, s2⟩ := b_s hV hcn h64 hr
      obtain ⟨v'', t1, t2⟩ := m2 last left v' s1
      exact ⟨v'', t1, Nat.le_trans t2 s2⟩
  refine ⟨fun ho => ?_, fun v ho => ?_⟩
  · by_cases hlt : W < 99999
    · obtain ⟨v'', t1, t2⟩ := back hlt
      rw [ho] at t1
      cases t1
    · omega
  · obtain ⟨last, left, hs⟩ := m1 v ho
    obtain ⟨k1, k2, k3, k4⟩ := sRch_ok hV hc hs
    obtain ⟨j1, j2⟩ := s_b hV hcn h64 hs
    rw [sdf_dbl hst] at j2
    have hset : sdf p st ≤ 63 := by
      have := sub_le k1
      omega
    have hle := sFix_le hV hp h99 hFx j2
    have hpl : plc last < 9 := by
      unfold plc
      by_cases e : last = 6
      · rw [if_pos e]; decide
      · rw [if_neg e]; omega
    have hw := w3 (plc last) left (by omega) (Or.inl hpl)
    have hlt : W < 99999 := by omega
    obtain ⟨v'', t1, t2⟩ := back hlt
    rw [ho] at t1
    cases t1
    exact ⟨by omega, by omega⟩
theorem m137 {t : Bool} {A : fj_Yd} (hV : fj_YV A) (hc : 0 < yc A) (hcn : 1 ≤ ycn A) {p : Nat} (hp : p < 2 ^ yn A) {M : fj_HM} (hY : fj_YM M A) {o : Option Nat} (hm : sMin A p p o) {Q : fj_Po} (hQ : ∀ M', (∀ o, o ≠ 45 → M' o = M o) → Q (some (.int (onI o))) M' (fj_PY t) 53 7835) : fj_H none 137 0 [.ref 33, .int (nI p), .null] [] M (fj_PY t) 53 7835 Q := by
  have z0 : sdf p 0 = p := sdf_zr p
  have zz : sdf 0 p = 0 := by
    apply nat_ext
    intro i
    rw [sdf_bit, Nat.zero_testBit]
    rfl
  simp only [fs137_0, fs137_1, fs137_2, fj_PV t, fj_OB, fj_AR, fj_CI, q_zo0, q_zo1, Option.toList_some, Option.toList_none, List.cons_append, List.nil_append, true_and, and_true, true_or, if_true, if_false, q_l10, q_l01, eq_self, Int32.reduceLT, Int32.reduceLE, Int32.reduceAdd, Int32.reduceSub, fj_up_at, Nat.reduceEqDiff, false_and, and_false, and_self, reduceCtorEq, Nat.reduceAdd]
  refine m135 hV hc hp hY (fun M1 F u1 u2 u3 => ?_)
  simp only [fs137_5, fs137_6, fs137_7, fj_PV t, fj_OB, fj_AR, fj_CI, q_zo0, q_zo1, Option.toList_some, Option.toList_none, List.cons_append, List.nil_append, true_and, and_true, true_or, if_true, if_false, q_l10, q_l01, eq_self, Int32.reduceLT, Int32.reduceLE, Int32.reduceAdd, Int32.reduceSub, fj_up_at, Nat.reduceEqDiff, false_and, and_false, and_self, reduceCtorEq, Nat.reduceAdd]
  refine m136 (st := 0) u2 (by decide) (fun W hW => ?_)
  obtain ⟨s1, s2⟩ := s_W hV hc hcn hp (fun i hi => (u2 i hi).2) u3 zz hW (o := o) (by rw [z0]; exact hm)
  have hW9 := hW.1
  simp only [fs137_10, fs137_11, fs137_12, fs137_14, fj_OB, fj_AR, fj_CI, q_zo0, q_zo1, Option.toList_some, Option.toList_none, List.cons_append, List.nil_append, true_and, and_true, true_or, if_true, if_false, q_l10, q_l01, eq_self, Int32.reduceLT, Int32.reduceLE, Int32.reduceAdd, Int32.reduceSub, fj_up_at, Nat.reduceEqDiff, false_and, and_false, and_self, reduceCtorEq, Nat.reduceAdd, k_much, q_le (show 99999 < 100000 by decide) (show W < 100000 by omega)]
  cases o with
  | none =>
    have := s1 rfl
    rw [if_pos (by omega)]
    simp only [fs137_21, fs137_23, fj_OB, fj_AR, fj_CI, q_zo0, q_zo1, Option.toList_some, Option.toList_none, List.cons_append, List.nil_append, true_and, and_true, true_or, if_true, if_false, q_l10, q_l01, eq_self, Int32.reduceLT, Int32.reduceLE, Int32.reduceAdd, Int32.reduceSub, fj_up_at, Nat.reduceEqDiff, false_and, and_false, and_self, reduceCtorEq, Nat.reduceAdd]
    exact hQ M1 u1
  | some v =>
    obtain ⟨e1, e2⟩ := s2 v rfl
    subst e1
    rw [if_neg (by omega)]
    simp only [fs137_17, fs137_18, fs137_23, fj_OB, fj_AR, fj_CI, q_zo0, q_zo1, Option.toList_some, Option.toList_none, List.cons_append, List.nil_append, true_and, and_true, true_or, if_true, if_false, q_l10, q_l01, eq_self, Int32.reduceLT, Int32.reduceLE, Int32.reduceAdd, Int32.reduceSub, fj_up_at, Nat.reduceEqDiff, false_and, and_false, and_self, reduceCtorEq, Nat.reduceAdd]
    exact hQ M1 u1
theorem fj_In_so {t : Bool} {M M1 M2 : fj_HM} {A : fj_Yd} {R : fj_Rd} (h : fj_In t M A R) (h1 : ∀ o, o ≠ 13 → o ≠ 14 → o ≠ 15 → M1 o = M o) (h2 : ∀ o, o ≠ 45 → M2 o = M1 o) : fj_In t M2 A R := by
  have e : ∀ o, o ≠ 13 → o ≠ 14 → o ≠ 15 → o ≠ 45 → M2 o = M o := fun o b1 b2 b3 b4 => by rw [h2 o b4, h1 o b1 b2 b3]
  refine fj_In_fr h (fun o ho => e o (by omega) (by omega) (by omega) (by omega)) ?_ ?_ (fun k hk => by rw [e 33 (by decide) (by decide) (by decide) (by decide)])
  · rw [e 0 (by decide) (by decide) (by decide) (by decide), e 33 (by decide) (by decide) (by decide) (by decide)]
    exact h.2.2.2.2.2.2.2.2.1
  · rw [e 0 (by decide) (by decide) (by decide) (by decide), e 33 (by decide) (by decide) (by decide) (by decide)]
    exact h.2.2.2.2.2.2.2.2.2
theorem pr_soonest {t : Bool} {M : fj_HM} (h : fj_Iv t M) : fj_pr isI t M 71 [.ref 0] 138 [.ref 33] := by
  obtain ⟨A, R, h⟩ := h
  obtain ⟨hV, hC, hM, -, -, -, -, hB, -⟩ := id h
  have hy := yo_or t
  have hn := yn_le hV
  have hpw := Nat.two_pow_pos (yn A)
  unfold fj_pr
  rcases yd_st hV with ⟨s1, s2, s3, s4, s5, s6⟩ | ⟨s1, s2, s3, s4⟩
  · simp only [fs71_0, fs71_1, fs71_4, fs71_7, fs71_10, fs71_12, fs138_0, fs138_1, fs138_4, fs138_7, fs138_9, fs138_20, m40 (yo_or t), fj_PV t, fj_YO (yo_or t) t, fj_OB, fj_AR, fj_CI, q_zo0, q_zo1, Option.toList_some, Option.toList_none, List.cons_append, List.nil_append, true_and, and_true, true_or, if_true, if_false, q_l10, q_l01, eq_self, Int32.reduceLT, Int32.reduceLE, Int32.reduceAdd, Int32.reduceSub, fj_up_at, Nat.reduceEqDiff, false_and, and_false, and_self, reduceCtorEq, Nat.reduceAdd, hC.1, hM.1, s3, s4]
    exact fj_fin_i h _
  · simp only [fs71_0, fs71_1, fs71_4, fs71_7, fs71_13, fs71_14, fs71_17, fs71_18, fs71_21, fs71_22, m40 (yo_or t), fj_PV t, fj_YO (yo_or t) t, fj_OB, fj_AR, fj_CI, q_zo0, q_zo1, Option.toList_some, Option.toList_none, List.cons_append, List.nil_append, true_and, and_true, true_or, if_true, if_false, q_l10, q_l01, eq_self, Int32.reduceLT, Int32.reduceLE, Int32.reduceAdd, Int32.reduceSub, fj_up_at, Nat.reduceEqDiff, false_and, and_false, and_self, reduceCtorEq, Nat.reduceAdd, hC.1, s3]
    refine m9 (yo_or t) t hV s1 s2 (a := 0) hC (hB _ hy) (fun M1 s p1 p2 => ?_)
    rw [sdf_zr] at p2
    simp only [fs71_25, fj_OB, fj_AR, fj_CI, q_zo0, q_zo1, Option.toList_some, Option.toList_none, List.cons_append, List.nil_append, true_and, and_true, true_or, if_true, if_false, q_l10, q_l01, eq_self, Int32.reduceLT, Int32.reduceLE, Int32.reduceAdd, Int32.reduceSub, fj_up_at, Nat.reduceEqDiff, false_and, and_false, and_self, reduceCtorEq, Nat.reduceAdd]
    have hM1 : fj_YM M1 A := fj_YM_cg (fun o b1 b2 => p1 o (by omega) (by omega) (by omega)) (fun k b1 b2 => by rw [p1 33 (by decide) (by decide) (by decide)]) hM
    simp only [fs138_0, fs138_1, fs138_4, fs138_12, fs138_13, fs138_14, fs138_17, m107 hn hM1.2.2.1, fj_PV t, fj_OB, fj_AR, fj_CI, q_zo0, q_zo1, Option.toList_some, Option.toList_none, List.cons_append, List.nil_append, true_and, and_true, true_or, if_true, if_false, q_l10, q_l01, eq_self, Int32.reduceLT, Int32.reduceLE, Int32.reduceAdd, Int32.reduceSub, fj_up_at, Nat.reduceEqDiff, false_and, and_false, and_self, reduceCtorEq, Nat.reduceAdd, hM1.1, s4]
    refine m137 hV s1 s2 (show 2 ^ yn A - 1 < 2 ^ yn A by omega) hM1 p2 (fun M2 q1 => ?_)
    simp only [fs138_20, fj_OB, fj_AR, fj_CI, q_zo0, q_zo1, Option.toList_some, Option.toList_none, List.cons_append, List.nil_append, true_and, and_true, true_or, if_true, if_false, q_l10, q_l01, eq_self, Int32.reduceLT, Int32.reduceLE, Int32.reduceAdd, Int32.reduceSub, fj_up_at, Nat.reduceEqDiff, false_and, and_false, and_self, reduceCtorEq, Nat.reduceAdd]
    exact fj_fin_i (fj_In_so h p1 q1) _
theorem pr_without {t : Bool} {M : fj_HM} (h : fj_Iv t M) (v : Int32) : fj_pr isI t M 73 [.ref 0, .int v] 140 [.ref 33, .int v] := by
  obtain ⟨A, R, h⟩ := h
  obtain ⟨hV, hC, hM, -, -, -, -, hB, -⟩ := id h
  have hy := yo_or t
  have hn := yn_le hV
  have hpw := Nat.two_pow_pos (yn A)
  have h4 := hM.2.2.1
  unfold fj_pr
  rcases q_place (n := yn A) (by omega) v with e | ⟨e, e'⟩ | ⟨m, hm, rfl, e, e'⟩
  · simp only [fs73_0, fs73_1, fs73_4, fs73_5, fs73_8, fs73_11, fs73_12, fs140_0, fs140_1, fs140_2, fs140_5, fs140_8, fs140_9, fs140_26, m42 (yo_or t), m106 (show yn A < 100000 by omega) h4, fj_PV t, fj_YO (yo_or t) t, fj_OB, fj_AR, fj_CI, q_zo0, q_zo1, Option.toList_some, Option.toList_none, List.cons_append, List.nil_append, true_and, and_true, true_or, if_true, if_false, q_l10, q_l01, eq_self, Int32.reduceLT, Int32.reduceLE, Int32.reduceAdd, Int32.reduceSub, fj_up_at, Nat.reduceEqDiff, false_and, and_false, and_self, reduceCtorEq, Nat.reduceAdd, hC.2.1, e]
    exact fj_fin_i h _
  · simp only [fs73_0, fs73_1, fs73_4, fs73_5, fs73_8, fs73_11, fs73_12, fs140_0, fs140_1, fs140_2, fs140_5, fs140_8, fs140_9, fs140_26, m42 (yo_or t), m106 (show yn A < 100000 by omega) h4, fj_PV t, fj_YO (yo_or t) t, fj_OB, fj_AR, fj_CI, q_zo0, q_zo1, Option.toList_some, Option.toList_none, List.cons_append, List.nil_append, true_and, and_true, true_or, if_true, if_false, q_l10, q_l01, eq_self, Int32.reduceLT, Int32.reduceLE, Int32.reduceAdd, Int32.reduceSub, fj_up_at, Nat.reduceEqDiff, false_and, and_false, and_self, reduceCtorEq, Nat.reduceAdd, hC.2.1, e, e']
    exact fj_fin_i h _
  · rcases yd_st hV with ⟨s1, s2, s3, s4, s5, s6⟩ | ⟨s1, s2, s3, s4⟩
    · omega
    · simp only [fs73_0, fs73_1, fs73_4, fs73_5, fs73_8, fs73_13, fs73_14, fs73_17, fs73_18, fs73_21, fs73_22, fs73_23, fs73_24, m42 (yo_or t), fj_PV t, fj_YO (yo_or t) t, fj_OB, fj_AR, fj_CI, q_zo0, q_zo1, Option.toList_some, Option.toList_none, List.cons_append, List.nil_append, true_and, and_true, true_or, if_true, if_false, q_l10, q_l01, eq_self, Int32.reduceLT, Int32.reduceLE, Int32.reduceAdd, Int32.reduceSub, fj_up_at, Nat.reduceEqDiff, false_and, and_false, and_self, reduceCtorEq, Nat.reduceAdd, hC.2.1, e, e', q_shl m (by omega)]
      refine m9 (yo_or t) t hV s1 s2 (a := 2 ^ m) hC (hB _ hy) (fun M1 s p1 p2 => ?_)
      simp only [fs73_27, fj_OB, fj_AR, fj_CI, q_zo0, q_zo1, Option.toList_some, Option.toList_none, List.cons_append, List.nil_append, true_and, and_true, true_or, if_true, if_false, q_l10, q_l01, eq_self, Int32.reduceLT, Int32.reduceLE, Int32.reduceAdd, Int32.reduceSub, fj_up_at, Nat.reduceEqDiff, false_and, and_false, and_self, reduceCtorEq, Nat.reduceAdd]
      have hM1 : fj_YM M1 A := fj_YM_cg (fun o b1 b2 => p1 o (by omega) (by omega) (by omega)) (fun k b1 b2 => by rw [p1 33 (by decide) (by decide) (by decide)]) hM
      simp only [fs140_0, fs140_1, fs140_2, fs140_5, fs140_12, fs140_13, fs140_14, fs140_17, fs140_18, fs140_19, fs140_20, fs140_21, fs140_22, fs140_23, m106 (show yn A < 100000 by omega) hM1.2.2.1, m107 hn hM1.2.2.1, fj_PV t, fj_OB, fj_AR, fj_CI, q_zo0, q_zo1, Option.toList_some, Option.toList_none, List.cons_append, List.nil_append, true_and, and_true, true_or, if_true, if_false, q_l10, q_l01, eq_self, Int32.reduceLT, Int32.reduceLE, Int32.reduceAdd, Int32.reduceSub, fj_up_at, Nat.reduceEqDiff, false_and, and_false, and_self, reduceCtorEq, Nat.reduceAdd, e, e', q_shl m (by omega), q_sdf]
      refine m137 hV s1 s2 (sdf_lt (show 2 ^ yn A - 1 < 2 ^ yn A by omega)) hM1 p2 (fun M2 q1 => ?_)
      simp only [fs140_26, fj_OB, fj_AR, fj_CI, q_zo0, q_zo1, Option.toList_some, Option.toList_none, List.cons_append, List.nil_append, true_and, and_true, true_or, if_true, if_false, q_l10, q_l01, eq_self, Int32.reduceLT, Int32.reduceLE, Int32.reduceAdd, Int32.reduceSub, fj_up_at, Nat.reduceEqDiff, false_and, and_false, and_self, reduceCtorEq, Nat.reduceAdd]
      exact fj_fin_i (fj_In_so h p1 q1) _
