/-! ===== the soonest, set by set ===== -/
theorem or_sub {p set m : Nat} (h1 : sdf set p = 0) (h2 : p.testBit m = true) : sdf (set ||| 2 ^ m) p = 0 := by
  apply nat_ext
  intro i
  rw [sdf_bit, Nat.testBit_or, Nat.testBit_two_pow, Nat.zero_testBit]
  have h3 : (sdf set p).testBit i = false := by rw [h1, Nat.zero_testBit]
  rw [sdf_bit] at h3
  by_cases e : m = i
  · subst e; rw [h2]; simp
  · simp [e]
    cases hs : set.testBit i <;> simp_all
theorem rmN_from {T : Nat → Option Nat} {set : Nat} : ∀ {n v : Nat}, rmN T set n = some v → ∃ j, j < n ∧ T (set * 42 + j) = some v
  | 0, v, h => by cases h
  | n + 1, v, h => by
    have h' : omn (rmN T set n) (T (set * 42 + n)) = some v := h
    cases e : T (set * 42 + n) with
    | none =>
      rw [e] at h'
      cases e2 : rmN T set n with
      | none => rw [e2] at h'; cases h'
      | some u =>
        rw [e2] at h'
        cases h'
        obtain ⟨j, hj, hj2⟩ := rmN_from e2
        exact ⟨j, by omega, hj2⟩
    | some u =>
      rw [e] at h'
      obtain ⟨w, h1, h2, h3, h4⟩ := omn_some (rmN T set n) u
      rw [h1] at h'
      cases h'
      rcases h4 with h4 | h4
      · exact ⟨n, by omega, by rw [e, h4]⟩
      · obtain ⟨j, hj, hj2⟩ := rmN_from h4
        exact ⟨j, by omega, hj2⟩
theorem rmN_le {T : Nat → Option Nat} {set : Nat} : ∀ {n j v : Nat}, j < n → T (set * 42 + j) = some v → ∃ w, rmN T set n = some w ∧ w ≤ v
  | 0, j, v, h, _ => by omega
  | n + 1, j, v, h, hT => by
    show ∃ w, omn (rmN T set n) (T (set * 42 + n)) = some w ∧ w ≤ v
    by_cases hj : j < n
    · obtain ⟨w, h1, h2⟩ := rmN_le hj hT
      rw [h1]
      cases e : T (set * 42 + n) with
      | none => exact ⟨w, rfl, h2⟩
      | some u =>
        obtain ⟨x, a1, a2, a3, a4⟩ := omn_some (some w) u
        exact ⟨x, a1, by have := a3 w rfl; omega⟩
    · obtain rfl : j = n := by omega
      rw [hT]
      obtain ⟨x, a1, a2, a3, a4⟩ := omn_some (rmN T set j) v
      exact ⟨x, a1, a2⟩
/-- the least of all that can be with set dealt with -/
def sMin (A : fj_Yd) (p set : Nat) (o : Option Nat) : Prop := (∀ v, o = some v → ∃ last left, sRch A p set last left v) ∧ ∀ last left v, sRch A p set last left v → ∃ v', o = some v' ∧ v' ≤ v
/-- the men's loop -/
theorem m11_men {o : Nat} (ho : o = 17 ∨ o = 25) (t : Bool) {A : fj_Yd} (hV : fj_YV A) (hc : 0 < yc A) (hcn : 1 ≤ ycn A) {p s : Nat} (hp6 : p < 64) (hs : s ≤ p) (hsub : sdf s p = 0) {Q : fj_Po} : ∀ (k m : Nat) (M : fj_HM) (T : Nat → Option Nat), m + k = yn A → sJ o A p M T (dnL s m 0 0) (s + 1) → (∀ M' T', (∀ o', o' ≠ 13 → M' o' = M o') → sJ o A p M' T' (dnL s (yn A) 0 0) (s + 1) → fj_H none 11 78 [.ref 12, .ref o, .int (nI p), .int (nI s), .int (nI (yn A))] [] M' (fj_PY t) 53 7835 Q) → fj_H none 11 41 [.ref 12, .ref o, .int (nI p), .int (nI s), .int (nI m)] [] M (fj_PY t) 53 7835 Q := by
  have h6 := yn_le hV
  intro k
  induction k with
  | zero =>
    intro m M T hm hJ hK
    obtain rfl : m = yn A := by omega
    have y2 := hJ.2.2.2.2.2.2.1.2.1
    rw [fs11_41]
    simp only [fs11_43, fs11_44, fs11_47, fj_YO ho t, fj_OB, fj_AR, fj_CI, q_zo0, q_zo1, Option.toList_some, Option.toList_none, List.cons_append, List.nil_append, true_and, and_true, true_or, if_true, if_false, q_l10, q_l01, eq_self, Int32.reduceLT, Int32.reduceLE, Int32.reduceAdd, Int32.reduceSub, fj_up_at, Nat.reduceEqDiff, false_and, and_false, and_self, reduceCtorEq, Nat.reduceAdd, y2, q_le (show yn A < 100000 by omega) (show yn A < 100000 by omega), if_pos (Nat.le_refl (yn A))]
    exact hK M T (fun _ _ => rfl) hJ
  | succ k ih =>
    intro m M T hm hJ hK
    have hmn : m < yn A := by omega
    have y2 := hJ.2.2.2.2.2.2.1.2.1
    have y15 := hJ.2.2.2.2.2.1 m hmn
    have hz : sdf p s < 64 := sdf_lt (n := 6) hp6
    rw [fs11_41]
    simp only [fs11_43, fs11_44, fs11_47, fj_YO ho t, fj_OB, fj_AR, fj_CI, q_zo0, q_zo1, Option.toList_some, Option.toList_none, List.cons_append, List.nil_append, true_and, and_true, true_or, if_true, if_false, q_l10, q_l01, eq_self, Int32.reduceLT, Int32.reduceLE, Int32.reduceAdd, Int32.reduceSub, fj_up_at, Nat.reduceEqDiff, false_and, and_false, and_self, reduceCtorEq, Nat.reduceAdd, y2, q_le (show yn A < 100000 by omega) (show m < 100000 by omega), if_neg (show ¬ yn A ≤ m by omega)]
    simp only [fs11_50, fs11_51, fs11_53, fs11_54, fs11_55, fs11_56, fs11_57, fs11_58, fj_OB, fj_AR, fj_CI, q_zo0, q_zo1, Option.toList_some, Option.toList_none, List.cons_append, List.nil_append, true_and, and_true, true_or, if_true, if_false, q_l10, q_l01, eq_self, Int32.reduceLT, Int32.reduceLE, Int32.reduceAdd, Int32.reduceSub, fj_up_at, Nat.reduceEqDiff, false_and, and_false, and_self, reduceCtorEq, Nat.reduceAdd, q_sdf, m12 hV hmn hz y15]
    cases hb : ((sdf p s).testBit m && decide (sHr A m &&& sdf p s = 0))
    · simp only [fs11_61, fs11_72, fs11_75, fj_OB, fj_AR, fj_CI, q_zo0, q_zo1, Option.toList_some, Option.toList_none, List.cons_append, List.nil_append, true_and, and_true, true_or, if_true, if_false, q_l10, q_l01, eq_self, Int32.reduceLT, Int32.reduceLE, Int32.reduceAdd, Int32.reduceSub, fj_up_at, Nat.reduceEqDiff, false_and, and_false, and_self, reduceCtorEq, Nat.reduceAdd, bI, Bool.false_eq_true, nI_1]
      refine ih (m + 1) M T (by omega) (sJ_dn hJ (fun set last left v m' a1 a2 a3 ad hT hq => ?_)) hK
      by_cases e : set = s ∧ m' = m
      · obtain ⟨rfl, rfl⟩ := e
        rw [hq.2.1, hq.2.2] at hb
        simp at hb
      · exact hJ.2.2.2.1 set last left v m' a1 a2 a3 (by unfold dnL at ad ⊢; omega) hT hq
    · have hq : sQ A p s m := by
        simp only [Bool.and_eq_true, decide_eq_true_eq] at hb
        exact ⟨hmn, hb.1, hb.2⟩
      have hs2 := sub_le (or_sub hsub (sQ_in hq))
      simp only [fs11_61, fs11_64, fs11_65, fs11_66, fs11_67, fs11_69, fj_OB, fj_AR, fj_CI, q_zo0, q_zo1, Option.toList_some, Option.toList_none, List.cons_append, List.nil_append, true_and, and_true, true_or, if_true, if_false, q_l10, q_l01, eq_self, Int32.reduceLT, Int32.reduceLE, Int32.reduceAdd, Int32.reduceSub, fj_up_at, Nat.reduceEqDiff, false_and, and_false, and_self, reduceCtorEq, Nat.reduceAdd, bI]
      refine m15 ho t hV hc hcn hp6 hs hq hs2 hJ (fun M' T' g1 g2 => ?_)
      simp only [fs11_72, fs11_75, fj_OB, fj_AR, fj_CI, q_zo0, q_zo1, Option.toList_some, Option.toList_none, List.cons_append, List.nil_append, true_and, and_true, true_or, if_true, if_false, q_l10, q_l01, eq_self, Int32.reduceLT, Int32.reduceLE, Int32.reduceAdd, Int32.reduceSub, fj_up_at, Nat.reduceEqDiff, false_and, and_false, and_self, reduceCtorEq, Nat.reduceAdd, nI_1]
      refine ih (m + 1) M' T' (by omega) (sJ_dn g2 (fun set last left v m' a1 a2 a3 ad => g2.2.2.2.1 set last left v m' a1 a2 a3 (by unfold dnL at ad ⊢; omega))) (fun M2 T2 b1 b2 => hK M2 T2 (fun o' ho' => by rw [b1 o' ho', g1 o' ho']) b2)
theorem m11_loop {o : Nat} (ho : o = 17 ∨ o = 25) (t : Bool) {A : fj_Yd} (hV : fj_YV A) (hc : 0 < yc A) (hcn : 1 ≤ ycn A) {p : Nat} (hp6 : p < 64) {Q : fj_Po} : ∀ (k s : Nat) (M : fj_HM) (T : Nat → Option Nat) (d : Value), s + k = p + 1 → sJ o A p M T (dnL s 0 0 0) s → (∀ M' T', (∀ o', o' ≠ 13 → o' ≠ 14 → M' o' = M o') → sJ o A p M' T' (dnL (p + 1) 0 0 0) (p + 1) → Q none M' (fj_PY t) 53 7835) → fj_H none 11 8 [.ref 12, .ref o, .int (nI p), .int (nI s), d] [] M (fj_PY t) 53 7835 Q := by
  intro k
  induction k with
  | zero =>
    intro s M T d hs hJ hK
    obtain rfl : s = p + 1 := by omega
    rw [fs11_8]
    simp only [fs11_9, fs11_10, fj_OB, fj_AR, fj_CI, q_zo0, q_zo1, Option.toList_some, Option.toList_none, List.cons_append, List.nil_append, true_and, and_true, true_or, if_true, if_false, q_l10, q_l01, eq_self, Int32.reduceLT, Int32.reduceLE, Int32.reduceAdd, Int32.reduceSub, fj_up_at, Nat.reduceEqDiff, false_and, and_false, and_self, reduceCtorEq, Nat.reduceAdd, q_lt (show p < 100000 by omega) (show p + 1 < 100000 by omega), if_pos (Nat.lt_succ_self p)]
    simp only [fs11_84, fj_OB, fj_AR, fj_CI, q_zo0, q_zo1, Option.toList_some, Option.toList_none, List.cons_append, List.nil_append, true_and, and_true, true_or, if_true, if_false, q_l10, q_l01, eq_self, Int32.reduceLT, Int32.reduceLE, Int32.reduceAdd, Int32.reduceSub, fj_up_at, Nat.reduceEqDiff, false_and, and_false, and_self, reduceCtorEq, Nat.reduceAdd]
    exact hK M T (fun _ _ _ => rfl) hJ
  | succ k ih =>
    intro s M T d hs hJ hK
    have hsp : s ≤ p := by omega
    obtain ⟨j1, j2, j3, j4, j5, j6, j7, j8⟩ := id hJ
    have h42 : rmN T s 42 = rmn T s := rfl
    have hnev := tI_never (o := rmn T s) (fun x hx => by have := rmN_B j2 s 42 x hx; omega)
    rw [fs11_8]
    simp only [fs11_9, fs11_10, fj_OB, fj_AR, fj_CI, q_zo0, q_zo1, Option.toList_some, Option.toList_none, List.cons_append, List.nil_append, true_and, and_true, true_or, if_true, if_false, q_l10, q_l01, eq_self, Int32.reduceLT, Int32.reduceLE, Int32.reduceAdd, Int32.reduceSub, fj_up_at, Nat.reduceEqDiff, false_and, and_false, and_self, reduceCtorEq, Nat.reduceAdd, q_lt (show p < 100000 by omega) (show s < 100000 by omega), if_neg (show ¬ p < s by omega)]
    simp only [fs11_13, fs11_14, fs11_17, fs11_18, fs11_19, fs11_20, fs11_23, fs11_24, fs11_25, fs11_28, fs11_29, fs11_30, fs11_32, fj_PV t, fj_OB, fj_AR, fj_CI, q_zo0, q_zo1, Option.toList_some, Option.toList_none, List.cons_append, List.nil_append, true_and, and_true, true_or, if_true, if_false, q_l10, q_l01, eq_self, Int32.reduceLT, Int32.reduceLE, Int32.reduceAdd, Int32.reduceSub, fj_up_at, Nat.reduceEqDiff, false_and, and_false, and_self, reduceCtorEq, Nat.reduceAdd, m14 hp6 hsp j1 j2, q_in (show s < 64 by omega), q_clamp (show s < 100000 by omega)]
    have hJ1 : sJ o A p (fj_up M 14 s (tI (rmn T s))) T (dnL s 0 0 0) (s + 1) := by
      refine ⟨fun k hk => ?_, j2, j3, j4, fun set h1 h2 => ?_, fun j hj => ?_, ?_, fun j hj => ?_⟩
      · rw [fj_up_at, if_neg (by omega)]; exact j1 k hk
      · rw [fj_up_at]
        by_cases e : set = s
        · rw [if_pos ⟨rfl, e⟩, e]
        · rw [if_neg (fun z => e z.2)]; exact j5 set (by omega) h2
      · rw [fj_up_at, if_neg (by omega)]; exact j6 j hj
      · rw [fj_YC_up ho (by decide)]; exact j7
      · rw [fj_up_at, if_neg (by omega)]; exact j8 j hj
    have fr : ∀ o', o' ≠ 14 → fj_up M 14 s (tI (rmn T s)) o' = M o' := fun o' h => by funext j; rw [fj_up_at, if_neg (fun z => h z.1)]
    by_cases hn : rmn T s = none
    · rw [if_pos (by rw [hnev]; exact hn)]
      simp only [fs11_35, fs11_78, fs11_81, fj_OB, fj_AR, fj_CI, q_zo0, q_zo1, Option.toList_some, Option.toList_none, List.cons_append, List.nil_append, true_and, and_true, true_or, if_true, if_false, q_l10, q_l01, eq_self, Int32.reduceLT, Int32.reduceLE, Int32.reduceAdd, Int32.reduceSub, fj_up_at, Nat.reduceEqDiff, false_and, and_false, and_self, reduceCtorEq, Nat.reduceAdd, nI_1]
      refine ih (s + 1) _ T _ (by omega) (sJ_dn hJ1 (fun set last left v m a1 a2 a3 ad hT hq => ?_)) (fun M2 T2 b1 b2 => hK M2 T2 (fun o' h1 h2 => by rw [b1 o' h1 h2, fr o' h2]) b2)
      by_cases e : set = s
      · subst e
        exfalso
        have : ix set last left = set * 42 + (last * 6 + left) := by unfold ix; omega
        rw [this] at hT
        obtain ⟨w, h1, -⟩ := rmN_le (n := 42) (show last * 6 + left < 42 by omega) hT
        rw [h42, hn] at h1
        cases h1
      · exact j4 set last left v m a1 a2 a3 (by unfold dnL at ad ⊢; omega) hT hq
    · rw [if_neg (by rw [hnev]; exact hn)]
      have hsub : sdf s p = 0 := by
        cases hr : rmn T s with
        | none => exact absurd hr hn
        | some v =>
          obtain ⟨j, hj, hT⟩ := rmN_from (show rmN T s 42 = some v from hr)
          have e : s * 42 + j = ix s (j / 6) (j % 6) := by unfold ix; omega
          rw [e] at hT
          exact (sRch_ok hV hc (j3.2 s (j / 6) (j % 6) v hsp (by omega) (by omega) hT)).1
      simp only [fs11_38, fs11_39, fj_OB, fj_AR, fj_CI, q_zo0, q_zo1, Option.toList_some, Option.toList_none, List.cons_append, List.nil_append, true_and, and_true, true_or, if_true, if_false, q_l10, q_l01, eq_self, Int32.reduceLT, Int32.reduceLE, Int32.reduceAdd, Int32.reduceSub, fj_up_at, Nat.reduceEqDiff, false_and, and_false, and_self, reduceCtorEq, Nat.reduceAdd]
      refine m11_men ho t hV hc hcn hp6 hsp hsub (yn A) 0 _ T (Nat.zero_add _) hJ1 (fun M1 T1 g1 g2 => ?_)
      simp only [fs11_78, fs11_81, fj_OB, fj_AR, fj_CI, q_zo0, q_zo1, Option.toList_some, Option.toList_none, List.cons_append, List.nil_append, true_and, and_true, true_or, if_true, if_false, q_l10, q_l01, eq_self, Int32.reduceLT, Int32.reduceLE, Int32.reduceAdd, Int32.reduceSub, fj_up_at, Nat.reduceEqDiff, false_and, and_false, and_self, reduceCtorEq, Nat.reduceAdd, nI_1]
      refine ih (s + 1) M1 T1 _ (by omega) (sJ_dn g2 (fun set last left v m a1 a2 a3 ad hT hq => ?_)) (fun M2 T2 b1 b2 => hK M2 T2 (fun o' h1 h2 => by rw [b1 o' h1 h2, g1 o' h1, fr o' h2]) b2)
      have := hq.1
      exact g2.2.2.2.1 set last left v m a1 a2 a3 (by unfold dnL at ad ⊢; omega) hT hq
/-- the table's end: the least is the least -/
theorem sJ_min {o : Nat} {A : fj_Yd} (hV : fj_YV A) (hc : 0 < yc A) (hcn : 1 ≤ ycn A) {p : Nat} {M : fj_HM} {T : Nat → Option Nat} (hJ : sJ o A p M T (dnL (p + 1) 0 0 0) (p + 1)) {set : Nat} (hset : set ≤ p) : sMin A p set (rmn T set) := by
  obtain ⟨j1, j2, j3, j4, j5, j6, j7, j8⟩ := hJ
  have h6 := yn_le hV
  have hcn6 : ycn A ≤ 6 := hV.2.2.2.2.2.2.1
  refine ⟨fun v hv => ?_, fun last left v hR => ?_⟩
  · obtain ⟨j, hj, hT⟩ := rmN_from (show rmN T set 42 = some v from hv)
    have e : set * 42 + j = ix set (j / 6) (j % 6) := by unfold ix; omega
    rw [e] at hT
    exact ⟨_, _, j3.2 set (j / 6) (j % 6) v hset (by omega) (by omega) hT⟩
  · have key : last < 7 ∧ left < 6 ∧ set ≤ p ∧ ∃ v', v' ≤ v ∧ T (ix set last left) = some v' ∧ sdf set p = 0 := by
      refine hR (fun set last left v => last < 7 ∧ left < 6 ∧ set ≤ p ∧ ∃ v', v' ≤ v ∧ T (ix set last left) = some v' ∧ sdf set p = 0) ⟨by omega, by omega, by omega, 0, Nat.le_refl _, j3.1, by simp [sdf]⟩ ?_ ?_
      · intro set last left v m ⟨a1, a2, a3, v', a4, a5, a6⟩ hq hl
        have hsub := or_sub a6 (sQ_in hq)
        obtain ⟨w, b1, b2⟩ := (j4 set last left v' m a3 a1 a2 (Or.inl (by omega)) a5 hq).1 hl
        exact ⟨by have := hq.1; omega, by omega, sub_le hsub, w, by omega, b2, hsub⟩
      · intro set last left v m x ⟨a1, a2, a3, v', a4, a5, a6⟩ hq hx
        have hsub := or_sub a6 (sQ_in hq)
        obtain ⟨w, b1, b2⟩ := (j4 set last left v' m a3 a1 a2 (Or.inl (by omega)) a5 hq).2 x hx
        exact ⟨by have := hq.1; omega, by omega, sub_le hsub, w, by omega, b2, hsub⟩
    obtain ⟨a1, a2, a3, v', a4, a5, -⟩ := key
    have e : ix set last left = set * 42 + (last * 6 + left) := by unfold ix; omega
    rw [e] at a5
    obtain ⟨w, h1, h2⟩ := rmN_le (n := 42) (show last * 6 + left < 42 by omega) a5
    exact ⟨w, h1, by omega⟩
/-- what spread leaves -/
def sSp (A : fj_Yd) (p : Nat) (M : fj_HM) (L : Nat → Option Nat) : Prop := ∀ set, set ≤ p → M 14 set = tI (L set) ∧ sMin A p set (L set)
theorem m11 {o : Nat} (ho : o = 17 ∨ o = 25) (t : Bool) {A : fj_Yd} (hV : fj_YV A) (hc : 0 < yc A) (hcn : 1 ≤ ycn A) {p : Nat} (hp6 : p < 64) {M : fj_HM} (hY : fj_YC o M A) (hj : ∀ j, j < 6 → ∃ c, c < 24 ∧ M (o + 4) j = nI c) {Q : fj_Po} (hK : ∀ M' L, (∀ o', o' ≠ 13 → o' ≠ 14 → o' ≠ 15 → M' o' = M o') → sSp A p M' L → Q none M' (fj_PY t) 53 7835) : fj_H none 11 0 [.ref 12, .ref o, .int (nI p), .null, .null] [] M (fj_PY t) 53 7835 Q := by
  simp only [fs11_0, fs11_1, fs11_2, fs11_3, fj_OB, fj_AR, fj_CI, q_zo0, q_zo1, Option.toList_some, Option.toList_none, List.cons_append, List.nil_append, true_and, and_true, true_or, if_true, if_false, q_l10, q_l01, eq_self, Int32.reduceLT, Int32.reduceLE, Int32.reduceAdd, Int32.reduceSub, fj_up_at, Nat.reduceEqDiff, false_and, and_false, and_self, reduceCtorEq, Nat.reduceAdd]
  refine m13 ho t hV hp6 hY (fun M1 g1 g2 g3 => ?_)
  simp only [fs11_6, fs11_7, fj_OB, fj_AR, fj_CI, q_zo0, q_zo1, Option.toList_some, Option.toList_none, List.cons_append, List.nil_append, true_and, and_true, true_or, if_true, if_false, q_l10, q_l01, eq_self, Int32.reduceLT, Int32.reduceLE, Int32.reduceAdd, Int32.reduceSub, fj_up_at, Nat.reduceEqDiff, false_and, and_false, and_self, reduceCtorEq, Nat.reduceAdd]
  have hJ0 : sJ o A p M1 T0 (dnL 0 0 0 0) 0 := by
    refine ⟨g2, ?_, ⟨rfl, ?_⟩, ?_, ?_, g3, ?_, ?_⟩
    · intro k v hv
      unfold T0 at hv
      split at hv <;> cases hv
      omega
    · intro set last left v h1 h2 h3 hT
      unfold T0 at hT
      split at hT
      · rename_i e
        cases hT
        have e2 : ix set last left = ix 0 6 0 := e
        obtain ⟨rfl, rfl, rfl⟩ := ix_inj h2 (by decide) h3 (by decide) e2
        exact sRch_0 A p
      · cases hT
    · intro set last left v m a1 a2 a3 ad
      unfold dnL at ad
      omega
    · intro set h
      omega
    · exact fj_YC_cg (fun i hi j => by rw [g1 (o + i) (by omega) (by omega)]) hY
    · intro j hj6
      rw [g1 (o + 4) (by omega) (by omega)]
      exact hj j hj6
  refine m11_loop ho t hV hc hcn hp6 (p + 1) 0 M1 T0 _ (Nat.zero_add _) hJ0 (fun M2 T2 b1 b2 => hK M2 (rmn T2) (fun o' h1 h2 h3 => by rw [b1 o' h1 h2, g1 o' h1 h3]) (fun set hset => ⟨b2.2.2.2.2.1 set (by omega) hset, sJ_min hV hc hcn b2 hset⟩))
