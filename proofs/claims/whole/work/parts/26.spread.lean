/-! ===== the table, filled ===== -/
theorem nI_inj2 {a b : Nat} (ha : a < 100000) (hb : b < 100000) (h : nI a = nI b) : a = b := by
  have := q_eq ha hb
  exact this ▸ h
/-- who can be the last of a set -/
def cbl (s i : Nat) : Bool := if i = 6 then decide (s = 0) else s.testBit i
theorem cbl_6 (s : Nat) : cbl s 6 = decide (s = 0) := if_pos rfl
theorem cbl_n {s i : Nat} (h : i ≠ 6) : cbl s i = s.testBit i := if_neg h
theorem m164 {s i : Nat} (hs : s < 64) (hi : i < 7) {M : fj_HM} {P : fj_HP} {c z : Nat} {Q : fj_Po} : fj_H none 164 0 [.int (nI s), .int (nI i)] [] M P c z Q = Q (some (.int (bI (cbl s i)))) M P c z := by
  simp only [fs164_0, fs164_1, fs164_3, fs164_6, fs164_7, fs164_10, fs164_11, fs164_14, fs164_15, fs164_18, fs164_19, fs164_20, fs164_21, fs164_22, fs164_23, fs164_26, fs164_27, fs164_30, fs164_31, fj_OB, fj_AR, fj_CI, q_zo0, q_zo1, Option.toList_some, Option.toList_none, List.cons_append, List.nil_append, true_and, and_true, true_or, if_true, if_false, q_l10, q_l01, eq_self, Int32.reduceLT, Int32.reduceLE, Int32.reduceAdd, Int32.reduceSub, fj_up_at, Nat.reduceEqDiff, false_and, and_false, and_self, reduceCtorEq, Nat.reduceAdd]
  by_cases h6 : i = 6
  · rw [if_pos (by rw [h6]; rfl), h6, cbl_6]
    by_cases h0 : s = 0
    · rw [if_pos (by rw [h0]; rfl), h0]
      rfl
    · rw [if_neg (by rw [q_0, q_eq (by omega) (by omega)]; exact h0), decide_eq_false h0]
      rfl
  · rw [if_neg (by rw [show (6 : Int32) = nI 6 from rfl, q_eq (by omega) (by omega)]; exact h6), cbl_n h6]
    cases hb : s.testBit i
    · rw [if_pos (by rw [q_bit0 (by omega) (by omega)]; exact hb)]
      rfl
    · rw [if_neg (by rw [q_bit0 (by omega) (by omega), hb]; simp)]
      rfl
/-- what can be has a last who can be -/
theorem sRch_last {A : fj_Yd} (hV : fj_YV A) {p set last left v : Nat} (h : sRch A p set last left v) : cbl set last = true := by
  have h6 := yn_le hV
  have key : ∀ s m, m < yn A → cbl (s ||| 2 ^ m) m = true := fun s m hm => by
    rw [cbl_n (by omega), Nat.testBit_or, Nat.testBit_two_pow]
    simp
  exact h (fun set last _ _ => cbl set last = true) rfl (fun set last left v m _ hq _ => key _ _ hq.1) (fun set last left v m x _ hq _ => key _ _ hq.1)
theorem m15_loop {o : Nat} (ho : o = 17 ∨ o = 25) (t : Bool) {A : fj_Yd} (hV : fj_YV A) (hc : 0 < yc A) (hcn : 1 ≤ ycn A) {p s m : Nat} (hp6 : p < 64) (hs : s ≤ p) (hq : sQ A p s m) (hs2 : s ||| 2 ^ m ≤ p) {Q : fj_Po} : ∀ (k i : Nat) (M : fj_HM) (T : Nat → Option Nat) (d5 d6 d7 d8 d9 : Value), i + k = 7 → sJ o A p M T (dnL s m i 0) (s + 1) → (∀ M' T', (∀ o', o' ≠ 13 → M' o' = M o') → sJ o A p M' T' (dnL s m 7 0) (s + 1) → Q none M' (fj_PY t) 53 7835) → fj_H none 15 3 [.ref 12, .ref o, .int (nI s), .int (nI m), .int (nI i), d5, d6, d7, d8, d9] [] M (fj_PY t) 53 7835 Q := by
  have h6 := yn_le hV
  have h24 := yc_le hV
  have hm := hq.1
  have hmc := ym_mc hV hm
  intro k
  induction k with
  | zero =>
    intro i M T d5 d6 d7 d8 d9 hi hJ hK
    obtain rfl : i = 7 := by omega
    rw [fs15_3]
    simp only [fs15_5, fs15_7, fj_OB, fj_AR, fj_CI, q_zo0, q_zo1, Option.toList_some, Option.toList_none, List.cons_append, List.nil_append, true_and, and_true, true_or, if_true, if_false, q_l10, q_l01, eq_self, Int32.reduceLT, Int32.reduceLE, Int32.reduceAdd, Int32.reduceSub, fj_up_at, Nat.reduceEqDiff, false_and, and_false, and_self, reduceCtorEq, Nat.reduceAdd]
    rw [if_pos (by decide)]
    simp only [fs15_176, fj_OB, fj_AR, fj_CI, q_zo0, q_zo1, Option.toList_some, Option.toList_none, List.cons_append, List.nil_append, true_and, and_true, true_or, if_true, if_false, q_l10, q_l01, eq_self, Int32.reduceLT, Int32.reduceLE, Int32.reduceAdd, Int32.reduceSub, fj_up_at, Nat.reduceEqDiff, false_and, and_false, and_self, reduceCtorEq, Nat.reduceAdd]
    exact hK M T (fun _ _ => rfl) hJ
  | succ k ih =>
    intro i M T d5 d6 d7 d8 d9 hi hJ hK
    have hi7 : i < 7 := by omega
    obtain ⟨j1, j2, j3, j4, j5, j6, j7, j8⟩ := id hJ
    obtain ⟨-, -, -, -, -, -, -, h8, -⟩ := id j7
    have hmM := (h8 m hm).2.2
    have go : ∀ f : Nat, f < 24 → ((i = 6 ∨ i < yn A) → f = sFrom A i) → fj_H none 15 40 [.ref 12, .ref o, .int (nI s), .int (nI m), .int (nI i), d5, d6, d7, d8, d9] [.int (nI f)] M (fj_PY t) 53 7835 Q := by
      intro f hf hfs
      simp only [fs15_40, fs15_42, fs15_43, fs15_45, fs15_46, fs15_49, fs15_50, fs15_51, fs15_54, fs15_55, fs15_56, fs15_58, fs15_59, fs15_61, fs15_62, fs15_65, fs15_66, fs15_67, fs15_70, fs15_72, fs15_73, fj_YO ho t, fj_OB, fj_AR, fj_CI, q_zo0, q_zo1, Option.toList_some, Option.toList_none, List.cons_append, List.nil_append, true_and, and_true, true_or, if_true, if_false, q_l10, q_l01, eq_self, Int32.reduceLT, Int32.reduceLE, Int32.reduceAdd, Int32.reduceSub, fj_up_at, Nat.reduceEqDiff, false_and, and_false, and_self, reduceCtorEq, Nat.reduceAdd, q_in (show m < 6 by omega), q_clamp (show m < 100000 by omega), hmM, m52r ho t hf (show ymc A m < 24 by omega), m16 ho t hV j7 hf (show ymc A m < 24 by omega)]
      rw [q_0]
      refine m15_left ho t hV hc hcn hp6 hs hq hs2 hi7 (fun h => ?_) 6 0 M T _ (Nat.zero_add _) hJ (fun M' T' d' g1 g2 => ?_)
      · have e := hfs h
        have hfc : f < yc A := by
          rw [e]
          unfold sFrom
          split
          · exact hc
          · rcases h with h | h
            · contradiction
            · exact ym_mc hV h
        refine ⟨?_, ?_⟩
        · rw [ra_ok hV j7 hfc hmc, nI_1, e]
          rfl
        · rw [rO_ok hV j7 hfc hmc _ (Nat.le_refl _), e]
      · simp only [fs15_170, fs15_173, fj_OB, fj_AR, fj_CI, q_zo0, q_zo1, Option.toList_some, Option.toList_none, List.cons_append, List.nil_append, true_and, and_true, true_or, if_true, if_false, q_l10, q_l01, eq_self, Int32.reduceLT, Int32.reduceLE, Int32.reduceAdd, Int32.reduceSub, fj_up_at, Nat.reduceEqDiff, false_and, and_false, and_self, reduceCtorEq, Nat.reduceAdd, nI_1]
        refine ih (i + 1) M' T' _ _ _ _ _ (by omega) (sJ_dn g2 (fun set last' left' v m' a1 a2 a3 ad => g2.2.2.2.1 set last' left' v m' a1 a2 a3 (by unfold dnL at ad ⊢; omega))) (fun M2 T2 b1 b2 => hK M2 T2 (fun o' ho' => by rw [b1 o' ho', g1 o' ho']) b2)
    rw [fs15_3]
    simp only [fs15_5, fs15_7, fj_OB, fj_AR, fj_CI, q_zo0, q_zo1, Option.toList_some, Option.toList_none, List.cons_append, List.nil_append, true_and, and_true, true_or, if_true, if_false, q_l10, q_l01, eq_self, Int32.reduceLT, Int32.reduceLE, Int32.reduceAdd, Int32.reduceSub, fj_up_at, Nat.reduceEqDiff, false_and, and_false, and_self, reduceCtorEq, Nat.reduceAdd]
    rw [if_neg (by rw [show (7 : Int32) = nI 7 from rfl, q_le (by omega) (by omega)]; omega)]
    simp only [fs15_10, fs15_11, fs15_13, fs15_16, fs15_19, fj_OB, fj_AR, fj_CI, q_zo0, q_zo1, Option.toList_some, Option.toList_none, List.cons_append, List.nil_append, true_and, and_true, true_or, if_true, if_false, q_l10, q_l01, eq_self, Int32.reduceLT, Int32.reduceLE, Int32.reduceAdd, Int32.reduceSub, fj_up_at, Nat.reduceEqDiff, false_and, and_false, and_self, reduceCtorEq, Nat.reduceAdd, m164 (show s < 64 by omega) hi7]
    cases hcb : cbl s i
    · rw [if_pos (show bI false = 0 from rfl)]
      simp only [fs15_170, fs15_173, fj_OB, fj_AR, fj_CI, q_zo0, q_zo1, Option.toList_some, Option.toList_none, List.cons_append, List.nil_append, true_and, and_true, true_or, if_true, if_false, q_l10, q_l01, eq_self, Int32.reduceLT, Int32.reduceLE, Int32.reduceAdd, Int32.reduceSub, fj_up_at, Nat.reduceEqDiff, false_and, and_false, and_self, reduceCtorEq, Nat.reduceAdd, nI_1]
      refine ih (i + 1) M T _ _ _ _ _ (by omega) (sJ_dn hJ (fun set last' left' v m' a1 a2 a3 ad hT hq2 => ?_)) hK
      by_cases e : set = s ∧ m' = m ∧ last' = i
      · obtain ⟨rfl, rfl, rfl⟩ := e
        have h1 := sRch_last hV (j3.2 _ _ _ _ hs hi7 a3 hT)
        rw [hcb] at h1
        cases h1
      · exact j4 set last' left' v m' a1 a2 a3 (by unfold dnL at ad ⊢; omega) hT hq2
    rw [if_neg (show ¬ bI true = 0 from by decide)]
    simp only [fs15_22, fs15_24, fs15_26, fj_OB, fj_AR, fj_CI, q_zo0, q_zo1, Option.toList_some, Option.toList_none, List.cons_append, List.nil_append, true_and, and_true, true_or, if_true, if_false, q_l10, q_l01, eq_self, Int32.reduceLT, Int32.reduceLE, Int32.reduceAdd, Int32.reduceSub, fj_up_at, Nat.reduceEqDiff, false_and, and_false, and_self, reduceCtorEq, Nat.reduceAdd]
    by_cases h6i : i = 6
    · rw [if_pos (by rw [h6i]; rfl)]
      simp only [fs15_29, fs15_30, fj_OB, fj_AR, fj_CI, q_zo0, q_zo1, Option.toList_some, Option.toList_none, List.cons_append, List.nil_append, true_and, and_true, true_or, if_true, if_false, q_l10, q_l01, eq_self, Int32.reduceLT, Int32.reduceLE, Int32.reduceAdd, Int32.reduceSub, fj_up_at, Nat.reduceEqDiff, false_and, and_false, and_self, reduceCtorEq, Nat.reduceAdd]
      exact go 0 (by omega) (fun _ => by unfold sFrom; rw [if_pos h6i])
    · rw [if_neg (by rw [show (6 : Int32) = nI 6 from rfl, q_eq (by omega) (by omega)]; exact h6i)]
      obtain ⟨c, hc1, hc2⟩ := j8 i (by omega)
      simp only [fs15_33, fs15_34, fs15_37, fs15_39, fj_YO ho t, fj_OB, fj_AR, fj_CI, q_zo0, q_zo1, Option.toList_some, Option.toList_none, List.cons_append, List.nil_append, true_and, and_true, true_or, if_true, if_false, q_l10, q_l01, eq_self, Int32.reduceLT, Int32.reduceLE, Int32.reduceAdd, Int32.reduceSub, fj_up_at, Nat.reduceEqDiff, false_and, and_false, and_self, reduceCtorEq, Nat.reduceAdd, q_in (show i < 6 by omega), q_clamp (show i < 100000 by omega), hc2]
      refine go c hc1 (fun h => ?_)
      unfold sFrom
      rw [if_neg h6i]
      have hin : i < yn A := by rcases h with h | h; exact absurd h h6i; exact h
      have := (h8 i hin).2.2
      rw [hc2] at this
      exact nI_inj2 (by omega) (by have := ym_mc hV hin; omega) this
theorem m15 {o : Nat} (ho : o = 17 ∨ o = 25) (t : Bool) {A : fj_Yd} (hV : fj_YV A) (hc : 0 < yc A) (hcn : 1 ≤ ycn A) {p s m : Nat} (hp6 : p < 64) (hs : s ≤ p) (hq : sQ A p s m) (hs2 : s ||| 2 ^ m ≤ p) {M : fj_HM} {T : Nat → Option Nat} (hJ : sJ o A p M T (dnL s m 0 0) (s + 1)) {Q : fj_Po} (hK : ∀ M' T', (∀ o', o' ≠ 13 → M' o' = M o') → sJ o A p M' T' (dnL s m 7 0) (s + 1) → Q none M' (fj_PY t) 53 7835) : fj_H none 15 0 [.ref 12, .ref o, .int (nI s), .int (nI m), .null, .null, .null, .null, .null, .null] [] M (fj_PY t) 53 7835 Q := by
  simp only [fs15_0, fs15_1]
  exact m15_loop ho t hV hc hcn hp6 hs hq hs2 7 0 M T _ _ _ _ _ (Nat.zero_add _) hJ hK
theorem m12 {t : Bool} {A : fj_Yd} (hV : fj_YV A) {M : fj_HM} {m z : Nat} (hm : m < yn A) (hz : z < 64) (hM : M 15 m = nI (sHr A m)) {Q : fj_Po} : fj_H none 12 0 [.ref 12, .int (nI m), .int (nI z)] [] M (fj_PY t) 53 7835 Q = Q (some (.int (bI (z.testBit m && decide (sHr A m &&& z = 0))))) M (fj_PY t) 53 7835 := by
  have h6 := yn_le hV
  have h2 : sHr A m &&& z ≤ z := Nat.and_le_right
  simp only [fs12_0, fs12_1, fs12_2, fs12_3, fs12_4, fs12_5, fs12_8, fs12_9, fs12_12, fs12_13, fs12_14, fs12_15, fs12_16, fs12_19, fs12_20, fs12_23, fs12_24, fj_PV t, fj_OB, fj_AR, fj_CI, q_zo0, q_zo1, Option.toList_some, Option.toList_none, List.cons_append, List.nil_append, true_and, and_true, true_or, if_true, if_false, q_l10, q_l01, eq_self, Int32.reduceLT, Int32.reduceLE, Int32.reduceAdd, Int32.reduceSub, fj_up_at, Nat.reduceEqDiff, false_and, and_false, and_self, reduceCtorEq, Nat.reduceAdd, q_in (show m < 6 by omega), q_clamp (show m < 100000 by omega), hM, q_and]
  cases hb : z.testBit m
  · rw [if_pos (by rw [q_bit0 (by omega) (by omega)]; exact hb)]
    rfl
  · rw [if_neg (by rw [q_bit0 (by omega) (by omega), hb]; simp)]
    by_cases h0 : sHr A m &&& z = 0
    · rw [if_pos (by rw [h0]; rfl), h0]
      rfl
    · rw [if_neg (by rw [q_0, q_eq (by omega) (by omega)]; exact h0)]
      simp [h0, bI]
theorem rmN_B {T : Nat → Option Nat} (hT : TB T) (set : Nat) : ∀ (n v : Nat), rmN T set n = some v → v ≤ 13000
  | 0, v, h => by cases h
  | n + 1, v, h => by
    have h' : omn (rmN T set n) (T (set * 42 + n)) = some v := h
    cases e : T (set * 42 + n) with
    | none =>
      rw [e] at h'
      cases e2 : rmN T set n with
      | none => rw [e2] at h'; cases h'
      | some u => rw [e2] at h'; cases h'; exact rmN_B hT set n _ e2
    | some u =>
      rw [e] at h'
      obtain ⟨w, h1, h2, h3, h4⟩ := omn_some (rmN T set n) u
      rw [h1] at h'
      cases h'
      have := hT _ _ e
      omega
theorem m14_loop {t : Bool} {M : fj_HM} {T : Nat → Option Nat} {p set : Nat} (hp6 : p < 64) (hset : set ≤ p) (hTR : sTR M T p) (hT : TB T) {Q : fj_Po} : ∀ (k j : Nat), j + k = 42 → fj_H none 14 11 [.ref 12, .int (nI set), .int (tI (rmN T set j)), .int (nI (set * 42 + j))] [] M (fj_PY t) 53 7835 Q = Q (some (.int (tI (rmn T set)))) M (fj_PY t) 53 7835 := by
  have e42 : (nI set + 1) * 7 * 6 = nI (set * 42 + 42) := by
    rw [nI_1, show (7 : Int32) = nI 7 from rfl, show (6 : Int32) = nI 6 from rfl, pk_mul, pk_mul]
    congr 1
    omega
  intro k
  induction k with
  | zero =>
    intro j hj
    obtain rfl : j = 42 := by omega
    rw [fs14_11]
    simp only [fs14_12, fs14_13, fs14_14, fs14_15, fs14_17, fs14_18, fs14_20, fs14_21, fj_OB, fj_AR, fj_CI, q_zo0, q_zo1, Option.toList_some, Option.toList_none, List.cons_append, List.nil_append, true_and, and_true, true_or, if_true, if_false, q_l10, q_l01, eq_self, Int32.reduceLT, Int32.reduceLE, Int32.reduceAdd, Int32.reduceSub, fj_up_at, Nat.reduceEqDiff, false_and, and_false, and_self, reduceCtorEq, Nat.reduceAdd, e42, q_le (show set * 42 + 42 < 100000 by omega) (show set * 42 + 42 < 100000 by omega), if_pos (Nat.le_refl (set * 42 + 42))]
    simp only [fs14_41, fs14_42]
    rfl
  | succ k ih =>
    intro j hj
    have hlt : set * 42 + j < (p + 1) * 42 := by omega
    rw [fs14_11]
    simp only [fs14_12, fs14_13, fs14_14, fs14_15, fs14_17, fs14_18, fs14_20, fs14_21, fj_OB, fj_AR, fj_CI, q_zo0, q_zo1, Option.toList_some, Option.toList_none, List.cons_append, List.nil_append, true_and, and_true, true_or, if_true, if_false, q_l10, q_l01, eq_self, Int32.reduceLT, Int32.reduceLE, Int32.reduceAdd, Int32.reduceSub, fj_up_at, Nat.reduceEqDiff, false_and, and_false, and_self, reduceCtorEq, Nat.reduceAdd, e42, q_le (show set * 42 + 42 < 100000 by omega) (show set * 42 + j < 100000 by omega), if_neg (show ¬ set * 42 + 42 ≤ set * 42 + j by omega)]
    simp only [fs14_24, fs14_25, fs14_26, fs14_29, fs14_30, fs14_31, fs14_34, fs14_35, fs14_38, fj_PV t, fj_OB, fj_AR, fj_CI, q_zo0, q_zo1, Option.toList_some, Option.toList_none, List.cons_append, List.nil_append, true_and, and_true, true_or, if_true, if_false, q_l10, q_l01, eq_self, Int32.reduceLT, Int32.reduceLE, Int32.reduceAdd, Int32.reduceSub, fj_up_at, Nat.reduceEqDiff, false_and, and_false, and_self, reduceCtorEq, Nat.reduceAdd, q_in (show set * 42 + j < 2688 by omega), q_clamp (show set * 42 + j < 100000 by omega), hTR _ hlt, nI_1]
    have key : (if tI (T (set * 42 + j)) < tI (rmN T set j) then tI (T (set * 42 + j)) else tI (rmN T set j)) = tI (rmN T set (j + 1)) := by
      show _ = tI (omn (rmN T set j) (T (set * 42 + j)))
      cases e : T (set * 42 + j) with
      | none =>
        have : omn (rmN T set j) none = rmN T set j := by cases rmN T set j <;> rfl
        rw [this]
        have hn : ¬ tI none < tI (rmN T set j) := by
          rw [Int32.not_lt]
          cases e2 : rmN T set j with
          | none => exact Int32.le_iff_toInt_le.mpr (Int.le_refl _)
          | some u =>
            have hu := rmN_B hT set j u e2
            rw [Int32.le_iff_toInt_le]
            show (nI u).toInt ≤ (2147483647 : Int32).toInt
            rw [q_toInt (by omega)]
            have : (2147483647 : Int32).toInt = 2147483647 := rfl
            omega
        rw [if_neg hn]
      | some u =>
        exact tI_lt (by have := hT _ _ e; omega) _ (fun x hx => by have := rmN_B hT set j x hx; omega)
    rw [key]
    exact ih (j + 1) (by omega)
theorem m14 {t : Bool} {M : fj_HM} {T : Nat → Option Nat} {p set : Nat} (hp6 : p < 64) (hset : set ≤ p) (hTR : sTR M T p) (hT : TB T) {Q : fj_Po} : fj_H none 14 0 [.ref 12, .int (nI set), .null, .null] [] M (fj_PY t) 53 7835 Q = Q (some (.int (tI (rmn T set)))) M (fj_PY t) 53 7835 := by
  have h := m14_loop (t := t) hp6 hset hTR hT (Q := Q) 42 0 (Nat.zero_add _)
  have e42 : nI set * 7 * 6 = nI (set * 42 + 0) := by
    rw [show (7 : Int32) = nI 7 from rfl, show (6 : Int32) = nI 6 from rfl, pk_mul, pk_mul]
    congr 1
    omega
  simp only [fs14_0, fs14_2, fs14_3, fs14_4, fs14_6, fs14_7, fs14_9, fs14_10, e42]
  exact h
/-- the table at first -/
def T0 : Nat → Option Nat := fun k => if k = 36 then some 0 else none
theorem m13_fill {t : Bool} {o p : Nat} (hp6 : p < 64) {Q : fj_Po} : ∀ (k i : Nat) (M : fj_HM), i + k = (p + 1) * 42 → (∀ M', (∀ o', o' ≠ 13 → M' o' = M o') → (∀ j, j < i → M' 13 j = M 13 j) → (∀ j, i ≤ j → j < (p + 1) * 42 → M' 13 j = 2147483647) → fj_H none 13 29 [.ref 12, .ref o, .int (nI p), .int (nI ((p + 1) * 42))] [] M' (fj_PY t) 53 7835 Q) → fj_H none 13 2 [.ref 12, .ref o, .int (nI p), .int (nI i)] [] M (fj_PY t) 53 7835 Q := by
  have e42 : (nI p + 1) * 7 * 6 = nI ((p + 1) * 42) := by
    rw [nI_1, show (7 : Int32) = nI 7 from rfl, show (6 : Int32) = nI 6 from rfl, pk_mul, pk_mul]
    congr 1
    omega
  intro k
  induction k with
  | zero =>
    intro i M hi hK
    obtain rfl : i = (p + 1) * 42 := by omega
    rw [fs13_2]
    simp only [fs13_3, fs13_4, fs13_5, fs13_6, fs13_8, fs13_9, fs13_11, fs13_12, fj_OB, fj_AR, fj_CI, q_zo0, q_zo1, Option.toList_some, Option.toList_none, List.cons_append, List.nil_append, true_and, and_true, true_or, if_true, if_false, q_l10, q_l01, eq_self, Int32.reduceLT, Int32.reduceLE, Int32.reduceAdd, Int32.reduceSub, fj_up_at, Nat.reduceEqDiff, false_and, and_false, and_self, reduceCtorEq, Nat.reduceAdd, e42, q_le (show (p + 1) * 42 < 100000 by omega) (show (p + 1) * 42 < 100000 by omega), if_pos (Nat.le_refl ((p + 1) * 42))]
    exact hK M (fun _ _ => rfl) (fun _ _ => rfl) (fun j h1 h2 => by omega)
  | succ k ih =>
    intro i M hi hK
    rw [fs13_2]
    simp only [fs13_3, fs13_4, fs13_5, fs13_6, fs13_8, fs13_9, fs13_11, fs13_12, fj_OB, fj_AR, fj_CI, q_zo0, q_zo1, Option.toList_some, Option.toList_none, List.cons_append, List.nil_append, true_and, and_true, true_or, if_true, if_false, q_l10, q_l01, eq_self, Int32.reduceLT, Int32.reduceLE, Int32.reduceAdd, Int32.reduceSub, fj_up_at, Nat.reduceEqDiff, false_and, and_false, and_self, reduceCtorEq, Nat.reduceAdd, e42, q_le (show (p + 1) * 42 < 100000 by omega) (show i < 100000 by omega), if_neg (show ¬ (p + 1) * 42 ≤ i by omega)]
    simp only [fs13_15, fs13_16, fs13_19, fs13_20, fs13_22, fs13_23, fs13_26, fj_PV t, fj_OB, fj_AR, fj_CI, q_zo0, q_zo1, Option.toList_some, Option.toList_none, List.cons_append, List.nil_append, true_and, and_true, true_or, if_true, if_false, q_l10, q_l01, eq_self, Int32.reduceLT, Int32.reduceLE, Int32.reduceAdd, Int32.reduceSub, fj_up_at, Nat.reduceEqDiff, false_and, and_false, and_self, reduceCtorEq, Nat.reduceAdd, q_in (show i < 2688 by omega), q_clamp (show i < 100000 by omega), nI_1]
    refine ih (i + 1) _ (by omega) (fun M' g1 g2 g3 => hK M' (fun o' ho' => ?_) (fun j hj => ?_) (fun j h1 h2 => ?_))
    · rw [g1 o' ho']; funext j; rw [fj_up_at, if_neg (fun z => ho' z.1)]
    · rw [g2 j (by omega), fj_up_at, if_neg (by omega)]
    · by_cases e : j = i
      · rw [e, g2 i (by omega), fj_up_at, if_pos ⟨rfl, rfl⟩]
      · exact g3 j (by omega) h2
theorem m13_hear {o : Nat} (ho : o = 17 ∨ o = 25) (t : Bool) {A : fj_Yd} (hV : fj_YV A) {v : Value} {Q : fj_Po} : ∀ (k i : Nat) (M : fj_HM), i + k = yn A → fj_YC o M A → (∀ j, j < i → M 15 j = nI (sHr A j)) → (∀ M', (∀ o', o' ≠ 15 → M' o' = M o') → (∀ j, j < yn A → M' 15 j = nI (sHr A j)) → Q none M' (fj_PY t) 53 7835) → fj_H none 13 39 [.ref 12, .ref o, v, .int (nI i)] [] M (fj_PY t) 53 7835 Q := by
  have h6 := yn_le hV
  intro k
  induction k with
  | zero =>
    intro i M hi hY hh hK
    obtain rfl : i = yn A := by omega
    rw [fs13_39]
    simp only [fs13_40, fs13_41, fs13_44, fj_YO ho t, fj_OB, fj_AR, fj_CI, q_zo0, q_zo1, Option.toList_some, Option.toList_none, List.cons_append, List.nil_append, true_and, and_true, true_or, if_true, if_false, q_l10, q_l01, eq_self, Int32.reduceLT, Int32.reduceLE, Int32.reduceAdd, Int32.reduceSub, fj_up_at, Nat.reduceEqDiff, false_and, and_false, and_self, reduceCtorEq, Nat.reduceAdd, hY.2.1, q_le (show yn A < 100000 by omega) (show yn A < 100000 by omega), if_pos (Nat.le_refl (yn A))]
    simp only [fs13_82, fj_OB, fj_AR, fj_CI, q_zo0, q_zo1, Option.toList_some, Option.toList_none, List.cons_append, List.nil_append, true_and, and_true, true_or, if_true, if_false, q_l10, q_l01, eq_self, Int32.reduceLT, Int32.reduceLE, Int32.reduceAdd, Int32.reduceSub, fj_up_at, Nat.reduceEqDiff, false_and, and_false, and_self, reduceCtorEq, Nat.reduceAdd]
    exact hK M (fun _ _ => rfl) hh
  | succ k ih =>
    intro i M hi hY hh hK
    have hin : i < yn A := by omega
    obtain ⟨-, y2, -, y4, -, -, -, h8, -⟩ := id hY
    rw [fs13_39]
    simp only [fs13_40, fs13_41, fs13_44, fj_YO ho t, fj_OB, fj_AR, fj_CI, q_zo0, q_zo1, Option.toList_some, Option.toList_none, List.cons_append, List.nil_append, true_and, and_true, true_or, if_true, if_false, q_l10, q_l01, eq_self, Int32.reduceLT, Int32.reduceLE, Int32.reduceAdd, Int32.reduceSub, fj_up_at, Nat.reduceEqDiff, false_and, and_false, and_self, reduceCtorEq, Nat.reduceAdd, y2, q_le (show yn A < 100000 by omega) (show i < 100000 by omega), if_neg (show ¬ yn A ≤ i by omega)]
    simp only [fs13_47, fs13_48, fs13_51, fs13_52, fs13_53, fs13_54, fs13_57, fs13_58, fs13_59, fs13_62, fs13_63, fs13_66, fs13_67, fs13_68, fs13_69, fs13_70, fs13_71, fs13_72, fs13_73, fs13_74, fs13_75, fs13_76, fs13_79, fj_YO ho t, fj_PV t, fj_OB, fj_AR, fj_CI, q_zo0, q_zo1, Option.toList_some, Option.toList_none, List.cons_append, List.nil_append, true_and, and_true, true_or, if_true, if_false, q_l10, q_l01, eq_self, Int32.reduceLT, Int32.reduceLE, Int32.reduceAdd, Int32.reduceSub, fj_up_at, Nat.reduceEqDiff, false_and, and_false, and_self, reduceCtorEq, Nat.reduceAdd, q_in (show i < 6 by omega), q_clamp (show i < 100000 by omega), (h8 i hin).2.2, m54 ho t hV hY (ym_mc hV hin), y4, q_sdf, q_shl i (by omega), nI_1]
    refine ih (i + 1) _ (by omega) ?_ (fun j hj => ?_) (fun M' g1 g2 => hK M' (fun o' ho' => ?_) g2)
    · rw [fj_YC_up ho (by decide)]; exact hY
    · rw [fj_up_at]
      by_cases e : j = i
      · rw [if_pos ⟨rfl, e⟩, e]
        rfl
      · rw [if_neg (fun z => e z.2)]
        exact hh j (by omega)
    · rw [g1 o' ho']; funext j; rw [fj_up_at, if_neg (fun z => ho' z.1)]
theorem m13 {o : Nat} (ho : o = 17 ∨ o = 25) (t : Bool) {A : fj_Yd} (hV : fj_YV A) {p : Nat} (hp6 : p < 64) {M : fj_HM} (hY : fj_YC o M A) {Q : fj_Po} (hK : ∀ M', (∀ o', o' ≠ 13 → o' ≠ 15 → M' o' = M o') → sTR M' T0 p → (∀ j, j < yn A → M' 15 j = nI (sHr A j)) → Q none M' (fj_PY t) 53 7835) : fj_H none 13 0 [.ref 12, .ref o, .int (nI p), .null] [] M (fj_PY t) 53 7835 Q := by
  simp only [fs13_0, fs13_1]
  refine m13_fill hp6 ((p + 1) * 42) 0 M (Nat.zero_add _) (fun M1 g1 _ g3 => ?_)
  simp only [fs13_29, fs13_30, fs13_33, fs13_35, fs13_36, fs13_37, fs13_38, fj_PV t, fj_OB, fj_AR, fj_CI, q_zo0, q_zo1, Option.toList_some, Option.toList_none, List.cons_append, List.nil_append, true_and, and_true, true_or, if_true, if_false, q_l10, q_l01, eq_self, Int32.reduceLT, Int32.reduceLE, Int32.reduceAdd, Int32.reduceSub, fj_up_at, Nat.reduceEqDiff, false_and, and_false, and_self, reduceCtorEq, Nat.reduceAdd]
  have e36 : ((36 : Int32).toNatClampNeg) = 36 := rfl
  have i36 : vp_in 36 2688 = True := eq_true (vp_in_nI (n := 36) (by decide) (by decide))
  simp only [e36, i36, true_and]
  refine m13_hear ho t hV (yn A) 0 _ (Nat.zero_add _) ?_ (fun j hj => by omega) (fun M2 b1 b2 => hK M2 (fun o' h1 h2 => ?_) (fun k hk => ?_) b2)
  · rw [fj_YC_up ho (by decide)]
    exact fj_YC_cg (fun i hi j => by rw [g1 (o + i) (by omega)]) hY
  · rw [b1 o' h2]
    funext j
    rw [fj_up_at, if_neg (fun z => h1 z.1), g1 o' h1]
  · rw [b1 13 (by decide), fj_up_at]
    unfold T0
    by_cases e : k = 36
    · rw [if_pos ⟨rfl, e⟩, if_pos e]
      rfl
    · rw [if_neg (fun z => e z.2), if_neg e]
      exact g3 k (Nat.zero_le _) hk
