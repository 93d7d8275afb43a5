/-! ===== a yard's text, read: once for both ===== -/
/-- place, men, oils, what is in a cell, kinds, ears, cells of men, cells of oils -/
abbrev fj_Tx : Type := Nat × Nat × Nat × (Nat → Int32) × (Nat → Nat) × (Nat → Nat) × (Nat → Nat) × (Nat → Nat)
def pp (s : fj_Tx) : Nat := s.1
def pn (s : fj_Tx) : Nat := s.2.1
def pq (s : fj_Tx) : Nat := s.2.2.1
def pic (s : fj_Tx) : Nat → Int32 := s.2.2.2.1
def pkd (s : fj_Tx) : Nat → Nat := s.2.2.2.2.1
def per (s : fj_Tx) : Nat → Nat := s.2.2.2.2.2.1
def pmc (s : fj_Tx) : Nat → Nat := s.2.2.2.2.2.2.1
def poc (s : fj_Tx) : Nat → Nat := s.2.2.2.2.2.2.2
def fupN (f : Nat → Nat) (k v : Nat) : Nat → Nat := fun j => if j = k then v else f j
def fupI (f : Nat → Int32) (k : Nat) (v : Int32) : Nat → Int32 := fun j => if j = k then v else f j
def pKind (v : Int32) : Option Nat := if v = 99 then some 2 else if v = 109 then some 0 else if v = 119 then some 1 else none
/-- a cell's own text, from a place on: a fault's place, or what is told with it -/
def pRd (g : Nat → Int32) (c : Nat) (s : fj_Tx) : Sum Nat fj_Tx :=
  if g (pp s) = 46 then .inr (pp s + 1, pn s, pq s, fupI (pic s) c (-9), pkd s, per s, pmc s, poc s)
  else if g (pp s) = 111 then (if pq s = 2 then .inl (pp s) else .inr (pp s + 1, pn s, pq s + 1, fupI (pic s) c (nI (6 + pq s)), pkd s, per s, pmc s, fupN (poc s) (pq s) c))
  else match pKind (g (pp s)) with
    | none => .inl (pp s)
    | some k => if pn s = 6 then .inl (pp s) else if g (pp s + 1) - 48 < 0 then .inl (pp s + 1) else if g (pp s + 1) - 48 ≤ 5 then .inr (pp s + 2, pn s + 1, pq s, fupI (pic s) c (nI (pn s)), fupN (pkd s) (pn s) k, fupN (per s) (pn s) (g (pp s + 1) - 48).toNatClampNeg, fupN (pmc s) (pn s) c, poc s) else .inl (pp s + 1)
def pCell (g : Nat → Int32) (w c : Nat) (s : fj_Tx) : Sum Nat fj_Tx := if c % w = 0 then (if g (pp s) = 59 then pRd g c (pp s + 1, s.2) else .inl (pp s)) else pRd g c s
def pGo (g : Nat → Int32) (w : Nat) : Nat → Nat → fj_Tx → Sum Nat fj_Tx
  | 0, _, s => .inr s
  | k + 1, c, s => match pCell g w c s with
    | .inl f => .inl f
    | .inr s' => pGo g w k (c + 1) s'
def p0 : fj_Tx := (3, 0, 0, fun _ => 0, fun _ => 0, fun _ => 0, fun _ => 0, fun _ => 0)
def pYd (h w : Nat) (s : fj_Tx) : fj_Yd := (h, w, pn s, pq s, 0, 1, 30, pic s, pkd s, per s, pmc s, poc s)
/-- the text of n codes -/
def pAll (g : Nat → Int32) (n : Nat) : Sum Nat fj_Yd :=
  if g 0 = 121 then
    if g 1 - 48 < 1 then .inl 1 else if g 1 - 48 ≤ 4 then
      if g 2 - 48 < 2 then .inl 2 else if g 2 - 48 ≤ 6 then
        match pGo g (g 2 - 48).toNatClampNeg ((g 1 - 48).toNatClampNeg * (g 2 - 48).toNatClampNeg) 0 p0 with
        | .inl f => .inl f
        | .inr s => if pp s < n then .inl (pp s) else .inr (pYd (g 1 - 48).toNatClampNeg (g 2 - 48).toNatClampNeg s)
      else .inl 2
    else .inl 1
  else .inl 0
/-- the class's codes -/
def gC (M : fj_HM) (n p : Nat) : Int32 := if p < n then M 16 p else 0
theorem m46 {t : Bool} {M : fj_HM} {n p : Nat} (hn : n ≤ 60) (hp : p < 100000) {Q : fj_Po} : fj_H none 46 0 [.ref 16, .int (nI n), .int (nI p)] [] M (fj_PY t) 53 7835 Q = Q (some (.int (gC M n p))) M (fj_PY t) 53 7835 := by
  simp only [fs46_0, fs46_1, fs46_2, fj_OB, fj_AR, fj_CI, q_zo0, q_zo1, Option.toList_some, Option.toList_none, List.cons_append, List.nil_append, true_and, and_true, true_or, if_true, if_false, q_l10, q_l01, eq_self, Int32.reduceLT, Int32.reduceLE, Int32.reduceAdd, Int32.reduceSub, fj_up_at, Nat.reduceEqDiff, false_and, and_false, and_self, reduceCtorEq, Nat.reduceAdd, q_le (show n < 100000 by omega) hp]
  by_cases h : n ≤ p
  · rw [if_pos h]
    simp only [fs46_17, fs46_18, fj_OB, fj_AR, fj_CI, q_zo0, q_zo1, Option.toList_some, Option.toList_none, List.cons_append, List.nil_append, true_and, and_true, true_or, if_true, if_false, q_l10, q_l01, eq_self, Int32.reduceLT, Int32.reduceLE, Int32.reduceAdd, Int32.reduceSub, fj_up_at, Nat.reduceEqDiff, false_and, and_false, and_self, reduceCtorEq, Nat.reduceAdd, gC, if_neg (show ¬ p < n by omega)]
  · rw [if_neg h]
    have e60 : Int32.ofNat (fj_sh 16).2 = nI 60 := rfl
    have e16 : (16 < 53 ∧ (fj_sh 16).1 = 1) = True := eq_true ⟨by decide, rfl⟩
    simp only [fs46_5, fs46_6, fs46_7, fs46_8, fj_OB, fj_AR, fj_CI, q_zo0, q_zo1, Option.toList_some, Option.toList_none, List.cons_append, List.nil_append, true_and, and_true, true_or, if_true, if_false, q_l10, q_l01, eq_self, Int32.reduceLT, Int32.reduceLE, Int32.reduceAdd, Int32.reduceSub, fj_up_at, Nat.reduceEqDiff, false_and, and_false, and_self, reduceCtorEq, Nat.reduceAdd, e60, e16, q_le (show 60 < 100000 by omega) hp, if_neg (show ¬ 60 ≤ p by omega)]
    simp only [fs46_11, fs46_12, fs46_13, fs46_14, fs46_18, fj_OB, fj_AR, fj_CI, q_zo0, q_zo1, Option.toList_some, Option.toList_none, List.cons_append, List.nil_append, true_and, and_true, true_or, if_true, if_false, q_l10, q_l01, eq_self, Int32.reduceLT, Int32.reduceLE, Int32.reduceAdd, Int32.reduceSub, fj_up_at, Nat.reduceEqDiff, false_and, and_false, and_self, reduceCtorEq, Nat.reduceAdd, q_in (show p < 60 by omega), q_clamp hp, gC, if_pos (show p < n by omega)]
theorem m45 {o : Nat} (ho : o = 17 ∨ o = 25) (t : Bool) {M : fj_HM} {Q : fj_Po} : fj_H none 45 0 [.ref o] [] M (fj_PY t) 53 7835 Q = Q none (fj_up (fj_up (fj_up (fj_up (fj_up (fj_up M o 0 0) o 1 0) o 2 0) o 3 0) o 4 1) o 5 30) (fj_PY t) 53 7835 := by
  simp only [fs45_0, fs45_1, fs45_2, fs45_5, fs45_6, fs45_7, fs45_10, fs45_11, fs45_12, fs45_15, fs45_16, fs45_17, fs45_20, fs45_21, fs45_22, fs45_25, fs45_26, fs45_28, fs45_31, fj_YO ho t, fj_OB, fj_AR, fj_CI, q_zo0, q_zo1, Option.toList_some, Option.toList_none, List.cons_append, List.nil_append, true_and, and_true, true_or, if_true, if_false, q_l10, q_l01, eq_self, Int32.reduceLT, Int32.reduceLE, Int32.reduceAdd, Int32.reduceSub, fj_up_at, Nat.reduceEqDiff, false_and, and_false, and_self, reduceCtorEq, Nat.reduceAdd]
def kI : Option Nat → Int32
  | none => -9
  | some k => nI k
theorem m48 {M : fj_HM} {P : fj_HP} {v : Int32} {Q : fj_Po} : fj_H none 48 0 [.int v] [] M P 53 7835 Q = Q (some (.int (kI (pKind v)))) M P 53 7835 := by
  simp only [fs48_0, fs48_1, fj_OB, fj_AR, fj_CI, q_zo0, q_zo1, Option.toList_some, Option.toList_none, List.cons_append, List.nil_append, true_and, and_true, true_or, if_true, if_false, q_l10, q_l01, eq_self, Int32.reduceLT, Int32.reduceLE, Int32.reduceAdd, Int32.reduceSub, fj_up_at, Nat.reduceEqDiff, false_and, and_false, and_self, reduceCtorEq, Nat.reduceAdd]
  unfold pKind
  by_cases h1 : v = 99
  · rw [if_pos h1, if_pos h1]
    simp only [fs48_40, fs48_41, fj_OB, fj_AR, fj_CI, q_zo0, q_zo1, Option.toList_some, Option.toList_none, List.cons_append, List.nil_append, true_and, and_true, true_or, if_true, if_false, q_l10, q_l01, eq_self, Int32.reduceLT, Int32.reduceLE, Int32.reduceAdd, Int32.reduceSub, fj_up_at, Nat.reduceEqDiff, false_and, and_false, and_self, reduceCtorEq, Nat.reduceAdd]
    rfl
  · rw [if_neg h1, if_neg h1]
    by_cases h2 : v = 109
    · rw [if_pos h2, if_pos h2]
      simp only [fs48_36, fs48_37, fj_OB, fj_AR, fj_CI, q_zo0, q_zo1, Option.toList_some, Option.toList_none, List.cons_append, List.nil_append, true_and, and_true, true_or, if_true, if_false, q_l10, q_l01, eq_self, Int32.reduceLT, Int32.reduceLE, Int32.reduceAdd, Int32.reduceSub, fj_up_at, Nat.reduceEqDiff, false_and, and_false, and_self, reduceCtorEq, Nat.reduceAdd]
      rfl
    · rw [if_neg h2, if_neg h2]
      by_cases h3 : v = 119
      · rw [if_pos h3, if_pos h3]
        simp only [fs48_38, fs48_39, fj_OB, fj_AR, fj_CI, q_zo0, q_zo1, Option.toList_some, Option.toList_none, List.cons_append, List.nil_append, true_and, and_true, true_or, if_true, if_false, q_l10, q_l01, eq_self, Int32.reduceLT, Int32.reduceLE, Int32.reduceAdd, Int32.reduceSub, fj_up_at, Nat.reduceEqDiff, false_and, and_false, and_self, reduceCtorEq, Nat.reduceAdd]
        rfl
      · rw [if_neg h3, if_neg h3]
        simp only [fs48_42, fs48_44, fj_OB, fj_AR, fj_CI, q_zo0, q_zo1, Option.toList_some, Option.toList_none, List.cons_append, List.nil_append, true_and, and_true, true_or, if_true, if_false, q_l10, q_l01, eq_self, Int32.reduceLT, Int32.reduceLE, Int32.reduceAdd, Int32.reduceSub, fj_up_at, Nat.reduceEqDiff, false_and, and_false, and_self, reduceCtorEq, Nat.reduceAdd]
        rfl
/-- the class, while it reads: c cells are laid, i of them told of -/
def fj_PC (o : Nat) (M : fj_HM) (w c i : Nat) (s : fj_Tx) : Prop := M o 0 = nI c ∧ M o 1 = nI (pn s) ∧ M o 2 = nI (pq s) ∧ M o 3 = 0 ∧ M o 4 = 1 ∧ M o 5 = 30 ∧ (∀ k, k < i → M (o + 1) k = pic s k) ∧ (∀ k, k < c → M (o + 6) k = nI (k / w) ∧ M (o + 7) k = nI (k % w)) ∧ (∀ m, m < pn s → M (o + 2) m = nI (pkd s m) ∧ M (o + 3) m = nI (per s m) ∧ M (o + 4) m = nI (pmc s m)) ∧ (∀ x, x < pq s → M (o + 5) x = nI (poc s x)) ∧ ∀ j, j < 6 → ∃ d, d < 24 ∧ M (o + 4) j = nI d
def pOk (c : Nat) (s : fj_Tx) : Prop := pn s ≤ 6 ∧ pq s ≤ 2 ∧ (∀ m, m < pn s → pkd s m ≤ 2 ∧ per s m ≤ 5 ∧ pmc s m < c) ∧ ∀ x, x < pq s → poc s x < c
theorem pKind_le {v : Int32} {k : Nat} (h : pKind v = some k) : k ≤ 2 := by
  unfold pKind at h
  split at h
  · cases h; omega
  · split at h
    · cases h; omega
    · split at h <;> cases h
      omega
theorem q_05 {v : Int32} (h0 : ¬ v < 0) (h5 : v ≤ 5) : v = nI v.toNatClampNeg ∧ v.toNatClampNeg ≤ 5 := by
  rw [Int32.lt_iff_toInt_lt] at h0
  rw [Int32.le_iff_toInt_le] at h5
  have e5 : (5 : Int32).toInt = 5 := rfl
  have e0 : (0 : Int32).toInt = 0 := rfl
  have e : v.toNatClampNeg = v.toInt.toNat := rfl
  refine ⟨?_, by omega⟩
  apply Int32.toInt_inj.mp
  rw [q_toInt (by omega), e]
  omega
theorem m49 {o : Nat} (ho : o = 17 ∨ o = 25) (t : Bool) {M : fj_HM} {q c : Nat} (hq : q < 2) (hc : c < 24) (h0 : M o 0 = nI c) (h2 : M o 2 = nI q) {Q : fj_Po} : fj_H none 49 0 [.ref o] [] M (fj_PY t) 53 7835 Q = Q none (fj_up (fj_up (fj_up M (o + 5) q (nI c)) (o + 1) c (nI (6 + q))) o 2 (nI (q + 1))) (fj_PY t) 53 7835 := by
  have e6 : (6 : Int32) + nI q = nI (6 + q) := by rw [show (6 : Int32) = nI 6 from rfl, nI_add]
  have n5 : ¬ o = o + 5 := by omega
  have n1 : ¬ o = o + 1 := by omega
  simp only [fs49_0, fs49_1, fs49_4, fs49_5, fs49_8, fs49_9, fs49_12, fs49_13, fs49_14, fs49_17, fs49_18, fs49_21, fs49_23, fs49_24, fs49_27, fs49_28, fs49_29, fs49_30, fs49_30i, fs49_31, fs49_34, fs49_35, fs49_36, fs49_39, fj_YO ho t, fj_OB, fj_AR, fj_CI, q_zo0, q_zo1, Option.toList_some, Option.toList_none, List.cons_append, List.nil_append, true_and, and_true, true_or, if_true, if_false, q_l10, q_l01, eq_self, Int32.reduceLT, Int32.reduceLE, Int32.reduceAdd, Int32.reduceSub, fj_up_at, Nat.reduceEqDiff, false_and, and_false, and_self, reduceCtorEq, Nat.reduceAdd, h0, h2, n5, n1, q_in (show q < 2 by omega), q_in (show c < 24 by omega), q_clamp (show q < 100000 by omega), q_clamp (show c < 100000 by omega), e6, nI_1]
theorem m50 {o : Nat} (ho : o = 17 ∨ o = 25) (t : Bool) {M : fj_HM} {n c : Nat} {k e : Int32} (hn : n < 6) (hc : c < 24) (h0 : M o 0 = nI c) (h1 : M o 1 = nI n) {Q : fj_Po} : fj_H none 50 0 [.ref o, .int k, .int e] [] M (fj_PY t) 53 7835 Q = Q none (fj_up (fj_up (fj_up (fj_up (fj_up M (o + 2) n k) (o + 3) n e) (o + 4) n (nI c)) (o + 1) c (nI n)) o 1 (nI (n + 1))) (fj_PY t) 53 7835 := by
  have n1 : ¬ o = o + 1 := by omega
  have n2 : ¬ o = o + 2 := by omega
  have n3 : ¬ o = o + 3 := by omega
  have n4 : ¬ o = o + 4 := by omega
  simp only [fs50_0, fs50_1, fs50_4, fs50_5, fs50_8, fs50_9, fs50_10, fs50_11, fs50_14, fs50_15, fs50_18, fs50_19, fs50_20, fs50_21, fs50_24, fs50_25, fs50_28, fs50_29, fs50_32, fs50_33, fs50_34, fs50_37, fs50_38, fs50_41, fs50_42, fs50_45, fs50_46, fs50_47, fs50_47i, fs50_48, fs50_51, fs50_52, fs50_53, fs50_56, fj_YO ho t, fj_OB, fj_AR, fj_CI, q_zo0, q_zo1, Option.toList_some, Option.toList_none, List.cons_append, List.nil_append, true_and, and_true, true_or, if_true, if_false, q_l10, q_l01, eq_self, Int32.reduceLT, Int32.reduceLE, Int32.reduceAdd, Int32.reduceSub, fj_up_at, Nat.reduceEqDiff, false_and, and_false, and_self, reduceCtorEq, Nat.reduceAdd, h0, h1, n1, n2, n3, n4, q_in (show n < 6 by omega), q_in (show c < 24 by omega), q_clamp (show n < 100000 by omega), q_clamp (show c < 100000 by omega), nI_1]
theorem m51 {o : Nat} (ho : o = 17 ∨ o = 25) (t : Bool) {M : fj_HM} {c : Nat} {r a : Int32} (hc : c < 24) (h0 : M o 0 = nI c) {Q : fj_Po} : fj_H none 51 0 [.ref o, .int r, .int a] [] M (fj_PY t) 53 7835 Q = Q none (fj_up (fj_up (fj_up M (o + 6) c r) (o + 7) c a) o 0 (nI (c + 1))) (fj_PY t) 53 7835 := by
  have n6 : ¬ o = o + 6 := by omega
  have n7 : ¬ o = o + 7 := by omega
  simp only [fs51_0, fs51_1, fs51_4, fs51_5, fs51_8, fs51_9, fs51_10, fs51_11, fs51_14, fs51_15, fs51_18, fs51_19, fs51_20, fs51_21, fs51_21i, fs51_22, fs51_25, fs51_26, fs51_27, fs51_30, fj_YO ho t, fj_OB, fj_AR, fj_CI, q_zo0, q_zo1, Option.toList_some, Option.toList_none, List.cons_append, List.nil_append, true_and, and_true, true_or, if_true, if_false, q_l10, q_l01, eq_self, Int32.reduceLT, Int32.reduceLE, Int32.reduceAdd, Int32.reduceSub, fj_up_at, Nat.reduceEqDiff, false_and, and_false, and_self, reduceCtorEq, Nat.reduceAdd, h0, n6, n7, q_in (show c < 24 by omega), q_clamp (show c < 100000 by omega), nI_1]
