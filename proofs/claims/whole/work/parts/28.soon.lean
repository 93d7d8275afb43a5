/-! ===== soonest, most, without: the class's ===== -/
def popc (v : Nat) : Nat := v % 2 + v / 2 % 2 + v / 4 % 2 + v / 8 % 2 + v / 16 % 2 + v / 32 % 2
theorem popc_le (v : Nat) : popc v ≤ 6 := by
  unfold popc
  omega
theorem m163 {v : Nat} (hv : v < 64) {M : fj_HM} {P : fj_HP} {c z : Nat} {Q : fj_Po} : fj_H none 163 0 [.int (nI v)] [] M P c z Q = Q (some (.int (nI (popc v)))) M P c z := by
  simp only [fs163_0, fs163_1, fs163_2, fs163_3, fs163_4, fs163_7, fs163_8, fs163_9, fs163_10, fs163_11, fs163_14, fs163_15, fs163_16, fs163_17, fs163_18, fs163_21, fs163_22, fs163_23, fs163_24, fs163_25, fs163_26, fs163_27, fs163_28, fs163_29, fs163_32, fs163_33, fs163_34, fs163_35, fs163_36, fs163_38, fs163_39, fs163_40, fs163_41, fs163_42, fs163_43, fs163_45, fs163_46, fs163_47, fs163_48, fs163_49, fs163_51, fs163_52, fj_OB, fj_AR, fj_CI, q_zo0, q_zo1, Option.toList_some, Option.toList_none, List.cons_append, List.nil_append, true_and, and_true, true_or, if_true, if_false, q_l10, q_l01, eq_self, Int32.reduceLT, Int32.reduceLE, Int32.reduceAdd, Int32.reduceSub, fj_up_at, Nat.reduceEqDiff, false_and, and_false, and_self, reduceCtorEq, Nat.reduceAdd]
  congr 3
  revert v
  decide +kernel
theorem q_all : ∀ n : Nat, n ≤ 6 → (1 : Int32) <<< (nI n &&& 31) - 1 = nI (2 ^ n - 1) := by decide +kernel
theorem all_lt {n : Nat} (h : n ≤ 6) : 2 ^ n - 1 < 64 := by
  have : 2 ^ n ≤ 2 ^ 6 := Nat.pow_le_pow_right (by decide) h
  omega
theorem m9 {o : Nat} (ho : o = 17 ∨ o = 25) (t : Bool) {A : fj_Yd} (hV : fj_YV A) (hc : 0 < yc A) (hcn : 1 ≤ ycn A) {a : Nat} {M : fj_HM} (hY : fj_YC o M A) (hj : ∀ j, j < 6 → ∃ c, c < 24 ∧ M (o + 4) j = nI c) {Q : fj_Po} (hK : ∀ M' s, (∀ o', o' ≠ 13 → o' ≠ 14 → o' ≠ 15 → M' o' = M o') → sMin A (sdf (2 ^ yn A - 1) a) (sdf (2 ^ yn A - 1) a) s → Q (some (.int (onI s))) M' (fj_PY t) 53 7835) : fj_H none 9 0 [.ref 12, .ref o, .int (nI a), .null, .null] [] M (fj_PY t) 53 7835 Q := by
  have h6 := yn_le hV
  have hp : sdf (2 ^ yn A - 1) a < 64 := sdf_lt (n := 6) (all_lt h6)
  have y2 := hY.2.1
  simp only [fs9_0, fs9_1, fs9_2, fs9_5, fs9_6, fs9_7, fs9_8, fs9_9, fs9_10, fs9_11, fs9_12, fs9_13, fs9_14, fs9_15, fs9_16, fj_YO ho t, fj_OB, fj_AR, fj_CI, q_zo0, q_zo1, Option.toList_some, Option.toList_none, List.cons_append, List.nil_append, true_and, and_true, true_or, if_true, if_false, q_l10, q_l01, eq_self, Int32.reduceLT, Int32.reduceLE, Int32.reduceAdd, Int32.reduceSub, fj_up_at, Nat.reduceEqDiff, false_and, and_false, and_self, reduceCtorEq, Nat.reduceAdd, y2, q_all _ h6, q_sdf]
  refine m11 ho t hV hc hcn hp hY hj (fun M1 L g1 g2 => ?_)
  obtain ⟨e1, e2⟩ := g2 _ (Nat.le_refl _)
  have hnev := tI_never (o := L (sdf (2 ^ yn A - 1) a)) (fun x hx => by
    obtain ⟨l, k, hR⟩ := e2.1 x hx
    have := (sRch_ok hV hc hR).2.1
    omega)
  simp only [fs9_19, fs9_20, fs9_23, fs9_24, fs9_25, fs9_26, fs9_27, fs9_28, fs9_29, fs9_31, fs9_33, fs9_35, fj_PV t, fj_OB, fj_AR, fj_CI, q_zo0, q_zo1, Option.toList_some, Option.toList_none, List.cons_append, List.nil_append, true_and, and_true, true_or, if_true, if_false, q_l10, q_l01, eq_self, Int32.reduceLT, Int32.reduceLE, Int32.reduceAdd, Int32.reduceSub, fj_up_at, Nat.reduceEqDiff, false_and, and_false, and_self, reduceCtorEq, Nat.reduceAdd, q_sdf, q_in hp, q_clamp (show sdf (2 ^ yn A - 1) a < 100000 by omega), e1]
  have hq := hK M1 _ g1 e2
  cases hn : L (sdf (2 ^ yn A - 1) a) with
  | none =>
    rw [hn] at hq
    rw [if_pos (show tI none = 2147483647 from rfl)]
    simp only [fs9_38, fs9_40, fs9_45, fj_OB, fj_AR, fj_CI, q_zo0, q_zo1, Option.toList_some, Option.toList_none, List.cons_append, List.nil_append, true_and, and_true, true_or, if_true, if_false, q_l10, q_l01, eq_self, Int32.reduceLT, Int32.reduceLE, Int32.reduceAdd, Int32.reduceSub, fj_up_at, Nat.reduceEqDiff, false_and, and_false, and_self, reduceCtorEq, Nat.reduceAdd]
    exact hq
  | some v =>
    rw [hn] at hq hnev
    rw [if_neg (by rw [hnev]; simp)]
    simp only [fs9_43, fs9_45, fj_OB, fj_AR, fj_CI, q_zo0, q_zo1, Option.toList_some, Option.toList_none, List.cons_append, List.nil_append, true_and, and_true, true_or, if_true, if_false, q_l10, q_l01, eq_self, Int32.reduceLT, Int32.reduceLE, Int32.reduceAdd, Int32.reduceSub, fj_up_at, Nat.reduceEqDiff, false_and, and_false, and_self, reduceCtorEq, Nat.reduceAdd]
    exact hq
/-- in time -/
def inT (L : Nat → Option Nat) (w set : Nat) : Bool := match L set with
  | none => false
  | some v => decide (v ≤ w)
/-- the first of the largest -/
def lgGo (f : Nat → Bool) : Nat → Nat
  | 0 => 0
  | s + 1 => if f s = true ∧ popc (lgGo f s) < popc s then s else lgGo f s
theorem lgGo_lt (f : Nat → Bool) : ∀ s, lgGo f s ≤ s
  | 0 => Nat.le_refl _
  | s + 1 => by
    have := lgGo_lt f s
    unfold lgGo
    split <;> omega
theorem m10_loop {o : Nat} (ho : o = 17 ∨ o = 25) (t : Bool) {p w : Nat} (hp6 : p < 64) (hw : w < 100000) {M : fj_HM} {L : Nat → Option Nat} (hL : ∀ set, set ≤ p → M 14 set = tI (L set) ∧ ∀ v, L set = some v → v < 100000) {Q : fj_Po} : ∀ (k i : Nat) (d : Value), i + k = p + 1 → fj_H none 10 21 [.ref 12, .ref o, .int (nI w), .int (nI p), .int (nI (lgGo (inT L w) i)), .int (nI i), d] [] M (fj_PY t) 53 7835 Q = Q (some (.int (nI (lgGo (inT L w) (p + 1))))) M (fj_PY t) 53 7835 := by
  intro k
  induction k with
  | zero =>
    intro i d hi
    obtain rfl : i = p + 1 := by omega
    rw [fs10_21]
    simp only [fs10_23, fs10_24, fj_OB, fj_AR, fj_CI, q_zo0, q_zo1, Option.toList_some, Option.toList_none, List.cons_append, List.nil_append, true_and, and_true, true_or, if_true, if_false, q_l10, q_l01, eq_self, Int32.reduceLT, Int32.reduceLE, Int32.reduceAdd, Int32.reduceSub, fj_up_at, Nat.reduceEqDiff, false_and, and_false, and_self, reduceCtorEq, Nat.reduceAdd, q_lt (show p < 100000 by omega) (show p + 1 < 100000 by omega), if_pos (Nat.lt_succ_self p)]
    simp only [fs10_73, fs10_75, fj_OB, fj_AR, fj_CI, q_zo0, q_zo1, Option.toList_some, Option.toList_none, List.cons_append, List.nil_append, true_and, and_true, true_or, if_true, if_false, q_l10, q_l01, eq_self, Int32.reduceLT, Int32.reduceLE, Int32.reduceAdd, Int32.reduceSub, fj_up_at, Nat.reduceEqDiff, false_and, and_false, and_self, reduceCtorEq, Nat.reduceAdd]
  | succ k ih =>
    intro i d hi
    have hip : i ≤ p := by omega
    obtain ⟨e1, e2⟩ := hL i hip
    have hlg := lgGo_lt (inT L w) i
    rw [fs10_21]
    simp only [fs10_23, fs10_24, fj_OB, fj_AR, fj_CI, q_zo0, q_zo1, Option.toList_some, Option.toList_none, List.cons_append, List.nil_append, true_and, and_true, true_or, if_true, if_false, q_l10, q_l01, eq_self, Int32.reduceLT, Int32.reduceLE, Int32.reduceAdd, Int32.reduceSub, fj_up_at, Nat.reduceEqDiff, false_and, and_false, and_self, reduceCtorEq, Nat.reduceAdd, q_lt (show p < 100000 by omega) (show i < 100000 by omega), if_neg (show ¬ p < i by omega)]
    simp only [fs10_27, fs10_28, fs10_31, fs10_33, fs10_34, fs10_35, fj_PV t, fj_OB, fj_AR, fj_CI, q_zo0, q_zo1, Option.toList_some, Option.toList_none, List.cons_append, List.nil_append, true_and, and_true, true_or, if_true, if_false, q_l10, q_l01, eq_self, Int32.reduceLT, Int32.reduceLE, Int32.reduceAdd, Int32.reduceSub, fj_up_at, Nat.reduceEqDiff, false_and, and_false, and_self, reduceCtorEq, Nat.reduceAdd, q_in (show i < 64 by omega), q_clamp (show i < 100000 by omega), e1]
    have hin : (nI w < tI (L i)) = (inT L w i = false) := by
      unfold inT
      cases hv : L i with
      | none =>
        have h1 : nI w < (2147483647 : Int32) := by
          rw [Int32.lt_iff_toInt_lt, q_toInt hw]
          have : (2147483647 : Int32).toInt = 2147483647 := rfl
          omega
        exact propext ⟨fun _ => rfl, fun _ => h1⟩
      | some v =>
        have hv2 := e2 v hv
        show (nI w < nI v) = (decide (v ≤ w) = false)
        rw [q_lt hw hv2, decide_eq_false_iff_not]
        exact propext ⟨fun h => by omega, fun h => by omega⟩
    by_cases hT : inT L w i = false
    · rw [if_pos (by rw [hin]; exact hT)]
      simp only [fs10_42, fs10_43, fs10_45, fs10_47, fs10_67, fs10_70, fj_OB, fj_AR, fj_CI, q_zo0, q_zo1, Option.toList_some, Option.toList_none, List.cons_append, List.nil_append, true_and, and_true, true_or, if_true, if_false, q_l10, q_l01, eq_self, Int32.reduceLT, Int32.reduceLE, Int32.reduceAdd, Int32.reduceSub, fj_up_at, Nat.reduceEqDiff, false_and, and_false, and_self, reduceCtorEq, Nat.reduceAdd, nI_1]
      have hs : lgGo (inT L w) i = lgGo (inT L w) (i + 1) := by
        show _ = if _ then _ else _
        rw [if_neg (fun z => by rw [hT] at z; exact absurd z.1 (by decide))]
      rw [hs]
      exact ih (i + 1) _ (by omega)
    · rw [if_neg (by rw [hin]; exact hT)]
      have b1 := popc_le i
      have b2 := popc_le (lgGo (inT L w) i)
      have hT2 : inT L w i = true := by simpa using hT
      simp only [fs10_38, fs10_39, fs10_43, fs10_45, fs10_47, fs10_50, fs10_52, fs10_55, fs10_57, fs10_60, fj_OB, fj_AR, fj_CI, q_zo0, q_zo1, Option.toList_some, Option.toList_none, List.cons_append, List.nil_append, true_and, and_true, true_or, if_true, if_false, q_l10, q_l01, eq_self, Int32.reduceLT, Int32.reduceLE, Int32.reduceAdd, Int32.reduceSub, fj_up_at, Nat.reduceEqDiff, false_and, and_false, and_self, reduceCtorEq, Nat.reduceAdd, m163 (show i < 64 by omega), m163 (show lgGo (inT L w) i < 64 by omega), q_le (show popc i < 100000 by omega) (show popc (lgGo (inT L w) i) < 100000 by omega)]
      by_cases hb : popc i ≤ popc (lgGo (inT L w) i)
      · rw [if_pos hb]
        simp only [fs10_67, fs10_70, fj_OB, fj_AR, fj_CI, q_zo0, q_zo1, Option.toList_some, Option.toList_none, List.cons_append, List.nil_append, true_and, and_true, true_or, if_true, if_false, q_l10, q_l01, eq_self, Int32.reduceLT, Int32.reduceLE, Int32.reduceAdd, Int32.reduceSub, fj_up_at, Nat.reduceEqDiff, false_and, and_false, and_self, reduceCtorEq, Nat.reduceAdd, nI_1]
        have hs : lgGo (inT L w) i = lgGo (inT L w) (i + 1) := by
          show _ = if _ then _ else _
          rw [if_neg (fun z => by omega)]
        rw [hs]
        exact ih (i + 1) _ (by omega)
      · rw [if_neg hb]
        simp only [fs10_63, fs10_65, fs10_67, fs10_70, fj_OB, fj_AR, fj_CI, q_zo0, q_zo1, Option.toList_some, Option.toList_none, List.cons_append, List.nil_append, true_and, and_true, true_or, if_true, if_false, q_l10, q_l01, eq_self, Int32.reduceLT, Int32.reduceLE, Int32.reduceAdd, Int32.reduceSub, fj_up_at, Nat.reduceEqDiff, false_and, and_false, and_self, reduceCtorEq, Nat.reduceAdd, nI_1]
        have hs : i = lgGo (inT L w) (i + 1) := by
          show _ = if _ then _ else _
          rw [if_pos ⟨hT2, by omega⟩]
        have h := ih (i + 1) (.int 1) (by omega)
        rw [← hs] at h
        exact h
theorem m10 {o : Nat} (ho : o = 17 ∨ o = 25) (t : Bool) {A : fj_Yd} (hV : fj_YV A) (hc : 0 < yc A) (hcn : 1 ≤ ycn A) {w : Nat} (hw : w < 100000) {M : fj_HM} (hY : fj_YC o M A) (hj : ∀ j, j < 6 → ∃ c, c < 24 ∧ M (o + 4) j = nI c) {Q : fj_Po} (hK : ∀ M' L, (∀ o', o' ≠ 13 → o' ≠ 14 → o' ≠ 15 → M' o' = M o') → (∀ set, set ≤ 2 ^ yn A - 1 → sMin A (2 ^ yn A - 1) set (L set)) → Q (some (.int (nI (lgGo (inT L w) (2 ^ yn A))))) M' (fj_PY t) 53 7835) : fj_H none 10 0 [.ref 12, .ref o, .int (nI w), .null, .null, .null, .null] [] M (fj_PY t) 53 7835 Q := by
  have h6 := yn_le hV
  have hp := all_lt h6
  have h1 : 2 ^ yn A - 1 + 1 = 2 ^ yn A := by have := Nat.two_pow_pos (yn A); omega
  have y2 := hY.2.1
  simp only [fs10_0, fs10_1, fs10_2, fs10_5, fs10_6, fs10_7, fs10_8, fs10_9, fs10_10, fs10_11, fs10_12, fj_YO ho t, fj_OB, fj_AR, fj_CI, q_zo0, q_zo1, Option.toList_some, Option.toList_none, List.cons_append, List.nil_append, true_and, and_true, true_or, if_true, if_false, q_l10, q_l01, eq_self, Int32.reduceLT, Int32.reduceLE, Int32.reduceAdd, Int32.reduceSub, fj_up_at, Nat.reduceEqDiff, false_and, and_false, and_self, reduceCtorEq, Nat.reduceAdd, y2, q_all _ h6]
  refine m11 ho t hV hc hcn hp hY hj (fun M1 L g1 g2 => ?_)
  simp only [fs10_15, fs10_16, fs10_18, fs10_19, fj_OB, fj_AR, fj_CI, q_zo0, q_zo1, Option.toList_some, Option.toList_none, List.cons_append, List.nil_append, true_and, and_true, true_or, if_true, if_false, q_l10, q_l01, eq_self, Int32.reduceLT, Int32.reduceLE, Int32.reduceAdd, Int32.reduceSub, fj_up_at, Nat.reduceEqDiff, false_and, and_false, and_self, reduceCtorEq, Nat.reduceAdd]
  have hl1 : lgGo (inT L w) 1 = 0 := by
    show (if _ then 0 else 0) = 0
    split <;> rfl
  have h := m10_loop ho t hp hw (M := M1) (L := L) (fun set hs => ⟨(g2 set hs).1, fun v hv => by
    obtain ⟨l, k, hR⟩ := (g2 set hs).2.1 v hv
    have := (sRch_ok hV hc hR).2.1
    omega⟩) (Q := Q) (2 ^ yn A - 1) 1 .null (by omega)
  rw [hl1] at h
  rw [h1] at h
  exact cast h.symm (hK M1 L g1 (fun set hs => (g2 set hs).2))
