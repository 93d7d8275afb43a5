/-! ===== a yard: what is told of it, and where the class and the reference keep it ===== -/
/-- high, wide, men, oils, sleepers, can, sign, what is in a cell, kinds, ears, cells of men, cells of oils -/
abbrev fj_Yd : Type := Nat × Nat × Nat × Nat × Nat × Nat × Nat × (Nat → Int32) × (Nat → Nat) × (Nat → Nat) × (Nat → Nat) × (Nat → Nat)
def yh (A : fj_Yd) : Nat := A.1
def yw (A : fj_Yd) : Nat := A.2.1
def yn (A : fj_Yd) : Nat := A.2.2.1
def yq (A : fj_Yd) : Nat := A.2.2.2.1
def ysl (A : fj_Yd) : Nat := A.2.2.2.2.1
def ycn (A : fj_Yd) : Nat := A.2.2.2.2.2.1
def ysg (A : fj_Yd) : Nat := A.2.2.2.2.2.2.1
def yic (A : fj_Yd) : Nat → Int32 := A.2.2.2.2.2.2.2.1
def ykd (A : fj_Yd) : Nat → Nat := A.2.2.2.2.2.2.2.2.1
def yer (A : fj_Yd) : Nat → Nat := A.2.2.2.2.2.2.2.2.2.1
def ymc (A : fj_Yd) : Nat → Nat := A.2.2.2.2.2.2.2.2.2.2.1
def yoc (A : fj_Yd) : Nat → Nat := A.2.2.2.2.2.2.2.2.2.2.2
/-- how many cells -/
def yc (A : fj_Yd) : Nat := yh A * yw A
/-- it is one: no yard, or one by a text -/
def fj_YV (A : fj_Yd) : Prop := ((yh A = 0 ∧ yw A = 0 ∧ yn A = 0 ∧ yq A = 0) ∨ (1 ≤ yh A ∧ yh A ≤ 4 ∧ 2 ≤ yw A ∧ yw A ≤ 6 ∧ 1 ≤ ycn A)) ∧ yn A ≤ 6 ∧ yq A ≤ 2 ∧ (∀ m, m < yn A → ykd A m ≤ 2 ∧ yer A m ≤ 5 ∧ ymc A m < yc A) ∧ (∀ x, x < yq A → yoc A x < yc A) ∧ ysl A < 2 ^ yn A ∧ ycn A ≤ 6 ∧ ysg A ≤ 99
def fj_YC (o : Nat) (M : fj_HM) (A : fj_Yd) : Prop := M o 0 = nI (yc A) ∧ M o 1 = nI (yn A) ∧ M o 2 = nI (yq A) ∧ M o 3 = nI (ysl A) ∧ M o 4 = nI (ycn A) ∧ M o 5 = nI (ysg A) ∧ (∀ c, c < yc A → M (o + 1) c = yic A c ∧ M (o + 6) c = nI (c / yw A) ∧ M (o + 7) c = nI (c % yw A)) ∧ (∀ m, m < yn A → M (o + 2) m = nI (ykd A m) ∧ M (o + 3) m = nI (yer A m) ∧ M (o + 4) m = nI (ymc A m)) ∧ ∀ x, x < yq A → M (o + 5) x = nI (yoc A x)
def fj_YM (M : fj_HM) (A : fj_Yd) : Prop := M 33 1 = nI (yh A) ∧ M 33 2 = nI (yw A) ∧ M 33 4 = nI (yn A) ∧ M 33 8 = nI (yq A) ∧ M 33 12 = nI (ysl A) ∧ M 33 10 = nI (ycn A) ∧ M 33 11 = nI (ysg A) ∧ (∀ c, c < yc A → M 34 c = yic A c) ∧ (∀ m, m < yn A → M 35 m = nI (ykd A m) ∧ M 36 m = nI (yer A m) ∧ M 37 m = nI (ymc A m)) ∧ ∀ x, x < yq A → M 38 x = nI (yoc A x)
/-- how far two cells are apart -/
def yD (A : fj_Yd) (c d : Nat) : Nat := ad2 (c / yw A) (d / yw A) + ad2 (c % yw A) (d % yw A)
/-- how far one hears -/
def hN (k e : Nat) : Nat := if k = 2 then 2 * (e + 1) else if k = 1 then e + 1 else e
/-- who hears a pour at a cell, all awake -/
def yH (A : fj_Yd) (c : Nat) : Nat := msk (fun m => decide (yD A c (ymc A m) ≤ hN (ykd A m) (yer A m))) (yn A)
theorem yc_le {A : fj_Yd} (h : fj_YV A) : yc A ≤ 24 := by
  obtain ⟨h1, -⟩ := h
  unfold yc
  rcases h1 with ⟨h1, h2, -⟩ | ⟨-, h1, -, h2, -⟩
  · rw [h1]; omega
  · exact Nat.mul_le_mul h1 h2
theorem yw_le {A : fj_Yd} (h : fj_YV A) : yw A ≤ 6 := by
  obtain ⟨h1, -⟩ := h
  rcases h1 with ⟨-, h1, -⟩ | ⟨-, -, -, h1, -⟩ <;> omega
theorem yw_pos {A : fj_Yd} (h : fj_YV A) {c : Nat} (hc : c < yc A) : 0 < yw A := by
  rcases Nat.eq_zero_or_pos (yw A) with h0 | h0
  · unfold yc at hc; rw [h0] at hc; omega
  · exact h0
theorem yn_le {A : fj_Yd} (h : fj_YV A) : yn A ≤ 6 := h.2.1
theorem yq_le {A : fj_Yd} (h : fj_YV A) : yq A ≤ 2 := h.2.2.1
theorem ym_kd {A : fj_Yd} (h : fj_YV A) {m : Nat} (hm : m < yn A) : ykd A m ≤ 2 := (h.2.2.2.1 m hm).1
theorem ym_er {A : fj_Yd} (h : fj_YV A) {m : Nat} (hm : m < yn A) : yer A m ≤ 5 := (h.2.2.2.1 m hm).2.1
theorem ym_mc {A : fj_Yd} (h : fj_YV A) {m : Nat} (hm : m < yn A) : ymc A m < yc A := (h.2.2.2.1 m hm).2.2
theorem yo_oc {A : fj_Yd} (h : fj_YV A) {x : Nat} (hx : x < yq A) : yoc A x < yc A := h.2.2.2.2.1 x hx
theorem ysl_lt {A : fj_Yd} (h : fj_YV A) : ysl A < 64 := by
  have h1 := h.2.2.2.2.2.1
  have h2 : 2 ^ yn A ≤ 2 ^ 6 := Nat.pow_le_pow_right (by decide) h.2.1
  omega
theorem yD_le {A : fj_Yd} (h : fj_YV A) {c d : Nat} (hc : c < yc A) (hd : d < yc A) : yD A c d ≤ 60 := by
  have h1 := yc_le h
  have h2 : c / yw A ≤ c := Nat.div_le_self _ _
  have h3 : d / yw A ≤ d := Nat.div_le_self _ _
  have h4 : c % yw A ≤ c := Nat.mod_le _ _
  have h5 : d % yw A ≤ d := Nat.mod_le _ _
  unfold yD ad2
  generalize c / yw A = x1 at *
  generalize d / yw A = x2 at *
  generalize c % yw A = x3 at *
  generalize d % yw A = x4 at *
  omega
theorem hN_le {k e : Nat} (hk : e ≤ 5) : hN k e ≤ 12 := by
  unfold hN
  split
  · omega
  · split <;> omega
theorem yH_lt (A : fj_Yd) (c : Nat) : yH A c < 2 ^ yn A := msk_lt _ _
theorem yH_bit (A : fj_Yd) (c m : Nat) : (yH A c).testBit m = (decide (m < yn A) && decide (yD A c (ymc A m) ≤ hN (ykd A m) (yer A m))) := msk_bit _ _ _
/-! the class's yard, method by method -/
theorem m40 {o : Nat} (ho : o = 17 ∨ o = 25) (t : Bool) {M : fj_HM} {Q : fj_Po} : fj_H none 40 0 [.ref o] [] M (fj_PY t) 53 7835 Q = if M o 0 ≤ 0 then Q (some (.int 0)) M (fj_PY t) 53 7835 else Q (some (.int 1)) M (fj_PY t) 53 7835 := by
  simp only [fs40_0, fs40_1, fs40_4, fs40_7, fs40_8, fs40_11, fs40_12, fj_YO ho t, fj_OB, fj_AR, fj_CI, q_zo0, q_zo1, Option.toList_some, Option.toList_none, List.cons_append, List.nil_append, true_and, and_true, true_or, if_true, if_false, q_l10, q_l01, eq_self, Int32.reduceLT, Int32.reduceLE, Int32.reduceAdd, Int32.reduceSub, fj_up_at, Nat.reduceEqDiff, false_and, and_false, and_self, reduceCtorEq, Nat.reduceAdd]
theorem m41 {o : Nat} (ho : o = 17 ∨ o = 25) (t : Bool) {M : fj_HM} {v : Int32} {Q : fj_Po} : fj_H none 41 0 [.ref o, .int v] [] M (fj_PY t) 53 7835 Q = if v < 0 then Q (some (.int 0)) M (fj_PY t) 53 7835 else if M o 0 ≤ v then Q (some (.int 0)) M (fj_PY t) 53 7835 else Q (some (.int 1)) M (fj_PY t) 53 7835 := by
  simp only [fs41_0, fs41_1, fs41_4, fs41_5, fs41_6, fs41_9, fs41_12, fs41_13, fs41_16, fs41_17, fj_YO ho t, fj_OB, fj_AR, fj_CI, q_zo0, q_zo1, Option.toList_some, Option.toList_none, List.cons_append, List.nil_append, true_and, and_true, true_or, if_true, if_false, q_l10, q_l01, eq_self, Int32.reduceLT, Int32.reduceLE, Int32.reduceAdd, Int32.reduceSub, fj_up_at, Nat.reduceEqDiff, false_and, and_false, and_self, reduceCtorEq, Nat.reduceAdd]
theorem m42 {o : Nat} (ho : o = 17 ∨ o = 25) (t : Bool) {M : fj_HM} {v : Int32} {Q : fj_Po} : fj_H none 42 0 [.ref o, .int v] [] M (fj_PY t) 53 7835 Q = if v < 0 then Q (some (.int 0)) M (fj_PY t) 53 7835 else if M o 1 ≤ v then Q (some (.int 0)) M (fj_PY t) 53 7835 else Q (some (.int 1)) M (fj_PY t) 53 7835 := by
  simp only [fs42_0, fs42_1, fs42_4, fs42_5, fs42_6, fs42_9, fs42_12, fs42_13, fs42_16, fs42_17, fj_YO ho t, fj_OB, fj_AR, fj_CI, q_zo0, q_zo1, Option.toList_some, Option.toList_none, List.cons_append, List.nil_append, true_and, and_true, true_or, if_true, if_false, q_l10, q_l01, eq_self, Int32.reduceLT, Int32.reduceLE, Int32.reduceAdd, Int32.reduceSub, fj_up_at, Nat.reduceEqDiff, false_and, and_false, and_self, reduceCtorEq, Nat.reduceAdd]
theorem m43 {o : Nat} (ho : o = 17 ∨ o = 25) (t : Bool) {M : fj_HM} {v : Int32} {Q : fj_Po} : fj_H none 43 0 [.ref o, .int v] [] M (fj_PY t) 53 7835 Q = if M o 3 >>> (v &&& 31) &&& 1 = 0 then Q (some (.int 0)) M (fj_PY t) 53 7835 else Q (some (.int 1)) M (fj_PY t) 53 7835 := by
  simp only [fs43_0, fs43_1, fs43_4, fs43_5, fs43_6, fs43_7, fs43_8, fs43_11, fs43_12, fs43_15, fs43_16, fj_YO ho t, fj_OB, fj_AR, fj_CI, q_zo0, q_zo1, Option.toList_some, Option.toList_none, List.cons_append, List.nil_append, true_and, and_true, true_or, if_true, if_false, q_l10, q_l01, eq_self, Int32.reduceLT, Int32.reduceLE, Int32.reduceAdd, Int32.reduceSub, fj_up_at, Nat.reduceEqDiff, false_and, and_false, and_self, reduceCtorEq, Nat.reduceAdd]
theorem m52 {o : Nat} (ho : o = 17 ∨ o = 25) (t : Bool) {M : fj_HM} {A : fj_Yd} (hV : fj_YV A) (hY : fj_YC o M A) {c d : Nat} (hc : c < yc A) (hd : d < yc A) {Q : fj_Po} : fj_H none 52 0 [.ref o, .int (nI c), .int (nI d)] [] M (fj_PY t) 53 7835 Q = Q (some (.int (nI (yD A c d)))) M (fj_PY t) 53 7835 := by
  have h24 := yc_le hV
  obtain ⟨-, -, -, -, -, -, h7, -⟩ := hY
  have k1 : c / yw A ≤ c := Nat.div_le_self _ _
  have k2 : d / yw A ≤ d := Nat.div_le_self _ _
  have k3 : c % yw A ≤ c := Nat.mod_le _ _
  have k4 : d % yw A ≤ d := Nat.mod_le _ _
  simp only [fs52_0, fs52_1, fs52_4, fs52_5, fs52_6, fs52_7, fs52_10, fs52_11, fs52_12, fs52_13, fs52_16, fs52_17, fs52_20, fs52_21, fs52_22, fs52_23, fs52_26, fs52_27, fs52_28, fs52_29, fs52_32, fs52_33, fj_YO ho t, fj_OB, fj_AR, fj_CI, q_zo0, q_zo1, Option.toList_some, Option.toList_none, List.cons_append, List.nil_append, true_and, and_true, true_or, if_true, if_false, q_l10, q_l01, eq_self, Int32.reduceLT, Int32.reduceLE, Int32.reduceAdd, Int32.reduceSub, fj_up_at, Nat.reduceEqDiff, false_and, and_false, and_self, reduceCtorEq, Nat.reduceAdd, q_in (show c < 24 by omega), q_in (show d < 24 by omega), q_clamp (show c < 100000 by omega), q_clamp (show d < 100000 by omega), (h7 c hc).2.1, (h7 c hc).2.2, (h7 d hd).2.1, (h7 d hd).2.2, q_abs (show c / yw A < 100000 by omega) (show d / yw A < 100000 by omega), q_abs (show c % yw A < 100000 by omega) (show d % yw A < 100000 by omega), nI_add, yD]
theorem m53 {M : fj_HM} {P : fj_HP} {k e : Nat} (hk : k ≤ 2) {Q : fj_Po} : fj_H none 53 0 [.int (nI k), .int (nI e)] [] M P 53 7835 Q = Q (some (.int (nI (hN k e)))) M P 53 7835 := by
  simp only [fs53_0, fs53_1, fs53_28, fs53_29, fs53_30, fs53_31, fs53_32, fs53_33, fs53_34, fs53_35, fs53_36, fs53_37, fs53_38, fs53_39, fj_OB, fj_AR, fj_CI, q_zo0, q_zo1, Option.toList_some, Option.toList_none, List.cons_append, List.nil_append, true_and, and_true, true_or, if_true, if_false, q_l10, q_l01, eq_self, Int32.reduceLT, Int32.reduceLE, Int32.reduceAdd, Int32.reduceSub, fj_up_at, Nat.reduceEqDiff, false_and, and_false, and_self, reduceCtorEq, Nat.reduceAdd]
  rcases (show k = 0 ∨ k = 1 ∨ k = 2 by omega) with rfl | rfl | rfl
  · simp only [hN]
    rfl
  · rw [if_pos (by decide)]
    simp only [hN, nI_1]
    rfl
  · rw [if_neg (by decide), if_pos (by decide)]
    simp only [hN, nI_1]
    rw [show (2 : Int32) = nI 2 from rfl, pk_mul]
    rfl
/-! who hears: the loop -/
theorem m54_loop {o : Nat} (ho : o = 17 ∨ o = 25) (t : Bool) {M : fj_HM} {A : fj_Yd} (hV : fj_YV A) (hY : fj_YC o M A) {c : Nat} (hc : c < yc A) {Q : fj_Po} : ∀ (k m : Nat), m + k = yn A → fj_H none 54 4 [.ref o, .int (nI c), .int (nI (msk (fun m => decide (yD A c (ymc A m) ≤ hN (ykd A m) (yer A m))) m)), .int (nI m)] [] M (fj_PY t) 53 7835 Q = Q (some (.int (nI (yH A c)))) M (fj_PY t) 53 7835 := by
  have h6 := yn_le hV
  obtain ⟨-, h2, -, -, -, -, -, h8, -⟩ := id hY
  intro k
  induction k with
  | zero =>
    intro m hm
    obtain rfl : m = yn A := by omega
    simp only [fs54_0, fs54_1, fs54_2, fs54_3, fs54_4, fs54_5, fs54_6, fs54_9, fs54_12, fs54_13, fs54_14, fs54_15, fs54_18, fs54_19, fs54_20, fs54_23, fs54_24, fs54_27, fs54_28, fs54_29, fs54_30, fs54_33, fs54_34, fs54_35, fs54_38, fs54_41, fs54_42, fs54_43, fs54_44, fs54_45, fs54_46, fs54_47, fs54_50, fs54_53, fs54_54, fj_YO ho t, fj_OB, fj_AR, fj_CI, q_zo0, q_zo1, Option.toList_some, Option.toList_none, List.cons_append, List.nil_append, true_and, and_true, true_or, if_true, if_false, q_l10, q_l01, eq_self, Int32.reduceLT, Int32.reduceLE, Int32.reduceAdd, Int32.reduceSub, fj_up_at, Nat.reduceEqDiff, false_and, and_false, and_self, reduceCtorEq, Nat.reduceAdd, h2, q_le (show yn A < 100000 by omega) (show yn A < 100000 by omega), Nat.le_refl]
    rfl
  | succ k ih =>
    intro m hm
    have hmn : m < yn A := by omega
    have hd := yD_le hV hc (ym_mc hV hmn)
    have hh := hN_le (k := ykd A m) (ym_er hV hmn)
    have hlt := msk_lt (fun m => decide (yD A c (ymc A m) ≤ hN (ykd A m) (yer A m))) m
    rw [fs54_4]
    simp only [fs54_0, fs54_1, fs54_2, fs54_3, fs54_5, fs54_6, fs54_9, fs54_12, fs54_13, fs54_14, fs54_15, fs54_18, fs54_19, fs54_20, fs54_23, fs54_24, fs54_27, fs54_28, fs54_29, fs54_30, fs54_33, fs54_34, fs54_35, fs54_38, fs54_41, fs54_42, fs54_43, fs54_44, fs54_45, fs54_46, fs54_47, fs54_50, fs54_53, fs54_54, fj_YO ho t, fj_OB, fj_AR, fj_CI, q_zo0, q_zo1, Option.toList_some, Option.toList_none, List.cons_append, List.nil_append, true_and, and_true, true_or, if_true, if_false, q_l10, q_l01, eq_self, Int32.reduceLT, Int32.reduceLE, Int32.reduceAdd, Int32.reduceSub, fj_up_at, Nat.reduceEqDiff, false_and, and_false, and_self, reduceCtorEq, Nat.reduceAdd, h2, q_le (show yn A < 100000 by omega) (show m < 100000 by omega), if_neg (show ¬ yn A ≤ m by omega), q_in (show m < 6 by omega), q_clamp (show m < 100000 by omega), (h8 m hmn).1, (h8 m hmn).2.1, (h8 m hmn).2.2, m52 ho t hV hY hc (ym_mc hV hmn), m53 (ym_kd hV hmn), q_lt (show hN (ykd A m) (yer A m) < 100000 by omega) (show yD A c (ymc A m) < 100000 by omega), q_shl m (by omega), q_or, nI_1]
    have ih' := ih (m + 1) (by omega)
    by_cases hx : hN (ykd A m) (yer A m) < yD A c (ymc A m)
    · rw [msk_f (by simp; omega)] at ih'
      rw [if_pos hx, ← ih']
    · rw [msk_t (by simp; omega)] at ih'
      rw [if_neg hx, ← ih']
theorem m54 {o : Nat} (ho : o = 17 ∨ o = 25) (t : Bool) {M : fj_HM} {A : fj_Yd} (hV : fj_YV A) (hY : fj_YC o M A) {c : Nat} (hc : c < yc A) {Q : fj_Po} : fj_H none 54 0 [.ref o, .int (nI c), .null, .null] [] M (fj_PY t) 53 7835 Q = Q (some (.int (nI (yH A c)))) M (fj_PY t) 53 7835 := by
  have h := m54_loop ho t hV hY hc (Q := Q) (yn A) 0 (Nat.zero_add _)
  simp only [fs54_0, fs54_1, fs54_2, fs54_3]
  exact h
/-! the steps of a plan -/
/-- a step is a man, or oil -/
def stp_ok (A : fj_Yd) (s : Int32) : Bool := decide (0 ≤ s ∧ s < nI (yn A)) || decide (6 ≤ s ∧ s < nI (6 + yq A))
theorem m56 {o : Nat} (ho : o = 17 ∨ o = 25) (t : Bool) {M : fj_HM} {v : Int32} {Q : fj_Po} : fj_H none 56 0 [.ref o, .int v] [] M (fj_PY t) 53 7835 Q = if v < 6 then Q (some (.int 0)) M (fj_PY t) 53 7835 else if 6 + M o 2 ≤ v then Q (some (.int 0)) M (fj_PY t) 53 7835 else Q (some (.int 1)) M (fj_PY t) 53 7835 := by
  simp only [fs56_0, fs56_1, fs56_3, fs56_6, fs56_7, fs56_9, fs56_10, fs56_13, fs56_14, fs56_17, fs56_18, fs56_21, fs56_22, fj_YO ho t, fj_OB, fj_AR, fj_CI, q_zo0, q_zo1, Option.toList_some, Option.toList_none, List.cons_append, List.nil_append, true_and, and_true, true_or, if_true, if_false, q_l10, q_l01, eq_self, Int32.reduceLT, Int32.reduceLE, Int32.reduceAdd, Int32.reduceSub, fj_up_at, Nat.reduceEqDiff, false_and, and_false, and_self, reduceCtorEq, Nat.reduceAdd]
/-- all of them, k from the i-th on -/
def stq (A : fj_Yd) (f : Nat → Int32) : Nat → Nat → Bool
  | _, 0 => true
  | i, k + 1 => stp_ok A (f i) && stq A f (i + 1) k
theorem stq_iff {A : fj_Yd} {f : Nat → Int32} : ∀ {k i : Nat}, stq A f i k = true ↔ ∀ j, i ≤ j → j < i + k → stp_ok A (f j) = true
  | 0, i => ⟨fun _ j h1 h2 => by omega, fun _ => rfl⟩
  | k + 1, i => by
    show (stp_ok A (f i) && stq A f (i + 1) k) = true ↔ _
    rw [Bool.and_eq_true, stq_iff (k := k) (i := i + 1)]
    constructor
    · intro h j h1 h2
      rcases Nat.eq_or_lt_of_le h1 with rfl | h3
      · exact h.1
      · exact h.2 j h3 (by omega)
    · exact fun h => ⟨h i (Nat.le_refl _) (by omega), fun j h1 h2 => h j (by omega) (by omega)⟩
theorem m55_loop {o : Nat} (ho : o = 17 ∨ o = 25) (t : Bool) {M : fj_HM} {A : fj_Yd} (hV : fj_YV A) (hY : fj_YC o M A) {n : Nat} (hn : n ≤ 20) {Q : fj_Po} : ∀ (k i : Nat), i + k = n → fj_H none 55 2 [.ref o, .ref 16, .int (nI n), .int (nI i)] [] M (fj_PY t) 53 7835 Q = Q (some (.int (if stq A (M 16) i k = true then 1 else 0))) M (fj_PY t) 53 7835 := by
  have h6 := yn_le hV
  have h62 := yq_le hV
  obtain ⟨-, h2, h3, -, -, -, -, -, -⟩ := id hY
  intro k
  induction k with
  | zero =>
    intro i hi
    obtain rfl : i = n := by omega
    simp only [fs55_0, fs55_1, fs55_2, fs55_3, fs55_4, fs55_7, fs55_8, fs55_9, fs55_10, fs55_13, fs55_14, fs55_15, fs55_16, fs55_17, fs55_20, fs55_23, fs55_24, fs55_25, fs55_26, fs55_27, fs55_30, fs55_33, fs55_34, fs55_35, fs55_38, fs55_41, fs55_42, fj_YO ho t, fj_OB, fj_AR, fj_CI, q_zo0, q_zo1, Option.toList_some, Option.toList_none, List.cons_append, List.nil_append, true_and, and_true, true_or, if_true, if_false, q_l10, q_l01, eq_self, Int32.reduceLT, Int32.reduceLE, Int32.reduceAdd, Int32.reduceSub, fj_up_at, Nat.reduceEqDiff, false_and, and_false, and_self, reduceCtorEq, Nat.reduceAdd, q_le (show i < 100000 by omega) (show i < 100000 by omega), Nat.le_refl, stq]
  | succ k ih =>
    intro i hi
    have hin : i < n := by omega
    have ih' := ih (i + 1) (by omega)
    have e60 : Int32.ofNat (fj_sh 16).2 = nI 60 := rfl
    have e16 : (16 < 53 ∧ (fj_sh 16).1 = 1) = True := eq_true ⟨by decide, rfl⟩
    rw [fs55_2]
    simp only [fs55_0, fs55_1, fs55_3, fs55_4, fs55_7, fs55_8, fs55_9, fs55_10, fs55_13, fs55_14, fs55_15, fs55_16, fs55_17, fs55_20, fs55_23, fs55_24, fs55_25, fs55_26, fs55_27, fs55_30, fs55_33, fs55_34, fs55_35, fs55_38, fs55_41, fs55_42, fj_YO ho t, fj_OB, fj_AR, fj_CI, q_zo0, q_zo1, Option.toList_some, Option.toList_none, List.cons_append, List.nil_append, true_and, and_true, true_or, if_true, if_false, q_l10, q_l01, eq_self, Int32.reduceLT, Int32.reduceLE, Int32.reduceAdd, Int32.reduceSub, fj_up_at, Nat.reduceEqDiff, false_and, and_false, and_self, reduceCtorEq, Nat.reduceAdd, h2, h3, m42 ho t, m56 ho t, e60, e16, q_le (show n < 100000 by omega) (show i < 100000 by omega), if_neg (show ¬ n ≤ i by omega), q_le (show 60 < 100000 by omega) (show i < 100000 by omega), if_neg (show ¬ 60 ≤ i by omega), q_in (show i < 60 by omega), q_clamp (show i < 100000 by omega), nI_1, ih', stq]
    have e6 : (6 : Int32) + nI (yq A) = nI (6 + yq A) := by rw [show (6 : Int32) = nI 6 from rfl, nI_add]
    rw [e6]
    by_cases h : stp_ok A (M 16 i) = true
    · simp only [h, Bool.true_and]
      unfold stp_ok at h
      simp only [Bool.or_eq_true, decide_eq_true_eq] at h
      rcases h with ⟨a1, a2⟩ | ⟨a1, a2⟩
      · rw [if_neg (Int32.not_lt.mpr a1), if_neg (Int32.not_le.mpr a2)]
      · have b1 : ¬ M 16 i < 0 := by
          rw [Int32.not_lt, Int32.le_iff_toInt_le]
          rw [Int32.le_iff_toInt_le] at a1
          have : (6 : Int32).toInt = 6 := rfl
          have : (0 : Int32).toInt = 0 := rfl
          omega
        rw [if_neg b1, if_neg (Int32.not_lt.mpr a1), if_neg (Int32.not_le.mpr a2)]
        split <;> rfl
    · simp only [h, Bool.false_and]
      have h' : ¬ (0 ≤ M 16 i ∧ M 16 i < nI (yn A)) ∧ ¬ (6 ≤ M 16 i ∧ M 16 i < nI (6 + yq A)) := by
        unfold stp_ok at h
        simp only [Bool.or_eq_true, decide_eq_true_eq, not_or] at h
        exact h
      rw [if_neg (show ¬ (false = true) by decide)]
      have c2 : ∀ X : Prop, (if M 16 i < 6 then Q (some (Value.int 0)) M (fj_PY t) 53 7835 else if nI (6 + yq A) ≤ M 16 i then Q (some (Value.int 0)) M (fj_PY t) 53 7835 else X) = Q (some (Value.int 0)) M (fj_PY t) 53 7835 := by
        intro X
        by_cases d1 : M 16 i < 6
        · rw [if_pos d1]
        · rw [if_neg d1, if_pos]
          rw [Int32.not_lt] at d1
          exact Int32.not_lt.mp fun z => h'.2 ⟨d1, z⟩
      rw [c2]
      by_cases d1 : M 16 i < 0
      · rw [if_pos d1]
      · rw [if_neg d1, if_pos]
        rw [Int32.not_lt] at d1
        exact Int32.not_lt.mp fun z => h'.1 ⟨d1, z⟩
theorem m55 {o : Nat} (ho : o = 17 ∨ o = 25) (t : Bool) {M : fj_HM} {A : fj_Yd} (hV : fj_YV A) (hY : fj_YC o M A) {n : Nat} (hn : n ≤ 20) {Q : fj_Po} : fj_H none 55 0 [.ref o, .ref 16, .int (nI n), .null] [] M (fj_PY t) 53 7835 Q = Q (some (.int (if stq A (M 16) 0 n = true then 1 else 0))) M (fj_PY t) 53 7835 := by
  have h := m55_loop ho t hV hY hn (Q := Q) n 0 (Nat.zero_add _)
  simp only [fs55_0, fs55_1]
  exact h
