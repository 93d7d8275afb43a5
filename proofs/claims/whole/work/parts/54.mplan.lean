/-! ===== the reference goes through a plan ===== -/
theorem q_six {g : Nat} (hg : g < 100000) : ((6 : Int32) ≤ nI g) = (6 ≤ g) := by rw [show (6 : Int32) = nI 6 from rfl]; exact q_le (by decide) hg
theorem m125 {t : Bool} {M : fj_HM} {A : fj_Yd} (hV : fj_YV A) (hY : fj_YM M A) {v : Int32} {Q : fj_Po} : fj_H none 125 0 [.ref 33, .int v] [] M (fj_PY t) 53 7835 Q = Q (some (.int (bI (!stp_ok A v)))) M (fj_PY t) 53 7835 := by
  have hn := yn_le hV
  have hq := yq_le hV
  have z6 : (6 : Int32) = nI 6 := rfl
  by_cases h6 : (6 : Int32) ≤ v
  · have e1 : (0 ≤ v ∧ v < nI (yn A)) = False := by
      apply eq_false
      intro z
      have a := z.2
      rw [Int32.lt_iff_toInt_lt, q_toInt (by omega)] at a
      rw [Int32.le_iff_toInt_le, z6, q_toInt (by decide)] at h6
      omega
    have e0 : (v - 6 < 0) = False := by
      apply eq_false
      intro z
      rw [Int32.lt_iff_toInt_lt, Int32.toInt_sub, z6, q_toInt (by decide)] at z
      rw [Int32.le_iff_toInt_le, z6, q_toInt (by decide)] at h6
      have b := Int32.toInt_lt v
      rw [Int.bmod_eq_of_le (by omega) (by omega)] at z
      have : (0 : Int32).toInt = 0 := rfl
      omega
    have e2 : (nI (yq A) ≤ v - 6) = (nI (6 + yq A) ≤ v) := by
      apply propext
      rw [Int32.le_iff_toInt_le, Int32.le_iff_toInt_le, Int32.toInt_sub, z6, q_toInt (n := 6) (by decide), q_toInt (n := yq A) (by omega), q_toInt (n := 6 + yq A) (by omega)]
      rw [Int32.le_iff_toInt_le, z6, q_toInt (by decide)] at h6
      have b := Int32.toInt_lt v
      rw [Int.bmod_eq_of_le (by omega) (by omega)]
      omega
    simp only [fs125_0, fs125_1, fs125_3, fs125_14, fs125_15, fs125_17, fs125_18, fs125_19, fs125_20, fs125_21, fs125_24, fs125_25, fs125_26, fs125_27, fj_PV t, fj_OB, fj_AR, fj_CI, q_zo0, q_zo1, Option.toList_some, Option.toList_none, List.cons_append, List.nil_append, true_and, and_true, true_or, if_true, if_false, q_l10, q_l01, eq_self, Int32.reduceLT, Int32.reduceLE, Int32.reduceAdd, Int32.reduceSub, fj_up_at, Nat.reduceEqDiff, false_and, and_false, and_self, reduceCtorEq, Nat.reduceAdd, eq_true h6, hY.2.2.2.1, m97n (show yq A < 100000 by omega), e0, e2]
    by_cases h : nI (6 + yq A) ≤ v
    · have er : stp_ok A v = false := by
        unfold stp_ok
        rw [decide_eq_false (by rw [e1]; exact not_false), decide_eq_false (fun z => absurd z.2 (Int32.not_lt.mpr h))]
        rfl
      rw [if_pos h, er]
      simp only [fs125_30, fs125_33, fs125_34, fs125_38, fj_OB, fj_AR, fj_CI, q_zo0, q_zo1, Option.toList_some, Option.toList_none, List.cons_append, List.nil_append, true_and, and_true, true_or, if_true, if_false, q_l10, q_l01, eq_self, Int32.reduceLT, Int32.reduceLE, Int32.reduceAdd, Int32.reduceSub, fj_up_at, Nat.reduceEqDiff, false_and, and_false, and_self, reduceCtorEq, Nat.reduceAdd]
      rfl
    · have er : stp_ok A v = true := by
        unfold stp_ok
        rw [decide_eq_true (show 6 ≤ v ∧ v < nI (6 + yq A) from ⟨h6, Int32.not_le.mp h⟩), Bool.or_true]
      rw [if_neg h, er]
      simp only [fs125_30, fs125_37, fs125_38, fj_OB, fj_AR, fj_CI, q_zo0, q_zo1, Option.toList_some, Option.toList_none, List.cons_append, List.nil_append, true_and, and_true, true_or, if_true, if_false, q_l10, q_l01, eq_self, Int32.reduceLT, Int32.reduceLE, Int32.reduceAdd, Int32.reduceSub, fj_up_at, Nat.reduceEqDiff, false_and, and_false, and_self, reduceCtorEq, Nat.reduceAdd]
      rfl
  · have e1 : (6 ≤ v ∧ v < nI (6 + yq A)) = False := eq_false (fun z => h6 z.1)
    simp only [fs125_0, fs125_1, fs125_3, fs125_6, fs125_7, fs125_8, fj_PV t, fj_OB, fj_AR, fj_CI, q_zo0, q_zo1, Option.toList_some, Option.toList_none, List.cons_append, List.nil_append, true_and, and_true, true_or, if_true, if_false, q_l10, q_l01, eq_self, Int32.reduceLT, Int32.reduceLE, Int32.reduceAdd, Int32.reduceSub, fj_up_at, Nat.reduceEqDiff, false_and, and_false, and_self, reduceCtorEq, Nat.reduceAdd, eq_false h6, m106 (show yn A < 100000 by omega) hY.2.2.1]
    by_cases h0 : v < 0
    · have er : stp_ok A v = false := by
        unfold stp_ok
        rw [decide_eq_false (fun z => absurd z.1 (Int32.not_le.mpr h0)), decide_eq_false (by rw [e1]; exact not_false)]
        rfl
      rw [if_pos h0, er]
      simp only [fs125_11, fs125_38, fj_OB, fj_AR, fj_CI, q_zo0, q_zo1, Option.toList_some, Option.toList_none, List.cons_append, List.nil_append, true_and, and_true, true_or, if_true, if_false, q_l10, q_l01, eq_self, Int32.reduceLT, Int32.reduceLE, Int32.reduceAdd, Int32.reduceSub, fj_up_at, Nat.reduceEqDiff, false_and, and_false, and_self, reduceCtorEq, Nat.reduceAdd]
      rfl
    · rw [if_neg h0]
      by_cases h1 : nI (yn A) ≤ v
      · have er : stp_ok A v = false := by
          unfold stp_ok
          rw [decide_eq_false (fun z => absurd z.2 (Int32.not_lt.mpr h1)), decide_eq_false (by rw [e1]; exact not_false)]
          rfl
        rw [if_pos h1, er]
        simp only [fs125_11, fs125_38, fj_OB, fj_AR, fj_CI, q_zo0, q_zo1, Option.toList_some, Option.toList_none, List.cons_append, List.nil_append, true_and, and_true, true_or, if_true, if_false, q_l10, q_l01, eq_self, Int32.reduceLT, Int32.reduceLE, Int32.reduceAdd, Int32.reduceSub, fj_up_at, Nat.reduceEqDiff, false_and, and_false, and_self, reduceCtorEq, Nat.reduceAdd]
        rfl
      · have er : stp_ok A v = true := by
          unfold stp_ok
          rw [decide_eq_true (show 0 ≤ v ∧ v < nI (yn A) from ⟨Int32.not_lt.mp h0, Int32.not_le.mp h1⟩), Bool.true_or]
        rw [if_neg h1, er]
        simp only [fs125_11, fs125_38, fj_OB, fj_AR, fj_CI, q_zo0, q_zo1, Option.toList_some, Option.toList_none, List.cons_append, List.nil_append, true_and, and_true, true_or, if_true, if_false, q_l10, q_l01, eq_self, Int32.reduceLT, Int32.reduceLE, Int32.reduceAdd, Int32.reduceSub, fj_up_at, Nat.reduceEqDiff, false_and, and_false, and_self, reduceCtorEq, Nat.reduceAdd]
        rfl
theorem m127_loop {t : Bool} {M : fj_HM} {A : fj_Yd} (hV : fj_YV A) (hY : fj_YM M A) {k i n : Nat} (hk : 60 * k + i + n ≤ 240) (hn : n ≤ 20) {a2 a5 a6 : Value} {Q : fj_Po} : ∀ (r x : Nat), x + r = n → fj_H none 127 87 [.ref 33, .int (nI k), a2, .int (nI i), .int (nI n), a5, a6, .int (nI x)] [] M (fj_PY t) 53 7835 Q = Q (some (.int (if stq A (fun j => M 51 (60 * k + i + j)) x r = true then 0 else -1))) (fj_up M 33 0 0) (fj_PY t) 53 7835 := by
  intro r
  induction r with
  | zero =>
    intro x hx
    rw [fs127_87]
    simp only [fs127_89, fs127_91, fj_OB, fj_AR, fj_CI, q_zo0, q_zo1, Option.toList_some, Option.toList_none, List.cons_append, List.nil_append, true_and, and_true, true_or, if_true, if_false, q_l10, q_l01, eq_self, Int32.reduceLT, Int32.reduceLE, Int32.reduceAdd, Int32.reduceSub, fj_up_at, Nat.reduceEqDiff, false_and, and_false, and_self, reduceCtorEq, Nat.reduceAdd, q_le (show n < 100000 by omega) (show x < 100000 by omega), eq_true (show n ≤ x by omega)]
    simp only [fs127_127, fs127_128, fs127_129, fs127_132, m102, fj_PV t, fj_OB, fj_AR, fj_CI, q_zo0, q_zo1, Option.toList_some, Option.toList_none, List.cons_append, List.nil_append, true_and, and_true, true_or, if_true, if_false, q_l10, q_l01, eq_self, Int32.reduceLT, Int32.reduceLE, Int32.reduceAdd, Int32.reduceSub, fj_up_at, Nat.reduceEqDiff, false_and, and_false, and_self, reduceCtorEq, Nat.reduceAdd, stq]
  | succ r ih =>
    intro x hx
    have e60 : (60 : Int32) * nI k + nI i + nI x = nI (60 * k + i + x) := by rw [show (60 : Int32) = nI 60 from rfl, q_mul, nI_add, nI_add]
    rw [fs127_87]
    simp only [fs127_89, fs127_91, fj_OB, fj_AR, fj_CI, q_zo0, q_zo1, Option.toList_some, Option.toList_none, List.cons_append, List.nil_append, true_and, and_true, true_or, if_true, if_false, q_l10, q_l01, eq_self, Int32.reduceLT, Int32.reduceLE, Int32.reduceAdd, Int32.reduceSub, fj_up_at, Nat.reduceEqDiff, false_and, and_false, and_self, reduceCtorEq, Nat.reduceAdd, q_le (show n < 100000 by omega) (show x < 100000 by omega), eq_false (show ¬ n ≤ x by omega)]
    have es : stq A (fun j => M 51 (60 * k + i + j)) x (r + 1) = (stp_ok A (M 51 (60 * k + i + x)) && stq A (fun j => M 51 (60 * k + i + j)) (x + 1) r) := rfl
    simp only [fs127_94, fs127_95, fs127_96, fs127_99, fs127_101, fs127_102, fs127_103, fs127_104, fs127_105, fs127_107, fs127_108, fs127_109, fj_PV t, fj_OB, fj_AR, fj_CI, q_zo0, q_zo1, Option.toList_some, Option.toList_none, List.cons_append, List.nil_append, true_and, and_true, true_or, if_true, if_false, q_l10, q_l01, eq_self, Int32.reduceLT, Int32.reduceLE, Int32.reduceAdd, Int32.reduceSub, fj_up_at, Nat.reduceEqDiff, false_and, and_false, and_self, reduceCtorEq, Nat.reduceAdd, e60, q_in (show 60 * k + i + x < 240 by omega), q_clamp (show 60 * k + i + x < 100000 by omega), m125 hV hY, es]
    cases hb : stp_ok A (M 51 (60 * k + i + x)) with
    | true =>
      simp only [Bool.not_true, bI, Bool.false_eq_true, if_false, fs127_112, fs127_121, fs127_124, fj_OB, fj_AR, fj_CI, q_zo0, q_zo1, Option.toList_some, Option.toList_none, List.cons_append, List.nil_append, true_and, and_true, true_or, if_true, if_false, q_l10, q_l01, eq_self, Int32.reduceLT, Int32.reduceLE, Int32.reduceAdd, Int32.reduceSub, fj_up_at, Nat.reduceEqDiff, false_and, and_false, and_self, reduceCtorEq, Nat.reduceAdd, nI_1, Bool.true_and]
      exact ih (x + 1) (by omega)
    | false =>
      simp only [Bool.not_false, bI, if_true, fs127_112, fs127_115, fs127_116, fs127_117, fs127_120, m102, fj_PV t, fj_OB, fj_AR, fj_CI, q_zo0, q_zo1, Option.toList_some, Option.toList_none, List.cons_append, List.nil_append, true_and, and_true, true_or, if_true, if_false, q_l10, q_l01, eq_self, Int32.reduceLT, Int32.reduceLE, Int32.reduceAdd, Int32.reduceSub, fj_up_at, Nat.reduceEqDiff, false_and, and_false, and_self, reduceCtorEq, Nat.reduceAdd, Bool.false_and, Bool.false_eq_true, if_false]
def fj_WM (A : fj_Yd) (M : fj_HM) (s : fj_W) : Prop := M 33 23 = nI (wat s) ∧ M 33 24 = nI (wle s) ∧ M 33 25 = nI (sdf (2 ^ yn A - 1) (wde s)) ∧ M 33 26 = nI (wmi s) ∧ M 33 27 = onI (wfw s) ∧ M 33 28 = onI (wfh s)
theorem onI_ge {x : Option Nat} (h : ∀ k, x = some k → k < 1000) : ((0 : Int32) ≤ onI x) = (x.isSome = true) := by
  cases x with
  | none =>
    apply propext
    exact ⟨fun z => absurd z (by decide), fun z => absurd z (by decide)⟩
  | some k =>
    have := h k rfl
    show ((0 : Int32) ≤ nI k) = _
    rw [q_0, q_le (by decide) (by omega)]
    exact propext ⟨fun _ => rfl, fun _ => Nat.zero_le _⟩
theorem all_bit {n m : Nat} (hm : m < n) (de : Nat) : (sdf (2 ^ n - 1) de).testBit m = !de.testBit m := by
  rw [sdf_bit, Nat.testBit_two_pow_sub_one, decide_eq_true hm, Bool.true_and]
theorem sdf_or (a b c : Nat) : sdf (sdf a b) c = sdf a (b ||| c) := by
  apply nat_ext
  intro i
  rw [sdf_bit, sdf_bit, sdf_bit, Nat.testBit_or]
  cases a.testBit i <;> cases b.testBit i <;> cases c.testBit i <;> rfl
theorem yHs_de {A : fj_Yd} (hV : fj_YV A) (c de : Nat) : yHs A c (sdf (2 ^ yn A - 1) de) = sdf (wHr A c de) (ysl A) := by
  have hn := yn_le hV
  rw [yHs_eq A c (sdf_lt (n := 6) (all_lt hn))]
  unfold wHr
  apply nat_ext
  intro i
  rw [sdf_bit, Nat.testBit_and, sdf_bit, sdf_bit, sdf_bit, Nat.testBit_two_pow_sub_one]
  by_cases hi : i < yn A
  · rw [decide_eq_true hi, Bool.true_and]
  · rw [tb_big (yH_lt A c) (by omega)]
    rfl
theorem m126_loop {t : Bool} {A : fj_Yd} (hV : fj_YV A) {n b : Nat} (hn : n ≤ 20) (hb : b + n ≤ 240) {g : Nat → Nat} (hg : ∀ j, j < n → gok A (g j)) {Q : fj_Po} : ∀ (k i : Nat) (s : fj_W) (M : fj_HM) (d4 d5 : Value), i + k = n → fj_WM A M s → wok A i s → fj_YM M A → (∀ j, j < n → M 51 (b + j) = nI (g j)) → (∀ M', (∀ o', o' ≠ 33 → M' o' = M o') → (∀ j, (j < 23 ∨ 28 < j) → M' 33 j = M 33 j) → fj_WM A M' (wGo A g k i s) → Q none M' (fj_PY t) 53 7835) → fj_H none 126 37 [.ref 33, .int (nI b), .int (nI n), .int (nI i), d4, d5] [] M (fj_PY t) 53 7835 Q := by
  have hn6 := yn_le hV
  have hq2 := yq_le hV
  have hc24 := yc_le hV
  intro k
  induction k with
  | zero =>
    intro i s M d4 d5 hk hW hO hY hs hQ
    rw [fs126_37]
    simp only [fs126_38, fs126_39, fj_OB, fj_AR, fj_CI, q_zo0, q_zo1, Option.toList_some, Option.toList_none, List.cons_append, List.nil_append, true_and, and_true, true_or, if_true, if_false, q_l10, q_l01, eq_self, Int32.reduceLT, Int32.reduceLE, Int32.reduceAdd, Int32.reduceSub, fj_up_at, Nat.reduceEqDiff, false_and, and_false, and_self, reduceCtorEq, Nat.reduceAdd, q_le (show n < 100000 by omega) (show i < 100000 by omega), eq_true (show n ≤ i by omega)]
    simp only [fs126_230, fj_OB, fj_AR, fj_CI, q_zo0, q_zo1, Option.toList_some, Option.toList_none, List.cons_append, List.nil_append, true_and, and_true, true_or, if_true, if_false, q_l10, q_l01, eq_self, Int32.reduceLT, Int32.reduceLE, Int32.reduceAdd, Int32.reduceSub, fj_up_at, Nat.reduceEqDiff, false_and, and_false, and_self, reduceCtorEq, Nat.reduceAdd]
    exact hQ M (fun _ _ => rfl) (fun _ _ => rfl) hW
  | succ k ih =>
    intro i s M d4 d5 hk hW hO hY hs hQ
    obtain ⟨w1, w2, w3, w4, w5, w6⟩ := hW
    obtain ⟨o1, o2, o3, o4, o5, o6, o7⟩ := id hO
    have hi : i < n := by omega
    have gi := hg i hi
    have si := hs i hi
    have lt6 : ∀ x, wfw s = some x → x < 1000 := fun x hx => by have := o6 x hx; omega
    have lt7 : ∀ x, wfh s = some x → x < 1000 := fun x hx => by have := o7 x hx; omega
    have eG : wGo A g (k + 1) i s = if (wfw s).isSome = true then s else wGo A g k (i + 1) (wStep A (g i) i s) := rfl
    have hO' := wok_step hV hO gi
    rw [fs126_37]
    simp only [fs126_38, fs126_39, fs126_42, fs126_43, fs126_46, fj_PV t, fj_OB, fj_AR, fj_CI, q_zo0, q_zo1, Option.toList_some, Option.toList_none, List.cons_append, List.nil_append, true_and, and_true, true_or, if_true, if_false, q_l10, q_l01, eq_self, Int32.reduceLT, Int32.reduceLE, Int32.reduceAdd, Int32.reduceSub, fj_up_at, Nat.reduceEqDiff, false_and, and_false, and_self, reduceCtorEq, Nat.reduceAdd, q_le (show n < 100000 by omega) (show i < 100000 by omega), eq_false (show ¬ n ≤ i by omega), w5, onI_ge lt6]
    by_cases hw : (wfw s).isSome = true
    · rw [if_pos hw]
      rw [eG, if_pos hw] at hQ
      simp only [fs126_230, fj_OB, fj_AR, fj_CI, q_zo0, q_zo1, Option.toList_some, Option.toList_none, List.cons_append, List.nil_append, true_and, and_true, true_or, if_true, if_false, q_l10, q_l01, eq_self, Int32.reduceLT, Int32.reduceLE, Int32.reduceAdd, Int32.reduceSub, fj_up_at, Nat.reduceEqDiff, false_and, and_false, and_self, reduceCtorEq, Nat.reduceAdd]
      exact hQ M (fun _ _ => rfl) (fun _ _ => rfl) ⟨w1, w2, w3, w4, w5, w6⟩
    · rw [if_neg hw]
      rw [eG, if_neg hw] at hQ
      have gl : g i < 8 := by
        rcases gi with z | z <;> omega
      have ebi : nI b + nI i = nI (b + i) := nI_add _ _
      simp only [fs126_49, fs126_50, fs126_53, fs126_54, fs126_55, fs126_56, fs126_57, fs126_59, fs126_61, fs126_63, fj_PV t, fj_OB, fj_AR, fj_CI, q_zo0, q_zo1, Option.toList_some, Option.toList_none, List.cons_append, List.nil_append, true_and, and_true, true_or, if_true, if_false, q_l10, q_l01, eq_self, Int32.reduceLT, Int32.reduceLE, Int32.reduceAdd, Int32.reduceSub, fj_up_at, Nat.reduceEqDiff, false_and, and_false, and_self, reduceCtorEq, Nat.reduceAdd, ebi, q_in (show b + i < 240 by omega), q_clamp (show b + i < 100000 by omega), si, q_six (show g i < 100000 by omega)]
      by_cases h6 : 6 ≤ g i
      · have hx : g i - 6 < yq A := by
          rcases gi with z | z <;> omega
        have e6 : nI (g i) - 6 = nI (g i - 6) := by rw [show (6 : Int32) = nI 6 from rfl, q_sub h6]
        have eo := hY.2.2.2.2.2.2.2.2.2 (g i - 6) hx
        have hcx := yo_oc hV hx
        have hstep : wStep A (g i) i s = wFill A (g i - 6) s := by unfold wStep; rw [if_pos h6]
        rw [hstep] at hQ hO'
        rw [if_pos h6]
        simp only [fs126_93, fs126_95, fs126_97, fs126_110, fs126_111, fs126_114, fs126_116, fs126_118, fs126_119, fs126_120, fs126_122, fs126_123, fs126_123i, fs126_124, fs126_127, fs126_128, fs126_129, fs126_132, fs126_134, fj_PV t, fj_OB, fj_AR, fj_CI, q_zo0, q_zo1, Option.toList_some, Option.toList_none, List.cons_append, List.nil_append, true_and, and_true, true_or, if_true, if_false, q_l10, q_l01, eq_self, Int32.reduceLT, Int32.reduceLE, Int32.reduceAdd, Int32.reduceSub, fj_up_at, Nat.reduceEqDiff, false_and, and_false, and_self, reduceCtorEq, Nat.reduceAdd, q_six (show g i < 100000 by omega), eq_true h6, e6, q_in (show g i - 6 < 2 by omega), q_clamp (show g i - 6 < 100000 by omega), eo, w1, w4, m118 hV hY o4 hcx]
        have ea : nI (wmi s) + nI (yD A (wat s) (yoc A (g i - 6)) + 1) = nI (wmi s + (yD A (wat s) (yoc A (g i - 6)) + 1)) := nI_add _ _
        simp only [fs126_137, fs126_138, fs126_139, fs126_140, fs126_143, fs126_144, fs126_146, fs126_149, fs126_151, fs126_153, fs126_216, fs126_217, fs126_218, fs126_221, fs126_224, fs126_227, fj_PV t, fj_OB, fj_AR, fj_CI, q_zo0, q_zo1, Option.toList_some, Option.toList_none, List.cons_append, List.nil_append, true_and, and_true, true_or, if_true, if_false, q_l10, q_l01, eq_self, Int32.reduceLT, Int32.reduceLE, Int32.reduceAdd, Int32.reduceSub, fj_up_at, Nat.reduceEqDiff, false_and, and_false, and_self, reduceCtorEq, Nat.reduceAdd, q_six (show g i < 100000 by omega), eq_true h6, ea, hY.2.2.2.2.2.1, nI_1]
        refine ih (i + 1) _ _ _ _ (by omega) ?_ hO' (fj_YM_cg (fun o _ _ => by (funext j; simp only [fj_up_at]; repeat (rw [if_neg (by omega)]))) (fun k' _ _ => by (simp only [fj_up_at]; repeat (first | rw [if_neg (by omega)] | rw [if_pos (by omega)]))) hY) (fun j hj => by (simp only [fj_up_at]; repeat (first | rw [if_neg (by omega)] | rw [if_pos (by omega)])); exact hs j hj) (fun M' u1 u2 u3 => hQ M' (fun o ho => by rw [u1 o ho]; (funext j; simp only [fj_up_at]; repeat (rw [if_neg (by omega)]))) (fun j hj => by rw [u2 j hj]; (simp only [fj_up_at]; repeat (first | rw [if_neg (by omega)] | rw [if_pos (by omega)]))) u3)
        refine ⟨?_, ?_, ?_, ?_, ?_, ?_⟩
        · (simp only [fj_up_at, true_and, and_self, if_true, eq_self, Nat.reduceEqDiff, false_and, if_false])
          rfl
        · (simp only [fj_up_at, true_and, and_self, if_true, eq_self, Nat.reduceEqDiff, false_and, if_false])
          rfl
        · (simp only [fj_up_at]; repeat (first | rw [if_neg (by omega)] | rw [if_pos (by omega)]))
          exact w3
        · (simp only [fj_up_at, true_and, and_self, if_true, eq_self, Nat.reduceEqDiff, false_and, if_false])
          rfl
        · (simp only [fj_up_at]; repeat (first | rw [if_neg (by omega)] | rw [if_pos (by omega)]))
          exact w5
        · (simp only [fj_up_at]; repeat (first | rw [if_neg (by omega)] | rw [if_pos (by omega)]))
          exact w6
      · have hm : g i < yn A := by
          rcases gi with z | z <;> omega
        have hmc := ym_mc hV hm
        obtain ⟨b1, b2, b3⟩ := hY.2.2.2.2.2.2.2.2.1 (g i) hm
        rw [if_neg h6]
        have e0 : (nI (wle s) = 0) = (wle s = 0) := by rw [q_0]; exact q_eq (by omega) (by decide)
        have hall : sdf (2 ^ yn A - 1) (wde s) < 64 := sdf_lt (n := 6) (all_lt hn6)
        have wrong : ¬ (0 < wle s ∧ (wde s).testBit (g i) = false) → fj_H none 126 85 [.ref 33, .int (nI b), .int (nI n), .int (nI i), .int (nI (g i)), d5] [] M (fj_PY t) 53 7835 Q := by
          intro hno
          have hstep : wStep A (g i) i s = wWrong i s := by unfold wStep; rw [if_neg h6, if_neg hno]
          rw [hstep] at hQ hO'
          simp only [fs126_85, fs126_86, fs126_87, fs126_90, fs126_224, fs126_227, fj_PV t, fj_OB, fj_AR, fj_CI, q_zo0, q_zo1, Option.toList_some, Option.toList_none, List.cons_append, List.nil_append, true_and, and_true, true_or, if_true, if_false, q_l10, q_l01, eq_self, Int32.reduceLT, Int32.reduceLE, Int32.reduceAdd, Int32.reduceSub, fj_up_at, Nat.reduceEqDiff, false_and, and_false, and_self, reduceCtorEq, Nat.reduceAdd, nI_1]
          refine ih (i + 1) _ _ _ _ (by omega) ?_ hO' (fj_YM_cg (fun o _ _ => by (funext j; simp only [fj_up_at]; repeat (rw [if_neg (by omega)]))) (fun k' _ _ => by (simp only [fj_up_at]; repeat (first | rw [if_neg (by omega)] | rw [if_pos (by omega)]))) hY) (fun j hj => by (simp only [fj_up_at]; repeat (first | rw [if_neg (by omega)] | rw [if_pos (by omega)])); exact hs j hj) (fun M' u1 u2 u3 => hQ M' (fun o ho => by rw [u1 o ho]; (funext j; simp only [fj_up_at]; repeat (rw [if_neg (by omega)]))) (fun j hj => by rw [u2 j hj]; (simp only [fj_up_at]; repeat (first | rw [if_neg (by omega)] | rw [if_pos (by omega)]))) u3)
          refine ⟨?_, ?_, ?_, ?_, ?_, ?_⟩
          · (simp only [fj_up_at]; repeat (first | rw [if_neg (by omega)] | rw [if_pos (by omega)]))
            exact w1
          · (simp only [fj_up_at]; repeat (first | rw [if_neg (by omega)] | rw [if_pos (by omega)]))
            exact w2
          · (simp only [fj_up_at]; repeat (first | rw [if_neg (by omega)] | rw [if_pos (by omega)]))
            exact w3
          · (simp only [fj_up_at]; repeat (first | rw [if_neg (by omega)] | rw [if_pos (by omega)]))
            exact w4
          · (simp only [fj_up_at, true_and, and_self, if_true, eq_self, Nat.reduceEqDiff, false_and, if_false])
            rfl
          · (simp only [fj_up_at]; repeat (first | rw [if_neg (by omega)] | rw [if_pos (by omega)]))
            exact w6
        simp only [fs126_66, fs126_67, fs126_70, fj_PV t, fj_OB, fj_AR, fj_CI, q_zo0, q_zo1, Option.toList_some, Option.toList_none, List.cons_append, List.nil_append, true_and, and_true, true_or, if_true, if_false, q_l10, q_l01, eq_self, Int32.reduceLT, Int32.reduceLE, Int32.reduceAdd, Int32.reduceSub, fj_up_at, Nat.reduceEqDiff, false_and, and_false, and_self, reduceCtorEq, Nat.reduceAdd, w2, e0]
        by_cases hl : wle s = 0
        · rw [if_pos hl]
          exact wrong (by omega)
        · rw [if_neg hl]
          simp only [fs126_73, fs126_74, fs126_77, fs126_79, fj_PV t, fj_OB, fj_AR, fj_CI, q_zo0, q_zo1, Option.toList_some, Option.toList_none, List.cons_append, List.nil_append, true_and, and_true, true_or, if_true, if_false, q_l10, q_l01, eq_self, Int32.reduceLT, Int32.reduceLE, Int32.reduceAdd, Int32.reduceSub, fj_up_at, Nat.reduceEqDiff, false_and, and_false, and_self, reduceCtorEq, Nat.reduceAdd, w3, m99 (show sdf (2 ^ yn A - 1) (wde s) < 100000 by omega) (show g i < 31 by omega), all_bit hm]
          cases hbit : (wde s).testBit (g i) with
          | true =>
            simp only [Bool.not_true, bI, Bool.false_eq_true, if_false, fs126_82, fj_OB, fj_AR, fj_CI, q_zo0, q_zo1, Option.toList_some, Option.toList_none, List.cons_append, List.nil_append, true_and, and_true, true_or, if_true, if_false, q_l10, q_l01, eq_self, Int32.reduceLT, Int32.reduceLE, Int32.reduceAdd, Int32.reduceSub, fj_up_at, Nat.reduceEqDiff, false_and, and_false, and_self, reduceCtorEq, Nat.reduceAdd]
            exact wrong (fun z => by rw [hbit] at z; exact absurd z.2 (by decide))
          | false =>
            have hstep : wStep A (g i) i s = wPour A (g i) i s := by unfold wStep; rw [if_neg h6, if_pos ⟨by omega, hbit⟩]
            rw [hstep] at hQ hO'
            have ea : nI (wmi s) + (nI (yD A (wat s) (ymc A (g i))) + 1) = nI (wmi s + (yD A (wat s) (ymc A (g i)) + 1)) := by rw [nI_1, nI_add]
            have el : nI (wle s) - 1 = nI (wle s - 1) := by rw [q_1, q_sub (by omega)]
            have ed : sdf (sdf (2 ^ yn A - 1) (wde s)) (2 ^ g i) = sdf (2 ^ yn A - 1) (wde s ||| 2 ^ g i) := sdf_or _ _ _
            simp only [Bool.not_false, bI, if_true, fs126_82, fs126_93, fs126_95, fs126_97, fs126_100, fs126_101, fs126_104, fs126_106, fs126_107, fs126_120, fs126_122, fs126_123, fs126_123i, fs126_124, fs126_127, fs126_128, fs126_129, fs126_132, fs126_134, fj_PV t, fj_OB, fj_AR, fj_CI, q_zo0, q_zo1, Option.toList_some, Option.toList_none, List.cons_append, List.nil_append, true_and, and_true, true_or, if_true, if_false, q_l10, q_l01, eq_self, Int32.reduceLT, Int32.reduceLE, Int32.reduceAdd, Int32.reduceSub, fj_up_at, Nat.reduceEqDiff, false_and, and_false, and_self, reduceCtorEq, Nat.reduceAdd, q_six (show g i < 100000 by omega), eq_false h6, q_in (show g i < 6 by omega), q_clamp (show g i < 100000 by omega), b3, w1, w4, m118 hV hY o4 hmc]
            simp only [fs126_137, fs126_138, fs126_139, fs126_140, fs126_143, fs126_144, fs126_146, fs126_149, fs126_151, fs126_153, fs126_156, fs126_157, fs126_157i, fs126_158, fs126_161, fs126_162, fs126_163, fs126_166, fs126_167, fs126_167i, fs126_168, fs126_171, fs126_172, fs126_174, fs126_175, fs126_176, fs126_177, fs126_178, fs126_181, fs126_182, fs126_183, fs126_186, fj_PV t, fj_OB, fj_AR, fj_CI, q_zo0, q_zo1, Option.toList_some, Option.toList_none, List.cons_append, List.nil_append, true_and, and_true, true_or, if_true, if_false, q_l10, q_l01, eq_self, Int32.reduceLT, Int32.reduceLE, Int32.reduceAdd, Int32.reduceSub, fj_up_at, Nat.reduceEqDiff, false_and, and_false, and_self, reduceCtorEq, Nat.reduceAdd, q_six (show g i < 100000 by omega), eq_false h6, ea, w2, w3, w6, el, q_shl (g i) (by omega), q_sdf, ed, onI_ge lt7]
            have rest : ∀ f : Option Nat, f = (if wfh s = none ∧ sdf (wHr A (ymc A (g i)) (wde s ||| 2 ^ g i)) (ysl A) ≠ 0 then some i else wfh s) → fj_H none 126 210 [.ref 33, .int (nI b), .int (nI n), .int (nI i), .int (nI (g i)), .int (nI (ymc A (g i)))] [.int (onI f), .ref 33] (fj_up (fj_up (fj_up (fj_up M 33 26 (nI (wmi s + (yD A (wat s) (ymc A (g i)) + 1)))) 33 23 (nI (ymc A (g i)))) 33 24 (nI (wle s - 1))) 33 25 (nI (sdf (2 ^ yn A - 1) (wde s ||| 2 ^ g i)))) (fj_PY t) 53 7835 Q := by
              intro f hf
              simp only [fs126_210, fs126_213, fs126_224, fs126_227, fj_PV t, fj_OB, fj_AR, fj_CI, q_zo0, q_zo1, Option.toList_some, Option.toList_none, List.cons_append, List.nil_append, true_and, and_true, true_or, if_true, if_false, q_l10, q_l01, eq_self, Int32.reduceLT, Int32.reduceLE, Int32.reduceAdd, Int32.reduceSub, fj_up_at, Nat.reduceEqDiff, false_and, and_false, and_self, reduceCtorEq, Nat.reduceAdd, nI_1]
              refine ih (i + 1) _ _ _ _ (by omega) ?_ hO' (fj_YM_cg (fun o _ _ => by (funext j; simp only [fj_up_at]; repeat (rw [if_neg (by omega)]))) (fun k' _ _ => by (simp only [fj_up_at]; repeat (first | rw [if_neg (by omega)] | rw [if_pos (by omega)]))) hY) (fun j hj => by (simp only [fj_up_at]; repeat (first | rw [if_neg (by omega)] | rw [if_pos (by omega)])); exact hs j hj) (fun M' u1 u2 u3 => hQ M' (fun o ho => by rw [u1 o ho]; (funext j; simp only [fj_up_at]; repeat (rw [if_neg (by omega)]))) (fun j hj => by rw [u2 j hj]; (simp only [fj_up_at]; repeat (first | rw [if_neg (by omega)] | rw [if_pos (by omega)]))) u3)
              refine ⟨?_, ?_, ?_, ?_, ?_, ?_⟩
              · (simp only [fj_up_at, true_and, and_self, if_true, eq_self, Nat.reduceEqDiff, false_and, if_false])
                rfl
              · (simp only [fj_up_at, true_and, and_self, if_true, eq_self, Nat.reduceEqDiff, false_and, if_false])
                rfl
              · (simp only [fj_up_at, true_and, and_self, if_true, eq_self, Nat.reduceEqDiff, false_and, if_false])
                rfl
              · (simp only [fj_up_at, true_and, and_self, if_true, eq_self, Nat.reduceEqDiff, false_and, if_false])
                rfl
              · (simp only [fj_up_at]; repeat (first | rw [if_neg (by omega)] | rw [if_pos (by omega)]))
                exact w5
              · (simp only [fj_up_at, true_and, and_self, if_true, eq_self, Nat.reduceEqDiff, false_and, if_false])
                rw [hf]
                rfl
            cases hfh : wfh s with
            | some y =>
              simp only [Option.isSome_some, fs126_206, fs126_207, fj_PV t, fj_OB, fj_AR, fj_CI, q_zo0, q_zo1, Option.toList_some, Option.toList_none, List.cons_append, List.nil_append, true_and, and_true, true_or, if_true, if_false, q_l10, q_l01, eq_self, Int32.reduceLT, Int32.reduceLE, Int32.reduceAdd, Int32.reduceSub, fj_up_at, Nat.reduceEqDiff, false_and, and_false, and_self, reduceCtorEq, Nat.reduceAdd, w6]
              rw [hfh]
              exact rest (some y) (by rw [hfh, if_neg (fun z => absurd z.1 (by simp))])
            | none =>
              have hst : sdf (2 ^ yn A - 1) (wde s ||| 2 ^ g i) < 64 := sdf_lt (n := 6) (all_lt hn6)
              have hY4 : fj_YM (fj_up (fj_up (fj_up (fj_up M 33 26 (nI (wmi s + (yD A (wat s) (ymc A (g i)) + 1)))) 33 23 (nI (ymc A (g i)))) 33 24 (nI (wle s - 1))) 33 25 (nI (sdf (2 ^ yn A - 1) (wde s ||| 2 ^ g i)))) A := fj_YM_cg (fun o _ _ => by (funext j; simp only [fj_up_at]; repeat (rw [if_neg (by omega)]))) (fun k' _ _ => by (simp only [fj_up_at]; repeat (first | rw [if_neg (by omega)] | rw [if_pos (by omega)]))) hY
              have hl64 : sdf (wHr A (ymc A (g i)) (wde s ||| 2 ^ g i)) (ysl A) < 64 := sdf_lt (n := 6) (Nat.lt_of_lt_of_le (wHr_lt A _ _) (p2_le hn6))
              have ez : (nI (sdf (wHr A (ymc A (g i)) (wde s ||| 2 ^ g i)) (ysl A)) = 0) = (sdf (wHr A (ymc A (g i)) (wde s ||| 2 ^ g i)) (ysl A) = 0) := by rw [q_0]; exact q_eq (by omega) (by decide)
              simp only [Option.isSome_none, Bool.false_eq_true, fs126_189, fs126_190, fs126_192, fs126_193, fs126_196, fs126_199, fj_PV t, fj_OB, fj_AR, fj_CI, q_zo0, q_zo1, Option.toList_some, Option.toList_none, List.cons_append, List.nil_append, true_and, and_true, true_or, if_true, if_false, q_l10, q_l01, eq_self, Int32.reduceLT, Int32.reduceLE, Int32.reduceAdd, Int32.reduceSub, fj_up_at, Nat.reduceEqDiff, false_and, and_false, and_self, reduceCtorEq, Nat.reduceAdd, m123 hV hY4 hmc hst, yHs_de hV, ez]
              by_cases hh : sdf (wHr A (ymc A (g i)) (wde s ||| 2 ^ g i)) (ysl A) = 0
              · rw [if_pos hh]
                simp only [fs126_206, fs126_207, fj_PV t, fj_OB, fj_AR, fj_CI, q_zo0, q_zo1, Option.toList_some, Option.toList_none, List.cons_append, List.nil_append, true_and, and_true, true_or, if_true, if_false, q_l10, q_l01, eq_self, Int32.reduceLT, Int32.reduceLE, Int32.reduceAdd, Int32.reduceSub, fj_up_at, Nat.reduceEqDiff, false_and, and_false, and_self, reduceCtorEq, Nat.reduceAdd, w6]
                rw [hfh]
                exact rest none (by rw [hfh, if_neg (fun z => z.2 hh)])
              · rw [if_neg hh]
                simp only [fs126_202, fs126_203, fj_PV t, fj_OB, fj_AR, fj_CI, q_zo0, q_zo1, Option.toList_some, Option.toList_none, List.cons_append, List.nil_append, true_and, and_true, true_or, if_true, if_false, q_l10, q_l01, eq_self, Int32.reduceLT, Int32.reduceLE, Int32.reduceAdd, Int32.reduceSub, fj_up_at, Nat.reduceEqDiff, false_and, and_false, and_self, reduceCtorEq, Nat.reduceAdd]
                exact rest (some i) (by rw [if_pos ⟨hfh, hh⟩])
theorem m126 {t : Bool} {A : fj_Yd} (hV : fj_YV A) (hc : 0 < yc A) {n b : Nat} (hn : n ≤ 20) (hb : b + n ≤ 240) {g : Nat → Nat} (hg : ∀ j, j < n → gok A (g j)) {M : fj_HM} (hY : fj_YM M A) (hs : ∀ j, j < n → M 51 (b + j) = nI (g j)) {Q : fj_Po} (hQ : ∀ M', (∀ o', o' ≠ 33 → M' o' = M o') → (∀ j, (j < 23 ∨ 28 < j) → M' 33 j = M 33 j) → fj_WM A M' (wGo A g n 0 w0) → Q none M' (fj_PY t) 53 7835) : fj_H none 126 0 [.ref 33, .int (nI b), .int (nI n), .null, .null, .null] [] M (fj_PY t) 53 7835 Q := by
  have hn6 := yn_le hV
  simp only [fs126_0, fs126_1, fs126_2, fs126_5, fs126_6, fs126_7, fs126_10, fs126_11, fs126_12, fj_PV t, fj_OB, fj_AR, fj_CI, q_zo0, q_zo1, Option.toList_some, Option.toList_none, List.cons_append, List.nil_append, true_and, and_true, true_or, if_true, if_false, q_l10, q_l01, eq_self, Int32.reduceLT, Int32.reduceLE, Int32.reduceAdd, Int32.reduceSub, fj_up_at, Nat.reduceEqDiff, false_and, and_false, and_self, reduceCtorEq, Nat.reduceAdd, m107 hn6 (show fj_up (fj_up M 33 23 0) 33 24 0 33 4 = nI (yn A) from hY.2.2.1)]
  simp only [fs126_15, fs126_18, fs126_19, fs126_20, fs126_23, fs126_24, fs126_26, fs126_29, fs126_30, fs126_32, fs126_35, fs126_36, fj_PV t, fj_OB, fj_AR, fj_CI, q_zo0, q_zo1, Option.toList_some, Option.toList_none, List.cons_append, List.nil_append, true_and, and_true, true_or, if_true, if_false, q_l10, q_l01, eq_self, Int32.reduceLT, Int32.reduceLE, Int32.reduceAdd, Int32.reduceSub, fj_up_at, Nat.reduceEqDiff, false_and, and_false, and_self, reduceCtorEq, Nat.reduceAdd]
  refine m126_loop hV hn hb hg n 0 w0 _ _ _ (Nat.zero_add n) ?_ ⟨Nat.zero_le _, Nat.two_pow_pos _, Nat.zero_le _, hc, Nat.two_pow_pos _, (fun k hk => by cases hk), (fun k hk => by cases hk)⟩ (fj_YM_cg (fun o _ _ => by (funext j; simp only [fj_up_at]; repeat (rw [if_neg (by omega)]))) (fun k' _ _ => by (simp only [fj_up_at]; repeat (first | rw [if_neg (by omega)] | rw [if_pos (by omega)]))) hY) (fun j hj => by (simp only [fj_up_at]; repeat (first | rw [if_neg (by omega)] | rw [if_pos (by omega)])); exact hs j hj) (fun M' u1 u2 u3 => hQ M' (fun o ho => by rw [u1 o ho]; (funext j; simp only [fj_up_at]; repeat (rw [if_neg (by omega)]))) (fun j hj => by rw [u2 j hj]; (simp only [fj_up_at]; repeat (first | rw [if_neg (by omega)] | rw [if_pos (by omega)]))) u3)
  have e0 : sdf (2 ^ yn A - 1) (wde w0) = 2 ^ yn A - 1 := by
    apply nat_ext
    intro i
    rw [sdf_bit]
    show ((2 ^ yn A - 1).testBit i && !(0 : Nat).testBit i) = _
    rw [Nat.zero_testBit, Bool.not_false, Bool.and_true]
  unfold fj_WM
  rw [e0]
  refine ⟨?_, ?_, ?_, ?_, ?_, ?_⟩
  · (simp only [fj_up_at, true_and, and_self, if_true, eq_self, Nat.reduceEqDiff, false_and, if_false])
    rfl
  · (simp only [fj_up_at, true_and, and_self, if_true, eq_self, Nat.reduceEqDiff, false_and, if_false])
    rfl
  · (simp only [fj_up_at, true_and, and_self, if_true, eq_self, Nat.reduceEqDiff, false_and, if_false])
  · (simp only [fj_up_at, true_and, and_self, if_true, eq_self, Nat.reduceEqDiff, false_and, if_false])
    rfl
  · (simp only [fj_up_at, true_and, and_self, if_true, eq_self, Nat.reduceEqDiff, false_and, if_false])
    rfl
  · (simp only [fj_up_at, true_and, and_self, if_true, eq_self, Nat.reduceEqDiff, false_and, if_false])
    rfl
