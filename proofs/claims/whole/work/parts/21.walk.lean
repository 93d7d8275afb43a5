/-! ===== a plan, step by step ===== -/
theorem fj_YC_cg {o : Nat} {M M' : fj_HM} {A : fj_Yd} (h : ∀ i, i ≤ 7 → ∀ j, M' (o + i) j = M (o + i) j) (hY : fj_YC o M A) : fj_YC o M' A := by
  obtain ⟨h1, h2, h3, h4, h5, h6, h7, h8, h9⟩ := hY
  have h0 := h 0 (by omega)
  rw [Nat.add_zero] at h0
  refine ⟨by rw [h0]; exact h1, by rw [h0]; exact h2, by rw [h0]; exact h3, by rw [h0]; exact h4, by rw [h0]; exact h5, by rw [h0]; exact h6, fun c hc => ?_, fun m hm => ?_, fun x hx => ?_⟩
  · rw [h 1 (by omega), h 6 (by omega), h 7 (by omega)]; exact h7 c hc
  · rw [h 2 (by omega), h 3 (by omega), h 4 (by omega)]; exact h8 m hm
  · rw [h 5 (by omega)]; exact h9 x hx
theorem fj_YC_up {o : Nat} (ho : o = 17 ∨ o = 25) {o' : Nat} (h : o' < 17 ∨ 32 < o') {M : fj_HM} {k : Nat} {v : Int32} {A : fj_Yd} : fj_YC o (fj_up M o' k v) A = fj_YC o M A := by
  have key : ∀ i, i ≤ 7 → ∀ j, fj_up M o' k v (o + i) j = M (o + i) j := fun i hi j => by
    rw [fj_up_at, if_neg]
    omega
  exact propext ⟨fj_YC_cg fun i hi j => (key i hi j).symm, fj_YC_cg key⟩
/-- minutes, first wrong, first heard, who is dealt with, what is in the can, where she is, who could hear -/
abbrev fj_W : Type := Nat × Option Nat × Option Nat × Nat × Nat × Nat × Nat
def wmi (s : fj_W) : Nat := s.1
def wfw (s : fj_W) : Option Nat := s.2.1
def wfh (s : fj_W) : Option Nat := s.2.2.1
def wde (s : fj_W) : Nat := s.2.2.2.1
def wle (s : fj_W) : Nat := s.2.2.2.2.1
def wat (s : fj_W) : Nat := s.2.2.2.2.2.1
def wco (s : fj_W) : Nat := s.2.2.2.2.2.2
def onI : Option Nat → Int32
  | none => -9
  | some k => nI k
/-- who hears a pour at a cell, of those who stand -/
def wHr (A : fj_Yd) (c de : Nat) : Nat := sdf (yH A c) de
/-- a pour on a man, as the i-th step -/
def wPour (A : fj_Yd) (m i : Nat) (s : fj_W) : fj_W :=
  (wmi s + (yD A (wat s) (ymc A m) + 1), wfw s, (if wfh s = none ∧ sdf (wHr A (ymc A m) (wde s ||| 2 ^ m)) (ysl A) ≠ 0 then some i else wfh s), wde s ||| 2 ^ m, wle s - 1, ymc A m, wco s ||| wHr A (ymc A m) (wde s ||| 2 ^ m))
def wFill (A : fj_Yd) (x : Nat) (s : fj_W) : fj_W := (wmi s + (yD A (wat s) (yoc A x) + 1), wfw s, wfh s, wde s, ycn A, yoc A x, wco s)
def wWrong (i : Nat) (s : fj_W) : fj_W := (wmi s, some i, wfh s, wde s, wle s, wat s, wco s)
def wStep (A : fj_Yd) (g i : Nat) (s : fj_W) : fj_W := if 6 ≤ g then wFill A (g - 6) s else if 0 < wle s ∧ (wde s).testBit g = false then wPour A g i s else wWrong i s
/-- k steps from the i-th on -/
def wGo (A : fj_Yd) (g : Nat → Nat) : Nat → Nat → fj_W → fj_W
  | 0, _, s => s
  | k + 1, i, s => if (wfw s).isSome = true then s else wGo A g k (i + 1) (wStep A (g i) i s)
def w0 : fj_W := (0, none, none, 0, 0, 0, 0)
/-- a step is a man, or oil -/
def gok (A : fj_Yd) (g : Nat) : Prop := g < yn A ∨ (6 ≤ g ∧ g < 6 + yq A)
def fj_WC (M : fj_HM) (s : fj_W) : Prop := M 9 0 = nI (wmi s) ∧ M 9 1 = onI (wfw s) ∧ M 9 2 = onI (wfh s) ∧ M 9 3 = nI (wde s) ∧ M 9 4 = nI (wle s) ∧ M 9 5 = nI (wat s) ∧ M 9 6 = nI (wco s)
/-- what holds of the way all along -/
def wok (A : fj_Yd) (i : Nat) (s : fj_W) : Prop := wmi s ≤ 61 * i ∧ wde s < 2 ^ yn A ∧ wle s ≤ 6 ∧ wat s < yc A ∧ wco s < 2 ^ yn A ∧ (∀ k, wfw s = some k → k < i) ∧ ∀ k, wfh s = some k → k < i
theorem wHr_lt (A : fj_Yd) (c de : Nat) : wHr A c de < 2 ^ yn A := sdf_lt (yH_lt A c)
theorem m35 {t : Bool} {M : fj_HM} {v : Int32} {Q : fj_Po} : fj_H none 35 0 [.ref 9, .int v] [] M (fj_PY t) 53 7835 Q = if M 9 3 >>> (v &&& 31) &&& 1 = 0 then Q (some (.int 1)) M (fj_PY t) 53 7835 else Q (some (.int 0)) M (fj_PY t) 53 7835 := by
  simp only [fs35_0, fs35_1, fs35_4, fs35_5, fs35_6, fs35_7, fs35_8, fs35_11, fs35_12, fs35_15, fs35_16, fj_OB, fj_AR, fj_CI, q_zo0, q_zo1, Option.toList_some, Option.toList_none, List.cons_append, List.nil_append, true_and, and_true, true_or, if_true, if_false, q_l10, q_l01, eq_self, Int32.reduceLT, Int32.reduceLE, Int32.reduceAdd, Int32.reduceSub, fj_up_at, Nat.reduceEqDiff, false_and, and_false, and_self, reduceCtorEq, Nat.reduceAdd]
theorem m37 {o : Nat} (ho : o = 17 ∨ o = 25) (t : Bool) {M : fj_HM} {A : fj_Yd} (hV : fj_YV A) (hY : fj_YC o M A) {a c : Nat} (ha : M 9 5 = nI a) (hac : a < yc A) (hc : c < yc A) {Q : fj_Po} : fj_H none 37 0 [.ref 9, .ref o, .int (nI c)] [] M (fj_PY t) 53 7835 Q = Q none (fj_up (fj_up M 9 0 (M 9 0 + nI (yD A a c + 1))) 9 5 (nI c)) (fj_PY t) 53 7835 := by
  simp only [fs37_0, fs37_1, fs37_1i, fs37_2, fs37_5, fs37_6, fs37_7, fs37_10, fs37_11, fs37_14, fs37_15, fs37_16, fs37_17, fs37_20, fs37_21, fs37_22, fs37_25, fj_OB, fj_AR, fj_CI, q_zo0, q_zo1, Option.toList_some, Option.toList_none, List.cons_append, List.nil_append, true_and, and_true, true_or, if_true, if_false, q_l10, q_l01, eq_self, Int32.reduceLT, Int32.reduceLE, Int32.reduceAdd, Int32.reduceSub, fj_up_at, Nat.reduceEqDiff, false_and, and_false, and_self, reduceCtorEq, Nat.reduceAdd, fj_YO ho t, ha, m52 ho t hV hY hac hc, nI_1]
theorem m36 {o : Nat} (ho : o = 17 ∨ o = 25) (t : Bool) {M : fj_HM} {A : fj_Yd} (hV : fj_YV A) (hY : fj_YC o M A) {a x : Nat} (ha : M 9 5 = nI a) (hac : a < yc A) (hx : x < yq A) {Q : fj_Po} : fj_H none 36 0 [.ref 9, .ref o, .int (nI x)] [] M (fj_PY t) 53 7835 Q = Q none (fj_up (fj_up (fj_up M 9 0 (M 9 0 + nI (yD A a (yoc A x) + 1))) 9 5 (nI (yoc A x))) 9 4 (nI (ycn A))) (fj_PY t) 53 7835 := by
  have h2 := yq_le hV
  obtain ⟨-, -, -, -, h5, -, -, -, h9⟩ := id hY
  have hne : (o = 9) = False := eq_false (by omega)
  simp only [fs36_0, fs36_1, fs36_2, fs36_3, fs36_6, fs36_7, fs36_8, fs36_11, fs36_12, fs36_13, fs36_16, fs36_19, fj_OB, fj_AR, fj_CI, q_zo0, q_zo1, Option.toList_some, Option.toList_none, List.cons_append, List.nil_append, true_and, and_true, true_or, if_true, if_false, q_l10, q_l01, eq_self, Int32.reduceLT, Int32.reduceLE, Int32.reduceAdd, Int32.reduceSub, fj_up_at, Nat.reduceEqDiff, false_and, and_false, and_self, reduceCtorEq, Nat.reduceAdd, fj_YO ho t, q_in (show x < 2 by omega), q_clamp (show x < 100000 by omega), h9 x hx, m37 ho t hV hY ha hac (yo_oc hV hx), hne, h5]
theorem p2_le {n : Nat} (h : n ≤ 6) : 2 ^ n ≤ 64 := Nat.pow_le_pow_right (n := 2) (by decide) h
theorem onI_none {x : Option Nat} (h : ∀ k, x = some k → k < 1000) : (onI x = -9) = (x = none) := by
  cases x with
  | none => simp [onI]
  | some k =>
    have hk := h k rfl
    apply propext
    constructor
    · intro h1
      exfalso
      have h2 : (nI k).toInt = (-9 : Int32).toInt := by rw [show nI k = onI (some k) from rfl, h1]
      rw [q_toInt (by omega)] at h2
      have : (-9 : Int32).toInt = -9 := rfl
      omega
    · intro h1; cases h1
theorem m38 {o : Nat} (ho : o = 17 ∨ o = 25) (t : Bool) {M : fj_HM} {A : fj_Yd} (hV : fj_YV A) (hY : fj_YC o M A) {s : fj_W} {i m : Nat} (hi : i < 20) (hW : fj_WC M s) (hs : wok A i s) (hm : m < yn A) (hle : 0 < wle s) {Q : fj_Po} (hQ : ∀ M', (∀ o', o' ≠ 9 → M' o' = M o') → fj_WC M' (wPour A m i s) → Q none M' (fj_PY t) 53 7835) : fj_H none 38 0 [.ref 9, .ref o, .int (nI m), .int (nI i), .null] [] M (fj_PY t) 53 7835 Q := by
  obtain ⟨w0, w1, w2, w3, w4, w5, w6⟩ := hW
  obtain ⟨s0, s1, s2, s3, s4, s5, s6⟩ := hs
  have h6 := yn_le hV
  have h64 := p2_le h6
  obtain ⟨-, -, -, y4, -, -, -, h8, -⟩ := id hY
  have hne : (o = 9) = False := eq_false (by omega)
  have hmc := ym_mc hV hm
  have hsl := ysl_lt hV
  have hdl := yD_le hV s3 hmc
  have h2m : 2 ^ m ≤ 64 := p2_le (by omega)
  have hor : wde s ||| 2 ^ m < 2 ^ yn A := Nat.or_lt_two_pow s1 (Nat.pow_lt_pow_right (by decide) hm)
  have hr := wHr_lt A (ymc A m) (wde s ||| 2 ^ m)
  have hfh := onI_none (x := wfh s) (fun k hk => by have := s6 k hk; omega)
  have e1 : nI (wle s) - 1 = nI (wle s - 1) := by rw [q_1, pk_sub (by omega)]
  have hh : (sdf (wHr A (ymc A m) (wde s ||| 2 ^ m)) (ysl A)) < 2 ^ yn A := sdf_lt hr
  have eH : sdf (yH A (ymc A m)) (wde s ||| 2 ^ m) = wHr A (ymc A m) (wde s ||| 2 ^ m) := rfl
  simp only [fs38_0, fs38_1, fs38_2, fs38_3, fs38_6, fs38_7, fs38_8, fs38_11, fs38_12, fs38_12i, fs38_13, fs38_16, fs38_17, fs38_18, fs38_21, fs38_22, fs38_22i, fs38_23, fs38_26, fs38_27, fs38_28, fs38_29, fs38_30, fs38_33, fs38_34, fs38_35, fs38_38, fs38_41, fs38_42, fs38_45, fs38_46, fs38_47, fs38_48, fs38_50, fs38_51, fs38_51i, fs38_52, fs38_55, fs38_57, fs38_58, fs38_61, fs38_62, fs38_65, fs38_67, fs38_70, fs38_72, fs38_73, fs38_76, fs38_77, fs38_78, fs38_79, fs38_82, fs38_83, fs38_84, fs38_87, fj_OB, fj_AR, fj_CI, q_zo0, q_zo1, Option.toList_some, Option.toList_none, List.cons_append, List.nil_append, true_and, and_true, true_or, if_true, if_false, q_l10, q_l01, eq_self, Int32.reduceLT, Int32.reduceLE, Int32.reduceAdd, Int32.reduceSub, fj_up_at, Nat.reduceEqDiff, false_and, and_false, and_self, reduceCtorEq, Nat.reduceAdd, fj_YO ho t, q_in (show m < 6 by omega), q_clamp (show m < 100000 by omega), (h8 m hm).2.2, m37 ho t hV hY w5 s3 hmc, hne, m54 ho t hV, fj_YC_up ho (show 9 < 17 ∨ 32 < 9 by decide), hY, hmc, w0, w1, w2, w3, w4, w6, y4, q_shl m (by omega), q_or, nI_add, e1, q_sdf, eH]
  have hz0 : (nI (sdf (wHr A (ymc A m) (wde s ||| 2 ^ m)) (ysl A)) = 0) = (sdf (wHr A (ymc A m) (wde s ||| 2 ^ m)) (ysl A) = 0) := by rw [q_0, q_eq (by omega) (by omega)]
  by_cases hc : wfh s = none
  · rw [if_pos (hfh ▸ hc)]
    by_cases hz : sdf (wHr A (ymc A m) (wde s ||| 2 ^ m)) (ysl A) = 0
    · rw [if_pos (hz0 ▸ hz)]
      refine hQ _ (fun o' ho' => ?_) ?_
      · funext j; simp only [fj_up_at, ho', false_and, if_false]
      · refine ⟨?_, ?_, ?_, ?_, ?_, ?_, ?_⟩ <;> simp [fj_up_at, wPour, wmi, wfw, wfh, wde, wle, wat, wco] at * <;> simp [*]
    · rw [if_neg (fun h => hz (hz0 ▸ h))]
      refine hQ _ (fun o' ho' => ?_) ?_
      · funext j; simp only [fj_up_at, ho', false_and, if_false]
      · refine ⟨?_, ?_, ?_, ?_, ?_, ?_, ?_⟩ <;> simp [fj_up_at, wPour, wmi, wfw, wfh, wde, wle, wat, wco] at * <;> simp [*, onI]
  · rw [if_neg (fun h => hc (hfh ▸ h))]
    refine hQ _ (fun o' ho' => ?_) ?_
    · funext j; simp only [fj_up_at, ho', false_and, if_false]
    · refine ⟨?_, ?_, ?_, ?_, ?_, ?_, ?_⟩ <;> simp [fj_up_at, wPour, wmi, wfw, wfh, wde, wle, wat, wco] at * <;> simp [*]
theorem wok_pour {A : fj_Yd} (hV : fj_YV A) {s : fj_W} {i m : Nat} (hs : wok A i s) (hm : m < yn A) : wok A (i + 1) (wPour A m i s) := by
  obtain ⟨s0, s1, s2, s3, s4, s5, s6⟩ := hs
  have hmc := ym_mc hV hm
  have hd := yD_le hV s3 hmc
  refine ⟨?_, Nat.or_lt_two_pow s1 (Nat.pow_lt_pow_right (by decide) hm), ?_, hmc, Nat.or_lt_two_pow s4 (wHr_lt _ _ _), fun k hk => ?_, fun k hk => ?_⟩
  · show wmi s + (yD A (wat s) (ymc A m) + 1) ≤ _; omega
  · show wle s - 1 ≤ 6; omega
  · have := s5 k hk; omega
  · have hk' : (if wfh s = none ∧ sdf (wHr A (ymc A m) (wde s ||| 2 ^ m)) (ysl A) ≠ 0 then some i else wfh s) = some k := hk
    split at hk'
    · cases hk'; omega
    · have := s6 k hk'; omega
theorem wok_fill {A : fj_Yd} (hV : fj_YV A) {s : fj_W} {i x : Nat} (hs : wok A i s) (hx : x < yq A) : wok A (i + 1) (wFill A x s) := by
  obtain ⟨s0, s1, s2, s3, s4, s5, s6⟩ := hs
  have hmc := yo_oc hV hx
  have hd := yD_le hV s3 hmc
  refine ⟨?_, s1, hV.2.2.2.2.2.2.1, hmc, s4, fun k hk => ?_, fun k hk => ?_⟩
  · show wmi s + (yD A (wat s) (yoc A x) + 1) ≤ _; omega
  · have := s5 k hk; omega
  · have := s6 k hk; omega
theorem wok_wrong {A : fj_Yd} {s : fj_W} {i : Nat} (hs : wok A i s) : wok A (i + 1) (wWrong i s) := by
  obtain ⟨s0, s1, s2, s3, s4, s5, s6⟩ := hs
  refine ⟨?_, s1, s2, s3, s4, fun k hk => ?_, fun k hk => ?_⟩
  · show wmi s ≤ _; omega
  · have hk' : some i = some k := hk
    cases hk'; omega
  · have := s6 k hk; omega
theorem wok_step {A : fj_Yd} (hV : fj_YV A) {s : fj_W} {i g : Nat} (hs : wok A i s) (hg : gok A g) : wok A (i + 1) (wStep A g i s) := by
  have h6 := yn_le hV
  unfold wStep
  rcases hg with h | ⟨h1, h2⟩
  · rw [if_neg (by omega)]
    split
    · exact wok_pour hV hs h
    · exact wok_wrong hs
  · rw [if_pos h1]
    exact wok_fill hV hs (by omega)
theorem m34_loop {o : Nat} (ho : o = 17 ∨ o = 25) (t : Bool) {A : fj_Yd} (hV : fj_YV A) {n : Nat} (hn : n ≤ 20) {g : Nat → Nat} (hg : ∀ j, j < n → gok A (g j)) {Q : fj_Po} : ∀ (k i : Nat) (s : fj_W) (M : fj_HM) (d : Value), i + k = n → fj_WC M s → wok A i s → fj_YC o M A → (∀ j, j < n → M 16 j = nI (g j)) → (∀ M', (∀ o', o' ≠ 9 → M' o' = M o') → fj_WC M' (wGo A g k i s) → Q none M' (fj_PY t) 53 7835) → fj_H none 34 40 [.ref 9, .ref o, .ref 16, .int (nI n), .int (nI i), d] [] M (fj_PY t) 53 7835 Q := by
  have h6 := yn_le hV
  have h62 := yq_le hV
  intro k
  induction k with
  | zero =>
    intro i s M d hi hW hs hY h16 hQ
    obtain rfl : i = n := by omega
    rw [fs34_40]
    simp only [fs34_42, fs34_43, fj_OB, fj_AR, fj_CI, q_zo0, q_zo1, Option.toList_some, Option.toList_none, List.cons_append, List.nil_append, true_and, and_true, true_or, if_true, if_false, q_l10, q_l01, eq_self, Int32.reduceLT, Int32.reduceLE, Int32.reduceAdd, Int32.reduceSub, fj_up_at, Nat.reduceEqDiff, false_and, and_false, and_self, reduceCtorEq, Nat.reduceAdd, q_le (show i < 100000 by omega) (show i < 100000 by omega), if_pos (Nat.le_refl i)]
    simp only [fs34_128, fj_OB, fj_AR, fj_CI, q_zo0, q_zo1, Option.toList_some, Option.toList_none, List.cons_append, List.nil_append, true_and, and_true, true_or, if_true, if_false, q_l10, q_l01, eq_self, Int32.reduceLT, Int32.reduceLE, Int32.reduceAdd, Int32.reduceSub, fj_up_at, Nat.reduceEqDiff, false_and, and_false, and_self, reduceCtorEq, Nat.reduceAdd]
    exact hQ M (fun _ _ => rfl) hW
  | succ k ih =>
    intro i s M d hi hW hs hY h16 hQ
    have hin : i < n := by omega
    have e60 : Int32.ofNat (fj_sh 16).2 = nI 60 := rfl
    have e16 : (16 < 53 ∧ (fj_sh 16).1 = 1) = True := eq_true ⟨by decide, rfl⟩
    have hfw := onI_none (x := wfw s) (fun k hk => by have := hs.2.2.2.2.2.1 k hk; omega)
    have hgi := hg i hin
    have hg8 : g i < 8 := by rcases hgi with h | h <;> omega
    rw [fs34_40]
    simp only [fs34_42, fs34_43, fj_OB, fj_AR, fj_CI, q_zo0, q_zo1, Option.toList_some, Option.toList_none, List.cons_append, List.nil_append, true_and, and_true, true_or, if_true, if_false, q_l10, q_l01, eq_self, Int32.reduceLT, Int32.reduceLE, Int32.reduceAdd, Int32.reduceSub, fj_up_at, Nat.reduceEqDiff, false_and, and_false, and_self, reduceCtorEq, Nat.reduceAdd, q_le (show n < 100000 by omega) (show i < 100000 by omega), if_neg (show ¬ n ≤ i by omega)]
    simp only [fs34_46, fs34_48, fs34_49, fs34_50, fs34_53, fs34_54, fs34_57, fs34_59, fj_OB, fj_AR, fj_CI, q_zo0, q_zo1, Option.toList_some, Option.toList_none, List.cons_append, List.nil_append, true_and, and_true, true_or, if_true, if_false, q_l10, q_l01, eq_self, Int32.reduceLT, Int32.reduceLE, Int32.reduceAdd, Int32.reduceSub, fj_up_at, Nat.reduceEqDiff, false_and, and_false, and_self, reduceCtorEq, Nat.reduceAdd, e60, e16, q_le (show 60 < 100000 by omega) (show i < 100000 by omega), if_neg (show ¬ 60 ≤ i by omega), hW.2.1]
    by_cases hf : wfw s = none
    · rw [if_pos (hfw ▸ hf)]
      have hgo : wGo A g (k + 1) i s = wGo A g k (i + 1) (wStep A (g i) i s) := by
        show (if (wfw s).isSome = true then s else _) = _
        rw [hf]; rfl
      rw [hgo] at hQ
      simp only [fs34_62, fs34_63, fs34_65, fs34_66, fs34_68, fs34_70, fs34_72, fj_OB, fj_AR, fj_CI, q_zo0, q_zo1, Option.toList_some, Option.toList_none, List.cons_append, List.nil_append, true_and, and_true, true_or, if_true, if_false, q_l10, q_l01, eq_self, Int32.reduceLT, Int32.reduceLE, Int32.reduceAdd, Int32.reduceSub, fj_up_at, Nat.reduceEqDiff, false_and, and_false, and_self, reduceCtorEq, Nat.reduceAdd, q_in (show i < 60 by omega), q_clamp (show i < 100000 by omega), h16 i hin]
      by_cases h6g : 6 ≤ g i
      · have hx : g i - 6 < yq A := by rcases hgi with h | h <;> omega
        have e1 : nI (g i) - 6 = nI (g i - 6) := by rw [show (6 : Int32) = nI 6 from rfl, pk_sub h6g]
        have est : wStep A (g i) i s = wFill A (g i - 6) s := by unfold wStep; rw [if_pos h6g]
        rw [est] at hQ
        rw [if_neg (by rw [show (6 : Int32) = nI 6 from rfl, q_lt (by omega) (by omega)]; omega)]
        simp only [fs34_75, fs34_76, fs34_77, fs34_79, fs34_81, fs34_82, fs34_85, fs34_122, fs34_125, fj_OB, fj_AR, fj_CI, q_zo0, q_zo1, Option.toList_some, Option.toList_none, List.cons_append, List.nil_append, true_and, and_true, true_or, if_true, if_false, q_l10, q_l01, eq_self, Int32.reduceLT, Int32.reduceLE, Int32.reduceAdd, Int32.reduceSub, fj_up_at, Nat.reduceEqDiff, false_and, and_false, and_self, reduceCtorEq, Nat.reduceAdd, e1, m36 ho t hV hY hW.2.2.2.2.2.1 hs.2.2.2.1 hx, nI_1]
        refine ih (i + 1) _ _ _ (by omega) ?_ (wok_fill hV hs hx) ?_ ?_ ?_
        · obtain ⟨w0, w1, w2, w3, w4, w5, w6⟩ := hW
          refine ⟨?_, ?_, ?_, ?_, ?_, ?_, ?_⟩ <;> simp [fj_up_at, wFill, wmi, wfw, wfh, wde, wle, wat, wco, nI_add] at * <;> simp [*, nI_add]
        · rw [fj_YC_up ho (by decide), fj_YC_up ho (by decide), fj_YC_up ho (by decide)]; exact hY
        · intro j hj; simp only [fj_up_at, show (16 : Nat) ≠ 9 by decide, false_and, if_false]; exact h16 j hj
        · intro M' h1 h2
          refine hQ M' (fun o' ho' => ?_) h2
          rw [h1 o' ho']
          funext j; simp only [fj_up_at, ho', false_and, if_false]
      · have hm : g i < yn A := by rcases hgi with h | h <;> omega
        rw [if_pos (by rw [show (6 : Int32) = nI 6 from rfl, q_lt (by omega) (by omega)]; omega)]
        simp only [fs34_88, fs34_89, fs34_92, fj_OB, fj_AR, fj_CI, q_zo0, q_zo1, Option.toList_some, Option.toList_none, List.cons_append, List.nil_append, true_and, and_true, true_or, if_true, if_false, q_l10, q_l01, eq_self, Int32.reduceLT, Int32.reduceLE, Int32.reduceAdd, Int32.reduceSub, fj_up_at, Nat.reduceEqDiff, false_and, and_false, and_self, reduceCtorEq, Nat.reduceAdd, hW.2.2.2.2.1]
        have ewr : fj_H none 34 116 [.ref 9, .ref o, .ref 16, .int (nI n), .int (nI i), .int (nI (g i))] [] M (fj_PY t) 53 7835 Q ∨ (0 < wle s ∧ (wde s).testBit (g i) = false) := by
          by_cases hp : 0 < wle s ∧ (wde s).testBit (g i) = false
          · exact Or.inr hp
          · left
            have est : wStep A (g i) i s = wWrong i s := by unfold wStep; rw [if_neg h6g, if_neg hp]
            rw [est] at hQ
            simp only [fs34_116, fs34_117, fs34_119, fs34_122, fs34_125, fj_OB, fj_AR, fj_CI, q_zo0, q_zo1, Option.toList_some, Option.toList_none, List.cons_append, List.nil_append, true_and, and_true, true_or, if_true, if_false, q_l10, q_l01, eq_self, Int32.reduceLT, Int32.reduceLE, Int32.reduceAdd, Int32.reduceSub, fj_up_at, Nat.reduceEqDiff, false_and, and_false, and_self, reduceCtorEq, Nat.reduceAdd, nI_1]
            refine ih (i + 1) _ _ _ (by omega) ?_ (wok_wrong hs) ?_ ?_ ?_
            · obtain ⟨w0, w1, w2, w3, w4, w5, w6⟩ := hW
              refine ⟨?_, ?_, ?_, ?_, ?_, ?_, ?_⟩ <;> simp [fj_up_at, wWrong, wmi, wfw, wfh, wde, wle, wat, wco] at * <;> simp [*, onI]
            · rw [fj_YC_up ho (by decide)]; exact hY
            · intro j hj; simp only [fj_up_at, show (16 : Nat) ≠ 9 by decide, false_and, if_false]; exact h16 j hj
            · intro M' h1 h2
              refine hQ M' (fun o' ho' => ?_) h2
              rw [h1 o' ho']
              funext j; simp only [fj_up_at, ho', false_and, if_false]
        have hle6 := hs.2.2.1
        have hde := hs.2.1
        have h64 := p2_le h6
        by_cases hl : 0 < wle s
        · rw [if_neg (by rw [q_0, q_le (by omega) (by omega)]; omega)]
          simp only [fs34_95, fs34_96, fs34_98, fs34_101, fj_OB, fj_AR, fj_CI, q_zo0, q_zo1, Option.toList_some, Option.toList_none, List.cons_append, List.nil_append, true_and, and_true, true_or, if_true, if_false, q_l10, q_l01, eq_self, Int32.reduceLT, Int32.reduceLE, Int32.reduceAdd, Int32.reduceSub, fj_up_at, Nat.reduceEqDiff, false_and, and_false, and_self, reduceCtorEq, Nat.reduceAdd, m35, hW.2.2.2.1]
          by_cases hb : (wde s).testBit (g i) = false
          · rw [if_pos (by rw [q_bit0 (by omega) (by omega)]; exact hb)]
            have est : wStep A (g i) i s = wPour A (g i) i s := by unfold wStep; rw [if_neg h6g, if_pos ⟨hl, hb⟩]
            rw [est] at hQ
            simp only [fs34_104, fs34_105, fs34_106, fs34_108, fs34_110, fj_OB, fj_AR, fj_CI, q_zo0, q_zo1, Option.toList_some, Option.toList_none, List.cons_append, List.nil_append, true_and, and_true, true_or, if_true, if_false, q_l10, q_l01, eq_self, Int32.reduceLT, Int32.reduceLE, Int32.reduceAdd, Int32.reduceSub, fj_up_at, Nat.reduceEqDiff, false_and, and_false, and_self, reduceCtorEq, Nat.reduceAdd]
            refine m38 ho t hV hY (by omega) hW hs hm hl (fun M' h1 h2 => ⟨Or.inl rfl, ?_⟩)
            simp only [fs34_113, fs34_122, fs34_125, fj_OB, fj_AR, fj_CI, q_zo0, q_zo1, Option.toList_some, Option.toList_none, List.cons_append, List.nil_append, true_and, and_true, true_or, if_true, if_false, q_l10, q_l01, eq_self, Int32.reduceLT, Int32.reduceLE, Int32.reduceAdd, Int32.reduceSub, fj_up_at, Nat.reduceEqDiff, false_and, and_false, and_self, reduceCtorEq, Nat.reduceAdd, nI_1]
            refine ih (i + 1) _ _ _ (by omega) h2 (wok_pour hV hs hm) (fj_YC_cg (fun x hx j => by rw [h1 (o + x) (by omega)]) hY) (fun j hj => by rw [h1 16 (by decide)]; exact h16 j hj) (fun M2 g1 g2 => hQ M2 (fun o' ho' => by rw [g1 o' ho', h1 o' ho']) g2)
          · rw [if_neg (by rw [q_bit0 (by omega) (by omega)]; exact hb)]
            rcases ewr with h | h
            · exact h
            · exact absurd h.2 hb
        · rw [if_pos (by rw [q_0, q_le (by omega) (by omega)]; omega)]
          rcases ewr with h | h
          · exact h
          · exact absurd h.1 hl
    · rw [if_neg (fun h => hf (hfw ▸ h))]
      have hgo : wGo A g (k + 1) i s = s := by
        show (if (wfw s).isSome = true then s else _) = _
        rw [if_pos (by cases h : wfw s with | none => exact absurd h hf | some x => rfl)]
      rw [hgo] at hQ
      simp only [fs34_128, fj_OB, fj_AR, fj_CI, q_zo0, q_zo1, Option.toList_some, Option.toList_none, List.cons_append, List.nil_append, true_and, and_true, true_or, if_true, if_false, q_l10, q_l01, eq_self, Int32.reduceLT, Int32.reduceLE, Int32.reduceAdd, Int32.reduceSub, fj_up_at, Nat.reduceEqDiff, false_and, and_false, and_self, reduceCtorEq, Nat.reduceAdd]
      exact hQ M (fun _ _ => rfl) hW
theorem m34 {o : Nat} (ho : o = 17 ∨ o = 25) (t : Bool) {A : fj_Yd} (hV : fj_YV A) (hc : 0 < yc A) {n : Nat} (hn : n ≤ 20) {g : Nat → Nat} (hg : ∀ j, j < n → gok A (g j)) {M : fj_HM} (hY : fj_YC o M A) (h16 : ∀ j, j < n → M 16 j = nI (g j)) {Q : fj_Po} (hQ : ∀ M', (∀ o', o' ≠ 9 → M' o' = M o') → fj_WC M' (wGo A g n 0 w0) → Q none M' (fj_PY t) 53 7835) : fj_H none 34 0 [.ref 9, .ref o, .ref 16, .int (nI n), .null, .null] [] M (fj_PY t) 53 7835 Q := by
  simp only [fs34_0, fs34_1, fs34_2, fs34_5, fs34_6, fs34_8, fs34_11, fs34_12, fs34_14, fs34_17, fs34_18, fs34_19, fs34_22, fs34_23, fs34_24, fs34_27, fs34_28, fs34_29, fs34_32, fs34_33, fs34_34, fs34_37, fs34_38, fs34_53, fs34_54, fs34_57, fs34_59, fs34_62, fs34_63, fs34_65, fs34_66, fs34_68, fs34_70, fs34_72, fs34_75, fs34_76, fs34_77, fs34_79, fs34_81, fs34_82, fs34_85, fs34_88, fs34_89, fs34_92, fs34_95, fs34_96, fs34_98, fs34_101, fs34_104, fs34_105, fs34_106, fs34_108, fs34_110, fs34_113, fs34_116, fs34_117, fs34_119, fs34_122, fs34_125, fs34_128, fj_OB, fj_AR, fj_CI, q_zo0, q_zo1, Option.toList_some, Option.toList_none, List.cons_append, List.nil_append, true_and, and_true, true_or, if_true, if_false, q_l10, q_l01, eq_self, Int32.reduceLT, Int32.reduceLE, Int32.reduceAdd, Int32.reduceSub, fj_up_at, Nat.reduceEqDiff, false_and, and_false, and_self, reduceCtorEq, Nat.reduceAdd]
  rw [q_0]
  refine m34_loop ho t hV hn hg n 0 w0 _ _ (Nat.zero_add _) ?_ ?_ ?_ ?_ ?_
  · refine ⟨?_, ?_, ?_, ?_, ?_, ?_, ?_⟩ <;> simp [fj_up_at, w0, wmi, wfw, wfh, wde, wle, wat, wco, onI]
  · exact ⟨Nat.zero_le _, Nat.two_pow_pos _, Nat.zero_le _, hc, Nat.two_pow_pos _, fun k hk => (by cases hk), fun k hk => (by cases hk)⟩
  · simp only [fj_YC_up ho (show 9 < 17 ∨ 32 < 9 by decide)]; exact hY
  · intro j hj; simp only [fj_up_at, show (16 : Nat) ≠ 9 by decide, false_and, if_false]; exact h16 j hj
  · intro M' h1 h2
    refine hQ M' (fun o' ho' => ?_) h2
    rw [h1 o' ho']
    funext j; simp only [fj_up_at, ho', false_and, if_false]
