/-! ===== the soonest: the class's table ===== -/
def sFrom (A : fj_Yd) (last : Nat) : Nat := if last = 6 then 0 else ymc A last
def sHr (A : fj_Yd) (m : Nat) : Nat := sdf (sdf (yH A (ymc A m)) (ysl A)) (2 ^ m)
/-- m can be dealt with, unheard, when those of p without set stand -/
def sQ (A : fj_Yd) (p set m : Nat) : Prop := m < yn A ∧ (sdf p set).testBit m = true ∧ sHr A m &&& sdf p set = 0
/-- straight on, and by an oil -/
def sS (A : fj_Yd) (last m : Nat) : Nat := yD A (sFrom A last) (ymc A m) + 1
def sO (A : fj_Yd) (last x m : Nat) : Nat := yD A (sFrom A last) (yoc A x) + 1 + (yD A (yoc A x) (ymc A m) + 1)
/-- set dealt with, last the last of them (6: none), left in the can: so many minutes can be -/
def sRch (A : fj_Yd) (p set last left v : Nat) : Prop := ∀ P : Nat → Nat → Nat → Nat → Prop, P 0 6 0 0 → (∀ set last left v m, P set last left v → sQ A p set m → 0 < left → P (set ||| 2 ^ m) m (left - 1) (v + sS A last m)) → (∀ set last left v m x, P set last left v → sQ A p set m → x < yq A → P (set ||| 2 ^ m) m (ycn A - 1) (v + sO A last x m)) → P set last left v
theorem sRch_0 (A : fj_Yd) (p : Nat) : sRch A p 0 6 0 0 := fun _ h _ _ => h
theorem sRch_s {A : fj_Yd} {p set last left v m : Nat} (h : sRch A p set last left v) (hq : sQ A p set m) (hl : 0 < left) : sRch A p (set ||| 2 ^ m) m (left - 1) (v + sS A last m) := fun P h0 h1 h2 => h1 _ _ _ _ _ (h P h0 h1 h2) hq hl
theorem sRch_o {A : fj_Yd} {p set last left v m x : Nat} (h : sRch A p set last left v) (hq : sQ A p set m) (hx : x < yq A) : sRch A p (set ||| 2 ^ m) m (ycn A - 1) (v + sO A last x m) := fun P h0 h1 h2 => h2 _ _ _ _ _ _ (h P h0 h1 h2) hq hx
theorem or_pow_gt {set m : Nat} (h : set.testBit m = false) : set < set ||| 2 ^ m := by
  refine Nat.lt_of_le_of_ne Nat.left_le_or (fun e => ?_)
  have h1 : (set ||| 2 ^ m).testBit m = true := by
    rw [Nat.testBit_or, Nat.testBit_two_pow]
    simp
  rw [← e, h] at h1
  cases h1
theorem sQ_free {A : fj_Yd} {p set m : Nat} (h : sQ A p set m) : set.testBit m = false := by
  have h1 := h.2.1
  rw [sdf_bit] at h1
  cases hs : set.testBit m
  · rfl
  · rw [hs] at h1; simp at h1
theorem sQ_in {A : fj_Yd} {p set m : Nat} (h : sQ A p set m) : p.testBit m = true := by
  have h1 := h.2.1
  rw [sdf_bit] at h1
  cases hs : p.testBit m
  · rw [hs] at h1; simp at h1
  · rfl
/-- what is so of all that can be -/
theorem sRch_ok {A : fj_Yd} (hV : fj_YV A) (hc : 0 < yc A) {p set last left v : Nat} (h : sRch A p set last left v) : sdf set p = 0 ∧ v ≤ 200 * set ∧ (last = 6 ∨ last < yn A) ∧ left ≤ 5 := by
  have hcn : ycn A ≤ 6 := hV.2.2.2.2.2.2.1
  have hfr : ∀ last, (last = 6 ∨ last < yn A) → sFrom A last < yc A := by
    intro last hl
    unfold sFrom
    split
    · exact hc
    · rcases hl with h | h
      · contradiction
      · exact ym_mc hV h
  have hsub : ∀ set m, sdf set p = 0 → p.testBit m = true → sdf (set ||| 2 ^ m) p = 0 := by
    intro set m h1 h2
    apply nat_ext
    intro i
    rw [sdf_bit, Nat.testBit_or, Nat.testBit_two_pow, Nat.zero_testBit]
    have h3 : (sdf set p).testBit i = false := by rw [h1, Nat.zero_testBit]
    rw [sdf_bit] at h3
    by_cases e : m = i
    · subst e; rw [h2]; simp
    · simp [e]
      cases hs : set.testBit i <;> simp_all
  refine h (fun set last left v => sdf set p = 0 ∧ v ≤ 200 * set ∧ (last = 6 ∨ last < yn A) ∧ left ≤ 5) ⟨by simp [sdf], by omega, Or.inl rfl, by omega⟩ ?_ ?_
  · intro set last left v m ⟨a1, a2, a3, a4⟩ hq hl
    have hd := yD_le hV (hfr last a3) (ym_mc hV hq.1)
    refine ⟨hsub set m a1 (sQ_in hq), ?_, Or.inr hq.1, by omega⟩
    have hgt := or_pow_gt (sQ_free hq)
    unfold sS
    omega
  · intro set last left v m x ⟨a1, a2, a3, a4⟩ hq hx
    have hd := yD_le hV (hfr last a3) (yo_oc hV hx)
    have hd2 := yD_le hV (yo_oc hV hx) (ym_mc hV hq.1)
    refine ⟨hsub set m a1 (sQ_in hq), ?_, Or.inr hq.1, by omega⟩
    have hgt := or_pow_gt (sQ_free hq)
    unfold sO
    omega
/-! entries of the table -/
def tI : Option Nat → Int32
  | none => 2147483647
  | some v => nI v
def omn (a b : Option Nat) : Option Nat := match a, b with
  | none, b => b
  | some x, none => some x
  | some x, some y => if y < x then some y else some x
theorem tI_lt {v : Nat} (h : v < 100000) (o : Option Nat) (ho : ∀ x, o = some x → x < 100000) : (if nI v < tI o then nI v else tI o) = tI (omn o (some v)) := by
  cases o with
  | none =>
    have h1 : nI v < (2147483647 : Int32) := by
      rw [Int32.lt_iff_toInt_lt, q_toInt h]
      have : (2147483647 : Int32).toInt = 2147483647 := rfl
      omega
    show (if nI v < (2147483647 : Int32) then _ else _) = nI v
    rw [if_pos h1]
  | some x =>
    have hx := ho x rfl
    show (if nI v < nI x then nI v else nI x) = tI (if v < x then some v else some x)
    by_cases h1 : v < x
    · rw [if_pos h1, if_pos (by rw [q_lt h hx]; exact h1)]
      rfl
    · rw [if_neg h1, if_neg (by rw [q_lt h hx]; exact h1)]
      rfl
theorem tI_never {o : Option Nat} (ho : ∀ x, o = some x → x < 100000) : (tI o = 2147483647) = (o = none) := by
  cases o with
  | none => simp [tI]
  | some x =>
    have hx := ho x rfl
    apply propext
    constructor
    · intro h
      exfalso
      have h2 : (nI x).toInt = (2147483647 : Int32).toInt := by rw [show nI x = tI (some x) from rfl, h]
      rw [q_toInt hx] at h2
      have : (2147483647 : Int32).toInt = 2147483647 := rfl
      omega
    · intro h; cases h
/-! the raw numbers, also for places that are no man's -/
def ra (M : fj_HM) (o c d : Nat) : Int32 := (if 0 ≤ M (o + 6) c - M (o + 6) d then M (o + 6) c - M (o + 6) d else 0 - (M (o + 6) c - M (o + 6) d)) + (if 0 ≤ M (o + 7) c - M (o + 7) d then M (o + 7) c - M (o + 7) d else 0 - (M (o + 7) c - M (o + 7) d))
theorem m52r {o : Nat} (ho : o = 17 ∨ o = 25) (t : Bool) {M : fj_HM} {c d : Nat} (hc : c < 24) (hd : d < 24) {Q : fj_Po} : fj_H none 52 0 [.ref o, .int (nI c), .int (nI d)] [] M (fj_PY t) 53 7835 Q = Q (some (.int (ra M o c d))) M (fj_PY t) 53 7835 := by
  simp only [fs52_0, fs52_1, fs52_4, fs52_5, fs52_6, fs52_7, fs52_10, fs52_11, fs52_12, fs52_13, fs52_16, fs52_17, fs52_20, fs52_21, fs52_22, fs52_23, fs52_26, fs52_27, fs52_28, fs52_29, fs52_32, fs52_33, fj_YO ho t, fj_OB, fj_AR, fj_CI, q_zo0, q_zo1, Option.toList_some, Option.toList_none, List.cons_append, List.nil_append, true_and, and_true, true_or, if_true, if_false, q_l10, q_l01, eq_self, Int32.reduceLT, Int32.reduceLE, Int32.reduceAdd, Int32.reduceSub, fj_up_at, Nat.reduceEqDiff, false_and, and_false, and_self, reduceCtorEq, Nat.reduceAdd, q_in hc, q_in hd, q_clamp (show c < 100000 by omega), q_clamp (show d < 100000 by omega), ra]
theorem ra_ok {o : Nat} {M : fj_HM} {A : fj_Yd} (hV : fj_YV A) (hY : fj_YC o M A) {c d : Nat} (hc : c < yc A) (hd : d < yc A) : ra M o c d = nI (yD A c d) := by
  have h24 := yc_le hV
  obtain ⟨-, -, -, -, -, -, h7, -⟩ := hY
  have k1 : c / yw A ≤ c := Nat.div_le_self _ _
  have k2 : d / yw A ≤ d := Nat.div_le_self _ _
  have k3 : c % yw A ≤ c := Nat.mod_le _ _
  have k4 : d % yw A ≤ d := Nat.mod_le _ _
  unfold ra
  rw [(h7 c hc).2.1, (h7 c hc).2.2, (h7 d hd).2.1, (h7 d hd).2.2, q_abs (by omega) (by omega), q_abs (by omega) (by omega), nI_add]
  rfl
def rO (M : fj_HM) (o f g : Nat) (oc : Nat → Nat) : Nat → Int32
  | 0 => 2147483647
  | x + 1 => if ra M o f (oc x) + 1 + ra M o (oc x) g + 1 < rO M o f g oc x then ra M o f (oc x) + 1 + ra M o (oc x) g + 1 else rO M o f g oc x
theorem m16_loop {o : Nat} (ho : o = 17 ∨ o = 25) (t : Bool) {A : fj_Yd} (hV : fj_YV A) {M : fj_HM} (hY : fj_YC o M A) {f g : Nat} (hf : f < 24) (hg : g < 24) {Q : fj_Po} : ∀ (k i : Nat) (d : Value), i + k = yq A → fj_H none 16 6 [.ref o, .int (nI f), .int (nI g), .int (rO M o f g (yoc A) i), .int (nI i), d] [] M (fj_PY t) 53 7835 Q = Q (some (.int (rO M o f g (yoc A) (yq A)))) M (fj_PY t) 53 7835 := by
  have h2 := yq_le hV
  have h24 := yc_le hV
  obtain ⟨-, -, y3, -, -, -, -, -, h9⟩ := id hY
  intro k
  induction k with
  | zero =>
    intro i d hi
    obtain rfl : i = yq A := by omega
    rw [fs16_6]
    simp only [fs16_8, fs16_9, fs16_12, fj_YO ho t, fj_OB, fj_AR, fj_CI, q_zo0, q_zo1, Option.toList_some, Option.toList_none, List.cons_append, List.nil_append, true_and, and_true, true_or, if_true, if_false, q_l10, q_l01, eq_self, Int32.reduceLT, Int32.reduceLE, Int32.reduceAdd, Int32.reduceSub, fj_up_at, Nat.reduceEqDiff, false_and, and_false, and_self, reduceCtorEq, Nat.reduceAdd, y3, q_le (show yq A < 100000 by omega) (show yq A < 100000 by omega), if_pos (Nat.le_refl (yq A))]
    simp only [fs16_54, fs16_55]
  | succ k ih =>
    intro i d hi
    have hin : i < yq A := by omega
    have hoc := yo_oc hV hin
    rw [fs16_6]
    simp only [fs16_8, fs16_9, fs16_12, fj_YO ho t, fj_OB, fj_AR, fj_CI, q_zo0, q_zo1, Option.toList_some, Option.toList_none, List.cons_append, List.nil_append, true_and, and_true, true_or, if_true, if_false, q_l10, q_l01, eq_self, Int32.reduceLT, Int32.reduceLE, Int32.reduceAdd, Int32.reduceSub, fj_up_at, Nat.reduceEqDiff, false_and, and_false, and_self, reduceCtorEq, Nat.reduceAdd, y3, q_le (show yq A < 100000 by omega) (show i < 100000 by omega), if_neg (show ¬ yq A ≤ i by omega)]
    simp only [fs16_15, fs16_16, fs16_19, fs16_21, fs16_22, fs16_24, fs16_25, fs16_26, fs16_27, fs16_29, fs16_32, fs16_33, fs16_34, fs16_35, fs16_37, fs16_38, fs16_41, fs16_42, fs16_43, fs16_44, fs16_47, fs16_48, fs16_51, fj_YO ho t, fj_OB, fj_AR, fj_CI, q_zo0, q_zo1, Option.toList_some, Option.toList_none, List.cons_append, List.nil_append, true_and, and_true, true_or, if_true, if_false, q_l10, q_l01, eq_self, Int32.reduceLT, Int32.reduceLE, Int32.reduceAdd, Int32.reduceSub, fj_up_at, Nat.reduceEqDiff, false_and, and_false, and_self, reduceCtorEq, Nat.reduceAdd, q_in (show i < 2 by omega), q_clamp (show i < 100000 by omega), h9 i hin, m52r ho t hf (show yoc A i < 24 by omega), m52r ho t (show yoc A i < 24 by omega) hg, nI_1]
    exact ih (i + 1) _ (by omega)
theorem m16 {o : Nat} (ho : o = 17 ∨ o = 25) (t : Bool) {A : fj_Yd} (hV : fj_YV A) {M : fj_HM} (hY : fj_YC o M A) {f g : Nat} (hf : f < 24) (hg : g < 24) {Q : fj_Po} : fj_H none 16 0 [.ref o, .int (nI f), .int (nI g), .null, .null, .null] [] M (fj_PY t) 53 7835 Q = Q (some (.int (rO M o f g (yoc A) (yq A)))) M (fj_PY t) 53 7835 := by
  have h := m16_loop ho t hV hY hf hg (Q := Q) (yq A) 0 .null (Nat.zero_add _)
  simp only [fs16_0, fs16_2, fs16_3, fs16_4]
  exact h
/-- the least by an oil -/
def oB (A : fj_Yd) (f g : Nat) : Nat → Option Nat
  | 0 => none
  | x + 1 => omn (oB A f g x) (some (yD A f (yoc A x) + 1 + (yD A (yoc A x) g + 1)))
theorem oB_lt {A : fj_Yd} (hV : fj_YV A) {f g : Nat} (hf : f < yc A) (hg : g < yc A) : ∀ (x : Nat), x ≤ yq A → ∀ v, oB A f g x = some v → v ≤ 122 := by
  intro x
  induction x with
  | zero => intro _ v h; cases h
  | succ x ih =>
    intro hx v h
    have d1 := yD_le hV hf (yo_oc hV (show x < yq A by omega))
    have d2 := yD_le hV (yo_oc hV (show x < yq A by omega)) hg
    have h' : omn (oB A f g x) (some (yD A f (yoc A x) + 1 + (yD A (yoc A x) g + 1))) = some v := h
    cases e : oB A f g x with
    | none =>
      rw [e] at h'
      cases h'
      omega
    | some u =>
      have hu := ih (by omega) u e
      rw [e] at h'
      unfold omn at h'
      simp only at h'
      split at h' <;> cases h' <;> omega
theorem rO_ok {o : Nat} {M : fj_HM} {A : fj_Yd} (hV : fj_YV A) (hY : fj_YC o M A) {f g : Nat} (hf : f < yc A) (hg : g < yc A) : ∀ (x : Nat), x ≤ yq A → rO M o f g (yoc A) x = tI (oB A f g x) := by
  intro x
  induction x with
  | zero => intro _; rfl
  | succ x ih =>
    intro hx
    have hox := yo_oc hV (show x < yq A by omega)
    have d1 := yD_le hV hf hox
    have d2 := yD_le hV hox hg
    unfold rO
    rw [ih (by omega), ra_ok hV hY hf hox, ra_ok hV hY hox hg, nI_1, nI_add, nI_1]
    rw [show yD A f (yoc A x) + 1 + yD A (yoc A x) g + 1 = yD A f (yoc A x) + 1 + (yD A (yoc A x) g + 1) by omega]
    exact tI_lt (by omega) _ (fun u hu => by have := oB_lt hV hf hg x (by omega) u hu; omega)
theorem oB_le {A : fj_Yd} {f g : Nat} : ∀ {n x : Nat}, x < n → ∃ v, oB A f g n = some v ∧ v ≤ yD A f (yoc A x) + 1 + (yD A (yoc A x) g + 1)
  | 0, x, h => by omega
  | n + 1, x, h => by
    show ∃ v, omn (oB A f g n) (some (yD A f (yoc A n) + 1 + (yD A (yoc A n) g + 1))) = some v ∧ _
    by_cases hx : x < n
    · obtain ⟨v, h1, h2⟩ := oB_le (A := A) (f := f) (g := g) hx
      rw [h1]
      unfold omn
      simp only
      split
      · exact ⟨_, rfl, by omega⟩
      · exact ⟨_, rfl, h2⟩
    · obtain rfl : x = n := by omega
      cases e : oB A f g x with
      | none => exact ⟨_, rfl, Nat.le_refl _⟩
      | some u =>
        unfold omn
        simp only
        split
        · exact ⟨_, rfl, Nat.le_refl _⟩
        · exact ⟨_, rfl, by omega⟩
theorem oB_some {A : fj_Yd} {f g : Nat} : ∀ {n v : Nat}, oB A f g n = some v → ∃ x, x < n ∧ v = yD A f (yoc A x) + 1 + (yD A (yoc A x) g + 1)
  | 0, v, h => by cases h
  | n + 1, v, h => by
    have h' : omn (oB A f g n) (some (yD A f (yoc A n) + 1 + (yD A (yoc A n) g + 1))) = some v := h
    cases e : oB A f g n with
    | none =>
      rw [e] at h'
      cases h'
      exact ⟨n, by omega, rfl⟩
    | some u =>
      rw [e] at h'
      unfold omn at h'
      simp only at h'
      split at h'
      · cases h'; exact ⟨n, by omega, rfl⟩
      · cases h'
        obtain ⟨x, h1, h2⟩ := oB_some e
        exact ⟨x, by omega, h2⟩
