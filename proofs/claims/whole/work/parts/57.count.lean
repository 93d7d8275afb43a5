/-! ===== sets of sleepers by whom nobody hears ===== -/
def l64 (n : Nat) : Int64 := Int64.ofNat n
theorem l64_toInt {n : Nat} (h : n < 100000) : (l64 n).toInt = (n : Int) := Int64.toInt_ofNat_of_lt (by omega)
theorem l64_1 (a : Nat) : l64 a + 1 = l64 (a + 1) := (Int64.ofNat_add a 1).symm
theorem l64_div {a b : Nat} (ha : a < 100000) (hb : b < 100000) : l64 a / l64 b = l64 (a / b) := by
  apply Int64.toInt_inj.mp
  have h : a / b ≤ a := Nat.div_le_self a b
  have e : (a : Int).tdiv (b : Int) = ((a / b : Nat) : Int) := by rw [Int.tdiv_eq_ediv_of_nonneg (Int.natCast_nonneg a)]; rfl
  rw [Int64.toInt_div, l64_toInt ha, l64_toInt hb, e]
  generalize a / b = c at h
  rw [l64_toInt (by omega), Int.bmod_eq_of_le (by omega) (by omega)]
theorem l64_sub {a b : Nat} (h : b ≤ a) : l64 a - l64 b = l64 (a - b) := by
  have e : l64 (a - b) + l64 b = l64 (a - b + b) := (Int64.ofNat_add _ _).symm
  rw [Nat.sub_add_cancel h] at e
  rw [← e, Int64.add_sub_cancel]
theorem l64_rem {a b : Nat} (ha : a < 100000) (hb : b < 100000) : l64 a - l64 a / l64 b * l64 b = l64 (a % b) := by
  rw [l64_div ha hb]
  have h : a / b * b ≤ a := Nat.div_mul_le_self a b
  have e : a % b = a - a / b * b := by rw [Nat.mod_eq_sub_div_mul]
  have m : l64 (a / b) * l64 b = l64 (a / b * b) := (Int64.ofNat_mul _ _).symm
  rw [m, l64_sub h, e]
theorem l64_0 {b : Nat} (hb : b < 100000) : (l64 b = 0) = (b = 0) := by
  apply propext
  constructor
  · intro h
    have : (l64 b).toInt = (0 : Int64).toInt := by rw [h]
    rw [l64_toInt hb] at this
    have z : (0 : Int64).toInt = 0 := rfl
    omega
  · intro h
    rw [h]
    rfl
theorem l64_I {b : Nat} (hb : b < 100000) : (nI b).toInt64 = l64 b := by
  apply Int64.toInt_inj.mp
  rw [Int32.toInt_toInt64, q_toInt hb, l64_toInt hb]
theorem lgc_eq (u v : Int64) : (lg_cmp u v = 0) = (u = v) := by
  apply propext
  constructor
  · intro h
    have h1 : 0 ≤ lg_cmp u v := by rw [h]; exact Int32.le_refl 0
    have h2 : lg_cmp u v ≤ 0 := by rw [h]; exact Int32.le_refl 0
    rw [lgc_ge] at h1
    rw [lgc_le] at h2
    exact Int64.le_antisymm h2 h1
  · intro h
    have h1 : 0 ≤ lg_cmp u v := by rw [lgc_ge, h]; exact Int64.le_refl v
    have h2 : lg_cmp u v ≤ 0 := by rw [lgc_le, h]; exact Int64.le_refl v
    exact Int32.le_antisymm h2 h1
theorem m101_step {up dn : Int64} {w : Int32} {x y : Nat} (hx : x < 100000) (hy : y < 100000) (hy0 : ¬ y = 0) {d9 d10 : Value} {M : fj_HM} {P : fj_HP} {Q : fj_Po} : fj_H none 101 6 [.long up, .double 0, .long dn, .double 0, .int w, .long (l64 x), .double 0, .long (l64 y), .double 0, d9, d10] [] M P 53 7835 Q = fj_H none 101 6 [.long up, .double 0, .long dn, .double 0, .int w, .long (l64 y), .double 0, .long (l64 (x % y)), .double 0, .long (l64 (x % y)), .double 0] [] M P 53 7835 Q := by
  have e0 : (l64 y = 0) = False := by rw [l64_0 hy]; exact eq_false hy0
  rw [fs101_6]
  simp only [fs101_8, fs101_9, fs101_10, fs101_13, fs101_15, fs101_17, fs101_18, fs101_20, fs101_22, fs101_24, fs101_26, fs101_28, fj_OB, fj_AR, fj_CI, q_zo0, q_zo1, Option.toList_some, Option.toList_none, List.cons_append, List.nil_append, true_and, and_true, true_or, if_true, if_false, q_l10, q_l01, eq_self, Int32.reduceLT, Int32.reduceLE, Int32.reduceAdd, Int32.reduceSub, fj_up_at, Nat.reduceEqDiff, false_and, and_false, and_self, reduceCtorEq, Nat.reduceAdd, lgc_eq, e0, l64_rem hx hy, not_false_eq_true]
theorem m101_end {up dn : Int64} {w : Int32} {x y : Nat} (hx : x < 100000) (hx0 : ¬ x = 0) (hy0 : y = 0) {d9 d10 : Value} {M : fj_HM} {P : fj_HP} {Q : fj_Po} : fj_H none 101 6 [.long up, .double 0, .long dn, .double 0, .int w, .long (l64 x), .double 0, .long (l64 y), .double 0, d9, d10] [] M P 53 7835 Q = Q (some (.long ((if w = 0 then up else dn) / l64 x))) M P 53 7835 := by
  subst hy0
  have e0 : (l64 0 = 0) = True := eq_true rfl
  have e1 : (l64 x = 0) = False := by rw [l64_0 hx]; exact eq_false hx0
  rw [fs101_6]
  simp only [fs101_8, fs101_9, fs101_10, fs101_31, fs101_33, fj_OB, fj_AR, fj_CI, q_zo0, q_zo1, Option.toList_some, Option.toList_none, List.cons_append, List.nil_append, true_and, and_true, true_or, if_true, if_false, q_l10, q_l01, eq_self, Int32.reduceLT, Int32.reduceLE, Int32.reduceAdd, Int32.reduceSub, fj_up_at, Nat.reduceEqDiff, false_and, and_false, and_self, reduceCtorEq, Nat.reduceAdd, lgc_eq, e0]
  by_cases h : w = 0
  · rw [if_pos h, if_pos h]
    simp only [fs101_36, fs101_37, fs101_41, fs101_43, fs101_44, fj_OB, fj_AR, fj_CI, q_zo0, q_zo1, Option.toList_some, Option.toList_none, List.cons_append, List.nil_append, true_and, and_true, true_or, if_true, if_false, q_l10, q_l01, eq_self, Int32.reduceLT, Int32.reduceLE, Int32.reduceAdd, Int32.reduceSub, fj_up_at, Nat.reduceEqDiff, false_and, and_false, and_self, reduceCtorEq, Nat.reduceAdd, e1, not_false_eq_true]
  · rw [if_neg h, if_neg h]
    simp only [fs101_40, fs101_41, fs101_43, fs101_44, fj_OB, fj_AR, fj_CI, q_zo0, q_zo1, Option.toList_some, Option.toList_none, List.cons_append, List.nil_append, true_and, and_true, true_or, if_true, if_false, q_l10, q_l01, eq_self, Int32.reduceLT, Int32.reduceLE, Int32.reduceAdd, Int32.reduceSub, fj_up_at, Nat.reduceEqDiff, false_and, and_false, and_self, reduceCtorEq, Nat.reduceAdd, e1, not_false_eq_true]
theorem m101 {a b : Nat} (ha : 0 < a) (hab : a ≤ b) (hb : b < 1000) (hd : b % a = 0) {w : Int32} {M : fj_HM} {P : fj_HP} {Q : fj_Po} : fj_H none 101 0 [.long (l64 a), .double 0, .long (l64 b), .double 0, .int w, .null, .null, .null, .null, .null, .null] [] M P 53 7835 Q = Q (some (.long (if w = 0 then 1 else l64 (b / a)))) M P 53 7835 := by
  have fin : (if w = 0 then l64 a else l64 b) / l64 a = if w = 0 then 1 else l64 (b / a) := by
    by_cases h : w = 0
    · rw [if_pos h, if_pos h, l64_div (by omega) (by omega), Nat.div_self ha]
      rfl
    · rw [if_neg h, if_neg h, l64_div (by omega) (by omega)]
  simp only [fs101_0, fs101_1, fs101_3, fs101_4, fj_OB, fj_AR, fj_CI, q_zo0, q_zo1, Option.toList_some, Option.toList_none, List.cons_append, List.nil_append, true_and, and_true, true_or, if_true, if_false, q_l10, q_l01, eq_self, Int32.reduceLT, Int32.reduceLE, Int32.reduceAdd, Int32.reduceSub, fj_up_at, Nat.reduceEqDiff, false_and, and_false, and_self, reduceCtorEq, Nat.reduceAdd]
  rw [← fin]
  rw [m101_step (show a < 100000 by omega) (show b < 100000 by omega) (by omega)]
  by_cases h : a = b
  · subst h
    rw [Nat.mod_self, m101_end (show a < 100000 by omega) (by omega) rfl]
  · rw [Nat.mod_eq_of_lt (show a < b by omega), m101_step (show b < 100000 by omega) (show a < 100000 by omega) (by omega), hd, m101_end (show a < 100000 by omega) (by omega) rfl]
/-- how many of the first sets hold all of c -/
def cntS (c : Nat) : Nat → Nat
  | 0 => 0
  | k + 1 => cntS c k + (if sdf c k = 0 then 1 else 0)
theorem cnt_all : ∀ n : Nat, n ≤ 6 → ∀ c : Nat, c < 2 ^ n → cntS c (2 ^ n) * 2 ^ popc c = 2 ^ n := by decide +kernel
theorem cnt_le (c : Nat) : ∀ k, cntS c k ≤ k
  | 0 => Nat.le_refl 0
  | k + 1 => by
    have := cnt_le c k
    show cntS c k + (if sdf c k = 0 then 1 else 0) ≤ k + 1
    by_cases h : sdf c k = 0
    · rw [if_pos h]; omega
    · rw [if_neg h]; omega
theorem k_shl : ∀ p : Nat, p ≤ 6 → (1 : Int64) <<< ((nI p).toInt64 &&& 63) = l64 (2 ^ p) := by decide +kernel
/-- two ways that differ in who sleeps alone -/
def wRel (S : Nat) (s s' : fj_W) : Prop := wmi s' = wmi s ∧ wfw s' = wfw s ∧ wde s' = wde s ∧ wle s' = wle s ∧ wat s' = wat s ∧ wco s' = wco s ∧ (wfh s' = none ↔ sdf (wco s) S = 0)
theorem sdf_or0 {a b S : Nat} : sdf (a ||| b) S = 0 ↔ sdf a S = 0 ∧ sdf b S = 0 := by
  constructor
  · intro h
    have k : ∀ i, (sdf (a ||| b) S).testBit i = false := fun i => by rw [h, Nat.zero_testBit]
    refine ⟨?_, ?_⟩
    · apply nat_ext
      intro i
      have := k i
      rw [sdf_bit, Nat.testBit_or] at this
      rw [sdf_bit, Nat.zero_testBit]
      revert this
      cases a.testBit i <;> cases b.testBit i <;> cases S.testBit i <;> decide
    · apply nat_ext
      intro i
      have := k i
      rw [sdf_bit, Nat.testBit_or] at this
      rw [sdf_bit, Nat.zero_testBit]
      revert this
      cases a.testBit i <;> cases b.testBit i <;> cases S.testBit i <;> decide
  · intro ⟨h1, h2⟩
    apply nat_ext
    intro i
    have k1 : (sdf a S).testBit i = false := by rw [h1, Nat.zero_testBit]
    have k2 : (sdf b S).testBit i = false := by rw [h2, Nat.zero_testBit]
    rw [sdf_bit] at k1 k2
    rw [sdf_bit, Nat.testBit_or, Nat.zero_testBit]
    revert k1 k2
    cases a.testBit i <;> cases b.testBit i <;> cases S.testBit i <;> decide
theorem wStep_rel {A : fj_Yd} {S g i : Nat} {s s' : fj_W} (h : wRel S s s') : wRel S (wStep A g i s) (wStep (ySl A S) g i s') := by
  obtain ⟨h1, h2, h3, h4, h5, h6, h7⟩ := h
  unfold wStep
  rw [h3, h4]
  by_cases g6 : 6 ≤ g
  · rw [if_pos g6, if_pos g6]
    refine ⟨?_, h2, h3, rfl, rfl, h6, h7⟩
    show wmi s' + (yD A (wat s') (yoc A (g - 6)) + 1) = wmi s + (yD A (wat s) (yoc A (g - 6)) + 1)
    rw [h1, h5]
  · rw [if_neg g6, if_neg g6]
    by_cases hp : 0 < wle s ∧ (wde s).testBit g = false
    · rw [if_pos hp, if_pos hp]
      refine ⟨?_, h2, ?_, ?_, rfl, ?_, ?_⟩
      · show wmi s' + (yD A (wat s') (ymc A g) + 1) = wmi s + (yD A (wat s) (ymc A g) + 1)
        rw [h1, h5]
      · show wde s' ||| 2 ^ g = wde s ||| 2 ^ g
        rw [h3]
      · show wle s' - 1 = wle s - 1
        rw [h4]
      · show wco s' ||| wHr A (ymc A g) (wde s' ||| 2 ^ g) = wco s ||| wHr A (ymc A g) (wde s ||| 2 ^ g)
        rw [h6, h3]
      · show (if wfh s' = none ∧ sdf (wHr A (ymc A g) (wde s' ||| 2 ^ g)) S ≠ 0 then some i else wfh s') = none ↔ sdf (wco s ||| wHr A (ymc A g) (wde s ||| 2 ^ g)) S = 0
        rw [h3, sdf_or0, ← h7]
        by_cases hn : wfh s' = none
        · by_cases hz : sdf (wHr A (ymc A g) (wde s ||| 2 ^ g)) S = 0
          · rw [if_neg (fun z => z.2 hz)]
            exact ⟨fun _ => ⟨hn, hz⟩, fun _ => hn⟩
          · rw [if_pos ⟨hn, hz⟩]
            exact ⟨(fun z => by cases z), (fun z => absurd z.2 hz)⟩
        · rw [if_neg (fun z => hn z.1)]
          exact ⟨fun z => absurd z hn, fun z => absurd z.1 hn⟩
    · rw [if_neg hp, if_neg hp]
      exact ⟨h1, rfl, h3, h4, h5, h6, h7⟩
theorem wGo_rel {A : fj_Yd} {S : Nat} {g : Nat → Nat} : ∀ (k i : Nat) (s s' : fj_W), wRel S s s' → wRel S (wGo A g k i s) (wGo (ySl A S) g k i s')
  | 0, _, _, _, h => h
  | k + 1, i, s, s', h => by
    show wRel S (if (wfw s).isSome = true then s else wGo A g k (i + 1) (wStep A (g i) i s)) (if (wfw s').isSome = true then s' else wGo (ySl A S) g k (i + 1) (wStep (ySl A S) (g i) i s'))
    rw [h.2.1]
    by_cases hw : (wfw s).isSome = true
    · rw [if_pos hw, if_pos hw]
      exact h
    · rw [if_neg hw, if_neg hw]
      exact wGo_rel k (i + 1) _ _ (wStep_rel h)
theorem wRel_0 (S : Nat) : wRel S w0 w0 := by
  refine ⟨rfl, rfl, rfl, rfl, rfl, rfl, fun _ => ?_, fun _ => rfl⟩
  show sdf 0 S = 0
  apply nat_ext
  intro i
  rw [sdf_bit, Nat.zero_testBit]
  rfl
theorem yV_sl {A : fj_Yd} (hV : fj_YV A) {S : Nat} (hS : S < 2 ^ yn A) : fj_YV (ySl A S) := by
  obtain ⟨v0, v1, v2, v3, v4, v5, v6, v7⟩ := hV
  exact ⟨v0, v1, v2, v3, v4, hS, v6, v7⟩
theorem m147_loop {t : Bool} {A : fj_Yd} (hV : fj_YV A) (hc : 0 < yc A) {k i n : Nat} (hn : n ≤ 20) (hb : 60 * k + i + n ≤ 240) {g : Nat → Nat} (hg : ∀ j, j < n → gok A (g j)) {w w6 : Int32} {v2 : Value} {Q : fj_Po} : ∀ (r S : Nat) (M : fj_HM), S + r = 2 ^ yn A → (∃ z, z < 2 ^ yn A ∧ fj_YM M (ySl A z)) → (∀ j, j < n → M 51 (60 * k + i + j) = nI (g j)) → (∀ M', (∀ o', o' ≠ 33 → M' o' = M o') → (∀ j, j ≠ 12 → (j < 23 ∨ 28 < j) → M' 33 j = M 33 j) → M' 33 12 = w6 → Q (some (.long (if w = 0 then 1 else l64 (2 ^ popc (wco (wGo A g n 0 w0)))))) M' (fj_PY t) 53 7835) → fj_H none 147 59 [.ref 33, .int (nI k), v2, .int (nI i), .int (nI n), .int w, .int w6, .long (l64 (cntS (wco (wGo A g n 0 w0)) S)), .double 0, .int (nI S)] [] M (fj_PY t) 53 7835 Q := by
  have hn6 := yn_le hV
  have h64 := p2_le hn6
  have hpos := Nat.two_pow_pos (yn A)
  obtain ⟨i', hi', hok⟩ := wGo_ok hV hg n 0 w0 (by omega) (wok_0 hc)
  obtain ⟨o1, o2, o3, o4, o5, o6, o7⟩ := hok
  have e60 : (60 : Int32) * nI k + nI i = nI (60 * k + i) := by rw [show (60 : Int32) = nI 60 from rfl, q_mul, nI_add]
  intro r
  induction r with
  | zero =>
    intro S M hS hY hs hQ
    obtain ⟨z, hz, hY⟩ := hY
    have hS' : S = 2 ^ yn A := by omega
    subst hS'
    have h4 : M 33 4 = nI (yn A) := hY.2.2.1
    have h4' : fj_up M 33 12 w6 33 4 = nI (yn A) := h4
    have e1 : (nI (2 ^ yn A - 1) < nI (2 ^ yn A)) = True := by rw [q_lt (by omega) (by omega)]; exact eq_true (by omega)
    have hcnt := cnt_all (yn A) hn6 _ o5
    have hle := cnt_le (wco (wGo A g n 0 w0)) (2 ^ yn A)
    have hpp := Nat.two_pow_pos (popc (wco (wGo A g n 0 w0)))
    have c0 : 0 < cntS (wco (wGo A g n 0 w0)) (2 ^ yn A) := Nat.pos_of_ne_zero (fun z => by rw [z, Nat.zero_mul] at hcnt; omega)
    have cm : 2 ^ yn A % cntS (wco (wGo A g n 0 w0)) (2 ^ yn A) = 0 := by
      have : (cntS (wco (wGo A g n 0 w0)) (2 ^ yn A) * 2 ^ popc (wco (wGo A g n 0 w0))) % cntS (wco (wGo A g n 0 w0)) (2 ^ yn A) = 0 := Nat.mul_mod_right _ _
      rw [hcnt] at this
      exact this
    have cd : 2 ^ yn A / cntS (wco (wGo A g n 0 w0)) (2 ^ yn A) = 2 ^ popc (wco (wGo A g n 0 w0)) := by
      have : (cntS (wco (wGo A g n 0 w0)) (2 ^ yn A) * 2 ^ popc (wco (wGo A g n 0 w0))) / cntS (wco (wGo A g n 0 w0)) (2 ^ yn A) = 2 ^ popc (wco (wGo A g n 0 w0)) := Nat.mul_div_cancel_left _ c0
      rw [hcnt] at this
      exact this
    have e2 : (nI (2 ^ yn A - 1)).toInt64 + 1 = l64 (2 ^ yn A) := by
      rw [l64_I (by omega), l64_1]
      congr 1
      omega
    rw [fs147_59]
    simp only [fs147_61, fs147_62, fs147_65, fj_PV t, fj_OB, fj_AR, fj_CI, q_zo0, q_zo1, Option.toList_some, Option.toList_none, List.cons_append, List.nil_append, true_and, and_true, true_or, if_true, if_false, q_l10, q_l01, eq_self, Int32.reduceLT, Int32.reduceLE, Int32.reduceAdd, Int32.reduceSub, fj_up_at, Nat.reduceEqDiff, false_and, and_false, and_self, reduceCtorEq, Nat.reduceAdd, m107 hn6 h4, e1]
    simp only [fs147_109, fs147_110, fs147_112, fs147_115, fs147_117, fs147_118, fs147_121, fs147_122, fs147_123, fs147_124, fs147_126, fj_PV t, fj_OB, fj_AR, fj_CI, q_zo0, q_zo1, Option.toList_some, Option.toList_none, List.cons_append, List.nil_append, true_and, and_true, true_or, if_true, if_false, q_l10, q_l01, eq_self, Int32.reduceLT, Int32.reduceLE, Int32.reduceAdd, Int32.reduceSub, fj_up_at, Nat.reduceEqDiff, false_and, and_false, and_self, reduceCtorEq, Nat.reduceAdd, m107 hn6 h4', e2, m101 c0 hle (show 2 ^ yn A < 1000 by omega) cm, cd]
    simp only [fs147_129, fj_OB, fj_AR, fj_CI, q_zo0, q_zo1, Option.toList_some, Option.toList_none, List.cons_append, List.nil_append, true_and, and_true, true_or, if_true, if_false, q_l10, q_l01, eq_self, Int32.reduceLT, Int32.reduceLE, Int32.reduceAdd, Int32.reduceSub, fj_up_at, Nat.reduceEqDiff, false_and, and_false, and_self, reduceCtorEq, Nat.reduceAdd]
    exact hQ _ (fun o' b => by (funext j; simp only [fj_up_at]; repeat (rw [if_neg (by omega)]))) (fun j b1 b2 => by (simp only [fj_up_at]; repeat (first | rw [if_neg (by omega)] | rw [if_pos (by omega)]))) (by (simp only [fj_up_at, true_and, and_self, if_true, eq_self, Nat.reduceEqDiff, false_and, if_false]))
  | succ r ih =>
    intro S M hS hY hs hQ
    obtain ⟨z, hz, hY⟩ := hY
    have hSl : S < 2 ^ yn A := by omega
    have h4 : M 33 4 = nI (yn A) := hY.2.2.1
    have e1 : (nI (2 ^ yn A - 1) < nI S) = False := by rw [q_lt (by omega) (by omega)]; exact eq_false (by omega)
    have hY2 : fj_YM (fj_up M 33 12 (nI S)) (ySl A S) := by
      obtain ⟨d0, d1, d2, d3, d4, d5, d6, d7, d8, d9⟩ := hY
      refine ⟨?_, ?_, ?_, ?_, ?_, ?_, ?_, fun c hc => ?_, fun m hm => ?_, fun x hx => ?_⟩
      · (simp only [fj_up_at]; repeat (first | rw [if_neg (by omega)] | rw [if_pos (by omega)]))
        exact d0
      · (simp only [fj_up_at]; repeat (first | rw [if_neg (by omega)] | rw [if_pos (by omega)]))
        exact d1
      · (simp only [fj_up_at]; repeat (first | rw [if_neg (by omega)] | rw [if_pos (by omega)]))
        exact d2
      · (simp only [fj_up_at]; repeat (first | rw [if_neg (by omega)] | rw [if_pos (by omega)]))
        exact d3
      · (simp only [fj_up_at, true_and, and_self, if_true, eq_self, Nat.reduceEqDiff, false_and, if_false])
        rfl
      · (simp only [fj_up_at]; repeat (first | rw [if_neg (by omega)] | rw [if_pos (by omega)]))
        exact d5
      · (simp only [fj_up_at]; repeat (first | rw [if_neg (by omega)] | rw [if_pos (by omega)]))
        exact d6
      · (simp only [fj_up_at]; repeat (first | rw [if_neg (by omega)] | rw [if_pos (by omega)]))
        exact d7 c hc
      · (simp only [fj_up_at]; repeat (first | rw [if_neg (by omega)] | rw [if_pos (by omega)]))
        exact d8 m hm
      · (simp only [fj_up_at]; repeat (first | rw [if_neg (by omega)] | rw [if_pos (by omega)]))
        exact d9 x hx
    rw [fs147_59]
    simp only [fs147_61, fs147_62, fs147_65, fj_PV t, fj_OB, fj_AR, fj_CI, q_zo0, q_zo1, Option.toList_some, Option.toList_none, List.cons_append, List.nil_append, true_and, and_true, true_or, if_true, if_false, q_l10, q_l01, eq_self, Int32.reduceLT, Int32.reduceLE, Int32.reduceAdd, Int32.reduceSub, fj_up_at, Nat.reduceEqDiff, false_and, and_false, and_self, reduceCtorEq, Nat.reduceAdd, m107 hn6 h4, e1]
    simp only [fs147_68, fs147_69, fs147_71, fs147_74, fs147_75, fs147_77, fs147_78, fs147_79, fs147_80, fs147_81, fs147_83, fj_PV t, fj_OB, fj_AR, fj_CI, q_zo0, q_zo1, Option.toList_some, Option.toList_none, List.cons_append, List.nil_append, true_and, and_true, true_or, if_true, if_false, q_l10, q_l01, eq_self, Int32.reduceLT, Int32.reduceLE, Int32.reduceAdd, Int32.reduceSub, fj_up_at, Nat.reduceEqDiff, false_and, and_false, and_self, reduceCtorEq, Nat.reduceAdd, e60]
    refine m126 (A := ySl A S) (yV_sl hV hSl) hc hn hb hg hY2 (fun j hj => by (simp only [fj_up_at]; repeat (first | rw [if_neg (by omega)] | rw [if_pos (by omega)])); exact hs j hj) (fun M3 q1 q2 q3 => ?_)
    have rel := wGo_rel (A := A) (g := g) n 0 w0 w0 (wRel_0 S)
    have hfh := q3.2.2.2.2.2
    have hwf : ∀ q, wfh (wGo (ySl A S) g n 0 w0) = some q → q < 1000 := by
      obtain ⟨j', hj', hok'⟩ := wGo_ok (A := ySl A S) (yV_sl hV hSl) (n := n) (g := g) hg n 0 w0 (by omega) (wok_0 (A := ySl A S) hc)
      intro q hq
      have := hok'.2.2.2.2.2.2 q hq
      omega
    have eg := onI_ge hwf
    have hY3 : fj_YM M3 (ySl A S) := fj_YM_cg (fun o b1 b2 => q1 o (by omega)) (fun k' b1 b2 => q2 k' (by omega)) hY2
    have hs3 : ∀ j, j < n → M3 51 (60 * k + i + j) = nI (g j) := fun j hj => by rw [q1 51 (by decide)]; (simp only [fj_up_at]; repeat (first | rw [if_neg (by omega)] | rw [if_pos (by omega)])); exact hs j hj
    have ec : cntS (wco (wGo A g n 0 w0)) (S + 1) = cntS (wco (wGo A g n 0 w0)) S + (if sdf (wco (wGo A g n 0 w0)) S = 0 then 1 else 0) := rfl
    have nxt := ih (S + 1) M3 (by omega) ⟨S, hSl, hY3⟩ hs3 (fun M' u1 u2 u3 => hQ M' (fun o' b => by rw [u1 o' b, q1 o' b]; (funext j; simp only [fj_up_at]; repeat (rw [if_neg (by omega)]))) (fun j b1 b2 => by rw [u2 j b1 b2, q2 j b2]; (simp only [fj_up_at]; repeat (first | rw [if_neg (by omega)] | rw [if_pos (by omega)]))) u3)
    by_cases hz : sdf (wco (wGo A g n 0 w0)) S = 0
    · have hno := rel.2.2.2.2.2.2.mpr hz
      have e3 : ((0 : Int32) ≤ onI (wfh (wGo (ySl A S) g n 0 w0))) = False := by rw [eg, hno]; exact eq_false (by decide)
      rw [ec, if_pos hz] at nxt
      simp only [fs147_86, fs147_88, fs147_89, fs147_92, fs147_95, fs147_96, fs147_100, fs147_101, fs147_103, fs147_106, fj_PV t, fj_OB, fj_AR, fj_CI, q_zo0, q_zo1, Option.toList_some, Option.toList_none, List.cons_append, List.nil_append, true_and, and_true, true_or, if_true, if_false, q_l10, q_l01, eq_self, Int32.reduceLT, Int32.reduceLE, Int32.reduceAdd, Int32.reduceSub, fj_up_at, Nat.reduceEqDiff, false_and, and_false, and_self, reduceCtorEq, Nat.reduceAdd, hfh, e3, l64_1, nI_1]
      exact nxt
    · have hne : ¬ wfh (wGo (ySl A S) g n 0 w0) = none := fun zz => hz (rel.2.2.2.2.2.2.mp zz)
      have e3 : ((0 : Int32) ≤ onI (wfh (wGo (ySl A S) g n 0 w0))) = True := by
        rw [eg]
        apply eq_true
        cases hx : wfh (wGo (ySl A S) g n 0 w0) with
        | none => exact absurd hx hne
        | some q => rfl
      rw [ec, if_neg hz, Nat.add_zero] at nxt
      simp only [fs147_86, fs147_88, fs147_89, fs147_92, fs147_99, fs147_100, fs147_101, fs147_103, fs147_106, fj_PV t, fj_OB, fj_AR, fj_CI, q_zo0, q_zo1, Option.toList_some, Option.toList_none, List.cons_append, List.nil_append, true_and, and_true, true_or, if_true, if_false, q_l10, q_l01, eq_self, Int32.reduceLT, Int32.reduceLE, Int32.reduceAdd, Int32.reduceSub, fj_up_at, Nat.reduceEqDiff, false_and, and_false, and_self, reduceCtorEq, Nat.reduceAdd, hfh, e3, Int64.add_zero, nI_1]
      exact nxt
