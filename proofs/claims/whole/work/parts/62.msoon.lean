/-! ===== the reference's table, to its end ===== -/
def fsum (F : Nat → Nat) : Nat → Nat
  | 0 => 0
  | n + 1 => fsum F n + F n
theorem fsum_le {F G : Nat → Nat} (h : ∀ i, G i ≤ F i) : ∀ n, fsum G n ≤ fsum F n
  | 0 => Nat.le_refl 0
  | n + 1 => Nat.add_le_add (fsum_le h n) (h n)
theorem fsum_lt {F G : Nat → Nat} (h : ∀ i, G i ≤ F i) : ∀ {n i : Nat}, i < n → G i < F i → fsum G n < fsum F n
  | 0, i, hi, _ => absurd hi (Nat.not_lt_zero i)
  | n + 1, i, hi, hl => by
    show fsum G n + G n < fsum F n + F n
    have h1 := fsum_le h n
    have h2 := h n
    by_cases e : i = n
    · rw [e] at hl
      omega
    · have := fsum_lt h (show i < n by omega) hl
      omega
def sFix (A : fj_Yd) (p : Nat) (F : Nat → Nat) : Prop := sSnd A p F ∧ (∀ y, y < 4032 → F y < 99999 → sClT A F (y / 448) (y / 7 % 64) (y % 7) (7 + yq A)) ∧ F (stI 0 p 0) = 0
theorem k_4032 : (4032 : Int32) = nI 4032 := rfl
theorem k_much : (99999 : Int32) = nI 99999 := rfl
theorem m135_fill {t : Bool} {v1 v3 : Value} {Q : fj_Po} : ∀ (r x : Nat) (M : fj_HM), x + r = 4032 → (∀ M', (∀ o, o ≠ 45 → M' o = M o) → (∀ j, j < x → M' 45 j = M 45 j) → (∀ j, x ≤ j → j < 4032 → M' 45 j = nI 99999) → fj_H none 135 23 [.ref 33, v1, .int (nI 4032), v3] [] M' (fj_PY t) 53 7835 Q) → fj_H none 135 2 [.ref 33, v1, .int (nI x), v3] [] M (fj_PY t) 53 7835 Q := by
  intro r
  induction r with
  | zero =>
    intro x M hx hQ
    have hx' : x = 4032 := by omega
    subst hx'
    rw [fs135_2]
    simp only [fs135_3, fs135_6, fj_OB, fj_AR, fj_CI, q_zo0, q_zo1, Option.toList_some, Option.toList_none, List.cons_append, List.nil_append, true_and, and_true, true_or, if_true, if_false, q_l10, q_l01, eq_self, Int32.reduceLT, Int32.reduceLE, Int32.reduceAdd, Int32.reduceSub, fj_up_at, Nat.reduceEqDiff, false_and, and_false, and_self, reduceCtorEq, Nat.reduceAdd, k_4032, q_le (show 4032 < 100000 by decide) (show 4032 < 100000 by decide), eq_true (Nat.le_refl 4032)]
    exact hQ M (fun _ _ => rfl) (fun _ _ => rfl) (fun j h1 h2 => absurd h2 (by omega))
  | succ r ih =>
    intro x M hx hQ
    rw [fs135_2]
    simp only [fs135_3, fs135_6, fj_OB, fj_AR, fj_CI, q_zo0, q_zo1, Option.toList_some, Option.toList_none, List.cons_append, List.nil_append, true_and, and_true, true_or, if_true, if_false, q_l10, q_l01, eq_self, Int32.reduceLT, Int32.reduceLE, Int32.reduceAdd, Int32.reduceSub, fj_up_at, Nat.reduceEqDiff, false_and, and_false, and_self, reduceCtorEq, Nat.reduceAdd, k_4032, q_le (show 4032 < 100000 by decide) (show x < 100000 by omega), eq_false (show ¬ 4032 ≤ x by omega)]
    simp only [fs135_9, fs135_10, fs135_13, fs135_14, fs135_16, fs135_17, fs135_20, fj_PV t, fj_OB, fj_AR, fj_CI, q_zo0, q_zo1, Option.toList_some, Option.toList_none, List.cons_append, List.nil_append, true_and, and_true, true_or, if_true, if_false, q_l10, q_l01, eq_self, Int32.reduceLT, Int32.reduceLE, Int32.reduceAdd, Int32.reduceSub, fj_up_at, Nat.reduceEqDiff, false_and, and_false, and_self, reduceCtorEq, Nat.reduceAdd, k_much, q_in (show x < 4032 by omega), q_clamp (show x < 100000 by omega), nI_1]
    refine ih (x + 1) _ (by omega) (fun M' u1 u2 u3 => hQ M' (fun o ho => by rw [u1 o ho]; (funext j; simp only [fj_up_at]; repeat (rw [if_neg (by omega)]))) (fun j hj => by rw [u2 j (by omega)]; (simp only [fj_up_at]; repeat (first | rw [if_neg (by omega)] | rw [if_pos (by omega)]))) (fun j h1 h2 => ?_))
    by_cases ej : j = x
    · rw [ej, u2 x (by omega), fj_up_at, if_pos ⟨rfl, rfl⟩]
    · exact u3 j (by omega) h2
def sPs (A : fj_Yd) (p : Nat) (F0 F : Nat → Nat) (b : Bool) (x : Nat) : Prop := (∀ i, F i ≤ F0 i) ∧ sSnd A p F ∧ (b = false → F = F0 ∧ ∀ y, y < x → F y < 99999 → sClT A F (y / 448) (y / 7 % 64) (y % 7) (7 + yq A)) ∧ (b = true → ∃ i, i < 4032 ∧ F i < F0 i)
theorem m135_pass {t : Bool} {A : fj_Yd} (hV : fj_YV A) (hc : 0 < yc A) {p : Nat} (hp : p < 2 ^ yn A) {F0 : Nat → Nat} {v1 : Value} {Q : fj_Po} : ∀ (k x : Nat) (F : Nat → Nat) (M : fj_HM) (b : Bool), x + k = 4032 → sB M F → fj_YM M A → sPs A p F0 F b x → (∀ M' F' b', (∀ o, o ≠ 45 → M' o = M o) → sB M' F' → sPs A p F0 F' b' 4032 → fj_H none 135 79 [.ref 33, v1, .int (bI b'), .int (nI 4032)] [] M' (fj_PY t) 53 7835 Q) → fj_H none 135 45 [.ref 33, v1, .int (bI b), .int (nI x)] [] M (fj_PY t) 53 7835 Q := by
  intro k
  induction k with
  | zero =>
    intro x F M b hx hF hY hP hQ
    have hx' : x = 4032 := by omega
    subst hx'
    rw [fs135_45]
    simp only [fs135_46, fs135_49, fj_OB, fj_AR, fj_CI, q_zo0, q_zo1, Option.toList_some, Option.toList_none, List.cons_append, List.nil_append, true_and, and_true, true_or, if_true, if_false, q_l10, q_l01, eq_self, Int32.reduceLT, Int32.reduceLE, Int32.reduceAdd, Int32.reduceSub, fj_up_at, Nat.reduceEqDiff, false_and, and_false, and_self, reduceCtorEq, Nat.reduceAdd, k_4032, q_le (show 4032 < 100000 by decide) (show 4032 < 100000 by decide), eq_true (Nat.le_refl 4032)]
    exact hQ M F b (fun _ _ => rfl) hF hP
  | succ k ih =>
    intro x F M b hx hF hY hP hQ
    have hxl : x < 4032 := by omega
    obtain ⟨f1, f2⟩ := hF x hxl
    obtain ⟨p1, p2, p3, p4⟩ := id hP
    have nxt : ∀ (M' : fj_HM) (F' : Nat → Nat) (b' : Bool), (∀ o, o ≠ 45 → M' o = M o) → sB M' F' → sPs A p F0 F' b' (x + 1) → fj_H none 135 73 [.ref 33, v1, .int (bI b'), .int (nI x)] [] M' (fj_PY t) 53 7835 Q := by
      intro M' F' b' u1 u2 u3
      simp only [fs135_73, fs135_76, fj_OB, fj_AR, fj_CI, q_zo0, q_zo1, Option.toList_some, Option.toList_none, List.cons_append, List.nil_append, true_and, and_true, true_or, if_true, if_false, q_l10, q_l01, eq_self, Int32.reduceLT, Int32.reduceLE, Int32.reduceAdd, Int32.reduceSub, fj_up_at, Nat.reduceEqDiff, false_and, and_false, and_self, reduceCtorEq, Nat.reduceAdd, nI_1]
      exact ih (x + 1) F' M' b' (by omega) u2 (fj_YM_cg (fun o h1 h2 => u1 o (by omega)) (fun k' h1 h2 => by rw [u1 33 (by decide)]) hY) u3 (fun M2 F2 b2 w1 => hQ M2 F2 b2 (fun o ho => by rw [w1 o ho, u1 o ho]))
    rw [fs135_45]
    simp only [fs135_46, fs135_49, fj_OB, fj_AR, fj_CI, q_zo0, q_zo1, Option.toList_some, Option.toList_none, List.cons_append, List.nil_append, true_and, and_true, true_or, if_true, if_false, q_l10, q_l01, eq_self, Int32.reduceLT, Int32.reduceLE, Int32.reduceAdd, Int32.reduceSub, fj_up_at, Nat.reduceEqDiff, false_and, and_false, and_self, reduceCtorEq, Nat.reduceAdd, k_4032, q_le (show 4032 < 100000 by decide) (show x < 100000 by omega), eq_false (show ¬ 4032 ≤ x by omega)]
    simp only [fs135_52, fs135_53, fs135_56, fs135_57, fs135_58, fs135_60, fj_PV t, fj_OB, fj_AR, fj_CI, q_zo0, q_zo1, Option.toList_some, Option.toList_none, List.cons_append, List.nil_append, true_and, and_true, true_or, if_true, if_false, q_l10, q_l01, eq_self, Int32.reduceLT, Int32.reduceLE, Int32.reduceAdd, Int32.reduceSub, fj_up_at, Nat.reduceEqDiff, false_and, and_false, and_self, reduceCtorEq, Nat.reduceAdd, k_much, q_in hxl, q_clamp (show x < 100000 by omega), f1, q_le (show 99999 < 100000 by decide) (show F x < 100000 by omega)]
    by_cases hm : 99999 ≤ F x
    · rw [if_pos hm]
      refine nxt M F b (fun _ _ => rfl) hF ⟨p1, p2, fun hb => ?_, p4⟩
      obtain ⟨c1, c2⟩ := p3 hb
      refine ⟨c1, fun y hy1 hy2 => ?_⟩
      by_cases ey : y = x
      · rw [ey] at hy2; omega
      · exact c2 y (by omega) hy2
    · rw [if_neg hm]
      simp only [fs135_63, fs135_64, fs135_65, fj_PV t, fj_OB, fj_AR, fj_CI, q_zo0, q_zo1, Option.toList_some, Option.toList_none, List.cons_append, List.nil_append, true_and, and_true, true_or, if_true, if_false, q_l10, q_l01, eq_self, Int32.reduceLT, Int32.reduceLE, Int32.reduceAdd, Int32.reduceSub, fj_up_at, Nat.reduceEqDiff, false_and, and_false, and_self, reduceCtorEq, Nat.reduceAdd]
      refine m134 hV hc hp hxl (by omega) hF hY p2 (fun M' F' b' u1 u2 u3 => ?_)
      obtain ⟨g1, g2, g3, g4⟩ := u3
      cases b' with
      | true =>
        simp only [fs135_68, fs135_71, fs135_72, fj_OB, fj_AR, fj_CI, q_zo0, q_zo1, Option.toList_some, Option.toList_none, List.cons_append, List.nil_append, true_and, and_true, true_or, if_true, if_false, q_l10, q_l01, eq_self, Int32.reduceLT, Int32.reduceLE, Int32.reduceAdd, Int32.reduceSub, fj_up_at, Nat.reduceEqDiff, false_and, and_false, and_self, reduceCtorEq, Nat.reduceAdd, show (bI true = 0) = False from eq_false (by decide)]
        refine nxt M' F' true u1 u2 ⟨fun i => Nat.le_trans (g1 i) (p1 i), g2, fun hb => (by cases hb), fun _ => ?_⟩
        obtain ⟨i, i1, i2⟩ := g4 rfl
        exact ⟨i, i1, Nat.lt_of_lt_of_le i2 (p1 i)⟩
      | false =>
        simp only [fs135_68, fj_OB, fj_AR, fj_CI, q_zo0, q_zo1, Option.toList_some, Option.toList_none, List.cons_append, List.nil_append, true_and, and_true, true_or, if_true, if_false, q_l10, q_l01, eq_self, Int32.reduceLT, Int32.reduceLE, Int32.reduceAdd, Int32.reduceSub, fj_up_at, Nat.reduceEqDiff, false_and, and_false, and_self, reduceCtorEq, Nat.reduceAdd, show (bI false = 0) = True from eq_true rfl]
        obtain ⟨c1, c2⟩ := g3 rfl
        subst c1
        refine nxt M' F' b u1 u2 ⟨p1, p2, fun hb => ?_, p4⟩
        obtain ⟨d1, d2⟩ := p3 hb
        refine ⟨d1, fun y hy1 hy2 => ?_⟩
        by_cases ey : y = x
        · rw [ey]; exact c2
        · exact d2 y (by omega) hy2
theorem m135_out {t : Bool} {A : fj_Yd} (hV : fj_YV A) (hc : 0 < yc A) {p : Nat} (hp : p < 2 ^ yn A) {v1 : Value} {Q : fj_Po} : ∀ (N : Nat) (F : Nat → Nat) (M : fj_HM) (d : Value), fsum F 4032 < N → sB M F → fj_YM M A → sSnd A p F → F (stI 0 p 0) = 0 → (∀ M' F', (∀ o, o ≠ 45 → M' o = M o) → sB M' F' → sFix A p F' → Q none M' (fj_PY t) 53 7835) → fj_H none 135 37 [.ref 33, v1, .int 1, d] [] M (fj_PY t) 53 7835 Q := by
  intro N
  induction N with
  | zero => intro F M d h; exact absurd h (Nat.not_lt_zero _)
  | succ N ih =>
    intro F M d hN hF hY hS h0 hQ
    rw [fs135_37]
    simp only [fs135_38, fs135_41, fs135_42, fs135_43, fs135_44, fj_OB, fj_AR, fj_CI, q_zo0, q_zo1, Option.toList_some, Option.toList_none, List.cons_append, List.nil_append, true_and, and_true, true_or, if_true, if_false, q_l10, q_l01, eq_self, Int32.reduceLT, Int32.reduceLE, Int32.reduceAdd, Int32.reduceSub, fj_up_at, Nat.reduceEqDiff, false_and, and_false, and_self, reduceCtorEq, Nat.reduceAdd]
    have ps := m135_pass (t := t) hV hc hp (F0 := F) (v1 := v1) (Q := Q) 4032 0 F M false (by decide) hF hY ⟨fun _ => Nat.le_refl _, hS, fun _ => ⟨rfl, fun y hy => absurd hy (Nat.not_lt_zero y)⟩, fun h => (by cases h)⟩
    rw [show bI false = 0 from rfl, show nI 0 = 0 from rfl] at ps
    refine ps (fun M' F' b' u1 u2 u3 => ?_)
    obtain ⟨g1, g2, g3, g4⟩ := u3
    have hY' : fj_YM M' A := fj_YM_cg (fun o h1 h2 => u1 o (by omega)) (fun k' h1 h2 => by rw [u1 33 (by decide)]) hY
    simp only [fs135_79, fj_OB, fj_AR, fj_CI, q_zo0, q_zo1, Option.toList_some, Option.toList_none, List.cons_append, List.nil_append, true_and, and_true, true_or, if_true, if_false, q_l10, q_l01, eq_self, Int32.reduceLT, Int32.reduceLE, Int32.reduceAdd, Int32.reduceSub, fj_up_at, Nat.reduceEqDiff, false_and, and_false, and_self, reduceCtorEq, Nat.reduceAdd]
    cases b' with
    | true =>
      obtain ⟨i, i1, i2⟩ := g4 rfl
      have hlt := fsum_lt g1 i1 i2
      have h0' : F' (stI 0 p 0) = 0 := by have := g1 (stI 0 p 0); omega
      exact ih F' M' _ (by omega) u2 hY' g2 h0' (fun M2 F2 w1 => hQ M2 F2 (fun o ho => by rw [w1 o ho, u1 o ho]))
    | false =>
      obtain ⟨c1, c2⟩ := g3 rfl
      rw [fs135_37]
      simp only [fs135_38, fs135_82, fj_OB, fj_AR, fj_CI, q_zo0, q_zo1, Option.toList_some, Option.toList_none, List.cons_append, List.nil_append, true_and, and_true, true_or, if_true, if_false, q_l10, q_l01, eq_self, Int32.reduceLT, Int32.reduceLE, Int32.reduceAdd, Int32.reduceSub, fj_up_at, Nat.reduceEqDiff, false_and, and_false, and_self, reduceCtorEq, Nat.reduceAdd, show (bI false = 0) = True from eq_true rfl]
      exact hQ M' F' u1 u2 ⟨g2, c2, by rw [c1]; exact h0⟩
theorem m133z {b : Nat} {M : fj_HM} {P : fj_HP} {Q : fj_Po} : fj_H none 133 0 [.int 0, .int (nI b), .int 0] [] M P 53 7835 Q = Q (some (.int (nI (stI 0 b 0)))) M P 53 7835 := m133 (a := 0) (b := b) (c := 0)
theorem m135 {t : Bool} {A : fj_Yd} (hV : fj_YV A) (hc : 0 < yc A) {p : Nat} (hp : p < 2 ^ yn A) {M : fj_HM} (hY : fj_YM M A) {Q : fj_Po} (hQ : ∀ M' F, (∀ o, o ≠ 45 → M' o = M o) → sB M' F → sFix A p F → Q none M' (fj_PY t) 53 7835) : fj_H none 135 0 [.ref 33, .int (nI p), .null, .null] [] M (fj_PY t) 53 7835 Q := by
  have hn := yn_le hV
  have h64 : p < 64 := Nat.lt_of_lt_of_le hp (p2_le hn)
  have hi0 : stI 0 p 0 < 4032 := stI_lt (by decide) h64 (by decide)
  simp only [fs135_0, fs135_1, fj_OB, fj_AR, fj_CI, q_zo0, q_zo1, Option.toList_some, Option.toList_none, List.cons_append, List.nil_append, true_and, and_true, true_or, if_true, if_false, q_l10, q_l01, eq_self, Int32.reduceLT, Int32.reduceLE, Int32.reduceAdd, Int32.reduceSub, fj_up_at, Nat.reduceEqDiff, false_and, and_false, and_self, reduceCtorEq, Nat.reduceAdd]
  have fl := m135_fill (t := t) (v1 := .int (nI p)) (v3 := .null) (Q := Q) 4032 0 M (by decide)
  rw [show nI 0 = 0 from rfl] at fl
  refine fl (fun M1 u1 u2 u3 => ?_)
  simp only [fs135_23, fs135_24, fs135_27, fs135_28, fs135_29, fs135_30, fs135_33, fs135_34, fs135_35, fs135_36, fj_PV t, fj_OB, fj_AR, fj_CI, q_zo0, q_zo1, Option.toList_some, Option.toList_none, List.cons_append, List.nil_append, true_and, and_true, true_or, if_true, if_false, q_l10, q_l01, eq_self, Int32.reduceLT, Int32.reduceLE, Int32.reduceAdd, Int32.reduceSub, fj_up_at, Nat.reduceEqDiff, false_and, and_false, and_self, reduceCtorEq, Nat.reduceAdd, m133z, q_in hi0, q_clamp (show stI 0 p 0 < 100000 by omega)]
  have hB : sB (fj_up M1 45 (stI 0 p 0) 0) (fun i => if i = stI 0 p 0 then 0 else 99999) := by
    intro i hi
    show fj_up M1 45 (stI 0 p 0) 0 45 i = nI (if i = stI 0 p 0 then 0 else 99999) ∧ (if i = stI 0 p 0 then 0 else 99999) ≤ 99999
    rw [fj_up_at]
    by_cases e : i = stI 0 p 0
    · rw [if_pos ⟨rfl, e⟩, if_pos e]; exact ⟨rfl, by decide⟩
    · rw [if_neg (fun z => e z.2), if_neg e]; exact ⟨u3 i (Nat.zero_le _) hi, Nat.le_refl _⟩
  refine m135_out hV hc hp (fsum (fun i => if i = stI 0 p 0 then 0 else 99999) 4032 + 1) (fun i => if i = stI 0 p 0 then 0 else 99999) _ _ (Nat.lt_succ_self _) hB (fj_YM_cg (fun o h1 h2 => by rw [← u1 o (by omega)]; (funext j; simp only [fj_up_at]; repeat (rw [if_neg (by omega)]))) (fun k' h1 h2 => by rw [fj_up_at, if_neg (by omega), u1 33 (by decide)]) hY) ?_ ?_ (fun M' F' w1 => hQ M' F' (fun o ho => by rw [w1 o ho, ← u1 o ho]; (funext j; simp only [fj_up_at]; repeat (rw [if_neg (by omega)]))))
  · intro pl st can h1 h2 h3 h4
    by_cases e : stI pl st can = stI 0 p 0
    · obtain ⟨i1, i2, i3⟩ := stI_inj h2 h3 h64 (by decide) e
      subst i1
      subst i2
      subst i3
      show bRch A st 0 st 0 (if stI 0 st 0 = stI 0 st 0 then 0 else 99999)
      rw [if_pos rfl]
      exact bRch_0 A st
    · have h5 : (if stI pl st can = stI 0 p 0 then 0 else 99999) < 99999 := h4
      rw [if_neg e] at h5
      omega
  · show (if stI 0 p 0 = stI 0 p 0 then 0 else 99999) = 0
    rw [if_pos rfl]
theorem sFix_le {A : fj_Yd} (hV : fj_YV A) {p : Nat} (hp : p < 2 ^ yn A) {F : Nat → Nat} (h99 : ∀ i, i < 4032 → F i ≤ 99999) (h : sFix A p F) {pl st can v : Nat} (hR : bRch A p pl st can v) : F (stI pl st can) ≤ v := by
  have hn := yn_le hV
  have hq2 := yq_le hV
  have hcn : ycn A ≤ 6 := hV.2.2.2.2.2.2.1
  have h64 : p < 64 := Nat.lt_of_lt_of_le hp (p2_le hn)
  obtain ⟨h1, h2, h3⟩ := h
  have dec : ∀ pl st can, pl < 9 → st < 64 → can < 7 → stI pl st can / 448 = pl ∧ stI pl st can / 7 % 64 = st ∧ stI pl st can % 7 = can := fun pl st can a1 a2 a3 => by unfold stI; omega
  have key : bRch A p pl st can v ∧ F (stI pl st can) ≤ v := by
    refine hR (fun pl st can v => bRch A p pl st can v ∧ F (stI pl st can) ≤ v) ⟨bRch_0 A p, by rw [h3]; exact Nat.zero_le _⟩ ?_ ?_
    · intro pl st can v m ⟨hr, hf⟩ hm hb hh hc
      refine ⟨bRch_m hr hm hb hh hc, ?_⟩
      obtain ⟨k1, k2, k3⟩ := bRch_ok hV hr
      have hst : st < 64 := Nat.lt_of_le_of_lt (sub_le k1) h64
      have hpl : pl < 9 := by omega
      have hnx : stI (m + 1) (sdf st (2 ^ m)) (can - 1) < 4032 := stI_lt (by omega) (sdf_lt (n := 6) hst) (by omega)
      by_cases hl : F (stI pl st can) < 99999
      · have := (h2 (stI pl st can) (stI_lt hpl hst (by omega)) hl).1
        obtain ⟨d1, d2, d3⟩ := dec pl st can hpl hst (by omega)
        rw [d1, d2, d3] at this
        have := this m hm (by omega) hb hh hc
        omega
      · have := h99 _ hnx
        omega
    · intro pl st can v x ⟨hr, hf⟩ hx
      refine ⟨bRch_o hr hx, ?_⟩
      obtain ⟨k1, k2, k3⟩ := bRch_ok hV hr
      have hst : st < 64 := Nat.lt_of_le_of_lt (sub_le k1) h64
      have hpl : pl < 9 := by omega
      have hnx : stI (7 + x) st (ycn A) < 4032 := stI_lt (by omega) hst (by omega)
      by_cases hl : F (stI pl st can) < 99999
      · have := (h2 (stI pl st can) (stI_lt hpl hst (by omega)) hl).2
        obtain ⟨d1, d2, d3⟩ := dec pl st can hpl hst (by omega)
        rw [d1, d2, d3] at this
        have := this x hx (by omega)
        omega
      · have := h99 _ hnx
        omega
  exact key.2
