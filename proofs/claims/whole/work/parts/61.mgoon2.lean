/-! ===== the reference goes on from a state: all places ===== -/
theorem m134_loop {t : Bool} {A : fj_Yd} (hV : fj_YV A) (hc : 0 < yc A) {p : Nat} (hp : p < 2 ^ yn A) {F0 : Nat → Nat} {pl st can : Nat} (r1 : pl < 9) (r2 : st < 64) (r3 : can < 7) (hx0 : F0 (stI pl st can) < 99999) {Q : fj_Po} : ∀ (k to : Nat) (F : Nat → Nat) (M : fj_HM) (b : Bool) (d7 d8 d9 d10 : Value), to + k = 7 + yq A → 1 ≤ to → sB M F → fj_YM M A → sGo A p F0 F b pl st can to → (∀ M' F' b', (∀ o, o ≠ 45 → M' o = M o) → sB M' F' → sGo A p F0 F' b' pl st can (7 + yq A) → Q (some (.int (bI b'))) M' (fj_PY t) 53 7835) → fj_H none 134 26 [.ref 33, .int (nI (stI pl st can)), .int (nI can), .int (nI st), .int (nI pl), .int (bI b), .int (nI to), d7, d8, d9, d10] [] M (fj_PY t) 53 7835 Q := by
  have hn := yn_le hV
  have hq2 := yq_le hV
  have hcn : ycn A ≤ 6 := hV.2.2.2.2.2.2.1
  have hx := stI_lt r1 r2 r3
  have h64 : p < 64 := Nat.lt_of_lt_of_le hp (p2_le hn)
  intro k
  induction k with
  | zero =>
    intro to F M b d7 d8 d9 d10 hk h1 hF hY hG hQ
    have e : (7 : Int32) + nI (yq A) = nI (7 + yq A) := by rw [show (7 : Int32) = nI 7 from rfl, nI_add]
    rw [fs134_26]
    simp only [fs134_28, fs134_30, fs134_31, fs134_34, fs134_35, fj_PV t, fj_OB, fj_AR, fj_CI, q_zo0, q_zo1, Option.toList_some, Option.toList_none, List.cons_append, List.nil_append, true_and, and_true, true_or, if_true, if_false, q_l10, q_l01, eq_self, Int32.reduceLT, Int32.reduceLE, Int32.reduceAdd, Int32.reduceSub, fj_up_at, Nat.reduceEqDiff, false_and, and_false, and_self, reduceCtorEq, Nat.reduceAdd, hY.2.2.2.1, e, q_le (show 7 + yq A < 100000 by omega) (show to < 100000 by omega), eq_true (show 7 + yq A ≤ to by omega)]
    have hto : to = 7 + yq A := by omega
    subst hto
    have hz : fj_zo (bI b) = True := bI_zo b
    simp only [fs134_236, fs134_238, fj_OB, fj_AR, fj_CI, q_zo0, q_zo1, Option.toList_some, Option.toList_none, List.cons_append, List.nil_append, true_and, and_true, true_or, if_true, if_false, q_l10, q_l01, eq_self, Int32.reduceLT, Int32.reduceLE, Int32.reduceAdd, Int32.reduceSub, fj_up_at, Nat.reduceEqDiff, false_and, and_false, and_self, reduceCtorEq, Nat.reduceAdd, hz]
    exact hQ M F b (fun _ _ => rfl) hF hG
  | succ k ih =>
    intro to F M b d7 d8 d9 d10 hk h1 hF hY hG hQ
    have e : (7 : Int32) + nI (yq A) = nI (7 + yq A) := by rw [show (7 : Int32) = nI 7 from rfl, nI_add]
    have e7 : ((7 : Int32) ≤ nI to) = (7 ≤ to) := by rw [show (7 : Int32) = nI 7 from rfl]; exact q_le (by decide) (by omega)
    obtain ⟨g1, g2, g3, g4⟩ := id hG
    have hFx : F (stI pl st can) < 99999 := Nat.lt_of_le_of_lt (g1 _) hx0
    have hR := g2 pl st can r1 r2 r3 hFx
    obtain ⟨k1, k2, k3⟩ := bRch_ok hV hR
    -- a place that can't be gone to
    have no : ∀ d8' : Value, (∀ m, m < yn A → m + 1 = to → st.testBit m = true → yHs A (ymc A m) (sdf st (2 ^ m)) = 0 → 0 < can → False) → to < 7 → fj_H none 134 102 [.ref 33, .int (nI (stI pl st can)), .int (nI can), .int (nI st), .int (nI pl), .int (bI b), .int (nI to), .int 1, d8', d9, d10] [] M (fj_PY t) 53 7835 Q := by
      intro d8' hno h7
      simp only [fs134_102, fs134_103, fs134_105, fs134_107, fs134_230, fs134_233, fj_OB, fj_AR, fj_CI, q_zo0, q_zo1, Option.toList_some, Option.toList_none, List.cons_append, List.nil_append, true_and, and_true, true_or, if_true, if_false, q_l10, q_l01, eq_self, Int32.reduceLT, Int32.reduceLE, Int32.reduceAdd, Int32.reduceSub, fj_up_at, Nat.reduceEqDiff, false_and, and_false, and_self, reduceCtorEq, Nat.reduceAdd, nI_1]
      refine ih (to + 1) F M b _ _ _ _ (by omega) (by omega) hF hY ⟨g1, g2, fun hb => ?_, g4⟩ hQ
      obtain ⟨c0, c1, c2⟩ := g3 hb
      refine ⟨c0, fun m m1 m2 m3 m4 m5 => ?_, fun x x1 x2 => absurd x2 (by omega)⟩
      by_cases em : m + 1 = to
      · exact absurd (hno m m1 em m3 m4 m5) not_false
      · exact c1 m m1 (by omega) m3 m4 m5
    rw [fs134_26]
    simp only [fs134_28, fs134_30, fs134_31, fs134_34, fs134_35, fs134_38, fs134_40, fs134_42, fj_PV t, fj_OB, fj_AR, fj_CI, q_zo0, q_zo1, Option.toList_some, Option.toList_none, List.cons_append, List.nil_append, true_and, and_true, true_or, if_true, if_false, q_l10, q_l01, eq_self, Int32.reduceLT, Int32.reduceLE, Int32.reduceAdd, Int32.reduceSub, fj_up_at, Nat.reduceEqDiff, false_and, and_false, and_self, reduceCtorEq, Nat.reduceAdd, hY.2.2.2.1, e, q_le (show 7 + yq A < 100000 by omega) (show to < 100000 by omega), eq_false (show ¬ 7 + yq A ≤ to by omega), e7]
    by_cases h7 : 7 ≤ to
    · rw [if_pos h7]
      simp only [fs134_49, fs134_50, fs134_52, fs134_54, fs134_98, fs134_99, fs134_103, fs134_105, fs134_107, fs134_110, fs134_112, fs134_136, fs134_138, fs134_139, fs134_140, fs134_143, m133, fj_PV t, fj_OB, fj_AR, fj_CI, q_zo0, q_zo1, Option.toList_some, Option.toList_none, List.cons_append, List.nil_append, true_and, and_true, true_or, if_true, if_false, q_l10, q_l01, eq_self, Int32.reduceLT, Int32.reduceLE, Int32.reduceAdd, Int32.reduceSub, fj_up_at, Nat.reduceEqDiff, false_and, and_false, and_self, reduceCtorEq, Nat.reduceAdd, hY.2.2.2.2.2.1]
      have hto : (1 ≤ to ∧ to ≤ yn A) ∨ (7 ≤ to ∧ to < 7 + yq A) := Or.inr ⟨h7, by omega⟩
      have hnx : stI to st (ycn A) < 4032 := stI_lt (by omega) r2 (by omega)
      have ebc : bC A to = yoc A (to - 7) := by unfold bC; rw [if_neg (by omega), if_neg (by omega)]
      refine m134_upd hV hc hY hF k2 hto hx hFx hnx (fun d9' d10' => ?_)
      refine ih (to + 1) (upF F (stI to st (ycn A)) (if F (stI pl st can) + (yD A (bC A pl) (bC A to) + 1) < F (stI to st (ycn A)) then F (stI pl st can) + (yD A (bC A pl) (bC A to) + 1) else F (stI to st (ycn A)))) _ _ _ _ _ _ (by omega) (by omega) (sB_up hF ?_) (fj_YM_cg (fun o _ _ => by (funext j; simp only [fj_up_at]; repeat (rw [if_neg (by omega)]))) (fun k' _ _ => by (simp only [fj_up_at]; repeat (first | rw [if_neg (by omega)] | rw [if_pos (by omega)]))) hY) ?_ (fun M' F' b' u1 => hQ M' F' b' (fun o ho => by rw [u1 o ho]; (funext j; simp only [fj_up_at]; repeat (rw [if_neg (by omega)]))))
      · have := (hF _ hnx).2
        by_cases hl : F (stI pl st can) + (yD A (bC A pl) (bC A to) + 1) < F (stI to st (ycn A))
        · rw [if_pos hl]; omega
        · rw [if_neg hl]; exact this
      · refine sGo_upd hV (nx := stI to st (ycn A)) (c := yD A (bC A pl) (bC A to) + 1) hG r2 (by omega) (by omega) rfl (fun hr => ?_) ⟨r1, r2, r3, hFx⟩ (fun hle ⟨c1, c2⟩ => ⟨fun m m1 m2 m3 m4 m5 => c1 m m1 (by omega) m3 m4 m5, fun x x1 x2 => ?_⟩)
        · have := bRch_o hr (show to - 7 < yq A by omega)
          rw [ebc]
          rw [show 7 + (to - 7) = to by omega] at this
          exact this
        · by_cases ex : 7 + x = to
          · rw [ex]
            rw [ebc, show to - 7 = x by omega] at hle
            exact hle
          · exact c2 x x1 (by omega)
    · rw [if_neg h7]
      have em : nI to - 1 = nI (to - 1) := by rw [q_1, q_sub h1]
      have ec : (nI can ≤ 0) = (can ≤ 0) := by rw [q_0]; exact q_le (by omega) (by decide)
      simp only [fs134_45, fs134_46, fs134_50, fs134_52, fs134_54, fs134_57, fs134_58, fj_OB, fj_AR, fj_CI, q_zo0, q_zo1, Option.toList_some, Option.toList_none, List.cons_append, List.nil_append, true_and, and_true, true_or, if_true, if_false, q_l10, q_l01, eq_self, Int32.reduceLT, Int32.reduceLE, Int32.reduceAdd, Int32.reduceSub, fj_up_at, Nat.reduceEqDiff, false_and, and_false, and_self, reduceCtorEq, Nat.reduceAdd, ec]
      by_cases hcan : can ≤ 0
      · rw [if_pos hcan]
        exact no _ (fun m m1 m2 m3 m4 m5 => by omega) (by omega)
      · rw [if_neg hcan]
        simp only [fs134_61, fs134_62, fs134_64, fs134_65, fs134_66, fj_OB, fj_AR, fj_CI, q_zo0, q_zo1, Option.toList_some, Option.toList_none, List.cons_append, List.nil_append, true_and, and_true, true_or, if_true, if_false, q_l10, q_l01, eq_self, Int32.reduceLT, Int32.reduceLE, Int32.reduceAdd, Int32.reduceSub, fj_up_at, Nat.reduceEqDiff, false_and, and_false, and_self, reduceCtorEq, Nat.reduceAdd, em, m99 (show st < 100000 by omega) (show to - 1 < 31 by omega)]
        cases hb : st.testBit (to - 1) with
        | false =>
          simp only [bI, Bool.false_eq_true, if_false, fs134_69, fj_OB, fj_AR, fj_CI, q_zo0, q_zo1, Option.toList_some, Option.toList_none, List.cons_append, List.nil_append, true_and, and_true, true_or, if_true, if_false, q_l10, q_l01, eq_self, Int32.reduceLT, Int32.reduceLE, Int32.reduceAdd, Int32.reduceSub, fj_up_at, Nat.reduceEqDiff, false_and, and_false, and_self, reduceCtorEq, Nat.reduceAdd]
          exact no _ (fun m m1 m2 m3 m4 m5 => by rw [← m2, Nat.add_sub_cancel, m3] at hb; cases hb) (by omega)
        | true =>
          have hm : to - 1 < yn A := by
            apply Nat.lt_of_not_le
            intro hge
            have hk : (sdf st p).testBit (to - 1) = false := by rw [k1, Nat.zero_testBit]
            rw [sdf_bit, hb, tb_big hp hge] at hk
            exact absurd hk (by decide)
          have hmc := ym_mc hV hm
          obtain ⟨b1, b2, b3⟩ := hY.2.2.2.2.2.2.2.2.1 (to - 1) hm
          have hs : sdf st (2 ^ (to - 1)) < 64 := sdf_lt (n := 6) r2
          have hl64 : yHs A (ymc A (to - 1)) (sdf st (2 ^ (to - 1))) < 64 := Nat.lt_of_lt_of_le (yHs_lt _ _ _) (p2_le hn)
          have ez : (nI (yHs A (ymc A (to - 1)) (sdf st (2 ^ (to - 1)))) = 0) = (yHs A (ymc A (to - 1)) (sdf st (2 ^ (to - 1))) = 0) := by rw [q_0]; exact q_eq (by omega) (by decide)
          simp only [bI, if_true, fs134_69, fs134_72, fs134_73, fs134_74, fs134_77, fs134_79, fs134_80, fs134_81, fs134_82, fs134_83, fs134_84, fs134_86, fs134_87, fs134_88, fs134_89, fs134_90, fs134_91, fs134_92, fj_PV t, fj_OB, fj_AR, fj_CI, q_zo0, q_zo1, Option.toList_some, Option.toList_none, List.cons_append, List.nil_append, true_and, and_true, true_or, if_true, if_false, q_l10, q_l01, eq_self, Int32.reduceLT, Int32.reduceLE, Int32.reduceAdd, Int32.reduceSub, fj_up_at, Nat.reduceEqDiff, false_and, and_false, and_self, reduceCtorEq, Nat.reduceAdd, em, b3, q_in (show to - 1 < 6 by omega), q_clamp (show to - 1 < 100000 by omega), q_shl (to - 1) (by omega), q_sdf, m123 hV hY hmc hs]
          simp only [fs134_95, fj_OB, fj_AR, fj_CI, q_zo0, q_zo1, Option.toList_some, Option.toList_none, List.cons_append, List.nil_append, true_and, and_true, true_or, if_true, if_false, q_l10, q_l01, eq_self, Int32.reduceLT, Int32.reduceLE, Int32.reduceAdd, Int32.reduceSub, fj_up_at, Nat.reduceEqDiff, false_and, and_false, and_self, reduceCtorEq, Nat.reduceAdd, ez]
          by_cases hz : yHs A (ymc A (to - 1)) (sdf st (2 ^ (to - 1))) = 0
          · rw [if_pos hz]
            have ec1 : nI can - 1 = nI (can - 1) := by rw [q_1, q_sub (by omega)]
            simp only [fs134_98, fs134_99, fs134_103, fs134_105, fs134_107, fs134_110, fs134_112, fs134_115, fs134_117, fs134_118, fs134_119, fs134_121, fs134_122, fs134_123, fs134_124, fs134_125, fs134_126, fs134_127, fs134_128, fs134_129, fs134_130, fs134_133, m133, fj_PV t, fj_OB, fj_AR, fj_CI, q_zo0, q_zo1, Option.toList_some, Option.toList_none, List.cons_append, List.nil_append, true_and, and_true, true_or, if_true, if_false, q_l10, q_l01, eq_self, Int32.reduceLT, Int32.reduceLE, Int32.reduceAdd, Int32.reduceSub, fj_up_at, Nat.reduceEqDiff, false_and, and_false, and_self, reduceCtorEq, Nat.reduceAdd, em, ec1, q_shl (to - 1) (by omega), q_sdf]
            have hto : (1 ≤ to ∧ to ≤ yn A) ∨ (7 ≤ to ∧ to < 7 + yq A) := Or.inl ⟨h1, by omega⟩
            have hnx : stI to (sdf st (2 ^ (to - 1))) (can - 1) < 4032 := stI_lt (by omega) hs (by omega)
            have ebc : bC A to = ymc A (to - 1) := by unfold bC; rw [if_neg (by omega), if_pos (by omega)]
            refine m134_upd (b := b) hV hc hY hF k2 hto hx hFx hnx (fun d9' d10' => ?_)
            refine ih (to + 1) (upF F (stI to (sdf st (2 ^ (to - 1))) (can - 1)) (if F (stI pl st can) + (yD A (bC A pl) (bC A to) + 1) < F (stI to (sdf st (2 ^ (to - 1))) (can - 1)) then F (stI pl st can) + (yD A (bC A pl) (bC A to) + 1) else F (stI to (sdf st (2 ^ (to - 1))) (can - 1)))) _ _ _ _ _ _ (by omega) (by omega) (sB_up hF ?_) (fj_YM_cg (fun o _ _ => by (funext j; simp only [fj_up_at]; repeat (rw [if_neg (by omega)]))) (fun k' _ _ => by (simp only [fj_up_at]; repeat (first | rw [if_neg (by omega)] | rw [if_pos (by omega)]))) hY) ?_ (fun M' F' b' u1 => hQ M' F' b' (fun o ho => by rw [u1 o ho]; (funext j; simp only [fj_up_at]; repeat (rw [if_neg (by omega)]))))
            · have := (hF _ hnx).2
              by_cases hl : F (stI pl st can) + (yD A (bC A pl) (bC A to) + 1) < F (stI to (sdf st (2 ^ (to - 1))) (can - 1))
              · rw [if_pos hl]; omega
              · rw [if_neg hl]; exact this
            · refine sGo_upd hV (nx := stI to (sdf st (2 ^ (to - 1))) (can - 1)) (c := yD A (bC A pl) (bC A to) + 1) hG hs (by omega) (by omega) rfl (fun hr => ?_) ⟨r1, r2, r3, hFx⟩ (fun hle ⟨c1, c2⟩ => ⟨fun m m1 m2 m3 m4 m5 => ?_, fun x x1 x2 => absurd x2 (by omega)⟩)
              · have := bRch_m hr hm hb hz (by omega)
                rw [ebc]
                rw [show to - 1 + 1 = to by omega] at this
                exact this
              · by_cases ex : m + 1 = to
                · rw [ex]
                  rw [ebc, show to - 1 = m by omega] at hle
                  exact hle
                · exact c1 m m1 (by omega) m3 m4 m5
          · rw [if_neg hz]
            exact no _ (fun m m1 m2 m3 m4 m5 => by rw [← m2, Nat.add_sub_cancel] at hz; exact hz m4) (by omega)
theorem m134 {t : Bool} {A : fj_Yd} (hV : fj_YV A) (hc : 0 < yc A) {p : Nat} (hp : p < 2 ^ yn A) {F0 : Nat → Nat} {x : Nat} (hx : x < 4032) (hx0 : F0 x < 99999) {M : fj_HM} (hF : sB M F0) (hY : fj_YM M A) (hS : sSnd A p F0) {Q : fj_Po} (hQ : ∀ M' F' b', (∀ o, o ≠ 45 → M' o = M o) → sB M' F' → sGo A p F0 F' b' (x / 448) (x / 7 % 64) (x % 7) (7 + yq A) → Q (some (.int (bI b'))) M' (fj_PY t) 53 7835) : fj_H none 134 0 [.ref 33, .int (nI x), .null, .null, .null, .null, .null, .null, .null, .null, .null] [] M (fj_PY t) 53 7835 Q := by
  have ex : stI (x / 448) (x / 7 % 64) (x % 7) = x := by unfold stI; omega
  have r1 : x / 448 < 9 := by omega
  have r2 : x / 7 % 64 < 64 := by omega
  have r3 : x % 7 < 7 := by omega
  have k7 : (7 : Int32) = nI 7 := rfl
  have k64 : (64 : Int32) = nI 64 := rfl
  have k448 : (448 : Int32) = nI 448 := rfl
  have z7 : (nI 7 = 0) = False := eq_false (by decide)
  have z64 : (nI 64 = 0) = False := eq_false (by decide)
  have z448 : (nI 448 = 0) = False := eq_false (by decide)
  have h0 : sGo A p F0 F0 false (x / 448) (x / 7 % 64) (x % 7) 1 := ⟨fun _ => Nat.le_refl _, hS, fun _ => ⟨rfl, fun m m1 m2 => absurd m2 (by omega), fun y y1 y2 => absurd y2 (by omega)⟩, fun h => by cases h⟩
  have lp := m134_loop (t := t) hV hc hp r1 r2 r3 (by rw [ex]; exact hx0) (Q := Q) (6 + yq A) 1 F0 M false .null .null .null .null (by omega) (Nat.le_refl 1) hF hY h0 hQ
  rw [ex, show bI false = 0 from rfl, show nI 1 = 1 from rfl] at lp
  simp only [fs134_0, fs134_1, fs134_3, fs134_4, fs134_5, fs134_6, fs134_8, fs134_9, fs134_11, fs134_12, fs134_13, fs134_14, fs134_17, fs134_18, fs134_20, fs134_21, fs134_23, fs134_24, fj_OB, fj_AR, fj_CI, q_zo0, q_zo1, Option.toList_some, Option.toList_none, List.cons_append, List.nil_append, true_and, and_true, true_or, if_true, if_false, q_l10, q_l01, eq_self, Int32.reduceLT, Int32.reduceLE, Int32.reduceAdd, Int32.reduceSub, fj_up_at, Nat.reduceEqDiff, false_and, and_false, and_self, reduceCtorEq, Nat.reduceAdd, k7, k64, k448, z7, z64, z448, not_false_eq_true, q_div (show x < 100000 by omega) (show 7 < 100000 by decide), q_div (show x < 100000 by omega) (show 448 < 100000 by decide), q_div (show x / 7 < 100000 by omega) (show 64 < 100000 by decide), q_rem2 (show x < 100000 by omega) (show 7 < 100000 by decide), q_rem2 (show x / 7 < 100000 by omega) (show 64 < 100000 by decide)]
  exact lp
