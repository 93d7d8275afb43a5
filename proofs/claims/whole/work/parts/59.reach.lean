/-! ===== what the reference reaches, and the class, are the same ===== -/
def bC (A : fj_Yd) (pl : Nat) : Nat := if pl = 0 then 0 else if pl < 7 then ymc A (pl - 1) else yoc A (pl - 7)
/-- reached by the reference: a place, who stands, what is in the can, minutes -/
def bRch (A : fj_Yd) (p pl st can v : Nat) : Prop := ∀ P : Nat → Nat → Nat → Nat → Prop, P 0 p 0 0 → (∀ pl st can v m, P pl st can v → m < yn A → st.testBit m = true → yHs A (ymc A m) (sdf st (2 ^ m)) = 0 → 0 < can → P (m + 1) (sdf st (2 ^ m)) (can - 1) (v + (yD A (bC A pl) (ymc A m) + 1))) → (∀ pl st can v x, P pl st can v → x < yq A → P (7 + x) st (ycn A) (v + (yD A (bC A pl) (yoc A x) + 1))) → P pl st can v
theorem bRch_0 (A : fj_Yd) (p : Nat) : bRch A p 0 p 0 0 := fun _ h _ _ => h
theorem bRch_m {A : fj_Yd} {p pl st can v m : Nat} (h : bRch A p pl st can v) (hm : m < yn A) (hb : st.testBit m = true) (hh : yHs A (ymc A m) (sdf st (2 ^ m)) = 0) (hc : 0 < can) : bRch A p (m + 1) (sdf st (2 ^ m)) (can - 1) (v + (yD A (bC A pl) (ymc A m) + 1)) := fun P h0 h1 h2 => h1 _ _ _ _ _ (h P h0 h1 h2) hm hb hh hc
theorem bRch_o {A : fj_Yd} {p pl st can v x : Nat} (h : bRch A p pl st can v) (hx : x < yq A) : bRch A p (7 + x) st (ycn A) (v + (yD A (bC A pl) (yoc A x) + 1)) := fun P h0 h1 h2 => h2 _ _ _ _ _ (h P h0 h1 h2) hx
theorem sdf_sub {a b p : Nat} (h : sdf a p = 0) : sdf (sdf a b) p = 0 := by
  apply nat_ext
  intro i
  have k : (sdf a p).testBit i = false := by rw [h, Nat.zero_testBit]
  rw [sdf_bit] at k
  rw [sdf_bit, sdf_bit, Nat.zero_testBit]
  revert k
  cases a.testBit i <;> cases b.testBit i <;> cases p.testBit i <;> decide
theorem sdf_self (p : Nat) : sdf p p = 0 := by
  apply nat_ext
  intro i
  rw [sdf_bit, Nat.zero_testBit]
  cases p.testBit i <;> rfl
theorem sdf_zr (p : Nat) : sdf p 0 = p := by
  apply nat_ext
  intro i
  rw [sdf_bit, Nat.zero_testBit]
  cases p.testBit i <;> rfl
/-- what was taken away twice is what was left -/
theorem sdf_dbl {p st : Nat} (h : sdf st p = 0) : sdf p (sdf p st) = st := by
  apply nat_ext
  intro i
  have k : (sdf st p).testBit i = false := by rw [h, Nat.zero_testBit]
  rw [sdf_bit] at k
  rw [sdf_bit, sdf_bit]
  revert k
  cases st.testBit i <;> cases p.testBit i <;> decide
theorem bRch_ok {A : fj_Yd} (hV : fj_YV A) {p pl st can v : Nat} (h : bRch A p pl st can v) : sdf st p = 0 ∧ (pl = 0 ∨ (1 ≤ pl ∧ pl ≤ yn A) ∨ (7 ≤ pl ∧ pl < 7 + yq A)) ∧ can ≤ 6 := by
  have h6 : ycn A ≤ 6 := hV.2.2.2.2.2.2.1
  exact h (fun pl st can v => sdf st p = 0 ∧ (pl = 0 ∨ (1 ≤ pl ∧ pl ≤ yn A) ∨ (7 ≤ pl ∧ pl < 7 + yq A)) ∧ can ≤ 6) ⟨sdf_self p, Or.inl rfl, by decide⟩ (fun pl st can v m ⟨h1, h2, h3⟩ hm hb hh hc => ⟨sdf_sub h1, Or.inr (Or.inl (by omega)), by omega⟩) (fun pl st can v x ⟨h1, h2, h3⟩ hx => ⟨h1, Or.inr (Or.inr (by omega)), h6⟩)
theorem bC_lt {A : fj_Yd} (hV : fj_YV A) (hc : 0 < yc A) {pl : Nat} (h : pl = 0 ∨ (1 ≤ pl ∧ pl ≤ yn A) ∨ (7 ≤ pl ∧ pl < 7 + yq A)) : bC A pl < yc A := by
  have hn := yn_le hV
  unfold bC
  rcases h with h | h | h
  · rw [if_pos h]; exact hc
  · rw [if_neg (by omega), if_pos (by omega)]
    exact ym_mc hV (by omega)
  · rw [if_neg (by omega), if_neg (by omega)]
    exact yo_oc hV (by omega)
theorem tri (a b c : Nat) : ad2 a c ≤ ad2 a b + ad2 b c := by unfold ad2; omega
theorem yD_tri (A : fj_Yd) (a b c : Nat) : yD A a c ≤ yD A a b + yD A b c := by
  unfold yD
  have h1 := tri (a / yw A) (b / yw A) (c / yw A)
  have h2 := tri (a % yw A) (b % yw A) (c % yw A)
  omega
/-- who is quiet: the class's way to say it, and the reference's -/
theorem sQ_iff {A : fj_Yd} {p set m : Nat} (hp : p < 64) : sQ A p set m ↔ m < yn A ∧ (sdf p set).testBit m = true ∧ yHs A (ymc A m) (sdf (sdf p set) (2 ^ m)) = 0 := by
  have hs : sdf p set < 64 := sdf_lt (n := 6) hp
  have e : sHr A m &&& sdf p set = yHs A (ymc A m) (sdf (sdf p set) (2 ^ m)) := by
    rw [yHs_and A _ hs]
    unfold sHr
    apply nat_ext
    intro i
    rw [Nat.testBit_and, Nat.testBit_and, sdf_bit, sdf_bit, sdf_bit (sdf (sdf p set) (2 ^ m)), sdf_bit (sdf p set) (2 ^ m)]
    cases (yH A (ymc A m)).testBit i <;> cases (ysl A).testBit i <;> cases (2 ^ m).testBit i <;> cases (sdf p set).testBit i <;> rfl
  unfold sQ
  rw [e]
/-- a last man's place -/
def plc (last : Nat) : Nat := if last = 6 then 0 else last + 1
theorem bC_plc {A : fj_Yd} {last : Nat} (h : last ≤ 6) : bC A (plc last) = sFrom A last := by
  unfold bC plc sFrom
  by_cases e : last = 6
  · rw [if_pos e, if_pos rfl, if_pos e]
  · rw [if_neg e, if_neg (by omega), if_pos (by omega), if_neg e]
    rfl
theorem s_b {A : fj_Yd} (hV : fj_YV A) (hcn : 1 ≤ ycn A) {p set last left v : Nat} (hp : p < 64) (h : sRch A p set last left v) : last ≤ 6 ∧ bRch A p (plc last) (sdf p set) left v := by
  have hn := yn_le hV
  refine h (fun set last left v => last ≤ 6 ∧ bRch A p (plc last) (sdf p set) left v) ⟨by decide, by rw [sdf_zr]; exact bRch_0 A p⟩ (fun set last left v m ⟨hl, h⟩ hq h0 => ?_) (fun set last left v m x ⟨hl, h⟩ hq hx => ?_)
  · obtain ⟨q1, q2, q3⟩ := (sQ_iff hp).mp hq
    have := bRch_m h q1 q2 q3 h0
    rw [bC_plc hl, sdf_or] at this
    refine ⟨by omega, ?_⟩
    have e : plc m = m + 1 := by unfold plc; rw [if_neg (by omega)]
    rw [e]
    exact this
  · obtain ⟨q1, q2, q3⟩ := (sQ_iff hp).mp hq
    have o := bRch_o h hx
    have hq2 := yq_le hV
    have := bRch_m o q1 q2 q3 hcn
    have ec : bC A (7 + x) = yoc A x := by
      unfold bC
      rw [if_neg (by omega), if_neg (by omega)]
      congr 1
      omega
    rw [bC_plc hl, sdf_or, ec] at this
    refine ⟨by omega, ?_⟩
    have e : plc m = m + 1 := by unfold plc; rw [if_neg (by omega)]
    rw [e]
    have ev : v + sO A last x m = v + (yD A (sFrom A last) (yoc A x) + 1) + (yD A (yoc A x) (ymc A m) + 1) := by unfold sO; omega
    rw [ev]
    exact this
theorem b_s {A : fj_Yd} (hV : fj_YV A) (hcn : 1 ≤ ycn A) {p pl st can v : Nat} (hp : p < 64) (h : bRch A p pl st can v) : ∃ last left v', sRch A p (sdf p st) last left v' ∧ v' ≤ v := by
  have hn := yn_le hV
  have hq2 := yq_le hV
  have key : sdf st p = 0 ∧ ((pl = 0 ∧ can = 0 ∧ sRch A p (sdf p st) 6 0 v) ∨ (∃ m v', pl = m + 1 ∧ m < 6 ∧ sRch A p (sdf p st) m can v' ∧ v' ≤ v) ∨ (∃ x last left v', x < yq A ∧ pl = 7 + x ∧ can = ycn A ∧ last ≤ 6 ∧ sRch A p (sdf p st) last left v' ∧ v' + (yD A (sFrom A last) (yoc A x) + 1) ≤ v)) := by
    refine h (fun pl st can v => sdf st p = 0 ∧ ((pl = 0 ∧ can = 0 ∧ sRch A p (sdf p st) 6 0 v) ∨ (∃ m v', pl = m + 1 ∧ m < 6 ∧ sRch A p (sdf p st) m can v' ∧ v' ≤ v) ∨ (∃ x last left v', x < yq A ∧ pl = 7 + x ∧ can = ycn A ∧ last ≤ 6 ∧ sRch A p (sdf p st) last left v' ∧ v' + (yD A (sFrom A last) (yoc A x) + 1) ≤ v))) ⟨sdf_self p, Or.inl ⟨rfl, rfl, by rw [sdf_self]; exact sRch_0 A p⟩⟩ ?_ ?_
    · intro pl st can v m ⟨hs, hd⟩ hm hb hh hc
      have eS : sdf p (sdf st (2 ^ m)) = sdf p st ||| 2 ^ m := by
        apply nat_ext
        intro i
        have k : (sdf st p).testBit i = false := by rw [hs, Nat.zero_testBit]
        rw [sdf_bit] at k
        rw [sdf_bit, sdf_bit, Nat.testBit_or, sdf_bit, p2_bit]
        by_cases e : m = i
        · subst e
          rw [hb] at k
          rw [hb, decide_eq_true rfl]
          revert k
          cases p.testBit m <;> decide
        · rw [decide_eq_false e]
          cases p.testBit i <;> cases st.testBit i <;> rfl
      have hq : sQ A p (sdf p st) m := by
        rw [sQ_iff hp, sdf_dbl hs]
        exact ⟨hm, hb, hh⟩
      refine ⟨sdf_sub hs, Or.inr (Or.inl ?_)⟩
      rw [eS]
      rcases hd with ⟨d1, d2, d3⟩ | ⟨m', v', d1, d2, d3, d4⟩ | ⟨x, last, left, v', hx, d1, d2, d3, d4, d5⟩
      · omega
      · refine ⟨m, v' + sS A m' m, rfl, by omega, sRch_s d3 hq hc, ?_⟩
        have ec : bC A pl = sFrom A m' := by
          rw [d1]
          unfold bC sFrom
          rw [if_neg (by omega), if_pos (by omega), if_neg (by omega)]
          rfl
        rw [ec]
        unfold sS
        omega
      · refine ⟨m, v' + sO A last x m, rfl, by omega, ?_, ?_⟩
        · rw [d2]
          exact sRch_o d4 hq hx
        · have ec : bC A pl = yoc A x := by
            rw [d1]
            unfold bC
            rw [if_neg (by omega), if_neg (by omega)]
            congr 1
            omega
          rw [ec]
          unfold sO
          omega
    · intro pl st can v x ⟨hs, hd⟩ hx
      refine ⟨hs, Or.inr (Or.inr ?_)⟩
      rcases hd with ⟨d1, d2, d3⟩ | ⟨m', v', d1, d2, d3, d4⟩ | ⟨x', last, left, v', hx', d1, d2, d3, d4, d5⟩
      · refine ⟨x, 6, 0, v, hx, rfl, rfl, by decide, d3, ?_⟩
        have ec : bC A pl = sFrom A 6 := by rw [d1]; rfl
        rw [ec]
        omega
      · refine ⟨x, m', can, v', hx, rfl, rfl, by omega, d3, ?_⟩
        have ec : bC A pl = sFrom A m' := by
          rw [d1]
          unfold bC sFrom
          rw [if_neg (by omega), if_pos (by omega), if_neg (by omega)]
          rfl
        rw [ec]
        omega
      · refine ⟨x, last, left, v', hx, rfl, rfl, d3, d4, ?_⟩
        have ec : bC A pl = yoc A x' := by
          rw [d1]
          unfold bC
          rw [if_neg (by omega), if_neg (by omega)]
          congr 1
          omega
        have := yD_tri A (sFrom A last) (yoc A x') (yoc A x)
        rw [ec]
        omega
  rcases key.2 with ⟨d1, d2, d3⟩ | ⟨m', v', d1, d2, d3, d4⟩ | ⟨x', last, left, v', hx', d1, d2, d3, d4, d5⟩
  · exact ⟨6, 0, v, d3, Nat.le_refl v⟩
  · exact ⟨m', can, v', d3, d4⟩
  · exact ⟨last, left, v', d4, by omega⟩
