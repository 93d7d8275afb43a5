/-! ===== the references, as the constructors leave them; the yard and the spare one change places ===== -/
def fj_PT : fj_HP := (fj_uP (fj_uP (fj_uP (fj_uP (fj_uP (fj_uP (fj_uP (fj_uP (fj_uP (fj_uP (fj_uP (fj_uP (fj_uP (fj_uP (fj_uP (fj_uP (fj_uP (fj_uP (fj_uP (fj_zP (fj_uP (fj_uP (fj_uP (fj_uP (fj_uP (fj_uP (fj_uP (fj_uP (fj_zP (fj_uP (fj_uP (fj_uP (fj_uP (fj_uP (fj_uP (fj_uP (fj_uP (fj_zP (fj_uP (fj_uP (fj_uP (fj_uP (fj_uP (fj_zP (fj_uP (fj_uP (fj_zP (fj_uP (fj_zP (fj_uP (fj_uP (fj_uP (fj_uP (fj_zP (fj_uP (fj_uP (fj_uP (fj_uP (fj_zP (fj_zP (fun _ _ => 0) 0) 1) 1 0 3) 1 1 4) 1 2 5) 0 0 2) 5) 5 1 7) 5 2 8) 5 3 9) 0 1 6) 9) 0 2 10) 10) 10 0 12) 0 3 11) 12) 12 0 14) 12 1 15) 12 2 16) 0 4 13) 0 5 17) 17) 17 6 19) 17 7 20) 17 8 21) 17 9 22) 17 10 23) 17 11 24) 17 12 25) 0 6 18) 25) 25 6 27) 25 7 28) 25 8 29) 25 9 30) 25 10 31) 25 11 32) 25 12 33) 0 7 26) 33) 33 3 35) 33 5 36) 33 6 37) 33 7 38) 33 9 39) 33 18 40) 33 19 41) 33 20 42) 33 21 43) 33 22 44) 33 29 45) 33 31 46) 33 33 47) 33 34 48) 33 35 49) 33 36 50) 33 37 51) 33 38 52) 33 39 53)
def fj_PY (t : Bool) : fj_HP := fj_uP (fj_uP fj_PT 0 6 (if t then 18 else 26)) 0 7 (if t then 26 else 18)
/-- where the yard stands, and the spare one -/
def yo (t : Bool) : Nat := if t then 17 else 25
theorem yo_or (t : Bool) : yo t = 17 ∨ yo t = 25 := by cases t <;> simp [yo]
theorem fj_PV (t : Bool) : fj_rv (fj_PY t 0 0) = .ref 1 ∧ fj_rv (fj_PY t 0 1) = .ref 5 ∧ fj_rv (fj_PY t 0 2) = .ref 9 ∧ fj_rv (fj_PY t 0 3) = .ref 10 ∧ fj_rv (fj_PY t 0 4) = .ref 12 ∧ fj_rv (fj_PY t 0 5) = .ref 16 ∧ fj_rv (fj_PY t 0 6) = .ref (yo t) ∧ fj_rv (fj_PY t 0 7) = .ref (yo (!t)) ∧ fj_rv (fj_PY t 1 0) = .ref 2 ∧ fj_rv (fj_PY t 1 1) = .ref 3 ∧ fj_rv (fj_PY t 1 2) = .ref 4 ∧ fj_rv (fj_PY t 5 1) = .ref 6 ∧ fj_rv (fj_PY t 5 2) = .ref 7 ∧ fj_rv (fj_PY t 5 3) = .ref 8 ∧ fj_rv (fj_PY t 10 0) = .ref 11 ∧ fj_rv (fj_PY t 12 0) = .ref 13 ∧ fj_rv (fj_PY t 12 1) = .ref 14 ∧ fj_rv (fj_PY t 12 2) = .ref 15 ∧ fj_rv (fj_PY t 33 3) = .ref 34 ∧ fj_rv (fj_PY t 33 5) = .ref 35 ∧ fj_rv (fj_PY t 33 6) = .ref 36 ∧ fj_rv (fj_PY t 33 7) = .ref 37 ∧ fj_rv (fj_PY t 33 9) = .ref 38 ∧ fj_rv (fj_PY t 33 18) = .ref 39 ∧ fj_rv (fj_PY t 33 19) = .ref 40 ∧ fj_rv (fj_PY t 33 20) = .ref 41 ∧ fj_rv (fj_PY t 33 21) = .ref 42 ∧ fj_rv (fj_PY t 33 22) = .ref 43 ∧ fj_rv (fj_PY t 33 29) = .ref 44 ∧ fj_rv (fj_PY t 33 31) = .ref 45 ∧ fj_rv (fj_PY t 33 33) = .ref 46 ∧ fj_rv (fj_PY t 33 34) = .ref 47 ∧ fj_rv (fj_PY t 33 35) = .ref 48 ∧ fj_rv (fj_PY t 33 36) = .ref 49 ∧ fj_rv (fj_PY t 33 37) = .ref 50 ∧ fj_rv (fj_PY t 33 38) = .ref 51 ∧ fj_rv (fj_PY t 33 39) = .ref 52 := by
  cases t <;> exact ⟨rfl, rfl, rfl, rfl, rfl, rfl, rfl, rfl, rfl, rfl, rfl, rfl, rfl, rfl, rfl, rfl, rfl, rfl, rfl, rfl, rfl, rfl, rfl, rfl, rfl, rfl, rfl, rfl, rfl, rfl, rfl, rfl, rfl, rfl, rfl, rfl, rfl⟩
theorem fj_YO {o : Nat} (ho : o = 17 ∨ o = 25) (t : Bool) : fj_ob 53 o 5 = True ∧ fj_rv (fj_PY t o 6) = .ref (o + 1) ∧ fj_rv (fj_PY t o 7) = .ref (o + 2) ∧ fj_rv (fj_PY t o 8) = .ref (o + 3) ∧ fj_rv (fj_PY t o 9) = .ref (o + 4) ∧ fj_rv (fj_PY t o 10) = .ref (o + 5) ∧ fj_rv (fj_PY t o 11) = .ref (o + 6) ∧ fj_rv (fj_PY t o 12) = .ref (o + 7) ∧ (∀ j, fj_ar 53 (o + 1) 1 j = vp_in j 24) ∧ (∀ j, fj_ar 53 (o + 2) 1 j = vp_in j 6) ∧ (∀ j, fj_ar 53 (o + 3) 1 j = vp_in j 6) ∧ (∀ j, fj_ar 53 (o + 4) 1 j = vp_in j 6) ∧ (∀ j, fj_ar 53 (o + 5) 1 j = vp_in j 2) ∧ (∀ j, fj_ar 53 (o + 6) 1 j = vp_in j 24) ∧ (∀ j, fj_ar 53 (o + 7) 1 j = vp_in j 24) := by
  rcases ho with rfl | rfl <;> cases t <;> exact ⟨by simp [fj_ob, fj_sh, fj_shl], rfl, rfl, rfl, rfl, rfl, rfl, rfl, fun j => by simp [fj_ar, fj_sh, fj_shl], fun j => by simp [fj_ar, fj_sh, fj_shl], fun j => by simp [fj_ar, fj_sh, fj_shl], fun j => by simp [fj_ar, fj_sh, fj_shl], fun j => by simp [fj_ar, fj_sh, fj_shl], fun j => by simp [fj_ar, fj_sh, fj_shl], fun j => by simp [fj_ar, fj_sh, fj_shl]⟩
theorem fj_uP_id {P : fj_HP} {o k v : Nat} (h : P o k = v) : fj_uP P o k v = P := by
  funext o2 k2
  unfold fj_uP
  split
  · rename_i h1
    rw [h1.1, h1.2, h]
  · rfl
theorem fj_PT_Y : fj_PT = fj_PY true := by
  unfold fj_PY
  rw [fj_uP_id (P := fj_PT) (o := 0) (k := 6) (v := if true then 18 else 26) rfl]
  rw [fj_uP_id (P := fj_PT) (o := 0) (k := 7) (v := if true then 26 else 18) rfl]
theorem fj_PY_swap (t : Bool) : fj_uP (fj_uP (fj_PY t) 0 6 (yo (!t) + 1)) 0 7 (yo t + 1) = fj_PY (!t) := by
  funext o k
  unfold fj_PY fj_uP
  by_cases h1 : o = 0 ∧ k = 7
  · simp only [if_pos h1]
    cases t <;> rfl
  · simp only [if_neg h1]
    by_cases h2 : o = 0 ∧ k = 6
    · simp only [if_pos h2]
      cases t <;> rfl
    · simp only [if_neg h2]
