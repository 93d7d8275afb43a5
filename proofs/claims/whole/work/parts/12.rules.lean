/-! ===== what a run comes to, as an equation: fj_H .. Q says that from here the run ends, and Q of what it ends with ===== -/
abbrev fj_Po : Type := Option Value → fj_HM → fj_HP → Nat → Nat → Prop
def fj_H (sc : fj_Sc) (y pc : Nat) (ls st : List Value) (M : fj_HM) (P : fj_HP) (c z : Nat) (Q : fj_Po) : Prop := ∃ (n : Nat) (r : Option Value × fj_HM × fj_HP × Nat × Nat), fj_run n sc y pc ls st M P c z = some r ∧ Q r.1 r.2.1 r.2.2.1 r.2.2.2.1 r.2.2.2.2
/-- what a step's result comes to -/
def fj_K (sc : fj_Sc) (y pc : Nat) (ls : List Value) (M : fj_HM) (P : fj_HP) (c z : Nat) (Q : fj_Po) (r : fj_R) : Prop := match r with
  | none => False
  | some (.inl q) => fj_H sc y q.1 q.2.1 q.2.2.1 q.2.2.2.1 q.2.2.2.2.1 q.2.2.2.2.2.1 q.2.2.2.2.2.2 Q
  | some (.inr (.inl q)) => fj_H none q.1 0 q.2.1 [] M P c z (fun v M' P' c' z' => (c' = c ∨ fj_okl c ls q.2.2) ∧ fj_H sc y (pc + 3) ls (v.toList ++ q.2.2) M' P' c' z' Q)
  | some (.inr (.inr v)) => Q v M P c z
theorem fj_run_le : ∀ (n : Nat) {sc : fj_Sc} {y pc : Nat} {ls st : List Value} {M : fj_HM} {P : fj_HP} {c z : Nat} {r : Option Value × fj_HM × fj_HP × Nat × Nat}, fj_run n sc y pc ls st M P c z = some r → ∀ k, n ≤ k → fj_run k sc y pc ls st M P c z = some r := by
  intro n
  induction n with
  | zero => intro sc y pc ls st M P c z r h; cases h
  | succ n ih =>
    intro sc y pc ls st M P c z r h k hk
    obtain ⟨k, rfl⟩ : ∃ j, k = j + 1 := ⟨k - 1, by omega⟩
    unfold fj_run at h ⊢
    cases h1 : fj_cd y pc with
    | none => rw [h1] at h; cases h
    | some ai =>
      rw [h1] at h
      simp only at h ⊢
      cases h2 : fj_stp y sc ai pc ls st M P c z with
      | none => rw [h2] at h; cases h
      | some x =>
        rw [h2] at h
        match x, h with
        | .inl q, h => exact ih h k (by omega)
        | .inr (.inl q), h =>
          simp only at h ⊢
          cases h3 : fj_run n none q.1 0 q.2.1 [] M P c z with
          | none => rw [h3] at h; cases h
          | some r1 =>
            rw [h3] at h
            rw [ih h3 k (by omega)]
            obtain ⟨h4, h5⟩ := fj_if_some h
            show fj_if _ _ none = _
            rw [fj_if_t h4]
            exact ih h5 k (by omega)
        | .inr (.inr v), h => exact h
theorem fj_H_eq {sc : fj_Sc} {y pc : Nat} {ai : fj_AI} {ls st : List Value} {M : fj_HM} {P : fj_HP} {c z : Nat} {Q : fj_Po} (h : fj_cd y pc = some ai) : fj_H sc y pc ls st M P c z Q = fj_K sc y pc ls M P c z Q (fj_stp y sc ai pc ls st M P c z) := by
  apply propext
  unfold fj_H
  constructor
  · rintro ⟨n, r, hr, hQ⟩
    cases n with
    | zero => cases hr
    | succ n =>
      unfold fj_run at hr
      rw [h] at hr
      simp only at hr
      cases h2 : fj_stp y sc ai pc ls st M P c z with
      | none => rw [h2] at hr; cases hr
      | some x =>
        rw [h2] at hr
        match x, hr with
        | .inl q, hr => exact ⟨n, r, hr, hQ⟩
        | .inr (.inl q), hr =>
          simp only at hr
          cases h3 : fj_run n none q.1 0 q.2.1 [] M P c z with
          | none => rw [h3] at hr; cases hr
          | some r1 =>
            rw [h3] at hr
            obtain ⟨h4, h5⟩ := fj_if_some hr
            exact ⟨n, r1, h3, h4, n, r, h5, hQ⟩
        | .inr (.inr v), hr => cases hr; exact hQ
  · intro hk
    cases h2 : fj_stp y sc ai pc ls st M P c z with
    | none => rw [h2] at hk; exact absurd hk (fun h => h)
    | some x =>
      rw [h2] at hk
      match x, hk with
      | .inl q, hk =>
        obtain ⟨n, r, hr, hQ⟩ := hk
        refine ⟨n + 1, r, ?_, hQ⟩
        unfold fj_run
        rw [h]
        simp only
        rw [h2]
        exact hr
      | .inr (.inl q), hk =>
        obtain ⟨n1, r1, hr1, h4, n2, r, hr, hQ⟩ := hk
        refine ⟨max n1 n2 + 1, r, ?_, hQ⟩
        unfold fj_run
        rw [h]
        simp only
        rw [h2]
        simp only
        rw [fj_run_le n1 hr1 _ (Nat.le_max_left _ _)]
        show fj_if _ _ none = _
        rw [fj_if_t h4]
        exact fj_run_le n2 hr _ (Nat.le_max_right _ _)
      | .inr (.inr v), hk =>
        refine ⟨1, (v, M, P, c, z), ?_, hk⟩
        unfold fj_run
        rw [h]
        simp only
        rw [h2]
theorem fj_K_if {sc : fj_Sc} {y pc : Nat} {ls : List Value} {M : fj_HM} {P : fj_HP} {c z : Nat} {Q : fj_Po} {q : Prop} {r : fj_R} : fj_K sc y pc ls M P c z Q (fj_if q r none) = (q ∧ fj_K sc y pc ls M P c z Q r) := by
  by_cases h : q
  · rw [fj_if_t h]
    exact propext ⟨fun x => ⟨h, x⟩, fun x => x.2⟩
  · rw [fj_if_f h]
    exact propext ⟨fun x => absurd x (fun h => h), fun x => absurd x.1 h⟩
theorem fj_K_ite {sc : fj_Sc} {y pc : Nat} {ls : List Value} {M : fj_HM} {P : fj_HP} {c z : Nat} {Q : fj_Po} {q : Prop} [Decidable q] {r r2 : fj_R} : fj_K sc y pc ls M P c z Q (if q then r else r2) = if q then fj_K sc y pc ls M P c z Q r else fj_K sc y pc ls M P c z Q r2 := by
  by_cases h : q
  · rw [if_pos h, if_pos h]
  · rw [if_neg h, if_neg h]
/-- a run that is known ends as it is known -/
theorem fj_H_of {sc : fj_Sc} {y pc : Nat} {ls st : List Value} {M : fj_HM} {P : fj_HP} {c z : Nat} {v : Option Value} {M' : fj_HM} {P' : fj_HP} {c' z' : Nat} (h : fj_H sc y pc ls st M P c z (fun v1 M1 P1 c1 z1 => v1 = v ∧ M1 = M' ∧ P1 = P' ∧ c1 = c' ∧ z1 = z')) (Q : fj_Po) : fj_H sc y pc ls st M P c z Q = Q v M' P' c' z' := by
  obtain ⟨n, r, hr, rfl, rfl, rfl, rfl, rfl⟩ := h
  apply propext
  constructor
  · rintro ⟨n2, r2, hr2, hQ⟩
    have h1 := fj_run_le n hr (max n n2) (Nat.le_max_left _ _)
    have h2 := fj_run_le n2 hr2 (max n n2) (Nat.le_max_right _ _)
    rw [h1] at h2
    cases h2
    exact hQ
  · intro hQ
    exact ⟨n, r, hr, hQ⟩
theorem fj_H_mono {sc : fj_Sc} {y pc : Nat} {ls st : List Value} {M : fj_HM} {P : fj_HP} {c z : Nat} {Q Q' : fj_Po} (h : fj_H sc y pc ls st M P c z Q) (hQ : ∀ v M' P' c' z', Q v M' P' c' z' → Q' v M' P' c' z') : fj_H sc y pc ls st M P c z Q' := by
  obtain ⟨n, r, hr, h1⟩ := h
  exact ⟨n, r, hr, hQ _ _ _ _ _ h1⟩
/-- what is known of the end of a run, and what is wanted -/
theorem fj_H_and {sc : fj_Sc} {y pc : Nat} {ls st : List Value} {M : fj_HM} {P : fj_HP} {c z : Nat} {Q Q' : fj_Po} (h : fj_H sc y pc ls st M P c z Q) (hQ : ∀ v M' P' c' z', Q v M' P' c' z' → Q' v M' P' c' z') : fj_H sc y pc ls st M P c z Q' := fj_H_mono h hQ
theorem fj_e_iconst {sc : fj_Sc} {y pc : Nat} {len a b : Nat} {k : Int} {ix : List Nat} {ls : List Value} {M : fj_HM} {P : fj_HP} {c z : Nat} {Q : fj_Po} {x : Int} {st : List Value} {v : Int32} (hcd : fj_cd y pc = some (.iconst x, len, a, b, k, ix)) (hv : Int32.ofInt k = v) : fj_H sc y pc ls st M P c z Q = (fj_H sc y (pc + 1) ls (.int v :: st) M P c z Q) := by
  rw [fj_H_eq hcd]
  subst hv
  rfl
theorem fj_e_bipush {sc : fj_Sc} {y pc : Nat} {len a b : Nat} {k : Int} {ix : List Nat} {ls : List Value} {M : fj_HM} {P : fj_HP} {c z : Nat} {Q : fj_Po} {x : Int} {st : List Value} {v : Int32} (hcd : fj_cd y pc = some (.bipush x, len, a, b, k, ix)) (hv : Int32.ofInt k = v) : fj_H sc y pc ls st M P c z Q = (fj_H sc y (pc + 2) ls (.int v :: st) M P c z Q) := by
  rw [fj_H_eq hcd]
  subst hv
  rfl
theorem fj_e_sipush {sc : fj_Sc} {y pc : Nat} {len a b : Nat} {k : Int} {ix : List Nat} {ls : List Value} {M : fj_HM} {P : fj_HP} {c z : Nat} {Q : fj_Po} {x : Int} {st : List Value} {v : Int32} (hcd : fj_cd y pc = some (.sipush x, len, a, b, k, ix)) (hv : Int32.ofInt k = v) : fj_H sc y pc ls st M P c z Q = (fj_H sc y (pc + 3) ls (.int v :: st) M P c z Q) := by
  rw [fj_H_eq hcd]
  subst hv
  rfl
theorem fj_e_ldc {sc : fj_Sc} {y pc : Nat} {len a b : Nat} {k : Int} {ix : List Nat} {ls : List Value} {M : fj_HM} {P : fj_HP} {c z : Nat} {Q : fj_Po} {x : Nat} {st : List Value} {v : Int32} (hcd : fj_cd y pc = some (.ldc x, len, a, b, k, ix)) (hv : Int32.ofInt k = v) : fj_H sc y pc ls st M P c z Q = (fj_H sc y (pc + 2) ls (.int v :: st) M P c z Q) := by
  rw [fj_H_eq hcd]
  subst hv
  rfl
theorem fj_e_ldc_w {sc : fj_Sc} {y pc : Nat} {len a b : Nat} {k : Int} {ix : List Nat} {ls : List Value} {M : fj_HM} {P : fj_HP} {c z : Nat} {Q : fj_Po} {x : Nat} {st : List Value} {v : Int32} (hcd : fj_cd y pc = some (.ldc_w x, len, a, b, k, ix)) (hv : Int32.ofInt k = v) : fj_H sc y pc ls st M P c z Q = (fj_H sc y (pc + 3) ls (.int v :: st) M P c z Q) := by
  rw [fj_H_eq hcd]
  subst hv
  rfl
theorem fj_e_lconst {sc : fj_Sc} {y pc : Nat} {len a b : Nat} {k : Int} {ix : List Nat} {ls : List Value} {M : fj_HM} {P : fj_HP} {c z : Nat} {Q : fj_Po} {x : Fin 2} {st : List Value} {v : Int64} (hcd : fj_cd y pc = some (.lconst x, len, a, b, k, ix)) (hv : Int64.ofInt k = v) : fj_H sc y pc ls st M P c z Q = (fj_H sc y (pc + 1) ls (.long v :: st) M P c z Q) := by
  rw [fj_H_eq hcd]
  subst hv
  rfl
theorem fj_e_ldc2_w {sc : fj_Sc} {y pc : Nat} {len a b : Nat} {k : Int} {ix : List Nat} {ls : List Value} {M : fj_HM} {P : fj_HP} {c z : Nat} {Q : fj_Po} {x : Nat} {st : List Value} {v : Int64} (hcd : fj_cd y pc = some (.ldc2_w x, len, a, b, k, ix)) (hv : Int64.ofInt k = v) : fj_H sc y pc ls st M P c z Q = (fj_H sc y (pc + 3) ls (.long v :: st) M P c z Q) := by
  rw [fj_H_eq hcd]
  subst hv
  rfl
theorem fj_e_iload_n {sc : fj_Sc} {y pc : Nat} {len a b : Nat} {k : Int} {ix : List Nat} {ls : List Value} {M : fj_HM} {P : fj_HP} {c z : Nat} {Q : fj_Po} {x : Fin 4} {st : List Value} {v : Int32} (hcd : fj_cd y pc = some (.iload_n x, len, a, b, k, ix)) (hv : ls[a]? = some (.int v)) : fj_H sc y pc ls st M P c z Q = (fj_H sc y (pc + 1) ls (.int v :: st) M P c z Q) := by
  rw [fj_H_eq hcd]
  dsimp only [fj_stp, fj_ild]
  rw [hv]
  rfl
theorem fj_e_iload {sc : fj_Sc} {y pc : Nat} {len a b : Nat} {k : Int} {ix : List Nat} {ls : List Value} {M : fj_HM} {P : fj_HP} {c z : Nat} {Q : fj_Po} {x : Nat} {st : List Value} {v : Int32} (hcd : fj_cd y pc = some (.iload x, len, a, b, k, ix)) (hv : ls[a]? = some (.int v)) : fj_H sc y pc ls st M P c z Q = (fj_H sc y (pc + 2) ls (.int v :: st) M P c z Q) := by
  rw [fj_H_eq hcd]
  dsimp only [fj_stp, fj_ild]
  rw [hv]
  rfl
theorem fj_e_aload_n {sc : fj_Sc} {y pc : Nat} {len a b : Nat} {k : Int} {ix : List Nat} {ls : List Value} {M : fj_HM} {P : fj_HP} {c z : Nat} {Q : fj_Po} {x : Fin 4} {st : List Value} {v : Nat} (hcd : fj_cd y pc = some (.aload_n x, len, a, b, k, ix)) (hv : ls[a]? = some (.ref v)) : fj_H sc y pc ls st M P c z Q = (fj_H sc y (pc + 1) ls (.ref v :: st) M P c z Q) := by
  rw [fj_H_eq hcd]
  dsimp only [fj_stp, fj_ald]
  rw [hv]
  rfl
theorem fj_e_aload_nS {sc : fj_Sc} {y pc : Nat} {len a b : Nat} {k : Int} {ix : List Nat} {ls : List Value} {M : fj_HM} {P : fj_HP} {c z : Nat} {Q : fj_Po} {x : Fin 4} {st : List Value} {v : UInt32} (hcd : fj_cd y pc = some (.aload_n x, len, a, b, k, ix)) (hv : ls[a]? = some (.float v)) : fj_H sc y pc ls st M P c z Q = (fj_H sc y (pc + 1) ls (.float v :: st) M P c z Q) := by
  rw [fj_H_eq hcd]
  dsimp only [fj_stp, fj_ald]
  rw [hv]
  rfl
theorem fj_e_aload {sc : fj_Sc} {y pc : Nat} {len a b : Nat} {k : Int} {ix : List Nat} {ls : List Value} {M : fj_HM} {P : fj_HP} {c z : Nat} {Q : fj_Po} {x : Nat} {st : List Value} {v : Nat} (hcd : fj_cd y pc = some (.aload x, len, a, b, k, ix)) (hv : ls[a]? = some (.ref v)) : fj_H sc y pc ls st M P c z Q = (fj_H sc y (pc + 2) ls (.ref v :: st) M P c z Q) := by
  rw [fj_H_eq hcd]
  dsimp only [fj_stp, fj_ald]
  rw [hv]
  rfl
theorem fj_e_aloadS {sc : fj_Sc} {y pc : Nat} {len a b : Nat} {k : Int} {ix : List Nat} {ls : List Value} {M : fj_HM} {P : fj_HP} {c z : Nat} {Q : fj_Po} {x : Nat} {st : List Value} {v : UInt32} (hcd : fj_cd y pc = some (.aload x, len, a, b, k, ix)) (hv : ls[a]? = some (.float v)) : fj_H sc y pc ls st M P c z Q = (fj_H sc y (pc + 2) ls (.float v :: st) M P c z Q) := by
  rw [fj_H_eq hcd]
  dsimp only [fj_stp, fj_ald]
  rw [hv]
  rfl
theorem fj_e_lload_n {sc : fj_Sc} {y pc : Nat} {len a b : Nat} {k : Int} {ix : List Nat} {ls : List Value} {M : fj_HM} {P : fj_HP} {c z : Nat} {Q : fj_Po} {x : Fin 4} {st : List Value} {v : Int64} (hcd : fj_cd y pc = some (.lload_n x, len, a, b, k, ix)) (hv : ls[a]? = some (.long v)) (hm : ls[a + 1]? = some fj_mk) : fj_H sc y pc ls st M P c z Q = (fj_H sc y (pc + 1) ls (.long v :: st) M P c z Q) := by
  rw [fj_H_eq hcd]
  dsimp only [fj_stp, fj_lld]
  rw [hv]
  dsimp only
  rw [if_pos hm]
  rfl
theorem fj_e_lload {sc : fj_Sc} {y pc : Nat} {len a b : Nat} {k : Int} {ix : List Nat} {ls : List Value} {M : fj_HM} {P : fj_HP} {c z : Nat} {Q : fj_Po} {x : Nat} {st : List Value} {v : Int64} (hcd : fj_cd y pc = some (.lload x, len, a, b, k, ix)) (hv : ls[a]? = some (.long v)) (hm : ls[a + 1]? = some fj_mk) : fj_H sc y pc ls st M P c z Q = (fj_H sc y (pc + 2) ls (.long v :: st) M P c z Q) := by
  rw [fj_H_eq hcd]
  dsimp only [fj_stp, fj_lld]
  rw [hv]
  dsimp only
  rw [if_pos hm]
  rfl
theorem fj_e_istore_n {sc : fj_Sc} {y pc : Nat} {len a b : Nat} {k : Int} {ix : List Nat} {ls : List Value} {M : fj_HM} {P : fj_HP} {c z : Nat} {Q : fj_Po} {x : Fin 4} {st : List Value} {v : Int32} {ls2 : List Value} (hcd : fj_cd y pc = some (.istore_n x, len, a, b, k, ix)) (hl : a < ls.length) (h2 : ls.set a (.int v) = ls2) : fj_H sc y pc ls (.int v :: st) M P c z Q = (fj_H sc y (pc + 1) ls2 st M P c z Q) := by
  rw [fj_H_eq hcd]
  subst h2
  dsimp only [fj_stp]
  rw [if_pos hl]
  rfl
theorem fj_e_istore {sc : fj_Sc} {y pc : Nat} {len a b : Nat} {k : Int} {ix : List Nat} {ls : List Value} {M : fj_HM} {P : fj_HP} {c z : Nat} {Q : fj_Po} {x : Nat} {st : List Value} {v : Int32} {ls2 : List Value} (hcd : fj_cd y pc = some (.istore x, len, a, b, k, ix)) (hl : a < ls.length) (h2 : ls.set a (.int v) = ls2) : fj_H sc y pc ls (.int v :: st) M P c z Q = (fj_H sc y (pc + 2) ls2 st M P c z Q) := by
  rw [fj_H_eq hcd]
  subst h2
  dsimp only [fj_stp]
  rw [if_pos hl]
  rfl
theorem fj_e_astore_n {sc : fj_Sc} {y pc : Nat} {len a b : Nat} {k : Int} {ix : List Nat} {ls : List Value} {M : fj_HM} {P : fj_HP} {c z : Nat} {Q : fj_Po} {x : Fin 4} {st : List Value} {v : Nat} {ls2 : List Value} (hcd : fj_cd y pc = some (.astore_n x, len, a, b, k, ix)) (hl : a < ls.length) (h2 : ls.set a (.ref v) = ls2) : fj_H sc y pc ls (.ref v :: st) M P c z Q = (fj_H sc y (pc + 1) ls2 st M P c z Q) := by
  rw [fj_H_eq hcd]
  subst h2
  dsimp only [fj_stp]
  rw [if_pos hl]
  rfl
theorem fj_e_astore {sc : fj_Sc} {y pc : Nat} {len a b : Nat} {k : Int} {ix : List Nat} {ls : List Value} {M : fj_HM} {P : fj_HP} {c z : Nat} {Q : fj_Po} {x : Nat} {st : List Value} {v : Nat} {ls2 : List Value} (hcd : fj_cd y pc = some (.astore x, len, a, b, k, ix)) (hl : a < ls.length) (h2 : ls.set a (.ref v) = ls2) : fj_H sc y pc ls (.ref v :: st) M P c z Q = (fj_H sc y (pc + 2) ls2 st M P c z Q) := by
  rw [fj_H_eq hcd]
  subst h2
  dsimp only [fj_stp]
  rw [if_pos hl]
  rfl
theorem fj_e_lstore_n {sc : fj_Sc} {y pc : Nat} {len a b : Nat} {k : Int} {ix : List Nat} {ls : List Value} {M : fj_HM} {P : fj_HP} {c z : Nat} {Q : fj_Po} {x : Fin 4} {st : List Value} {v : Int64} {ls2 : List Value} (hcd : fj_cd y pc = some (.lstore_n x, len, a, b, k, ix)) (hl : a + 1 < ls.length) (h2 : (ls.set a (.long v)).set (a + 1) fj_mk = ls2) : fj_H sc y pc ls (.long v :: st) M P c z Q = (fj_H sc y (pc + 1) ls2 st M P c z Q) := by
  rw [fj_H_eq hcd]
  subst h2
  dsimp only [fj_stp]
  rw [if_pos hl]
  rfl
theorem fj_e_lstore {sc : fj_Sc} {y pc : Nat} {len a b : Nat} {k : Int} {ix : List Nat} {ls : List Value} {M : fj_HM} {P : fj_HP} {c z : Nat} {Q : fj_Po} {x : Nat} {st : List Value} {v : Int64} {ls2 : List Value} (hcd : fj_cd y pc = some (.lstore x, len, a, b, k, ix)) (hl : a + 1 < ls.length) (h2 : (ls.set a (.long v)).set (a + 1) fj_mk = ls2) : fj_H sc y pc ls (.long v :: st) M P c z Q = (fj_H sc y (pc + 2) ls2 st M P c z Q) := by
  rw [fj_H_eq hcd]
  subst h2
  dsimp only [fj_stp]
  rw [if_pos hl]
  rfl
theorem fj_e_iinc {sc : fj_Sc} {y pc : Nat} {len a b : Nat} {k : Int} {ix : List Nat} {ls : List Value} {M : fj_HM} {P : fj_HP} {c z : Nat} {Q : fj_Po} {x : Nat} {x2 : Int} {st : List Value} {v i : Int32} {ls2 : List Value} (hcd : fj_cd y pc = some (.iinc x x2, len, a, b, k, ix)) (hv : ls[a]? = some (.int v)) (hi : Int32.ofInt k = i) (h2 : ls.set a (.int (v + i)) = ls2) : fj_H sc y pc ls st M P c z Q = (fj_H sc y (pc + 3) ls2 st M P c z Q) := by
  rw [fj_H_eq hcd]
  subst h2
  subst hi
  dsimp only [fj_stp, fj_ild]
  rw [hv]
  rfl
theorem fj_e_iadd {sc : fj_Sc} {y pc : Nat} {len a b : Nat} {k : Int} {ix : List Nat} {ls : List Value} {M : fj_HM} {P : fj_HP} {c z : Nat} {Q : fj_Po} {st : List Value} {u v : Int32} (hcd : fj_cd y pc = some (.iadd, len, a, b, k, ix)) : fj_H sc y pc ls (.int v :: .int u :: st) M P c z Q = (fj_H sc y (pc + 1) ls (.int (u + v) :: st) M P c z Q) := by
  rw [fj_H_eq hcd]
  rfl
theorem fj_e_isub {sc : fj_Sc} {y pc : Nat} {len a b : Nat} {k : Int} {ix : List Nat} {ls : List Value} {M : fj_HM} {P : fj_HP} {c z : Nat} {Q : fj_Po} {st : List Value} {u v : Int32} (hcd : fj_cd y pc = some (.isub, len, a, b, k, ix)) : fj_H sc y pc ls (.int v :: .int u :: st) M P c z Q = (fj_H sc y (pc + 1) ls (.int (u - v) :: st) M P c z Q) := by
  rw [fj_H_eq hcd]
  rfl
theorem fj_e_imul {sc : fj_Sc} {y pc : Nat} {len a b : Nat} {k : Int} {ix : List Nat} {ls : List Value} {M : fj_HM} {P : fj_HP} {c z : Nat} {Q : fj_Po} {st : List Value} {u v : Int32} (hcd : fj_cd y pc = some (.imul, len, a, b, k, ix)) : fj_H sc y pc ls (.int v :: .int u :: st) M P c z Q = (fj_H sc y (pc + 1) ls (.int (u * v) :: st) M P c z Q) := by
  rw [fj_H_eq hcd]
  rfl
theorem fj_e_iand {sc : fj_Sc} {y pc : Nat} {len a b : Nat} {k : Int} {ix : List Nat} {ls : List Value} {M : fj_HM} {P : fj_HP} {c z : Nat} {Q : fj_Po} {st : List Value} {u v : Int32} (hcd : fj_cd y pc = some (.iand, len, a, b, k, ix)) : fj_H sc y pc ls (.int v :: .int u :: st) M P c z Q = (fj_H sc y (pc + 1) ls (.int (u &&& v) :: st) M P c z Q) := by
  rw [fj_H_eq hcd]
  rfl
theorem fj_e_ior {sc : fj_Sc} {y pc : Nat} {len a b : Nat} {k : Int} {ix : List Nat} {ls : List Value} {M : fj_HM} {P : fj_HP} {c z : Nat} {Q : fj_Po} {st : List Value} {u v : Int32} (hcd : fj_cd y pc = some (.ior, len, a, b, k, ix)) : fj_H sc y pc ls (.int v :: .int u :: st) M P c z Q = (fj_H sc y (pc + 1) ls (.int (u ||| v) :: st) M P c z Q) := by
  rw [fj_H_eq hcd]
  rfl
theorem fj_e_ixor {sc : fj_Sc} {y pc : Nat} {len a b : Nat} {k : Int} {ix : List Nat} {ls : List Value} {M : fj_HM} {P : fj_HP} {c z : Nat} {Q : fj_Po} {st : List Value} {u v : Int32} (hcd : fj_cd y pc = some (.ixor, len, a, b, k, ix)) : fj_H sc y pc ls (.int v :: .int u :: st) M P c z Q = (fj_H sc y (pc + 1) ls (.int (u ^^^ v) :: st) M P c z Q) := by
  rw [fj_H_eq hcd]
  rfl
theorem fj_e_ishl {sc : fj_Sc} {y pc : Nat} {len a b : Nat} {k : Int} {ix : List Nat} {ls : List Value} {M : fj_HM} {P : fj_HP} {c z : Nat} {Q : fj_Po} {st : List Value} {u v : Int32} (hcd : fj_cd y pc = some (.ishl, len, a, b, k, ix)) : fj_H sc y pc ls (.int v :: .int u :: st) M P c z Q = (fj_H sc y (pc + 1) ls (.int (u <<< (v &&& 31)) :: st) M P c z Q) := by
  rw [fj_H_eq hcd]
  rfl
theorem fj_e_ishr {sc : fj_Sc} {y pc : Nat} {len a b : Nat} {k : Int} {ix : List Nat} {ls : List Value} {M : fj_HM} {P : fj_HP} {c z : Nat} {Q : fj_Po} {st : List Value} {u v : Int32} (hcd : fj_cd y pc = some (.ishr, len, a, b, k, ix)) : fj_H sc y pc ls (.int v :: .int u :: st) M P c z Q = (fj_H sc y (pc + 1) ls (.int (u >>> (v &&& 31)) :: st) M P c z Q) := by
  rw [fj_H_eq hcd]
  rfl
theorem fj_e_iushr {sc : fj_Sc} {y pc : Nat} {len a b : Nat} {k : Int} {ix : List Nat} {ls : List Value} {M : fj_HM} {P : fj_HP} {c z : Nat} {Q : fj_Po} {st : List Value} {u v : Int32} (hcd : fj_cd y pc = some (.iushr, len, a, b, k, ix)) : fj_H sc y pc ls (.int v :: .int u :: st) M P c z Q = (fj_H sc y (pc + 1) ls (.int ((u.toUInt32 >>> (v.toUInt32 &&& Int32.toUInt32 31)).toInt32) :: st) M P c z Q) := by
  rw [fj_H_eq hcd]
  rfl
theorem fj_e_idiv {sc : fj_Sc} {y pc : Nat} {len a b : Nat} {k : Int} {ix : List Nat} {ls : List Value} {M : fj_HM} {P : fj_HP} {c z : Nat} {Q : fj_Po} {st : List Value} {u v : Int32} (hcd : fj_cd y pc = some (.idiv, len, a, b, k, ix)) : fj_H sc y pc ls (.int v :: .int u :: st) M P c z Q = (¬ v = 0 ∧ fj_H sc y (pc + 1) ls (.int (u / v) :: st) M P c z Q) := by
  rw [fj_H_eq hcd]
  dsimp only [fj_stp, fj_p2]
  by_cases h : v = 0
  · rw [if_pos h]
    exact propext ⟨fun x => absurd x (fun h => h), fun x => absurd h x.1⟩
  · rw [if_neg h]
    exact propext ⟨fun x => ⟨h, x⟩, fun x => x.2⟩
theorem fj_e_irem {sc : fj_Sc} {y pc : Nat} {len a b : Nat} {k : Int} {ix : List Nat} {ls : List Value} {M : fj_HM} {P : fj_HP} {c z : Nat} {Q : fj_Po} {st : List Value} {u v : Int32} (hcd : fj_cd y pc = some (.irem, len, a, b, k, ix)) : fj_H sc y pc ls (.int v :: .int u :: st) M P c z Q = (¬ v = 0 ∧ fj_H sc y (pc + 1) ls (.int (u - u / v * v) :: st) M P c z Q) := by
  rw [fj_H_eq hcd]
  dsimp only [fj_stp, fj_p2]
  by_cases h : v = 0
  · rw [if_pos h]
    exact propext ⟨fun x => absurd x (fun h => h), fun x => absurd h x.1⟩
  · rw [if_neg h]
    exact propext ⟨fun x => ⟨h, x⟩, fun x => x.2⟩
theorem fj_e_ineg {sc : fj_Sc} {y pc : Nat} {len a b : Nat} {k : Int} {ix : List Nat} {ls : List Value} {M : fj_HM} {P : fj_HP} {c z : Nat} {Q : fj_Po} {st : List Value} {u : Int32} (hcd : fj_cd y pc = some (.ineg, len, a, b, k, ix)) : fj_H sc y pc ls (.int u :: st) M P c z Q = (fj_H sc y (pc + 1) ls (.int (-u) :: st) M P c z Q) := by
  rw [fj_H_eq hcd]
  rfl
theorem fj_e_i2l {sc : fj_Sc} {y pc : Nat} {len a b : Nat} {k : Int} {ix : List Nat} {ls : List Value} {M : fj_HM} {P : fj_HP} {c z : Nat} {Q : fj_Po} {st : List Value} {u : Int32} (hcd : fj_cd y pc = some (.i2l, len, a, b, k, ix)) : fj_H sc y pc ls (.int u :: st) M P c z Q = (fj_H sc y (pc + 1) ls (.long u.toInt64 :: st) M P c z Q) := by
  rw [fj_H_eq hcd]
  rfl
theorem fj_e_i2b {sc : fj_Sc} {y pc : Nat} {len a b : Nat} {k : Int} {ix : List Nat} {ls : List Value} {M : fj_HM} {P : fj_HP} {c z : Nat} {Q : fj_Po} {st : List Value} {u : Int32} (hcd : fj_cd y pc = some (.i2b, len, a, b, k, ix)) : fj_H sc y pc ls (.int u :: st) M P c z Q = (fj_H sc y (pc + 1) ls (.int u.toInt8.toInt32 :: st) M P c z Q) := by
  rw [fj_H_eq hcd]
  rfl
theorem fj_e_i2s {sc : fj_Sc} {y pc : Nat} {len a b : Nat} {k : Int} {ix : List Nat} {ls : List Value} {M : fj_HM} {P : fj_HP} {c z : Nat} {Q : fj_Po} {st : List Value} {u : Int32} (hcd : fj_cd y pc = some (.i2s, len, a, b, k, ix)) : fj_H sc y pc ls (.int u :: st) M P c z Q = (fj_H sc y (pc + 1) ls (.int u.toInt16.toInt32 :: st) M P c z Q) := by
  rw [fj_H_eq hcd]
  rfl
theorem fj_e_ladd {sc : fj_Sc} {y pc : Nat} {len a b : Nat} {k : Int} {ix : List Nat} {ls : List Value} {M : fj_HM} {P : fj_HP} {c z : Nat} {Q : fj_Po} {st : List Value} {u v : Int64} (hcd : fj_cd y pc = some (.ladd, len, a, b, k, ix)) : fj_H sc y pc ls (.long v :: .long u :: st) M P c z Q = (fj_H sc y (pc + 1) ls (.long (u + v) :: st) M P c z Q) := by
  rw [fj_H_eq hcd]
  rfl
theorem fj_e_lsub {sc : fj_Sc} {y pc : Nat} {len a b : Nat} {k : Int} {ix : List Nat} {ls : List Value} {M : fj_HM} {P : fj_HP} {c z : Nat} {Q : fj_Po} {st : List Value} {u v : Int64} (hcd : fj_cd y pc = some (.lsub, len, a, b, k, ix)) : fj_H sc y pc ls (.long v :: .long u :: st) M P c z Q = (fj_H sc y (pc + 1) ls (.long (u - v) :: st) M P c z Q) := by
  rw [fj_H_eq hcd]
  rfl
theorem fj_e_ldiv {sc : fj_Sc} {y pc : Nat} {len a b : Nat} {k : Int} {ix : List Nat} {ls : List Value} {M : fj_HM} {P : fj_HP} {c z : Nat} {Q : fj_Po} {st : List Value} {u v : Int64} (hcd : fj_cd y pc = some (.ldiv, len, a, b, k, ix)) : fj_H sc y pc ls (.long v :: .long u :: st) M P c z Q = (¬ v = 0 ∧ fj_H sc y (pc + 1) ls (.long (u / v) :: st) M P c z Q) := by
  rw [fj_H_eq hcd]
  dsimp only [fj_stp, fj_q2]
  by_cases h : v = 0
  · rw [if_pos h]
    exact propext ⟨fun x => absurd x (fun h => h), fun x => absurd h x.1⟩
  · rw [if_neg h]
    exact propext ⟨fun x => ⟨h, x⟩, fun x => x.2⟩
theorem fj_e_lrem {sc : fj_Sc} {y pc : Nat} {len a b : Nat} {k : Int} {ix : List Nat} {ls : List Value} {M : fj_HM} {P : fj_HP} {c z : Nat} {Q : fj_Po} {st : List Value} {u v : Int64} (hcd : fj_cd y pc = some (.lrem, len, a, b, k, ix)) : fj_H sc y pc ls (.long v :: .long u :: st) M P c z Q = (¬ v = 0 ∧ fj_H sc y (pc + 1) ls (.long (u - u / v * v) :: st) M P c z Q) := by
  rw [fj_H_eq hcd]
  dsimp only [fj_stp, fj_q2]
  by_cases h : v = 0
  · rw [if_pos h]
    exact propext ⟨fun x => absurd x (fun h => h), fun x => absurd h x.1⟩
  · rw [if_neg h]
    exact propext ⟨fun x => ⟨h, x⟩, fun x => x.2⟩
theorem fj_e_lcmp {sc : fj_Sc} {y pc : Nat} {len a b : Nat} {k : Int} {ix : List Nat} {ls : List Value} {M : fj_HM} {P : fj_HP} {c z : Nat} {Q : fj_Po} {st : List Value} {u v : Int64} (hcd : fj_cd y pc = some (.lcmp, len, a, b, k, ix)) : fj_H sc y pc ls (.long v :: .long u :: st) M P c z Q = (fj_H sc y (pc + 1) ls (.int (lg_cmp u v) :: st) M P c z Q) := by
  rw [fj_H_eq hcd]
  rfl
theorem fj_e_lshl {sc : fj_Sc} {y pc : Nat} {len a b : Nat} {k : Int} {ix : List Nat} {ls : List Value} {M : fj_HM} {P : fj_HP} {c z : Nat} {Q : fj_Po} {st : List Value} {u : Int64} {v : Int32} (hcd : fj_cd y pc = some (.lshl, len, a, b, k, ix)) : fj_H sc y pc ls (.int v :: .long u :: st) M P c z Q = (fj_H sc y (pc + 1) ls (.long (u <<< (v.toInt64 &&& 63)) :: st) M P c z Q) := by
  rw [fj_H_eq hcd]
  rfl
theorem fj_e_dupI {sc : fj_Sc} {y pc : Nat} {len a b : Nat} {k : Int} {ix : List Nat} {ls : List Value} {M : fj_HM} {P : fj_HP} {c z : Nat} {Q : fj_Po} {st : List Value} {u : Int32} (hcd : fj_cd y pc = some (.dup, len, a, b, k, ix)) : fj_H sc y pc ls (.int u :: st) M P c z Q = (fj_H sc y (pc + 1) ls (.int u :: .int u :: st) M P c z Q) := by
  rw [fj_H_eq hcd]
  rfl
theorem fj_e_dupA {sc : fj_Sc} {y pc : Nat} {len a b : Nat} {k : Int} {ix : List Nat} {ls : List Value} {M : fj_HM} {P : fj_HP} {c z : Nat} {Q : fj_Po} {st : List Value} {u : Nat} (hcd : fj_cd y pc = some (.dup, len, a, b, k, ix)) : fj_H sc y pc ls (.ref u :: st) M P c z Q = (fj_H sc y (pc + 1) ls (.ref u :: .ref u :: st) M P c z Q) := by
  rw [fj_H_eq hcd]
  rfl
theorem fj_e_if_eq {sc : fj_Sc} {y pc : Nat} {len a b : Nat} {k : Int} {ix : List Nat} {ls : List Value} {M : fj_HM} {P : fj_HP} {c z : Nat} {Q : fj_Po} {x : Int} {st : List Value} {u : Int32} (hcd : fj_cd y pc = some (.ifCond .eq x, len, a, b, k, ix)) : fj_H sc y pc ls (.int u :: st) M P c z Q = (if u = 0 then fj_H sc y (a) ls st M P c z Q else fj_H sc y (pc + 3) ls st M P c z Q) := by
  rw [fj_H_eq hcd]
  dsimp only [fj_stp, fj_p1]
  rw [fj_K_ite]
  rfl
theorem fj_e_icmp_eq {sc : fj_Sc} {y pc : Nat} {len a b : Nat} {k : Int} {ix : List Nat} {ls : List Value} {M : fj_HM} {P : fj_HP} {c z : Nat} {Q : fj_Po} {x : Int} {st : List Value} {u v : Int32} (hcd : fj_cd y pc = some (.if_icmp .eq x, len, a, b, k, ix)) : fj_H sc y pc ls (.int v :: .int u :: st) M P c z Q = (if u = v then fj_H sc y (a) ls st M P c z Q else fj_H sc y (pc + 3) ls st M P c z Q) := by
  rw [fj_H_eq hcd]
  dsimp only [fj_stp, fj_p2]
  rw [fj_K_ite]
  rfl
theorem fj_e_if_ne {sc : fj_Sc} {y pc : Nat} {len a b : Nat} {k : Int} {ix : List Nat} {ls : List Value} {M : fj_HM} {P : fj_HP} {c z : Nat} {Q : fj_Po} {x : Int} {st : List Value} {u : Int32} (hcd : fj_cd y pc = some (.ifCond .ne x, len, a, b, k, ix)) : fj_H sc y pc ls (.int u :: st) M P c z Q = (if u = 0 then fj_H sc y (pc + 3) ls st M P c z Q else fj_H sc y (a) ls st M P c z Q) := by
  rw [fj_H_eq hcd]
  dsimp only [fj_stp, fj_p1]
  rw [fj_K_ite]
  simp only [ne_eq, ite_not]
  rfl
theorem fj_e_icmp_ne {sc : fj_Sc} {y pc : Nat} {len a b : Nat} {k : Int} {ix : List Nat} {ls : List Value} {M : fj_HM} {P : fj_HP} {c z : Nat} {Q : fj_Po} {x : Int} {st : List Value} {u v : Int32} (hcd : fj_cd y pc = some (.if_icmp .ne x, len, a, b, k, ix)) : fj_H sc y pc ls (.int v :: .int u :: st) M P c z Q = (if u = v then fj_H sc y (pc + 3) ls st M P c z Q else fj_H sc y (a) ls st M P c z Q) := by
  rw [fj_H_eq hcd]
  dsimp only [fj_stp, fj_p2]
  rw [fj_K_ite]
  simp only [ne_eq, ite_not]
  rfl
theorem fj_e_if_lt {sc : fj_Sc} {y pc : Nat} {len a b : Nat} {k : Int} {ix : List Nat} {ls : List Value} {M : fj_HM} {P : fj_HP} {c z : Nat} {Q : fj_Po} {x : Int} {st : List Value} {u : Int32} (hcd : fj_cd y pc = some (.ifCond .lt x, len, a, b, k, ix)) : fj_H sc y pc ls (.int u :: st) M P c z Q = (if u < 0 then fj_H sc y (a) ls st M P c z Q else fj_H sc y (pc + 3) ls st M P c z Q) := by
  rw [fj_H_eq hcd]
  dsimp only [fj_stp, fj_p1]
  rw [fj_K_ite]
  rfl
theorem fj_e_icmp_lt {sc : fj_Sc} {y pc : Nat} {len a b : Nat} {k : Int} {ix : List Nat} {ls : List Value} {M : fj_HM} {P : fj_HP} {c z : Nat} {Q : fj_Po} {x : Int} {st : List Value} {u v : Int32} (hcd : fj_cd y pc = some (.if_icmp .lt x, len, a, b, k, ix)) : fj_H sc y pc ls (.int v :: .int u :: st) M P c z Q = (if u < v then fj_H sc y (a) ls st M P c z Q else fj_H sc y (pc + 3) ls st M P c z Q) := by
  rw [fj_H_eq hcd]
  dsimp only [fj_stp, fj_p2]
  rw [fj_K_ite]
  rfl
theorem fj_e_if_ge {sc : fj_Sc} {y pc : Nat} {len a b : Nat} {k : Int} {ix : List Nat} {ls : List Value} {M : fj_HM} {P : fj_HP} {c z : Nat} {Q : fj_Po} {x : Int} {st : List Value} {u : Int32} (hcd : fj_cd y pc = some (.ifCond .ge x, len, a, b, k, ix)) : fj_H sc y pc ls (.int u :: st) M P c z Q = (if 0 ≤ u then fj_H sc y (a) ls st M P c z Q else fj_H sc y (pc + 3) ls st M P c z Q) := by
  rw [fj_H_eq hcd]
  dsimp only [fj_stp, fj_p1]
  rw [fj_K_ite]
  rfl
theorem fj_e_icmp_ge {sc : fj_Sc} {y pc : Nat} {len a b : Nat} {k : Int} {ix : List Nat} {ls : List Value} {M : fj_HM} {P : fj_HP} {c z : Nat} {Q : fj_Po} {x : Int} {st : List Value} {u v : Int32} (hcd : fj_cd y pc = some (.if_icmp .ge x, len, a, b, k, ix)) : fj_H sc y pc ls (.int v :: .int u :: st) M P c z Q = (if v ≤ u then fj_H sc y (a) ls st M P c z Q else fj_H sc y (pc + 3) ls st M P c z Q) := by
  rw [fj_H_eq hcd]
  dsimp only [fj_stp, fj_p2]
  rw [fj_K_ite]
  rfl
theorem fj_e_if_gt {sc : fj_Sc} {y pc : Nat} {len a b : Nat} {k : Int} {ix : List Nat} {ls : List Value} {M : fj_HM} {P : fj_HP} {c z : Nat} {Q : fj_Po} {x : Int} {st : List Value} {u : Int32} (hcd : fj_cd y pc = some (.ifCond .gt x, len, a, b, k, ix)) : fj_H sc y pc ls (.int u :: st) M P c z Q = (if 0 < u then fj_H sc y (a) ls st M P c z Q else fj_H sc y (pc + 3) ls st M P c z Q) := by
  rw [fj_H_eq hcd]
  dsimp only [fj_stp, fj_p1]
  rw [fj_K_ite]
  rfl
theorem fj_e_icmp_gt {sc : fj_Sc} {y pc : Nat} {len a b : Nat} {k : Int} {ix : List Nat} {ls : List Value} {M : fj_HM} {P : fj_HP} {c z : Nat} {Q : fj_Po} {x : Int} {st : List Value} {u v : Int32} (hcd : fj_cd y pc = some (.if_icmp .gt x, len, a, b, k, ix)) : fj_H sc y pc ls (.int v :: .int u :: st) M P c z Q = (if v < u then fj_H sc y (a) ls st M P c z Q else fj_H sc y (pc + 3) ls st M P c z Q) := by
  rw [fj_H_eq hcd]
  dsimp only [fj_stp, fj_p2]
  rw [fj_K_ite]
  rfl
theorem fj_e_if_le {sc : fj_Sc} {y pc : Nat} {len a b : Nat} {k : Int} {ix : List Nat} {ls : List Value} {M : fj_HM} {P : fj_HP} {c z : Nat} {Q : fj_Po} {x : Int} {st : List Value} {u : Int32} (hcd : fj_cd y pc = some (.ifCond .le x, len, a, b, k, ix)) : fj_H sc y pc ls (.int u :: st) M P c z Q = (if u ≤ 0 then fj_H sc y (a) ls st M P c z Q else fj_H sc y (pc + 3) ls st M P c z Q) := by
  rw [fj_H_eq hcd]
  dsimp only [fj_stp, fj_p1]
  rw [fj_K_ite]
  rfl
theorem fj_e_icmp_le {sc : fj_Sc} {y pc : Nat} {len a b : Nat} {k : Int} {ix : List Nat} {ls : List Value} {M : fj_HM} {P : fj_HP} {c z : Nat} {Q : fj_Po} {x : Int} {st : List Value} {u v : Int32} (hcd : fj_cd y pc = some (.if_icmp .le x, len, a, b, k, ix)) : fj_H sc y pc ls (.int v :: .int u :: st) M P c z Q = (if u ≤ v then fj_H sc y (a) ls st M P c z Q else fj_H sc y (pc + 3) ls st M P c z Q) := by
  rw [fj_H_eq hcd]
  dsimp only [fj_stp, fj_p2]
  rw [fj_K_ite]
  rfl
theorem fj_e_goto {sc : fj_Sc} {y pc : Nat} {len a b : Nat} {k : Int} {ix : List Nat} {ls : List Value} {M : fj_HM} {P : fj_HP} {c z : Nat} {Q : fj_Po} {x : Int} {st : List Value} (hcd : fj_cd y pc = some (.goto x, len, a, b, k, ix)) : fj_H sc y pc ls st M P c z Q = (fj_H sc y (a) ls st M P c z Q) := by
  rw [fj_H_eq hcd]
  rfl
theorem fj_e_getI {sc : fj_Sc} {y pc : Nat} {len a b : Nat} {k : Int} {ix : List Nat} {ls : List Value} {M : fj_HM} {P : fj_HP} {c z : Nat} {Q : fj_Po} {x : Nat} {st : List Value} {o : Nat} (hcd : fj_cd y pc = some (.getfield x, len, a, b, k, ix)) (hr : fj_isR a b = false) : fj_H sc y pc ls (.ref o :: st) M P c z Q = (fj_ob c o a ∧ fj_H sc y (pc + 3) ls (.int (M o b) :: st) M P c z Q) := by
  rw [fj_H_eq hcd]
  dsimp only [fj_stp]
  rw [fj_K_if]
  rw [hr]
  rfl
theorem fj_e_getA {sc : fj_Sc} {y pc : Nat} {len a b : Nat} {k : Int} {ix : List Nat} {ls : List Value} {M : fj_HM} {P : fj_HP} {c z : Nat} {Q : fj_Po} {x : Nat} {st : List Value} {o : Nat} (hcd : fj_cd y pc = some (.getfield x, len, a, b, k, ix)) (hr : fj_isR a b = true) : fj_H sc y pc ls (.ref o :: st) M P c z Q = (fj_ob c o a ∧ fj_H sc y (pc + 3) ls (fj_rv (P o b) :: st) M P c z Q) := by
  rw [fj_H_eq hcd]
  dsimp only [fj_stp]
  rw [fj_K_if]
  rw [hr]
  rfl
theorem fj_e_putI {sc : fj_Sc} {y pc : Nat} {len a b : Nat} {k : Int} {ix : List Nat} {ls : List Value} {M : fj_HM} {P : fj_HP} {c z : Nat} {Q : fj_Po} {x : Nat} {st : List Value} {o : Nat} {v : Int32} (hcd : fj_cd y pc = some (.putfield x, len, a, b, k, ix)) (hr : fj_isR a b = false) : fj_H sc y pc ls (.int v :: .ref o :: st) M P c z Q = (fj_ob c o a ∧ fj_H sc y (pc + 3) ls st (fj_up M o b v) P c z Q) := by
  rw [fj_H_eq hcd]
  dsimp only [fj_stp]
  rw [fj_K_if]
  exact propext ⟨fun x => ⟨x.1.1, x.2⟩, fun x => ⟨⟨x.1, hr⟩, x.2⟩⟩
theorem fj_e_putA {sc : fj_Sc} {y pc : Nat} {len a b : Nat} {k : Int} {ix : List Nat} {ls : List Value} {M : fj_HM} {P : fj_HP} {c z : Nat} {Q : fj_Po} {x : Nat} {st : List Value} {o v : Nat} (hcd : fj_cd y pc = some (.putfield x, len, a, b, k, ix)) (hr : fj_isR a b = true) : fj_H sc y pc ls (.ref v :: .ref o :: st) M P c z Q = (fj_ob c o a ∧ v < c ∧ fj_H sc y (pc + 3) ls st M (fj_uP P o b (v + 1)) c z Q) := by
  rw [fj_H_eq hcd]
  dsimp only [fj_stp]
  rw [fj_K_if]
  exact propext ⟨fun x => ⟨x.1.1, x.1.2.2, x.2⟩, fun x => ⟨⟨x.1, hr, x.2.1⟩, x.2.2⟩⟩
theorem fj_e_iaload {sc : fj_Sc} {y pc : Nat} {len a b : Nat} {k : Int} {ix : List Nat} {ls : List Value} {M : fj_HM} {P : fj_HP} {c z : Nat} {Q : fj_Po} {st : List Value} {o : Nat} {j : Int32} (hcd : fj_cd y pc = some (.iaload, len, a, b, k, ix)) : fj_H sc y pc ls (.int j :: .ref o :: st) M P c z Q = (fj_ar c o 1 j ∧ fj_H sc y (pc + 1) ls (.int (M o j.toNatClampNeg) :: st) M P c z Q) := by
  rw [fj_H_eq hcd]
  dsimp only [fj_stp]
  rw [fj_K_if]
  rfl
theorem fj_e_baload {sc : fj_Sc} {y pc : Nat} {len a b : Nat} {k : Int} {ix : List Nat} {ls : List Value} {M : fj_HM} {P : fj_HP} {c z : Nat} {Q : fj_Po} {st : List Value} {o : Nat} {j : Int32} (hcd : fj_cd y pc = some (.baload, len, a, b, k, ix)) : fj_H sc y pc ls (.int j :: .ref o :: st) M P c z Q = (fj_ar c o 2 j ∧ fj_H sc y (pc + 1) ls (.int (M o j.toNatClampNeg) :: st) M P c z Q) := by
  rw [fj_H_eq hcd]
  dsimp only [fj_stp]
  rw [fj_K_if]
  rfl
theorem fj_e_iastore {sc : fj_Sc} {y pc : Nat} {len a b : Nat} {k : Int} {ix : List Nat} {ls : List Value} {M : fj_HM} {P : fj_HP} {c z : Nat} {Q : fj_Po} {st : List Value} {o : Nat} {j v : Int32} (hcd : fj_cd y pc = some (.iastore, len, a, b, k, ix)) : fj_H sc y pc ls (.int v :: .int j :: .ref o :: st) M P c z Q = (fj_ar c o 1 j ∧ fj_H sc y (pc + 1) ls st (fj_up M o j.toNatClampNeg v) P c z Q) := by
  rw [fj_H_eq hcd]
  dsimp only [fj_stp]
  rw [fj_K_if]
  rfl
theorem fj_e_bastore {sc : fj_Sc} {y pc : Nat} {len a b : Nat} {k : Int} {ix : List Nat} {ls : List Value} {M : fj_HM} {P : fj_HP} {c z : Nat} {Q : fj_Po} {st : List Value} {o : Nat} {j v : Int32} (hcd : fj_cd y pc = some (.bastore, len, a, b, k, ix)) : fj_H sc y pc ls (.int v :: .int j :: .ref o :: st) M P c z Q = (fj_ar c o 2 j ∧ fj_zo v ∧ fj_H sc y (pc + 1) ls st (fj_up M o j.toNatClampNeg v) P c z Q) := by
  rw [fj_H_eq hcd]
  dsimp only [fj_stp]
  rw [fj_K_if]
  exact propext ⟨fun x => ⟨x.1.1, x.1.2, x.2⟩, fun x => ⟨⟨x.1, x.2.1⟩, x.2.2⟩⟩
theorem fj_e_alen {sc : fj_Sc} {y pc : Nat} {len a b : Nat} {k : Int} {ix : List Nat} {ls : List Value} {M : fj_HM} {P : fj_HP} {c z : Nat} {Q : fj_Po} {st : List Value} {o : Nat} (hcd : fj_cd y pc = some (.arraylength, len, a, b, k, ix)) : fj_H sc y pc ls (.ref o :: st) M P c z Q = ((o < c ∧ (fj_sh o).1 = 1) ∧ fj_H sc y (pc + 1) ls (.int (Int32.ofNat (fj_sh o).2) :: st) M P c z Q) := by
  rw [fj_H_eq hcd]
  dsimp only [fj_stp]
  rw [fj_K_if]
  rfl
theorem fj_e_sld {L : Nat} {xs : Nat → Int32} {y pc : Nat} {len a b : Nat} {k : Int} {ix : List Nat} {ls : List Value} {M : fj_HM} {P : fj_HP} {c z : Nat} {Q : fj_Po} {st : List Value} {f : UInt32} {j : Int32} (hcd : fj_cd y pc = some (.iaload, len, a, b, k, ix)) : fj_H (some (L, xs)) y pc ls (.int j :: .float f :: st) M P c z Q = (vp_in j L ∧ fj_H (some (L, xs)) y (pc + 1) ls (.int (xs j.toNatClampNeg) :: st) M P c z Q) := by
  rw [fj_H_eq hcd]
  dsimp only [fj_stp]
  rw [fj_K_if]
  rfl
theorem fj_e_slen {L : Nat} {xs : Nat → Int32} {y pc : Nat} {len a b : Nat} {k : Int} {ix : List Nat} {ls : List Value} {M : fj_HM} {P : fj_HP} {c z : Nat} {Q : fj_Po} {st : List Value} {f : UInt32} (hcd : fj_cd y pc = some (.arraylength, len, a, b, k, ix)) : fj_H (some (L, xs)) y pc ls (.float f :: st) M P c z Q = fj_H (some (L, xs)) y (pc + 1) ls (.int (Int32.ofNat L) :: st) M P c z Q := by
  rw [fj_H_eq hcd]
  rfl
theorem fj_e_new {sc : fj_Sc} {y pc : Nat} {len a b : Nat} {k : Int} {ix : List Nat} {ls : List Value} {M : fj_HM} {P : fj_HP} {c z : Nat} {Q : fj_Po} {x : Nat} {st : List Value} (hcd : fj_cd y pc = some (.new x, len, a, b, k, ix)) : fj_H sc y pc ls st M P c z Q = ((fj_sh c = (0, a) ∧ fj_okl c ls st) ∧ fj_H sc y (pc + 3) ls (.ref c :: st) (fj_ze M c) (fj_zP P c) (c + 1) (z + fj_nF a) Q) := by
  rw [fj_H_eq hcd]
  dsimp only [fj_stp]
  rw [fj_K_if]
  rfl
theorem fj_e_newa {sc : fj_Sc} {y pc : Nat} {len a b : Nat} {k : Int} {ix : List Nat} {ls : List Value} {M : fj_HM} {P : fj_HP} {c z : Nat} {Q : fj_Po} {x : ArrayType} {st : List Value} {n : Int32} (hcd : fj_cd y pc = some (.newarray x, len, a, b, k, ix)) : fj_H sc y pc ls (.int n :: st) M P c z Q = ((fj_sh c = (a, n.toNatClampNeg) ∧ 0 ≤ n ∧ fj_okl c ls st) ∧ fj_H sc y (pc + 2) ls (.ref c :: st) (fj_ze M c) P (c + 1) (z + n.toNatClampNeg) Q) := by
  rw [fj_H_eq hcd]
  dsimp only [fj_stp, fj_p1]
  rw [fj_K_if]
  rfl
theorem fj_e_virt {sc : fj_Sc} {y pc : Nat} {len a b : Nat} {k : Int} {ix : List Nat} {ls : List Value} {M : fj_HM} {P : fj_HP} {c z : Nat} {Q : fj_Po} {x : Nat} {st as rs : List Value} {o : Nat} (hcd : fj_cd y pc = some (.invokevirtual x, len, a, b, k, ix)) (h1 : b < st.length ∧ fj_sk (st.drop (b + 1))) (h2 : st[b]? = some (.ref o)) (h3 : fj_nd a (st.take (b + 1)).reverse) (h4 : fj_en a (st.take (b + 1)).reverse = as) (h5 : st.drop (b + 1) = rs) : fj_H sc y pc ls st M P c z Q = (fj_ob c o (fj_ci a) ∧ fj_H none a 0 as [] M P c z (fun v M' P' c' z' => (c' = c ∨ fj_okl c ls rs) ∧ fj_H sc y (pc + 3) ls (v.toList ++ rs) M' P' c' z' Q)) := by
  rw [fj_H_eq hcd]
  subst h4
  subst h5
  dsimp only [fj_stp]
  rw [fj_K_if]
  refine propext ⟨fun x => ⟨?_, x.2⟩, fun x => ⟨⟨h1.1, h1.2, ⟨_, h2, x.1⟩, h3⟩, x.2⟩⟩
  obtain ⟨v, hv, hrc⟩ := x.1.2.2.1
  rw [h2] at hv
  cases hv
  exact hrc
theorem fj_e_stat {sc : fj_Sc} {y pc : Nat} {len a b : Nat} {k : Int} {ix : List Nat} {ls : List Value} {M : fj_HM} {P : fj_HP} {c z : Nat} {Q : fj_Po} {x : Nat} {st as rs : List Value} (hcd : fj_cd y pc = some (.invokestatic x, len, a, b, k, ix)) (hn : ¬ a = 997 ∧ ¬ a = 996 ∧ ¬ a = 998) (h1 : b ≤ st.length ∧ fj_sk (st.drop b)) (h3 : fj_nd a (st.take b).reverse) (h4 : fj_en a (st.take b).reverse = as) (h5 : st.drop b = rs) : fj_H sc y pc ls st M P c z Q = (fj_H none a 0 as [] M P c z (fun v M' P' c' z' => (c' = c ∨ fj_okl c ls rs) ∧ fj_H sc y (pc + 3) ls (v.toList ++ rs) M' P' c' z' Q)) := by
  rw [fj_H_eq hcd]
  subst h4
  subst h5
  dsimp only [fj_stp]
  rw [if_neg hn.1, if_neg hn.2.1, if_neg hn.2.2, fj_K_if]
  exact propext ⟨fun x => x.2, fun x => ⟨⟨h1.1, h1.2, h3⟩, x⟩⟩
theorem fj_e_spec {sc : fj_Sc} {y pc : Nat} {len a b : Nat} {k : Int} {ix : List Nat} {ls : List Value} {M : fj_HM} {P : fj_HP} {c z : Nat} {Q : fj_Po} {x : Nat} {st as rs : List Value} {o : Nat} (hcd : fj_cd y pc = some (.invokespecial x, len, a, b, k, ix)) (hn : ¬ a = 999) (h1 : b < st.length ∧ fj_sk (st.drop (b + 1))) (h2 : st[b]? = some (.ref o)) (h3 : fj_nd a (st.take (b + 1)).reverse) (h4 : fj_en a (st.take (b + 1)).reverse = as) (h5 : st.drop (b + 1) = rs) : fj_H sc y pc ls st M P c z Q = (fj_H none a 0 as [] M P c z (fun v M' P' c' z' => (c' = c ∨ fj_okl c ls rs) ∧ fj_H sc y (pc + 3) ls (v.toList ++ rs) M' P' c' z' Q)) := by
  rw [fj_H_eq hcd]
  subst h4
  subst h5
  dsimp only [fj_stp]
  rw [if_neg hn, fj_K_if]
  exact propext ⟨fun x => x.2, fun x => ⟨⟨h1.1, h1.2, ⟨_, h2⟩, h3⟩, x⟩⟩
theorem fj_e_obj {sc : fj_Sc} {y pc : Nat} {len b : Nat} {k : Int} {ix : List Nat} {ls : List Value} {M : fj_HM} {P : fj_HP} {c z : Nat} {Q : fj_Po} {x : Nat} {st : List Value} {o : Nat} (hcd : fj_cd y pc = some (.invokespecial x, len, 999, b, k, ix)) (h1 : st.length ≤ 4) : fj_H sc y pc ls (.ref o :: st) M P c z Q = (fj_H sc y (pc + 3) ls st M P c z Q) := by
  rw [fj_H_eq hcd]
  dsimp only [fj_stp]
  rw [if_pos rfl]
  rw [if_pos h1]
  rfl
theorem fj_e_abs {sc : fj_Sc} {y pc : Nat} {len b : Nat} {k : Int} {ix : List Nat} {ls : List Value} {M : fj_HM} {P : fj_HP} {c z : Nat} {Q : fj_Po} {x : Nat} {st : List Value} {u : Int32} (hcd : fj_cd y pc = some (.invokestatic x, len, 997, b, k, ix)) (h1 : st.length ≤ 4) : fj_H sc y pc ls (.int u :: st) M P c z Q = (fj_H sc y (pc + 3) ls (.int (if 0 ≤ u then u else 0 - u) :: st) M P c z Q) := by
  rw [fj_H_eq hcd]
  dsimp only [fj_stp, fj_p1]
  rw [if_pos rfl]
  rw [if_pos h1]
  rfl
theorem fj_e_min {sc : fj_Sc} {y pc : Nat} {len b : Nat} {k : Int} {ix : List Nat} {ls : List Value} {M : fj_HM} {P : fj_HP} {c z : Nat} {Q : fj_Po} {x : Nat} {st : List Value} {u v : Int32} (hcd : fj_cd y pc = some (.invokestatic x, len, 996, b, k, ix)) (h1 : st.length ≤ 4) : fj_H sc y pc ls (.int v :: .int u :: st) M P c z Q = (fj_H sc y (pc + 3) ls (.int (if v < u then v else u) :: st) M P c z Q) := by
  rw [fj_H_eq hcd]
  dsimp only [fj_stp, fj_p2]
  rw [if_neg (by decide), if_pos rfl]
  rw [if_pos h1]
  rfl
theorem fj_e_cpy {sc : fj_Sc} {y pc : Nat} {len b : Nat} {k : Int} {ix : List Nat} {ls : List Value} {M : fj_HM} {P : fj_HP} {c z : Nat} {Q : fj_Po} {x : Nat} {st : List Value} {n dp sp : Int32} {d o : Nat} (hcd : fj_cd y pc = some (.invokestatic x, len, 998, b, k, ix)) (h1 : st.length ≤ 4) : fj_H sc y pc ls (.int n :: .int dp :: .ref d :: .int sp :: .ref o :: st) M P c z Q = ((o < c ∧ d < c ∧ (fj_sh o).1 = 1 ∧ (fj_sh d).1 = 1 ∧ 0 ≤ sp ∧ 0 ≤ dp ∧ 0 ≤ n ∧ sp.toNatClampNeg + n.toNatClampNeg ≤ (fj_sh o).2 ∧ dp.toNatClampNeg + n.toNatClampNeg ≤ (fj_sh d).2) ∧ fj_H sc y (pc + 3) ls st (fj_cy M o d sp.toNatClampNeg dp.toNatClampNeg n.toNatClampNeg) P c z Q) := by
  rw [fj_H_eq hcd]
  dsimp only [fj_stp]
  rw [if_neg (by decide), if_neg (by decide), if_pos rfl]
  rw [fj_K_if]
  exact propext ⟨fun x => ⟨x.1.2, x.2⟩, fun x => ⟨⟨h1, x.1⟩, x.2⟩⟩
theorem fj_e_ireturn {sc : fj_Sc} {y pc : Nat} {len a b : Nat} {k : Int} {ix : List Nat} {ls : List Value} {M : fj_HM} {P : fj_HP} {c z : Nat} {Q : fj_Po} {v : Int32} (hcd : fj_cd y pc = some (.ireturn, len, a, b, k, ix)) (hr : ¬ fj_rt y = some .boolean) : fj_H sc y pc ls [.int v] M P c z Q = (Q (some (.int v)) M P c z) := by
  rw [fj_H_eq hcd]
  dsimp only [fj_stp]
  rw [if_neg hr]
  rfl
theorem fj_e_zreturn {sc : fj_Sc} {y pc : Nat} {len a b : Nat} {k : Int} {ix : List Nat} {ls : List Value} {M : fj_HM} {P : fj_HP} {c z : Nat} {Q : fj_Po} {v : Int32} (hcd : fj_cd y pc = some (.ireturn, len, a, b, k, ix)) (hr : fj_rt y = some .boolean) : fj_H sc y pc ls [.int v] M P c z Q = (fj_zo v ∧ Q (some (.int v)) M P c z) := by
  rw [fj_H_eq hcd]
  dsimp only [fj_stp]
  rw [if_pos hr, fj_K_if]
  rfl
theorem fj_e_lreturn {sc : fj_Sc} {y pc : Nat} {len a b : Nat} {k : Int} {ix : List Nat} {ls : List Value} {M : fj_HM} {P : fj_HP} {c z : Nat} {Q : fj_Po} {v : Int64} (hcd : fj_cd y pc = some (.lreturn, len, a, b, k, ix)) : fj_H sc y pc ls [.long v] M P c z Q = (Q (some (.long v)) M P c z) := by
  rw [fj_H_eq hcd]
  rfl
theorem fj_e_return_ {sc : fj_Sc} {y pc : Nat} {len a b : Nat} {k : Int} {ix : List Nat} {ls : List Value} {M : fj_HM} {P : fj_HP} {c z : Nat} {Q : fj_Po}  (hcd : fj_cd y pc = some (.return_, len, a, b, k, ix)) : fj_H sc y pc ls [] M P c z Q = (Q none M P c z) := by
  rw [fj_H_eq hcd]
  rfl
def fj_lk (f : Nat → Prop) (pc : Nat) (d : Int) (x : Int32) : List (Int × Int) → Prop
  | [] => f ((pc : Int) + d).toNat
  | (a, o) :: r => if x = Int32.ofInt a then f ((pc : Int) + o).toNat else fj_lk f pc d x r
theorem fj_lk_ok (sc : fj_Sc) (y pc : Nat) (ls : List Value) (M : fj_HM) (P : fj_HP) (c z : Nat) (Q : fj_Po) (g : Nat → fj_R) (d : Int) (x : Int32) (hd : 0 ≤ (pc : Int) + d) : ∀ (ps : List (Int × Int)), ps.all (fun q => (Int32.ofInt q.1).toInt == q.1 && decide (0 ≤ (pc : Int) + q.2)) = true → fj_K sc y pc ls M P c z Q (if 0 ≤ (pc : Int) + Op.lookupswitch.offset ps d x.toInt then g ((pc : Int) + Op.lookupswitch.offset ps d x.toInt).toNat else none) = fj_lk (fun t => fj_K sc y pc ls M P c z Q (g t)) pc d x ps := by
  intro ps
  induction ps with
  | nil =>
    intro _
    rw [Op.lookupswitch.offset_nil, if_pos hd]
    rfl
  | cons q ps ih =>
    obtain ⟨a, o⟩ := q
    intro h
    simp only [List.all_cons, Bool.and_eq_true, beq_iff_eq, decide_eq_true_eq] at h
    obtain ⟨⟨h1, h2⟩, h3⟩ := h
    unfold fj_lk
    by_cases hx : x = Int32.ofInt a
    · rw [if_pos hx]
      have e : Op.lookupswitch.offset ((a, o) :: ps) d x.toInt = o := by
        rw [Op.lookupswitch.offset_cons, if_pos (by rw [hx, h1])]
      rw [e, if_pos h2]
    · rw [if_neg hx, lv_osw hx h1]
      exact ih h3
theorem fj_e_look {sc : fj_Sc} {y pc : Nat} {len a b : Nat} {k : Int} {ix : List Nat} {ls : List Value} {M : fj_HM} {P : fj_HP} {c z : Nat} {Q : fj_Po} {ps : Array (Int × Int)} {d : Int} {st : List Value} {u : Int32} (hcd : fj_cd y pc = some (.lookupswitch d ps, len, a, b, k, ix)) (hd : 0 ≤ (pc : Int) + d) (hp : ps.toList.all (fun q => (Int32.ofInt q.1).toInt == q.1 && decide (0 ≤ (pc : Int) + q.2)) = true) : fj_H sc y pc ls (.int u :: st) M P c z Q = fj_lk (fun t => fj_H sc y t ls st M P c z Q) pc d u ps.toList := by
  rw [fj_H_eq hcd]
  exact fj_lk_ok sc y pc ls M P c z Q (fun t => fj_go t ls st M P c z) d u hd ps.toList hp
def fj_tk (f : Nat → Prop) (pc : Nat) (d : Int) (x : Int32) : Int → List Int → Prop
  | _, [] => f ((pc : Int) + d).toNat
  | lo, o :: r => if x = Int32.ofInt lo then f ((pc : Int) + o).toNat else fj_tk f pc d x (lo + 1) r
theorem fj_tk_ok (sc : fj_Sc) (y pc : Nat) (ls : List Value) (M : fj_HM) (P : fj_HP) (c z : Nat) (Q : fj_Po) (g : Nat → fj_R) (d : Int) (x : Int32) (hd : 0 ≤ (pc : Int) + d) : ∀ (os : List Int) (lo : Int), os.all (fun q => decide (0 ≤ (pc : Int) + q)) = true → 0 ≤ lo → lo + os.length ≤ 1000 → fj_K sc y pc ls M P c z Q (if x.toInt < lo ∨ lo + (os.length : Int) ≤ x.toInt then g ((pc : Int) + d).toNat else match os[(x.toInt - lo).toNat]? with | some o => (if 0 ≤ (pc : Int) + o then g ((pc : Int) + o).toNat else none) | none => none) = fj_tk (fun t => fj_K sc y pc ls M P c z Q (g t)) pc d x lo os := by
  intro os
  induction os with
  | nil =>
    intro lo _ _ _
    rw [if_pos (by simp only [List.length_nil]; omega)]
    rfl
  | cons o os ih =>
    intro lo h h0 h1
    simp only [List.all_cons, Bool.and_eq_true, decide_eq_true_eq, List.length_cons] at h h1
    unfold fj_tk
    have hlo : (Int32.ofInt lo).toInt = lo := by
      exact Int32.toInt_ofInt_of_le (by omega) (by omega)
    by_cases hx : x = Int32.ofInt lo
    · rw [if_pos hx]
      have e : x.toInt = lo := by rw [hx, hlo]
      rw [e, if_neg (by simp only [List.length_cons]; omega)]
      simp only [Int.sub_self, Int.toNat_zero, List.getElem?_cons_zero]
      rw [if_pos h.1]
    · rw [if_neg hx, ← ih (lo + 1) h.2 (by omega) (by omega)]
      have e : x.toInt ≠ lo := fun q => hx (Int32.toInt_inj.mp (by rw [hlo]; exact q))
      congr 1
      by_cases h2 : x.toInt < lo
      · rw [if_pos (Or.inl h2), if_pos (Or.inl (by omega))]
      · by_cases h3 : lo + ((o :: os).length : Int) ≤ x.toInt
        · rw [if_pos (Or.inr h3), if_pos (Or.inr (by simp only [List.length_cons] at h3; omega))]
        · rw [if_neg (by omega), if_neg (by simp only [List.length_cons] at h3; omega)]
          rw [show (x.toInt - lo).toNat = (x.toInt - (lo + 1)).toNat + 1 by omega, List.getElem?_cons_succ]
theorem fj_e_tab {sc : fj_Sc} {y pc : Nat} {len a b : Nat} {k : Int} {ix : List Nat} {ls : List Value} {M : fj_HM} {P : fj_HP} {c z : Nat} {Q : fj_Po} {os : Array Int} {d lo hi : Int} {st : List Value} {u : Int32} (hcd : fj_cd y pc = some (.tableswitch d lo hi os, len, a, b, k, ix)) (hd : 0 ≤ (pc : Int) + d) (hp : os.toList.all (fun q => decide (0 ≤ (pc : Int) + q)) = true) (h0 : 0 ≤ lo) (h1 : lo + os.toList.length ≤ 1000) (hh : hi + 1 = lo + os.toList.length) : fj_H sc y pc ls (.int u :: st) M P c z Q = fj_tk (fun t => fj_H sc y t ls st M P c z Q) pc d u lo os.toList := by
  rw [fj_H_eq hcd]
  have := fj_tk_ok sc y pc ls M P c z Q (fun t => fj_go t ls st M P c z) d u hd os.toList lo hp h0 h1
  refine Eq.trans ?_ this
  congr 1
  dsimp only [fj_stp, fj_p1, fj_sw]
  by_cases h2 : u.toInt < lo ∨ hi < u.toInt
  · rw [if_pos h2, if_pos hd, if_pos (show u.toInt < lo ∨ lo + (os.toList.length : Int) ≤ u.toInt by omega)]
  · rw [if_neg h2, if_neg (show ¬ (u.toInt < lo ∨ lo + (os.toList.length : Int) ≤ u.toInt) by omega)]
    rw [Array.getElem?_toList]
    rfl
