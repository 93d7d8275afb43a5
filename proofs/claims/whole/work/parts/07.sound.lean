/-! ===== the abstract machine is sound: what it says, the bytecode does ===== -/
def fj_xv (b : Nat) (ad : List Nat) : Value → Value
  | .ref k => .ref (ad.getD k 0)
  | .float _ => .ref b
  | v => v
def fj_xf (ad : List Nat) (M : fj_HM) (P : fj_HP) (o ci : Nat) : List Value := (List.range (fj_nF ci)).map (fun k => if fj_isR ci k = true then fj_xv 0 ad (fj_rv (P o k)) else .int (M o k))
def fj_xc (cI cZ : ClassId) (ad : List Nat) (M : fj_HM) (P : fj_HP) (o : Nat) : va_E :=
  if (fj_sh o).1 = 0 then .inr ((fj_sh o).2, fj_xf ad M P o (fj_sh o).2) else .inl (if (fj_sh o).1 = 1 then cI else cZ, (fj_sh o).2, .inl (M o))
def fj_wl (cI cZ : ClassId) (ad : List Nat) (M : fj_HM) (P : fj_HP) : va_W := (List.range ad.length).map (fun o => (ad.getD o 0, fj_xc cI cZ ad M P o))
/-- what is known of a local -/
def fj_lv (b : Nat) (ad : List Nat) (ls : List Value) (i : Nat) : Option Value := match ls[i]? with
  | some (.int x) => some (.int x)
  | some (.ref x) => some (.ref (ad.getD x 0))
  | some (.float _) => some (.ref b)
  | some (.long x) => if ls[i + 1]? = some fj_mk then some (.long x) else none
  | _ => none
def fj_Lo (b : Nat) (ad : List Nat) (ls : List Value) (lsA : Array Slot) : Prop := ∃ l, lv_has lsA ls.length l ∧ ∀ i v, fj_lv b ad ls i = some v → (i, v) ∈ l
def fj_ty : List (Nat → FieldType) := [tyX0, tyX1, tyX2, tyX3, tyX4, tyX5, tyX6, tyX7]
theorem fj_wl_len (cI cZ : ClassId) (ad : List Nat) (M : fj_HM) (P : fj_HP) : (fj_wl cI cZ ad M P).length = ad.length := by simp [fj_wl]
theorem fj_wl_get {cI cZ : ClassId} {ad : List Nat} {M : fj_HM} {P : fj_HP} {o : Nat} (h : o < ad.length) : (fj_wl cI cZ ad M P)[o]? = some (ad.getD o 0, fj_xc cI cZ ad M P o) := by
  simp [fj_wl, h]
theorem fj_xf_get {ad : List Nat} {M : fj_HM} {P : fj_HP} {o ci k : Nat} (h : k < fj_nF ci) : (fj_xf ad M P o ci)[k]? = some (if fj_isR ci k = true then fj_xv 0 ad (fj_rv (P o k)) else .int (M o k)) := by
  simp [fj_xf, h]
theorem fj_xc_obj {cI cZ : ClassId} {ad : List Nat} {M : fj_HM} {P : fj_HP} {o ci : Nat} (h : fj_sh o = (0, ci)) : fj_xc cI cZ ad M P o = .inr (ci, fj_xf ad M P o ci) := by
  unfold fj_xc
  rw [h]
  rfl
theorem fj_xc_int {cI cZ : ClassId} {ad : List Nat} {M : fj_HM} {P : fj_HP} {o : Nat} (h : (fj_sh o).1 = 1) : fj_xc cI cZ ad M P o = .inl (cI, (fj_sh o).2, .inl (M o)) := by
  unfold fj_xc
  rw [h]
  rfl
theorem fj_xc_bool {cI cZ : ClassId} {ad : List Nat} {M : fj_HM} {P : fj_HP} {o : Nat} (h : (fj_sh o).1 = 2) : fj_xc cI cZ ad M P o = .inl (cZ, (fj_sh o).2, .inl (M o)) := by
  unfold fj_xc
  rw [h]
  rfl
/-- a world in which one cell is another -/
theorem fj_wl_set {cI cZ : ClassId} {ad : List Nat} {M M' : fj_HM} {P P' : fj_HP} {o : Nat} {e : va_E} (hM : ∀ q, q ≠ o → M' q = M q) (hP : ∀ q, q ≠ o → P' q = P q) (he : e = fj_xc cI cZ ad M' P' o) : (fj_wl cI cZ ad M P).set o (ad.getD o 0, e) = fj_wl cI cZ ad M' P' := by
  subst he
  apply List.ext_getElem?
  intro i
  rw [List.getElem?_set]
  by_cases hi : o = i
  · subst hi
    rw [if_pos rfl, fj_wl_len]
    by_cases hl : o < ad.length
    · rw [if_pos hl, fj_wl_get hl]
    · rw [if_neg hl, List.getElem?_eq_none (by rw [fj_wl_len]; omega)]
  · rw [if_neg hi]
    by_cases hl : i < ad.length
    · rw [fj_wl_get hl, fj_wl_get hl]
      have e1 : fj_xc cI cZ ad M' P' i = fj_xc cI cZ ad M P i := by
        unfold fj_xc fj_xf
        rw [hM i (Ne.symm hi), hP i (Ne.symm hi)]
      rw [e1]
    · rw [List.getElem?_eq_none (by rw [fj_wl_len]; omega), List.getElem?_eq_none (by rw [fj_wl_len]; omega)]
theorem fj_up_ne {M : fj_HM} {o k : Nat} {v : Int32} (q : Nat) (h : q ≠ o) : fj_up M o k v q = M q := by
  funext j
  simp [fj_up, h]
theorem fj_uP_ne {P : fj_HP} {o k v : Nat} (q : Nat) (h : q ≠ o) : fj_uP P o k v q = P q := by
  funext j
  simp [fj_uP, h]
theorem fj_up_self {M : fj_HM} {o k : Nat} {v : Int32} : fj_up M o k v o = upd (M o) k v := by
  funext j
  simp [fj_up, upd]
theorem fj_xf_up {ad : List Nat} {M : fj_HM} {P : fj_HP} {o ci k : Nat} {v : Int32} (hk : k < fj_nF ci) (hr : fj_isR ci k = false) : (fj_xf ad M P o ci).set k (.int v) = fj_xf ad (fj_up M o k v) P o ci := by
  apply List.ext_getElem?
  intro i
  rw [List.getElem?_set]
  have hlen : ∀ M P, (fj_xf ad M P o ci).length = fj_nF ci := fun M P => by simp [fj_xf]
  by_cases hi : k = i
  · subst hi
    rw [if_pos rfl, hlen, if_pos hk, fj_xf_get hk, hr]
    simp [fj_up]
  · rw [if_neg hi]
    by_cases hl : i < fj_nF ci
    · rw [fj_xf_get hl, fj_xf_get hl]
      simp [fj_up, Ne.symm hi]
    · rw [List.getElem?_eq_none (by rw [hlen]; omega), List.getElem?_eq_none (by rw [hlen]; omega)]
theorem fj_xf_uP {ad : List Nat} {M : fj_HM} {P : fj_HP} {o ci k w : Nat} (hk : k < fj_nF ci) (hr : fj_isR ci k = true) : (fj_xf ad M P o ci).set k (fj_xv 0 ad (.ref w)) = fj_xf ad M (fj_uP P o k (w + 1)) o ci := by
  apply List.ext_getElem?
  intro i
  rw [List.getElem?_set]
  have hlen : ∀ M P, (fj_xf ad M P o ci).length = fj_nF ci := fun M P => by simp [fj_xf]
  by_cases hi : k = i
  · subst hi
    rw [if_pos rfl, hlen, if_pos hk, fj_xf_get hk, if_pos hr]
    simp [fj_uP, fj_rv]
  · rw [if_neg hi]
    by_cases hl : i < fj_nF ci
    · rw [fj_xf_get hl, fj_xf_get hl]
      simp [fj_uP, Ne.symm hi]
    · rw [List.getElem?_eq_none (by rw [hlen]; omega), List.getElem?_eq_none (by rw [hlen]; omega)]
theorem fj_xv_ext {b : Nat} {ad ad2 : List Nat} {v : Value} (h : fj_okv ad.length v) : fj_xv b (ad ++ ad2) v = fj_xv b ad v := by
  cases v with
  | ref k =>
    simp only [fj_okv] at h
    simp only [fj_xv, List.getD_eq_getElem?_getD]
    rw [List.getElem?_append_left h]
  | _ => rfl
theorem fj_okv_rv {c n : Nat} (h : n ≤ c) : fj_okv c (fj_rv n) := by
  cases n with
  | zero => trivial
  | succ n => exact h
theorem fj_map_ext {b : Nat} {ad ad2 : List Nat} {st : List Value} (h : ∀ v ∈ st, fj_okv ad.length v) : st.map (fj_xv b (ad ++ ad2)) = st.map (fj_xv b ad) := List.map_congr_left fun v hv => fj_xv_ext (h v hv)
theorem fj_lv_ext {b : Nat} {ad ad2 : List Nat} {ls : List Value} (h : ∀ v ∈ ls, fj_okv ad.length v) (i : Nat) : fj_lv b (ad ++ ad2) ls i = fj_lv b ad ls i := by
  unfold fj_lv
  cases hi : ls[i]? with
  | none => rfl
  | some v =>
    cases v with
    | ref k =>
      have hk : k < ad.length := h _ (List.mem_of_getElem? hi)
      show some (Value.ref ((ad ++ ad2).getD k 0)) = some (Value.ref (ad.getD k 0))
      simp only [List.getD_eq_getElem?_getD]
      rw [List.getElem?_append_left hk]
    | _ => rfl
theorem fj_Lo_ext {b : Nat} {ad ad2 : List Nat} {ls : List Value} {lsA : Array Slot} (h : ∀ v ∈ ls, fj_okv ad.length v) (hl : fj_Lo b ad ls lsA) : fj_Lo b (ad ++ ad2) ls lsA := by
  obtain ⟨l, h1, h2⟩ := hl
  exact ⟨l, h1, fun i v hv => h2 i v (by rw [← fj_lv_ext h]; exact hv)⟩
/-- a world that grows -/
theorem fj_wl_push {cI cZ : ClassId} {ad : List Nat} {q : Nat} {M M' : fj_HM} {P P' : fj_HP} {e : va_E} (hM : ∀ o, o ≠ ad.length → M' o = M o) (hP : ∀ o, o ≠ ad.length → P' o = P o) (hok : ∀ o k, P o k ≤ ad.length) (he : e = fj_xc cI cZ (ad ++ [q]) M' P' ad.length) : fj_wl cI cZ ad M P ++ [(q, e)] = fj_wl cI cZ (ad ++ [q]) M' P' := by
  subst he
  apply List.ext_getElem?
  intro i
  by_cases hl : i < ad.length
  · rw [List.getElem?_append_left (by rw [fj_wl_len]; exact hl), fj_wl_get hl, fj_wl_get (by simp; omega)]
    have e1 : (ad ++ [q]).getD i 0 = ad.getD i 0 := by
      simp only [List.getD_eq_getElem?_getD]
      rw [List.getElem?_append_left hl]
    have e2 : fj_xc cI cZ (ad ++ [q]) M' P' i = fj_xc cI cZ ad M P i := by
      unfold fj_xc fj_xf
      rw [hM i (by omega), hP i (by omega)]
      have e3 : (fun k => if fj_isR (fj_sh i).2 k = true then fj_xv 0 (ad ++ [q]) (fj_rv (P i k)) else Value.int (M i k)) = (fun k => if fj_isR (fj_sh i).2 k = true then fj_xv 0 ad (fj_rv (P i k)) else Value.int (M i k)) := by
        funext k
        rw [fj_xv_ext (fj_okv_rv (hok i k))]
      rw [e3]
    rw [e1, e2]
  · by_cases hi : i = ad.length
    · subst hi
      rw [List.getElem?_append_right (by rw [fj_wl_len]; omega), fj_wl_len, fj_wl_get (by simp)]
      simp
    · rw [List.getElem?_eq_none (by simp [fj_wl_len]; omega), List.getElem?_eq_none (by rw [fj_wl_len]; simp; omega)]
/-! locals -/
theorem fj_lv_at {b : Nat} {ad : List Nat} {ls : List Value} {lsA : Array Slot} (h : fj_Lo b ad ls lsA) {i : Nat} {v : Value} (hv : fj_lv b ad ls i = some v) : lsA[i]? = some (.val v) := by
  obtain ⟨l, h1, h2⟩ := h
  exact h1.2.2 (i, v) (h2 i v hv)
theorem fj_Lo_set1 {b : Nat} {ad : List Nat} {ls : List Value} {i : Nat} {v w : Value} {l : List (Nat × Value)} (hi : i < ls.length) (hm : v ≠ fj_mk) (hv : fj_lv b ad (ls.set i v) i = some w) (h : ∀ i v, fj_lv b ad ls i = some v → (i, v) ∈ l) :
    ∀ j u, fj_lv b ad (ls.set i v) j = some u → (j, u) ∈ (i, w) :: l.filter (fun q => !(q.1 == i) && !(q.1 + 1 == i && q.2.category == 2)) := by
  intro j u hu
  by_cases hj : j = i
  · subst hj
    rw [hv] at hu
    cases hu
    exact List.mem_cons_self
  · refine List.mem_cons_of_mem _ (List.mem_filter.mpr ⟨?_, ?_⟩)
    · refine h j u ?_
      unfold fj_lv at hu ⊢
      rw [List.getElem?_set_ne (Ne.symm hj)] at hu
      split at hu
      · exact hu
      · exact hu
      · exact hu
      · split at hu
        · rename_i x _ hx
          by_cases hj1 : i = j + 1
          · rw [hj1, List.getElem?_set_self (by rw [← hj1]; exact hi)] at hx
            exact absurd (Option.some.inj hx) hm
          · rw [List.getElem?_set_ne hj1] at hx
            rw [if_pos hx]
            exact hu
        · cases hu
      · cases hu
    · simp only [Bool.and_eq_true, Bool.not_eq_true', beq_eq_false_iff_ne, Bool.and_eq_false_iff]
      refine ⟨hj, ?_⟩
      by_cases hj1 : j + 1 = i
      · right
        unfold fj_lv at hu
        rw [List.getElem?_set_ne (Ne.symm hj)] at hu
        split at hu
        · cases hu; simp [Value.category]
        · cases hu; simp [Value.category]
        · cases hu; simp [Value.category]
        · split at hu
          · rename_i x _ hx
            rw [hj1, List.getElem?_set_self hi] at hx
            exact absurd (Option.some.inj hx) hm
          · cases hu
        · cases hu
      · exact Or.inl hj1
theorem fj_Lo_set2 {b : Nat} {ad : List Nat} {ls : List Value} {i : Nat} {x : Int64} {l : List (Nat × Value)} (hi : i + 1 < ls.length) (h : ∀ i v, fj_lv b ad ls i = some v → (i, v) ∈ l) :
    ∀ j u, fj_lv b ad ((ls.set i (.long x)).set (i + 1) fj_mk) j = some u → (j, u) ∈ (i, Value.long x) :: l.filter (fun q => !(q.1 == i) && (!(q.1 == i + 1) && !(q.1 + 1 == i && q.2.category == 2))) := by
  intro j u hu
  by_cases hj : j = i
  · subst hj
    unfold fj_lv at hu
    rw [List.getElem?_set_ne (by omega), List.getElem?_set_self (by omega)] at hu
    simp only at hu
    rw [if_pos (by rw [List.getElem?_set_self (by simp; omega)])] at hu
    cases hu
    exact List.mem_cons_self
  · by_cases hj1 : j = i + 1
    · subst hj1
      unfold fj_lv at hu
      rw [List.getElem?_set_self (by simp; omega)] at hu
      cases hu
    · have e1 : ((ls.set i (.long x)).set (i + 1) fj_mk)[j]? = ls[j]? := by rw [List.getElem?_set_ne (by omega), List.getElem?_set_ne (by omega)]
      refine List.mem_cons_of_mem _ (List.mem_filter.mpr ⟨?_, ?_⟩)
      · refine h j u ?_
        unfold fj_lv at hu ⊢
        rw [e1] at hu
        split at hu
        · exact hu
        · exact hu
        · exact hu
        · split at hu
          · rename_i y _ hx
            by_cases hj2 : i = j + 1
            · rw [List.getElem?_set_ne (by omega), hj2, List.getElem?_set_self (by omega)] at hx
              cases hx
            · rw [List.getElem?_set_ne (by omega), List.getElem?_set_ne hj2] at hx
              rw [if_pos hx]
              exact hu
          · cases hu
        · cases hu
      · simp only [Bool.and_eq_true, Bool.not_eq_true', beq_eq_false_iff_ne, Bool.and_eq_false_iff]
        refine ⟨hj, hj1, ?_⟩
        by_cases hj2 : j + 1 = i
        · right
          unfold fj_lv at hu
          rw [e1] at hu
          split at hu
          · cases hu; simp [Value.category]
          · cases hu; simp [Value.category]
          · cases hu; simp [Value.category]
          · split at hu
            · rename_i y _ hx
              rw [List.getElem?_set_ne (by omega), hj2, List.getElem?_set_self (by omega)] at hx
              cases hx
            · cases hu
          · cases hu
        · exact Or.inl hj2
/-- the locals at entry -/
theorem fj_lv_pa (b : Nat) (ad : List Nat) (n : Nat) : ∀ (as : List Value), (∀ v ∈ as, fj_v1 v) → ∀ (k i : Nat) (v : Value), fj_lv b ad (fj_pa as ++ List.replicate n .null) i = some v → (i + k, v) ∈ lv_args k (as.map (fj_xv b ad)) := by
  intro as
  induction as with
  | nil =>
    intro _ k i v h
    exfalso
    unfold fj_lv at h
    have e : ∀ j : Nat, (fj_pa [] ++ List.replicate n Value.null)[j]? = some Value.null ∨ (fj_pa [] ++ List.replicate n Value.null)[j]? = none := by
      intro j
      simp only [fj_pa, List.nil_append, List.getElem?_replicate]
      split
      · exact Or.inl rfl
      · exact Or.inr rfl
    rcases e i with e | e <;> rw [e] at h <;> cases h
  | cons a as ih =>
    intro hd k i v h
    have hd' : ∀ v ∈ as, fj_v1 v := fun v hv => hd v (List.mem_cons_of_mem _ hv)
    have one : ∀ (w : Value), fj_pa (a :: as) = a :: fj_pa as → fj_xv b ad a = w → w.category ≠ 2 → (∀ r, fj_lv b ad (a :: r) 0 = some v → v = w) → (i + k, v) ∈ lv_args k ((a :: as).map (fj_xv b ad)) := by
      intro w e1 e2 e3 e4
      rw [List.map_cons, e2]
      unfold lv_args
      rw [if_neg e3]
      rw [e1, List.cons_append] at h
      cases i with
      | zero =>
        rw [e4 _ h, Nat.zero_add]
        exact List.mem_cons_self
      | succ i =>
        refine List.mem_cons_of_mem _ ?_
        rw [show i + 1 + k = i + (k + 1) by omega]
        refine ih hd' (k + 1) i v ?_
        rw [← h]
        unfold fj_lv
        simp only [List.getElem?_cons_succ]
    cases a with
    | int x => exact one (.int x) rfl rfl (by simp [Value.category]) (fun r h => by simp [fj_lv] at h; exact h.symm)
    | ref x => exact one (.ref (ad.getD x 0)) rfl rfl (by simp [Value.category]) (fun r h => by simp [fj_lv] at h; simp [List.getD_eq_getElem?_getD, ← h])
    | float x => exact one (.ref b) rfl rfl (by simp [Value.category]) (fun r h => by simp [fj_lv] at h; exact h.symm)
    | double x => exact absurd (hd _ List.mem_cons_self) (fun h => h)
    | long x =>
      rw [List.map_cons]
      show (i + k, v) ∈ lv_args k (.long x :: as.map (fj_xv b ad))
      unfold lv_args
      rw [if_pos (by simp [Value.category])]
      rw [show fj_pa (.long x :: as) = .long x :: fj_mk :: fj_pa as from rfl, List.cons_append, List.cons_append] at h
      match i, h with
      | 0, h =>
        simp [fj_lv] at h
        rw [Nat.zero_add, ← h]
        exact List.mem_cons_self
      | 1, h => simp [fj_lv] at h
      | i + 2, h =>
        refine List.mem_cons_of_mem _ ?_
        rw [show i + 2 + k = i + (k + 2) by omega]
        refine ih hd' (k + 2) i v ?_
        rw [← h]
        unfold fj_lv
        simp only [List.getElem?_cons_succ]
    | _ => exact one _ rfl rfl (by simp [fj_xv, Value.category]) (fun r h => by simp [fj_lv] at h)
theorem fj_sl_len (b : Nat) (ad : List Nat) : ∀ (as : List Value), (∀ v ∈ as, fj_v1 v) → (lg_sl (as.map (fj_xv b ad))).length = (fj_pa as).length := by
  intro as
  induction as with
  | nil => intro _; rfl
  | cons a as ih =>
    intro hd
    have ih := ih fun v hv => hd v (List.mem_cons_of_mem _ hv)
    rw [List.map_cons]
    show ((if (fj_xv b ad a).category = 2 then [Slot.val (fj_xv b ad a), .second] else [.val (fj_xv b ad a)]) ++ lg_sl (as.map (fj_xv b ad))).length = _
    rw [List.length_append, ih]
    cases a with
    | double x => exact absurd (hd _ List.mem_cons_self) (fun h => h)
    | long x => simp [fj_xv, Value.category, fj_pa]; omega
    | _ => simp [fj_xv, Value.category, fj_pa]; omega
theorem fj_cat (v : Value) : v.category ≤ 2 := by rcases lv_cat v with h | h <;> omega
theorem fj_cats : ∀ (st : List Value), (st.map fun v => v.category).sum ≤ 2 * st.length
  | [] => Nat.le_refl _
  | v :: st => by
    have h1 := fj_cat v
    have h2 := fj_cats st
    simp only [List.map_cons, List.sum_cons, List.length_cons]
    omega
