set_option maxHeartbeats 4000000 in
set_option maxRecDepth 100000 in
theorem fj_step {p : Program} {l : Launch} {e : Env} {R : Room} {s : State} {m : MethodId} {args : Array Value} {below : List Frame} {meth : Method} {cd : Code} {Q : State → Prop} {D : va_G} {cI cZ : ClassId} {A : Nat → Prop} {H0 : Heap} {b : Nat} {ad0 : List Nat} {c0 z0 nL : Nat} {y : Nat} {sc : fj_Sc} {pc : Nat} {ai : fj_AI} {ls st : List Value} {M : fj_HM} {P : fj_HP} {c z : Nat} {q : fj_Nx}
    (hcx : fj_Cx p R s m args meth cd y) (hX : fj_Xs sc b A H0 s) (hny : nL = fj_ml y) (hai : fj_cd y pc = some ai) (h : fj_stp y sc ai pc ls st M P c z = some (.inl q)) (hcR : c ≤ c0 + R.cells) (hzR : z ≤ z0 + R.slots) (hcR' : q.2.2.2.2.2.1 ≤ c0 + R.cells) (hzR' : q.2.2.2.2.2.2 ≤ z0 + R.slots)
    (kk : fj_G p l e R s m args below meth cd Q D cI cZ A H0 b ad0 c0 z0 nL q.1 q.2.1 q.2.2.1 q.2.2.2.1 q.2.2.2.2.1 q.2.2.2.2.2.1 q.2.2.2.2.2.2) :
    fj_G p l e R s m args below meth cd Q D cI cZ A H0 b ad0 c0 z0 nL pc ls st M P c z := by
  intro ad H locs lsA cells slots hcc hzz had hnl hW hLo
  obtain ⟨hx, hb, hml, hown, hts, hini, hfr, hlo, hN⟩ := hcx
  obtain ⟨hadl, hP, hK, hD, hS, hA, hPc⟩ := id hW
  have hsz : lsA.size = nL := by obtain ⟨l, h1, -⟩ := hLo; rw [h1.1, hnl]
  have cat4 : ∀ r : List Value, r.length ≤ 4 → ((r.map (fj_xv b ad)).map fun v => v.category).sum ≤ 8 := fun r hr => by
    have := fj_cats (r.map (fj_xv b ad))
    rw [List.length_map] at this
    omega
  have ok := fj_okI_of hai
  obtain ⟨ins, len, a, bb, k, ixs⟩ := ai
  cases ins with
  | iconst n =>
    simp only [fj_okI, Bool.and_eq_true, decide_eq_true_eq, beq_iff_eq] at ok
    dsimp only [fj_stp] at h
    obtain ⟨hdg, rfl, hk⟩ := ok
    cases fj_go_some h
    exact lv_iconst hx hb hdg hk (kk ad H locs lsA cells slots hcc hzz had hnl hW hLo)
  | bipush n =>
    simp only [fj_okI, Bool.and_eq_true, decide_eq_true_eq, beq_iff_eq] at ok
    dsimp only [fj_stp] at h
    obtain ⟨hdg, rfl, hk⟩ := ok
    cases fj_go_some h
    exact lv_bipush hx hb hdg hk (kk ad H locs lsA cells slots hcc hzz had hnl hW hLo)
  | sipush n =>
    simp only [fj_okI, Bool.and_eq_true, decide_eq_true_eq, beq_iff_eq] at ok
    dsimp only [fj_stp] at h
    obtain ⟨hdg, rfl, hk⟩ := ok
    cases fj_go_some h
    exact lv_sipush hx hb hdg hk (kk ad H locs lsA cells slots hcc hzz had hnl hW hLo)
  | lconst n =>
    simp only [fj_okI, Bool.and_eq_true, decide_eq_true_eq, beq_iff_eq] at ok
    dsimp only [fj_stp] at h
    obtain ⟨hdg, rfl, hk⟩ := ok
    cases fj_go_some h
    exact lv_lconst hx hb hdg hk (kk ad H locs lsA cells slots hcc hzz had hnl hW hLo)
  | ldc n =>
    simp only [fj_okI, Bool.and_eq_true, decide_eq_true_eq, beq_iff_eq] at ok
    dsimp only [fj_stp] at h
    obtain ⟨hdg, rfl, hk⟩ := ok
    cases fj_go_some h
    exact lv_ldc hx hb hown (hts _ (fj_wd_ok hk)) hdg (kk ad H locs lsA cells slots hcc hzz had hnl hW hLo)
  | ldc_w n =>
    simp only [fj_okI, Bool.and_eq_true, decide_eq_true_eq, beq_iff_eq] at ok
    dsimp only [fj_stp] at h
    obtain ⟨hdg, rfl, hk⟩ := ok
    cases fj_go_some h
    exact lv_ldcw hx hb hown (hts _ (fj_wd_ok hk)) hdg (kk ad H locs lsA cells slots hcc hzz had hnl hW hLo)
  | ldc2_w n =>
    simp only [fj_okI, Bool.and_eq_true, decide_eq_true_eq, beq_iff_eq] at ok
    dsimp only [fj_stp] at h
    obtain ⟨hdg, rfl, hk⟩ := ok
    cases fj_go_some h
    exact lv_ldc2 hx hb hown (hts _ (fj_wd_ok hk)) hdg (kk ad H locs lsA cells slots hcc hzz had hnl hW hLo)
  | iload_n n =>
    simp only [fj_okI, Bool.and_eq_true, decide_eq_true_eq, beq_iff_eq] at ok
    dsimp only [fj_stp] at h
    obtain ⟨hdg, rfl, rfl⟩ := ok
    obtain ⟨x, h1, h⟩ := fj_ild_some h
    cases fj_go_some h
    have hv : fj_lv b ad ls (n : Nat) = some (.int x) := by unfold fj_lv; rw [h1]
    exact lv_iload_n hx hb hdg rfl (fj_lv_at hLo hv) (kk ad H locs lsA cells slots hcc hzz had hnl hW hLo)
  | lload_n n =>
    simp only [fj_okI, Bool.and_eq_true, decide_eq_true_eq, beq_iff_eq] at ok
    dsimp only [fj_stp] at h
    obtain ⟨hdg, rfl, rfl⟩ := ok
    obtain ⟨x, h1, h2, h⟩ := fj_lld_some h
    cases fj_go_some h
    have hv : fj_lv b ad ls (n : Nat) = some (.long x) := by unfold fj_lv; rw [h1]; simp only; rw [if_pos h2]
    exact lv_lload_n hx hb hdg rfl (fj_lv_at hLo hv) (kk ad H locs lsA cells slots hcc hzz had hnl hW hLo)
  | iload n =>
    simp only [fj_okI, Bool.and_eq_true, decide_eq_true_eq, beq_iff_eq] at ok
    dsimp only [fj_stp] at h
    obtain ⟨hdg, rfl, rfl⟩ := ok
    obtain ⟨x, h1, h⟩ := fj_ild_some h
    cases fj_go_some h
    have hv : fj_lv b ad ls (n : Nat) = some (.int x) := by unfold fj_lv; rw [h1]
    exact lv_iload hx hb hdg (fj_lv_at hLo hv) (kk ad H locs lsA cells slots hcc hzz had hnl hW hLo)
  | lload n =>
    simp only [fj_okI, Bool.and_eq_true, decide_eq_true_eq, beq_iff_eq] at ok
    dsimp only [fj_stp] at h
    obtain ⟨hdg, rfl, rfl⟩ := ok
    obtain ⟨x, h1, h2, h⟩ := fj_lld_some h
    cases fj_go_some h
    have hv : fj_lv b ad ls (n : Nat) = some (.long x) := by unfold fj_lv; rw [h1]; simp only; rw [if_pos h2]
    exact lv_lload hx hb hdg (fj_lv_at hLo hv) (kk ad H locs lsA cells slots hcc hzz had hnl hW hLo)
  | aload_n n =>
    simp only [fj_okI, Bool.and_eq_true, decide_eq_true_eq, beq_iff_eq] at ok
    dsimp only [fj_stp] at h
    obtain ⟨hdg, rfl, rfl⟩ := ok
    rcases fj_ald_some h with ⟨x, h1, h⟩ | ⟨x, h1, h⟩
    · cases fj_go_some h
      have hv : fj_lv b ad ls (n : Nat) = some (.ref (ad.getD x 0)) := by unfold fj_lv; rw [h1]
      exact lv_aload_n hx hb hdg rfl (fj_lv_at hLo hv) (kk ad H locs lsA cells slots hcc hzz had hnl hW hLo)
    · cases fj_go_some h
      have hv : fj_lv b ad ls (n : Nat) = some (.ref b) := by unfold fj_lv; rw [h1]
      exact lv_aload_n hx hb hdg rfl (fj_lv_at hLo hv) (kk ad H locs lsA cells slots hcc hzz had hnl hW hLo)
  | aload n =>
    simp only [fj_okI, Bool.and_eq_true, decide_eq_true_eq, beq_iff_eq] at ok
    dsimp only [fj_stp] at h
    obtain ⟨hdg, rfl, rfl⟩ := ok
    rcases fj_ald_some h with ⟨x, h1, h⟩ | ⟨x, h1, h⟩
    · cases fj_go_some h
      have hv : fj_lv b ad ls (n : Nat) = some (.ref (ad.getD x 0)) := by unfold fj_lv; rw [h1]
      exact lv_aload hx hb hdg (fj_lv_at hLo hv) (kk ad H locs lsA cells slots hcc hzz had hnl hW hLo)
    · cases fj_go_some h
      have hv : fj_lv b ad ls (n : Nat) = some (.ref b) := by unfold fj_lv; rw [h1]
      exact lv_aload hx hb hdg (fj_lv_at hLo hv) (kk ad H locs lsA cells slots hcc hzz had hnl hW hLo)
  | istore_n n =>
    simp only [fj_okI, Bool.and_eq_true, decide_eq_true_eq, beq_iff_eq] at ok
    dsimp only [fj_stp] at h
    obtain ⟨hdg, rfl, rfl⟩ := ok
    split at h
    · rename_i x r
      split at h
      · rename_i hi
        cases fj_go_some h
        obtain ⟨lv, hl1, hl2⟩ := hLo
        exact lv_istore_n hx hb hdg rfl hl1 hi rfl (fun ls' h' => kk ad H locs ls' cells slots hcc hzz had (by simp [hnl]) hW ⟨_, by simp only [List.length_set]; exact h', fj_Lo_set1 (v := .int x) hi (by simp) (by unfold fj_lv; rw [List.getElem?_set_self hi]) hl2⟩)
      · cases h
    · cases h
  | istore n =>
    simp only [fj_okI, Bool.and_eq_true, decide_eq_true_eq, beq_iff_eq] at ok
    dsimp only [fj_stp] at h
    obtain ⟨hdg, rfl, rfl⟩ := ok
    split at h
    · rename_i x r
      split at h
      · rename_i hi
        cases fj_go_some h
        obtain ⟨lv, hl1, hl2⟩ := hLo
        exact lv_istore hx hb hdg hl1 hi rfl (fun ls' h' => kk ad H locs ls' cells slots hcc hzz had (by simp [hnl]) hW ⟨_, by simp only [List.length_set]; exact h', fj_Lo_set1 (v := .int x) hi (by simp) (by unfold fj_lv; rw [List.getElem?_set_self hi]) hl2⟩)
      · cases h
    · cases h
  | astore_n n =>
    simp only [fj_okI, Bool.and_eq_true, decide_eq_true_eq, beq_iff_eq] at ok
    dsimp only [fj_stp] at h
    obtain ⟨hdg, rfl, rfl⟩ := ok
    split at h
    · rename_i x r
      split at h
      · rename_i hi
        cases fj_go_some h
        obtain ⟨lv, hl1, hl2⟩ := hLo
        exact lv_astore_n hx hb hdg rfl hl1 hi rfl (fun ls' h' => kk ad H locs ls' cells slots hcc hzz had (by simp [hnl]) hW ⟨_, by simp only [List.length_set]; exact h', fj_Lo_set1 (v := .ref x) hi (by simp) (by unfold fj_lv; rw [List.getElem?_set_self hi]) hl2⟩)
      · cases h
    · cases h
  | astore n =>
    simp only [fj_okI, Bool.and_eq_true, decide_eq_true_eq, beq_iff_eq] at ok
    dsimp only [fj_stp] at h
    obtain ⟨hdg, rfl, rfl⟩ := ok
    split at h
    · rename_i x r
      split at h
      · rename_i hi
        cases fj_go_some h
        obtain ⟨lv, hl1, hl2⟩ := hLo
        exact lv_astore hx hb hdg hl1 hi rfl (fun ls' h' => kk ad H locs ls' cells slots hcc hzz had (by simp [hnl]) hW ⟨_, by simp only [List.length_set]; exact h', fj_Lo_set1 (v := .ref x) hi (by simp) (by unfold fj_lv; rw [List.getElem?_set_self hi]) hl2⟩)
      · cases h
    · cases h
  | lstore_n n =>
    simp only [fj_okI, Bool.and_eq_true, decide_eq_true_eq, beq_iff_eq] at ok
    dsimp only [fj_stp] at h
    obtain ⟨hdg, rfl, rfl⟩ := ok
    split at h
    · rename_i x r
      split at h
      · rename_i hi
        cases fj_go_some h
        obtain ⟨lv, hl1, hl2⟩ := hLo
        exact lv_lstore_n hx hb hdg rfl hl1 hi rfl (fun ls' h' => kk ad H locs ls' cells slots hcc hzz had (by simp [hnl]) hW ⟨_, by simp only [List.length_set]; exact h', fj_Lo_set2 hi hl2⟩)
      · cases h
    · cases h
  | lstore n =>
    simp only [fj_okI, Bool.and_eq_true, decide_eq_true_eq, beq_iff_eq] at ok
    dsimp only [fj_stp] at h
    obtain ⟨hdg, rfl, rfl⟩ := ok
    split at h
    · rename_i x r
      split at h
      · rename_i hi
        cases fj_go_some h
        obtain ⟨lv, hl1, hl2⟩ := hLo
        exact lv_lstore hx hb hdg hl1 hi rfl (fun ls' h' => kk ad H locs ls' cells slots hcc hzz had (by simp [hnl]) hW ⟨_, by simp only [List.length_set]; exact h', fj_Lo_set2 hi hl2⟩)
      · cases h
    · cases h
  | iinc n k2 =>
    simp only [fj_okI, Bool.and_eq_true, decide_eq_true_eq, beq_iff_eq] at ok
    dsimp only [fj_stp] at h
    obtain ⟨hdg, rfl, rfl, hk⟩ := ok
    obtain ⟨x, h1, h⟩ := fj_ild_some h
    cases fj_go_some h
    have hi : n < ls.length := (List.getElem?_eq_some_iff.mp h1).1
    obtain ⟨lv, hl1, hl2⟩ := hLo
    have hv : fj_lv b ad ls n = some (.int x) := by unfold fj_lv; rw [h1]
    obtain ⟨j, hj⟩ := List.getElem?_of_mem (hl2 n _ hv)
    exact lv_iinc hx hb hdg hl1 hj (by rw [hk]) hi rfl (fun ls' h' => kk ad H locs ls' cells slots hcc hzz had (by simp [hnl]) hW ⟨_, by simp only [List.length_set]; exact h', fj_Lo_set1 (v := .int (x + Int32.ofInt k)) hi (by simp) (by unfold fj_lv; rw [List.getElem?_set_self hi]) hl2⟩)
  | iadd =>
    simp only [fj_okI, Bool.and_eq_true, decide_eq_true_eq, beq_iff_eq] at ok
    dsimp only [fj_stp] at h
    obtain ⟨hdg, rfl⟩ := ok
    have h9 := fj_p2_some h
    clear h
    obtain ⟨x, y, r, rfl, h⟩ := h9
    try dsimp only at h
    cases fj_go_some h
    exact lv_iadd hx hb hdg (kk ad H locs lsA cells slots hcc hzz had hnl hW hLo)
  | isub =>
    simp only [fj_okI, Bool.and_eq_true, decide_eq_true_eq, beq_iff_eq] at ok
    dsimp only [fj_stp] at h
    obtain ⟨hdg, rfl⟩ := ok
    have h9 := fj_p2_some h
    clear h
    obtain ⟨x, y, r, rfl, h⟩ := h9
    try dsimp only at h
    cases fj_go_some h
    exact lv_isub hx hb hdg (kk ad H locs lsA cells slots hcc hzz had hnl hW hLo)
  | imul =>
    simp only [fj_okI, Bool.and_eq_true, decide_eq_true_eq, beq_iff_eq] at ok
    dsimp only [fj_stp] at h
    obtain ⟨hdg, rfl⟩ := ok
    have h9 := fj_p2_some h
    clear h
    obtain ⟨x, y, r, rfl, h⟩ := h9
    try dsimp only at h
    cases fj_go_some h
    exact lv_imul hx hb hdg (kk ad H locs lsA cells slots hcc hzz had hnl hW hLo)
  | iand =>
    simp only [fj_okI, Bool.and_eq_true, decide_eq_true_eq, beq_iff_eq] at ok
    dsimp only [fj_stp] at h
    obtain ⟨hdg, rfl⟩ := ok
    have h9 := fj_p2_some h
    clear h
    obtain ⟨x, y, r, rfl, h⟩ := h9
    try dsimp only at h
    cases fj_go_some h
    exact lv_iand hx hb hdg (kk ad H locs lsA cells slots hcc hzz had hnl hW hLo)
  | ior =>
    simp only [fj_okI, Bool.and_eq_true, decide_eq_true_eq, beq_iff_eq] at ok
    dsimp only [fj_stp] at h
    obtain ⟨hdg, rfl⟩ := ok
    have h9 := fj_p2_some h
    clear h
    obtain ⟨x, y, r, rfl, h⟩ := h9
    try dsimp only at h
    cases fj_go_some h
    exact lv_ior hx hb hdg (kk ad H locs lsA cells slots hcc hzz had hnl hW hLo)
  | ixor =>
    simp only [fj_okI, Bool.and_eq_true, decide_eq_true_eq, beq_iff_eq] at ok
    dsimp only [fj_stp] at h
    obtain ⟨hdg, rfl⟩ := ok
    have h9 := fj_p2_some h
    clear h
    obtain ⟨x, y, r, rfl, h⟩ := h9
    try dsimp only at h
    cases fj_go_some h
    exact lv_ixor hx hb hdg (kk ad H locs lsA cells slots hcc hzz had hnl hW hLo)
  | ishl =>
    simp only [fj_okI, Bool.and_eq_true, decide_eq_true_eq, beq_iff_eq] at ok
    dsimp only [fj_stp] at h
    obtain ⟨hdg, rfl⟩ := ok
    have h9 := fj_p2_some h
    clear h
    obtain ⟨x, y, r, rfl, h⟩ := h9
    try dsimp only at h
    cases fj_go_some h
    exact lv_ishl hx hb hdg (kk ad H locs lsA cells slots hcc hzz had hnl hW hLo)
  | ishr =>
    simp only [fj_okI, Bool.and_eq_true, decide_eq_true_eq, beq_iff_eq] at ok
    dsimp only [fj_stp] at h
    obtain ⟨hdg, rfl⟩ := ok
    have h9 := fj_p2_some h
    clear h
    obtain ⟨x, y, r, rfl, h⟩ := h9
    try dsimp only at h
    cases fj_go_some h
    exact lv_ishr hx hb hdg (kk ad H locs lsA cells slots hcc hzz had hnl hW hLo)
  | iushr =>
    simp only [fj_okI, Bool.and_eq_true, decide_eq_true_eq, beq_iff_eq] at ok
    dsimp only [fj_stp] at h
    obtain ⟨hdg, rfl⟩ := ok
    have h9 := fj_p2_some h
    clear h
    obtain ⟨x, y, r, rfl, h⟩ := h9
    try dsimp only at h
    cases fj_go_some h
    exact lv_iushr hx hb hdg rfl (kk ad H locs lsA cells slots hcc hzz had hnl hW hLo)
  | idiv =>
    simp only [fj_okI, Bool.and_eq_true, decide_eq_true_eq, beq_iff_eq] at ok
    dsimp only [fj_stp] at h
    obtain ⟨hdg, rfl⟩ := ok
    have h9 := fj_p2_some h
    clear h
    obtain ⟨x, y, r, rfl, h⟩ := h9
    try dsimp only at h
    split at h
    · cases h
    · rename_i hne
      cases fj_go_some h
      exact lv_idiv hx hb hdg hne (kk ad H locs lsA cells slots hcc hzz had hnl hW hLo)
  | irem =>
    simp only [fj_okI, Bool.and_eq_true, decide_eq_true_eq, beq_iff_eq] at ok
    dsimp only [fj_stp] at h
    obtain ⟨hdg, rfl⟩ := ok
    have h9 := fj_p2_some h
    clear h
    obtain ⟨x, y, r, rfl, h⟩ := h9
    try dsimp only at h
    split at h
    · cases h
    · rename_i hne
      cases fj_go_some h
      exact lv_irem hx hb hdg hne (kk ad H locs lsA cells slots hcc hzz had hnl hW hLo)
  | ldiv =>
    simp only [fj_okI, Bool.and_eq_true, decide_eq_true_eq, beq_iff_eq] at ok
    dsimp only [fj_stp] at h
    obtain ⟨hdg, rfl⟩ := ok
    have h9 := fj_q2_some h
    clear h
    obtain ⟨x, y, r, rfl, h⟩ := h9
    try dsimp only at h
    split at h
    · cases h
    · rename_i hne
      cases fj_go_some h
      exact lv_ldiv hx hb hdg hne (kk ad H locs lsA cells slots hcc hzz had hnl hW hLo)
  | lrem =>
    simp only [fj_okI, Bool.and_eq_true, decide_eq_true_eq, beq_iff_eq] at ok
    dsimp only [fj_stp] at h
    obtain ⟨hdg, rfl⟩ := ok
    have h9 := fj_q2_some h
    clear h
    obtain ⟨x, y, r, rfl, h⟩ := h9
    try dsimp only at h
    split at h
    · cases h
    · rename_i hne
      cases fj_go_some h
      exact lv_lrem hx hb hdg hne (kk ad H locs lsA cells slots hcc hzz had hnl hW hLo)
  | ineg =>
    simp only [fj_okI, Bool.and_eq_true, decide_eq_true_eq, beq_iff_eq] at ok
    dsimp only [fj_stp] at h
    obtain ⟨hdg, rfl⟩ := ok
    have h9 := fj_p1_some h
    clear h
    obtain ⟨x, r, rfl, h⟩ := h9
    try dsimp only at h
    cases fj_go_some h
    exact lv_ineg hx hb hdg (kk ad H locs lsA cells slots hcc hzz had hnl hW hLo)
  | i2l =>
    simp only [fj_okI, Bool.and_eq_true, decide_eq_true_eq, beq_iff_eq] at ok
    dsimp only [fj_stp] at h
    obtain ⟨hdg, rfl⟩ := ok
    have h9 := fj_p1_some h
    clear h
    obtain ⟨x, r, rfl, h⟩ := h9
    try dsimp only at h
    cases fj_go_some h
    exact lv_i2l hx hb hdg rfl (kk ad H locs lsA cells slots hcc hzz had hnl hW hLo)
  | i2b =>
    simp only [fj_okI, Bool.and_eq_true, decide_eq_true_eq, beq_iff_eq] at ok
    dsimp only [fj_stp] at h
    obtain ⟨hdg, rfl⟩ := ok
    have h9 := fj_p1_some h
    clear h
    obtain ⟨x, r, rfl, h⟩ := h9
    try dsimp only at h
    cases fj_go_some h
    exact lv_i2b hx hb hdg rfl (kk ad H locs lsA cells slots hcc hzz had hnl hW hLo)
  | i2s =>
    simp only [fj_okI, Bool.and_eq_true, decide_eq_true_eq, beq_iff_eq] at ok
    dsimp only [fj_stp] at h
    obtain ⟨hdg, rfl⟩ := ok
    have h9 := fj_p1_some h
    clear h
    obtain ⟨x, r, rfl, h⟩ := h9
    try dsimp only at h
    cases fj_go_some h
    exact lv_i2s hx hb hdg rfl (kk ad H locs lsA cells slots hcc hzz had hnl hW hLo)
  | ladd =>
    simp only [fj_okI, Bool.and_eq_true, decide_eq_true_eq, beq_iff_eq] at ok
    dsimp only [fj_stp] at h
    obtain ⟨hdg, rfl⟩ := ok
    have h9 := fj_q2_some h
    clear h
    obtain ⟨x, y, r, rfl, h⟩ := h9
    try dsimp only at h
    cases fj_go_some h
    exact lv_ladd hx hb hdg (kk ad H locs lsA cells slots hcc hzz had hnl hW hLo)
  | lsub =>
    simp only [fj_okI, Bool.and_eq_true, decide_eq_true_eq, beq_iff_eq] at ok
    dsimp only [fj_stp] at h
    obtain ⟨hdg, rfl⟩ := ok
    have h9 := fj_q2_some h
    clear h
    obtain ⟨x, y, r, rfl, h⟩ := h9
    try dsimp only at h
    cases fj_go_some h
    exact lv_lsub hx hb hdg (kk ad H locs lsA cells slots hcc hzz had hnl hW hLo)
  | lcmp =>
    simp only [fj_okI, Bool.and_eq_true, decide_eq_true_eq, beq_iff_eq] at ok
    dsimp only [fj_stp] at h
    obtain ⟨hdg, rfl⟩ := ok
    have h9 := fj_q2_some h
    clear h
    obtain ⟨x, y, r, rfl, h⟩ := h9
    try dsimp only at h
    cases fj_go_some h
    exact W.lcmp hx hb hdg (kk ad H locs lsA cells slots hcc hzz had hnl hW hLo)
  | lshl =>
    simp only [fj_okI, Bool.and_eq_true, decide_eq_true_eq, beq_iff_eq] at ok
    dsimp only [fj_stp] at h
    obtain ⟨hdg, rfl⟩ := ok
    split at h
    · cases fj_go_some h
      exact lv_lshl hx hb hdg rfl (kk ad H locs lsA cells slots hcc hzz had hnl hW hLo)
    · cases h
  | dup =>
    simp only [fj_okI, Bool.and_eq_true, decide_eq_true_eq, beq_iff_eq] at ok
    dsimp only [fj_stp] at h
    obtain ⟨hdg, rfl⟩ := ok
    split at h
    · cases fj_go_some h
      exact lv_dup hx hb hdg rfl (kk ad H locs lsA cells slots hcc hzz had hnl hW hLo)
    · cases fj_go_some h
      exact lv_dup hx hb hdg rfl (kk ad H locs lsA cells slots hcc hzz had hnl hW hLo)
    · cases h
  | ifCond cnd off =>
    cases cnd with
    | eq =>
      simp only [fj_okI, Bool.and_eq_true, decide_eq_true_eq, beq_iff_eq] at ok
      dsimp only [fj_stp] at h
      obtain ⟨hdg, rfl, ho⟩ := ok
      have h9 := fj_p1_some h
      clear h
      obtain ⟨x, r, rfl, h⟩ := h9
      try dsimp only at h
      refine lv_if_eq hx hb hdg ho (fun hc => ?_) (fun hc => ?_)
      · rw [if_pos hc] at h
        cases fj_go_some h
        exact (kk ad H locs lsA cells slots hcc hzz had hnl hW hLo)
      · rw [if_neg hc] at h
        cases fj_go_some h
        exact (kk ad H locs lsA cells slots hcc hzz had hnl hW hLo)
    | ne =>
      simp only [fj_okI, Bool.and_eq_true, decide_eq_true_eq, beq_iff_eq] at ok
      dsimp only [fj_stp] at h
      obtain ⟨hdg, rfl, ho⟩ := ok
      have h9 := fj_p1_some h
      clear h
      obtain ⟨x, r, rfl, h⟩ := h9
      try dsimp only at h
      refine lv_if_ne hx hb hdg ho (fun hc => ?_) (fun hc => ?_)
      · rw [if_pos hc] at h
        cases fj_go_some h
        exact (kk ad H locs lsA cells slots hcc hzz had hnl hW hLo)
      · rw [if_neg (fun q => q hc)] at h
        cases fj_go_some h
        exact (kk ad H locs lsA cells slots hcc hzz had hnl hW hLo)
    | lt =>
      simp only [fj_okI, Bool.and_eq_true, decide_eq_true_eq, beq_iff_eq] at ok
      dsimp only [fj_stp] at h
      obtain ⟨hdg, rfl, ho⟩ := ok
      have h9 := fj_p1_some h
      clear h
      obtain ⟨x, r, rfl, h⟩ := h9
      try dsimp only at h
      refine lv_if_lt hx hb hdg ho (fun hc => ?_) (fun hc => ?_)
      · rw [if_pos hc] at h
        cases fj_go_some h
        exact (kk ad H locs lsA cells slots hcc hzz had hnl hW hLo)
      · rw [if_neg hc] at h
        cases fj_go_some h
        exact (kk ad H locs lsA cells slots hcc hzz had hnl hW hLo)
    | ge =>
      simp only [fj_okI, Bool.and_eq_true, decide_eq_true_eq, beq_iff_eq] at ok
      dsimp only [fj_stp] at h
      obtain ⟨hdg, rfl, ho⟩ := ok
      have h9 := fj_p1_some h
      clear h
      obtain ⟨x, r, rfl, h⟩ := h9
      try dsimp only at h
      refine lv_if_ge hx hb hdg ho (fun hc => ?_) (fun hc => ?_)
      · rw [if_pos hc] at h
        cases fj_go_some h
        exact (kk ad H locs lsA cells slots hcc hzz had hnl hW hLo)
      · rw [if_neg hc] at h
        cases fj_go_some h
        exact (kk ad H locs lsA cells slots hcc hzz had hnl hW hLo)
    | gt =>
      simp only [fj_okI, Bool.and_eq_true, decide_eq_true_eq, beq_iff_eq] at ok
      dsimp only [fj_stp] at h
      obtain ⟨hdg, rfl, ho⟩ := ok
      have h9 := fj_p1_some h
      clear h
      obtain ⟨x, r, rfl, h⟩ := h9
      try dsimp only at h
      refine lv_if_gt hx hb hdg ho (fun hc => ?_) (fun hc => ?_)
      · rw [if_pos hc] at h
        cases fj_go_some h
        exact (kk ad H locs lsA cells slots hcc hzz had hnl hW hLo)
      · rw [if_neg hc] at h
        cases fj_go_some h
        exact (kk ad H locs lsA cells slots hcc hzz had hnl hW hLo)
    | le =>
      simp only [fj_okI, Bool.and_eq_true, decide_eq_true_eq, beq_iff_eq] at ok
      dsimp only [fj_stp] at h
      obtain ⟨hdg, rfl, ho⟩ := ok
      have h9 := fj_p1_some h
      clear h
      obtain ⟨x, r, rfl, h⟩ := h9
      try dsimp only at h
      refine lv_if_le hx hb hdg ho (fun hc => ?_) (fun hc => ?_)
      · rw [if_pos hc] at h
        cases fj_go_some h
        exact (kk ad H locs lsA cells slots hcc hzz had hnl hW hLo)
      · rw [if_neg hc] at h
        cases fj_go_some h
        exact (kk ad H locs lsA cells slots hcc hzz had hnl hW hLo)
  | if_icmp cnd off =>
    cases cnd with
    | eq =>
      simp only [fj_okI, Bool.and_eq_true, decide_eq_true_eq, beq_iff_eq] at ok
      dsimp only [fj_stp] at h
      obtain ⟨hdg, rfl, ho⟩ := ok
      have h9 := fj_p2_some h
      clear h
      obtain ⟨x, y, r, rfl, h⟩ := h9
      try dsimp only at h
      refine lv_icmp_eq hx hb hdg ho (fun hc => ?_) (fun hc => ?_)
      · rw [if_pos hc] at h
        cases fj_go_some h
        exact (kk ad H locs lsA cells slots hcc hzz had hnl hW hLo)
      · rw [if_neg hc] at h
        cases fj_go_some h
        exact (kk ad H locs lsA cells slots hcc hzz had hnl hW hLo)
    | ne =>
      simp only [fj_okI, Bool.and_eq_true, decide_eq_true_eq, beq_iff_eq] at ok
      dsimp only [fj_stp] at h
      obtain ⟨hdg, rfl, ho⟩ := ok
      have h9 := fj_p2_some h
      clear h
      obtain ⟨x, y, r, rfl, h⟩ := h9
      try dsimp only at h
      refine lv_icmp_ne hx hb hdg ho (fun hc => ?_) (fun hc => ?_)
      · rw [if_pos hc] at h
        cases fj_go_some h
        exact (kk ad H locs lsA cells slots hcc hzz had hnl hW hLo)
      · rw [if_neg (fun q => q hc)] at h
        cases fj_go_some h
        exact (kk ad H locs lsA cells slots hcc hzz had hnl hW hLo)
    | lt =>
      simp only [fj_okI, Bool.and_eq_true, decide_eq_true_eq, beq_iff_eq] at ok
      dsimp only [fj_stp] at h
      obtain ⟨hdg, rfl, ho⟩ := ok
      have h9 := fj_p2_some h
      clear h
      obtain ⟨x, y, r, rfl, h⟩ := h9
      try dsimp only at h
      refine lv_icmp_lt hx hb hdg ho (fun hc => ?_) (fun hc => ?_)
      · rw [if_pos hc] at h
        cases fj_go_some h
        exact (kk ad H locs lsA cells slots hcc hzz had hnl hW hLo)
      · rw [if_neg hc] at h
        cases fj_go_some h
        exact (kk ad H locs lsA cells slots hcc hzz had hnl hW hLo)
    | ge =>
      simp only [fj_okI, Bool.and_eq_true, decide_eq_true_eq, beq_iff_eq] at ok
      dsimp only [fj_stp] at h
      obtain ⟨hdg, rfl, ho⟩ := ok
      have h9 := fj_p2_some h
      clear h
      obtain ⟨x, y, r, rfl, h⟩ := h9
      try dsimp only at h
      refine lv_icmp_ge hx hb hdg ho (fun hc => ?_) (fun hc => ?_)
      · rw [if_pos hc] at h
        cases fj_go_some h
        exact (kk ad H locs lsA cells slots hcc hzz had hnl hW hLo)
      · rw [if_neg hc] at h
        cases fj_go_some h
        exact (kk ad H locs lsA cells slots hcc hzz had hnl hW hLo)
    | gt =>
      simp only [fj_okI, Bool.and_eq_true, decide_eq_true_eq, beq_iff_eq] at ok
      dsimp only [fj_stp] at h
      obtain ⟨hdg, rfl, ho⟩ := ok
      have h9 := fj_p2_some h
      clear h
      obtain ⟨x, y, r, rfl, h⟩ := h9
      try dsimp only at h
      refine lv_icmp_gt hx hb hdg ho (fun hc => ?_) (fun hc => ?_)
      · rw [if_pos hc] at h
        cases fj_go_some h
        exact (kk ad H locs lsA cells slots hcc hzz had hnl hW hLo)
      · rw [if_neg hc] at h
        cases fj_go_some h
        exact (kk ad H locs lsA cells slots hcc hzz had hnl hW hLo)
    | le =>
      simp only [fj_okI, Bool.and_eq_true, decide_eq_true_eq, beq_iff_eq] at ok
      dsimp only [fj_stp] at h
      obtain ⟨hdg, rfl, ho⟩ := ok
      have h9 := fj_p2_some h
      clear h
      obtain ⟨x, y, r, rfl, h⟩ := h9
      try dsimp only at h
      refine lv_icmp_le hx hb hdg ho (fun hc => ?_) (fun hc => ?_)
      · rw [if_pos hc] at h
        cases fj_go_some h
        exact (kk ad H locs lsA cells slots hcc hzz had hnl hW hLo)
      · rw [if_neg hc] at h
        cases fj_go_some h
        exact (kk ad H locs lsA cells slots hcc hzz had hnl hW hLo)
  | goto off =>
    simp only [fj_okI, Bool.and_eq_true, decide_eq_true_eq, beq_iff_eq] at ok
    dsimp only [fj_stp] at h
    obtain ⟨hdg, rfl, ho⟩ := ok
    cases fj_go_some h
    exact lv_goto hx hb hdg ho (kk ad H locs lsA cells slots hcc hzz had hnl hW hLo)
  | tableswitch d lo hi offs =>
    simp only [fj_okI, Bool.and_eq_true, decide_eq_true_eq, beq_iff_eq] at ok
    dsimp only [fj_stp] at h
    obtain ⟨hdg, -⟩ := ok
    have h9 := fj_p1_some h
    clear h
    obtain ⟨x, r, rfl, h⟩ := h9
    try dsimp only at h
    dsimp only [fj_sw] at h
    split at h
    · rename_i ho
      split at h
      · rename_i hp
        cases fj_go_some h
        exact lv_tableOut hx hb hdg ho (Int.toNat_of_nonneg hp).symm (kk ad H locs lsA cells slots hcc hzz had hnl hW hLo)
      · cases h
    · rename_i ho
      split at h
      · rename_i o hoo
        split at h
        · rename_i hp
          cases fj_go_some h
          exact lv_tableIn hx hb hdg (fun q => ho (Or.inl q)) (fun q => ho (Or.inr q)) hoo (Int.toNat_of_nonneg hp).symm (kk ad H locs lsA cells slots hcc hzz had hnl hW hLo)
        · cases h
      · cases h
  | lookupswitch d ps =>
    simp only [fj_okI, Bool.and_eq_true, decide_eq_true_eq, beq_iff_eq] at ok
    dsimp only [fj_stp] at h
    obtain ⟨hdg, hso⟩ := ok
    have h9 := fj_p1_some h
    clear h
    obtain ⟨x, r, rfl, h⟩ := h9
    try dsimp only at h
    dsimp only [fj_sw] at h
    split at h
    · rename_i hp
      cases fj_go_some h
      exact lv_lookup hx hb hdg hso rfl (Int.toNat_of_nonneg hp).symm (kk ad H locs lsA cells slots hcc hzz had hnl hW hLo)
    · cases h
  | getfield i =>
    simp only [fj_okI, Bool.and_eq_true, decide_eq_true_eq, beq_iff_eq] at ok
    dsimp only [fj_stp] at h
    obtain ⟨hdg, rfl, hok⟩ := ok
    cases hq : fj_cl[a]? with
    | none => rw [hq] at hok; exact absurd hok (by simp)
    | some q' =>
      rw [hq] at hok
      simp only [Bool.and_eq_true, decide_eq_true_eq] at hok
      obtain ⟨hkN, hlink⟩ := hok
      obtain ⟨hN', hin, hdecl, hnm, ty, hty, hrf⟩ := fj_cls hq
      split at h
      · rename_i o r
        obtain ⟨hob, h⟩ := fj_if_some h
        cases fj_go_some h
        have hv : (fj_xf ad M P o a)[bb]? = some (fj_xv b ad (if fj_isR a bb = true then fj_rv (P o bb) else .int (M o bb))) := by
          rw [fj_xf_get (by rw [← hN']; exact hkN)]
          by_cases hr : fj_isR a bb = true
          · rw [if_pos hr, if_pos hr]
            cases P o bb <;> rfl
          · rw [if_neg hr, if_neg hr]
            rfl
        exact va_get (D := D) (ci := a) (C := q'.1) (T := q'.2.1) (N := q'.2.2) hx hb hts hin hown hK hP o (by rw [fj_wl_get (by rw [hadl]; exact hob.1), fj_xc_obj hob.2]) hq bb hkN (hts _ (fj_wd_ok hlink)) (fun x hx => by rw [← hdecl bb hkN]; exact hx) hv hdg (kk ad H locs lsA cells slots hcc hzz had hnl hW hLo)
      · cases h
  | putfield i =>
    simp only [fj_okI, Bool.and_eq_true, decide_eq_true_eq, beq_iff_eq] at ok
    dsimp only [fj_stp] at h
    obtain ⟨hdg, rfl, hok⟩ := ok
    cases hq : fj_cl[a]? with
    | none => rw [hq] at hok; exact absurd hok (by simp)
    | some q' =>
      rw [hq] at hok
      simp only [Bool.and_eq_true, decide_eq_true_eq] at hok
      obtain ⟨hkN, hlink, hf⟩ := hok
      obtain ⟨hN', hin, hdecl, hnm, ty, hty, hrf⟩ := fj_cls hq
      have hkF : bb < fj_nF a := by rw [← hN']; exact hkN
      split at h
      · rename_i v o r
        obtain ⟨⟨hob, hr⟩, h⟩ := fj_if_some h
        cases fj_go_some h
        have ht : ty bb = .int := (hrf bb hkN).2 hr
        have hset := fj_wl_set (cI := cI) (cZ := cZ) (ad := ad) (M := M) (M' := fj_up M o bb v) (P := P) (P' := P) (o := o) (e := .inr (a, (fj_xf ad M P o a).set bb (.int v))) (fun q hq => fj_up_ne q hq) (fun q hq => rfl) (by rw [fj_xc_obj hob.2, fj_xf_up hkF hr])
        have kk2 : ∀ (H1 : Heap) (locs1 : List Loc), va_P D fj_cl ((fj_wl cI cZ ad M P).set o (ad.getD o 0, .inr (a, (fj_xf ad M P o a).set bb (.int v)))) H1 → va_D A ((fj_wl cI cZ ad M P).set o (ad.getD o 0, .inr (a, (fj_xf ad M P o a).set bb (.int v)))) → va_S A H0 H1 locs1 → W p l e R s m args below meth cd H1 locs1 cells slots Q (F0 m (pc + 3) lsA (r.map (fj_xv b ad))) := fun H1 locs1 q1 q2 q3 => kk ad H1 locs1 lsA cells slots hcc hzz had hnl ⟨hadl, by rw [← hset]; exact q1, hK, by rw [← hset]; exact q2, q3, hA, hPc⟩ hLo
        by_cases hfin : (q'.2.1 bb).2.2.2 = true
        · rw [hfin] at hf
          simp only [Bool.not_true, Bool.false_or, Bool.and_eq_true, decide_eq_true_eq] at hf
          exact va_putF (D := D) (ci := a) (C := q'.1) (T := q'.2.1) (N := q'.2.2) hx hb hts hin ty hty hnm hown hK hP hD hS o (by rw [fj_wl_get (by rw [hadl]; exact hob.1), fj_xc_obj hob.2]) hq bb hkN (hts _ (fj_wd_ok hlink)) (fun x hx => by rw [← hdecl bb hkN]; exact hx) hfin (hini hf.1) (by rw [hdecl bb hkN]; exact hf.2) (hty bb hkN) (by rw [ht]; rfl) (by rw [ht]; rfl) (by simp [fj_xf]; omega) hdg kk2
        · exact va_put (D := D) (ci := a) (C := q'.1) (T := q'.2.1) (N := q'.2.2) hx hb hts hin ty hty hnm hown hK hP hD hS o (by rw [fj_wl_get (by rw [hadl]; exact hob.1), fj_xc_obj hob.2]) hq bb hkN (hts _ (fj_wd_ok hlink)) (fun x hx => by rw [← hdecl bb hkN]; exact hx) (by simpa using hfin) (hty bb hkN) (by rw [ht]; rfl) (by rw [ht]; rfl) (by simp [fj_xf]; omega) hdg kk2
      · rename_i w o r
        obtain ⟨⟨hob, hr, hwc⟩, h⟩ := fj_if_some h
        cases fj_go_some h
        have ht : narrow (ty bb) (.ref (ad.getD w 0)) = .ref (ad.getD w 0) ∧ fits (ty bb) (.ref (ad.getD w 0)) = true := by
          rcases (hrf bb hkN).1 hr with ⟨n, hn⟩ | ⟨n, hn⟩ <;> rw [hn] <;> exact ⟨rfl, rfl⟩
        have hset := fj_wl_set (cI := cI) (cZ := cZ) (ad := ad) (M := M) (M' := M) (P := P) (P' := fj_uP P o bb (w + 1)) (o := o) (e := .inr (a, (fj_xf ad M P o a).set bb (.ref (ad.getD w 0)))) (fun q hq => rfl) (fun q hq => fj_uP_ne q hq) (by rw [fj_xc_obj hob.2]; exact congrArg (fun z => Sum.inr (a, z)) (fj_xf_uP hkF hr))
        have kk2 : ∀ (H1 : Heap) (locs1 : List Loc), va_P D fj_cl ((fj_wl cI cZ ad M P).set o (ad.getD o 0, .inr (a, (fj_xf ad M P o a).set bb (.ref (ad.getD w 0))))) H1 → va_D A ((fj_wl cI cZ ad M P).set o (ad.getD o 0, .inr (a, (fj_xf ad M P o a).set bb (.ref (ad.getD w 0))))) → va_S A H0 H1 locs1 → W p l e R s m args below meth cd H1 locs1 cells slots Q (F0 m (pc + 3) lsA (r.map (fj_xv b ad))) := fun H1 locs1 q1 q2 q3 => kk ad H1 locs1 lsA cells slots hcc hzz had hnl ⟨hadl, by rw [← hset]; exact q1, hK, by rw [← hset]; exact q2, q3, hA, fj_uP_le hPc hwc⟩ hLo
        by_cases hfin : (q'.2.1 bb).2.2.2 = true
        · rw [hfin] at hf
          simp only [Bool.not_true, Bool.false_or, Bool.and_eq_true, decide_eq_true_eq] at hf
          exact va_putF (D := D) (ci := a) (C := q'.1) (T := q'.2.1) (N := q'.2.2) hx hb hts hin ty hty hnm hown hK hP hD hS o (by rw [fj_wl_get (by rw [hadl]; exact hob.1), fj_xc_obj hob.2]) hq bb hkN (hts _ (fj_wd_ok hlink)) (fun x hx => by rw [← hdecl bb hkN]; exact hx) hfin (hini hf.1) (by rw [hdecl bb hkN]; exact hf.2) (hty bb hkN) ht.1 ht.2 (by simp [fj_xf]; omega) hdg kk2
        · exact va_put (D := D) (ci := a) (C := q'.1) (T := q'.2.1) (N := q'.2.2) hx hb hts hin ty hty hnm hown hK hP hD hS o (by rw [fj_wl_get (by rw [hadl]; exact hob.1), fj_xc_obj hob.2]) hq bb hkN (hts _ (fj_wd_ok hlink)) (fun x hx => by rw [← hdecl bb hkN]; exact hx) (by simpa using hfin) (hty bb hkN) ht.1 ht.2 (by simp [fj_xf]; omega) hdg kk2
      · cases h
  | iaload =>
    simp only [fj_okI, Bool.and_eq_true, decide_eq_true_eq, beq_iff_eq] at ok
    dsimp only [fj_stp] at h
    obtain ⟨hdg, rfl⟩ := ok
    split at h
    · rename_i j o r
      obtain ⟨⟨hoc, hsh, hin⟩, h⟩ := fj_if_some h
      cases fj_go_some h
      exact va_iald (D := D) hx hb hK hP o 0 (by rw [fj_wl_get (by rw [hadl]; exact hoc), fj_xc_int hsh]) rfl hin hdg (kk ad H locs lsA cells slots hcc hzz had hnl hW hLo)
    · rename_i j f r
      cases sc with
      | none => cases h
      | some q0 =>
        obtain ⟨hin, h⟩ := fj_if_some h
        cases fj_go_some h
        exact va_sld hx hb hX.1 hX.2.1 hX.2.2 hS hin hdg (kk ad H locs lsA cells slots hcc hzz had hnl hW hLo)
    · cases h
  | baload =>
    simp only [fj_okI, Bool.and_eq_true, decide_eq_true_eq, beq_iff_eq] at ok
    dsimp only [fj_stp] at h
    obtain ⟨hdg, rfl⟩ := ok
    split at h
    · rename_i j o r
      obtain ⟨⟨hoc, hsh, hin⟩, h⟩ := fj_if_some h
      cases fj_go_some h
      exact va_zald (D := D) hx hb hK hP o 1 (by rw [fj_wl_get (by rw [hadl]; exact hoc), fj_xc_bool hsh]) rfl hin hdg (kk ad H locs lsA cells slots hcc hzz had hnl hW hLo)
    · cases h
  | iastore =>
    simp only [fj_okI, Bool.and_eq_true, decide_eq_true_eq, beq_iff_eq] at ok
    dsimp only [fj_stp] at h
    obtain ⟨hdg, rfl⟩ := ok
    split at h
    · rename_i v j o r
      obtain ⟨⟨hoc, hsh, hin⟩, h⟩ := fj_if_some h
      cases fj_go_some h
      have hset := fj_wl_set (cI := cI) (cZ := cZ) (ad := ad) (M := M) (M' := fj_up M o j.toNatClampNeg v) (P := P) (P' := P) (o := o) (e := .inl (cI, (fj_sh o).2, .inl (upd (M o) j.toNatClampNeg v))) (fun q hq => fj_up_ne q hq) (fun q hq => rfl) (by rw [fj_xc_int hsh, fj_up_self])
      exact va_iast (D := D) hx hb hK hP hD hS o 0 (by rw [fj_wl_get (by rw [hadl]; exact hoc), fj_xc_int hsh]) rfl hin hdg (fun H1 locs1 q1 q2 q3 => kk ad H1 locs1 lsA cells slots hcc hzz had hnl ⟨hadl, by rw [← hset]; exact q1, hK, by rw [← hset]; exact q2, q3, hA, hPc⟩ hLo)
    · cases h
  | bastore =>
    simp only [fj_okI, Bool.and_eq_true, decide_eq_true_eq, beq_iff_eq] at ok
    dsimp only [fj_stp] at h
    obtain ⟨hdg, rfl⟩ := ok
    split at h
    · rename_i v j o r
      obtain ⟨⟨⟨hoc, hsh, hin⟩, hv⟩, h⟩ := fj_if_some h
      cases fj_go_some h
      have hnv : vp_nar .boolean v = v := by rcases hv with rfl | rfl <;> rfl
      have hset := fj_wl_set (cI := cI) (cZ := cZ) (ad := ad) (M := M) (M' := fj_up M o j.toNatClampNeg v) (P := P) (P' := P) (o := o) (e := .inl (cZ, (fj_sh o).2, .inl (upd (M o) j.toNatClampNeg v))) (fun q hq => fj_up_ne q hq) (fun q hq => rfl) (by rw [fj_xc_bool hsh, fj_up_self])
      exact va_zast (D := D) hx hb hK hP hD hS o 1 (by rw [fj_wl_get (by rw [hadl]; exact hoc), fj_xc_bool hsh]) rfl hin hdg (fun H1 locs1 q1 q2 q3 => by
        rw [hnv, hset] at q1 q2
        exact kk ad H1 locs1 lsA cells slots hcc hzz had hnl ⟨hadl, q1, hK, q2, q3, hA, hPc⟩ hLo)
    · cases h
  | arraylength =>
    simp only [fj_okI, Bool.and_eq_true, decide_eq_true_eq, beq_iff_eq] at ok
    dsimp only [fj_stp] at h
    obtain ⟨hdg, rfl⟩ := ok
    split at h
    · rename_i o r
      obtain ⟨⟨hoc, hsh⟩, h⟩ := fj_if_some h
      cases fj_go_some h
      exact va_alen (D := D) (x := ((fj_sh o).2, .inl (M o))) hx hb hK hP o 0 (by rw [fj_wl_get (by rw [hadl]; exact hoc), fj_xc_int hsh]) rfl rfl hdg (kk ad H locs lsA cells slots hcc hzz had hnl hW hLo)
    · rename_i f r
      cases sc with
      | none => cases h
      | some q0 =>
        cases fj_go_some h
        exact va_slen hx hb hX.1 hX.2.1 hX.2.2 hS hdg (kk ad H locs lsA cells slots hcc hzz had hnl hW hLo)
    · cases h
  | new i =>
    simp only [fj_okI, Bool.and_eq_true, decide_eq_true_eq, beq_iff_eq] at ok
    dsimp only [fj_stp] at h
    obtain ⟨hdg, rfl, hok⟩ := ok
    cases hq : fj_cl[a]? with
    | none => rw [hq] at hok; exact absurd hok (by simp)
    | some q' =>
      rw [hq] at hok
      simp only [Bool.and_eq_true] at hok
      obtain ⟨hw1, hw2, hw3⟩ := hok
      obtain ⟨hN', hin, hdecl, hnm, ty, hty, hrf⟩ := fj_cls hq
      obtain ⟨⟨hsh, hokl⟩, h⟩ := fj_if_some h
      cases fj_go_some h
      refine va_new (D := D) (ci := a) (C := q'.1) (T := q'.2.1) (N := q'.2.2) (fs := fj_xf [] (fun _ _ => 0) (fun _ _ => 0) c a) hx hb hts hin ty hty hown (hts _ (fj_wd_ok hw1)) (hts _ (fj_wd_ok hw2)) (hts _ (fj_wd_ok hw3)) hK hP hD hS hA hq ?_ (by simp only at hcR'; omega) (by simp only at hzR'; omega) hdg ?_
      · intro j hj
        unfold vp_V
        rw [List.getD_eq_getElem?_getD, fj_xf_get (by rw [← hN']; exact hj)]
        by_cases hr : fj_isR a j = true
        · rw [if_pos hr]
          rcases (hrf j hj).1 hr with ⟨n, hn⟩ | ⟨n, hn⟩ <;> rw [hn] <;> rfl
        · rw [if_neg hr, (hrf j hj).2 (by simpa using hr)]
          rfl
      · intro q1 H1 hP1 hD1 hS1
        have e1 : fj_wl cI cZ ad M P ++ [(q1, .inr (a, fj_xf [] (fun _ _ => 0) (fun _ _ => 0) c a))] = fj_wl cI cZ (ad ++ [q1]) (fj_ze M c) (fj_zP P c) := by
          refine fj_wl_push (fun o ho => ?_) (fun o ho => ?_) (by rw [hadl]; exact hPc) ?_
          · funext j; simp [fj_ze]; omega
          · funext j; simp [fj_zP]; omega
          · rw [hadl, fj_xc_obj hsh]
            unfold fj_xf
            simp only [fj_ze, fj_zP, if_true]
            congr 2
        rw [e1] at hP1 hD1
        have e2 : fj_xv b (ad ++ [q1]) (.ref c) = .ref q1 := by
          simp only [fj_xv, List.getD_eq_getElem?_getD]
          rw [List.getElem?_append_right (by omega), hadl]
          simp
        have e3 : st.map (fj_xv b (ad ++ [q1])) = st.map (fj_xv b ad) := fj_map_ext (by rw [hadl]; exact hokl.2)
        have K1 := kk (ad ++ [q1]) H1 locs lsA (cells + 1) (slots + q'.2.2) (by simp only; omega) (by simp only; rw [hN']; omega) (had.trans (List.prefix_append _ _)) hnl ⟨by simp [hadl], hP1, hK, hD1, hS1, hA, fj_zP_le hPc⟩ (fj_Lo_ext (by rw [hadl]; exact hokl.1) hLo)
        rw [List.map_cons, e2, e3] at K1
        exact K1
  | newarray t =>
    simp only [fj_okI, Bool.and_eq_true, decide_eq_true_eq, beq_iff_eq] at ok
    dsimp only [fj_stp] at h
    obtain ⟨hdg, rfl, hw, hat⟩ := ok
    simp only [Bool.or_eq_true, Bool.and_eq_true, decide_eq_true_eq, beq_iff_eq] at hat
    have h9 := fj_p1_some h
    clear h
    obtain ⟨n, r, rfl, h⟩ := h9
    try dsimp only at h
    obtain ⟨⟨hsh, hn0, hokl⟩, h⟩ := fj_if_some h
    cases fj_go_some h
    have hnn : ¬ n < 0 := Int32.not_lt.mpr hn0
    have key : ∀ (ty : FieldType) (hty : newarray.typeOf t = ty) (cT : ClassId), (∀ cA : ClassId, vp_cell cA (n.toNatClampNeg, .inl fun _ => (0 : Int32)) = arrV cA n.toNatClampNeg (fun _ => defaultValue ty)) → n.toNatClampNeg * componentBytes ty ≤ 536870912 → (∀ cA, va_K D fj_cl ([(cI, .int), (cZ, .boolean)] ++ [(cA, ty)]) s → cA = cT) → fj_xc cI cZ (ad ++ [0]) (fj_ze M c) P c = .inl (cT, n.toNatClampNeg, .inl fun _ => 0) → W p l e R s m args below meth cd H locs cells slots Q (F0 m pc lsA (.int n :: r.map (fj_xv b ad))) := by
      intro ty hty cT h1 h2 h3 h4
      refine va_newa (D := D) (a0 := (n.toNatClampNeg, .inl fun _ => (0 : Int32))) hx hb (hts _ (fj_wd_ok hw)) hty hK hP hD hS hA h1 hnn rfl h2 (by simp only at hcR'; omega) (by simp only at hzR'; omega) hdg ?_
      intro q1 cA H1 hK1 hP1 hD1 hS1
      cases h3 cA hK1
      have e1 : fj_wl cI cZ ad M P ++ [(q1, .inl (cT, n.toNatClampNeg, .inl fun _ => 0))] = fj_wl cI cZ (ad ++ [q1]) (fj_ze M c) P := by
        refine fj_wl_push (fun o ho => ?_) (fun o ho => rfl) (by rw [hadl]; exact hPc) ?_
        · funext j; simp [fj_ze]; omega
        · rw [hadl, ← h4]
          unfold fj_xc
          rw [hsh]
          rcases hat with ⟨rfl, -⟩ | ⟨rfl, -⟩ <;> rfl
      rw [e1] at hP1 hD1
      have e2 : fj_xv b (ad ++ [q1]) (.ref c) = .ref q1 := by
        simp only [fj_xv, List.getD_eq_getElem?_getD]
        rw [List.getElem?_append_right (by omega), hadl]
        simp
      have e3 : r.map (fj_xv b (ad ++ [q1])) = r.map (fj_xv b ad) := fj_map_ext (by rw [hadl]; exact hokl.2)
      have K1 := kk (ad ++ [q1]) H1 locs lsA (cells + 1) (slots + n.toNatClampNeg) (by simp only; omega) (by simp only; omega) (had.trans (List.prefix_append _ _)) hnl ⟨by simp [hadl], hP1, hK, hD1, hS1, hA, fun o k => Nat.le_succ_of_le (hPc o k)⟩ (fj_Lo_ext (by rw [hadl]; exact hokl.1) hLo)
      rw [List.map_cons, e2, e3] at K1
      exact K1
    have hsmall : ∀ o, (fj_sh o).2 ≤ 5000 := by
      intro o
      unfold fj_sh
      rw [List.getD_eq_getElem?_getD]
      cases ho : fj_shl[o]? with
      | none => simp
      | some q2 => exact List.all_eq_true.mp (show fj_shl.all (fun q => q.2 ≤ 5000) = true from by decide) q2 (List.mem_of_getElem? ho) |> fun h => by simpa using h
    have hn5 : n.toNatClampNeg ≤ 5000 := by have := hsmall c; rw [hsh] at this; exact this
    rcases hat with ⟨rfl, rfl⟩ | ⟨rfl, rfl⟩
    · exact key .int rfl cI (fun cA => rfl) (by simp [componentBytes]; omega) (fun cA hK1 => by
        have g1 := (hK1.2 2 (cA, .int) rfl).2
        have g2 := (hK.2 0 (cI, .int) rfl).2
        exact Option.some.inj (g1.symm.trans g2)) (by rw [fj_xc_int (by rw [hsh]), hsh, fj_ze_self])
    · exact key .boolean rfl cZ (fun cA => rfl) (by simp [componentBytes]; omega) (fun cA hK1 => by
        have g1 := (hK1.2 2 (cA, .boolean) rfl).2
        have g2 := (hK.2 1 (cZ, .boolean) rfl).2
        exact Option.some.inj (g1.symm.trans g2)) (by rw [fj_xc_bool (by rw [hsh]), hsh, fj_ze_self])
  | invokevirtual i =>
    dsimp only [fj_stp] at h
    obtain ⟨-, h⟩ := fj_if_some h
    cases h
  | invokestatic i =>
    simp only [fj_okI, Bool.and_eq_true, decide_eq_true_eq, beq_iff_eq] at ok
    dsimp only [fj_stp] at h
    obtain ⟨hdg, rfl, hok⟩ := ok
    by_cases h997 : a = 997
    · rw [if_pos h997] at h hok
      simp only [Bool.and_eq_true, decide_eq_true_eq] at hok
      obtain ⟨w1, w2, w3, w4, hf1, hl1⟩ := hok
      have h9 := fj_p1_some h
      clear h
      obtain ⟨x, r, rfl, h⟩ := h9
      try dsimp only at h
      split at h
      · rename_i hr
        cases fj_go_some h
        exact va_mabs hx hb (by rw [hml, hsz, hny]) hown (hts _ (fj_wd_ok w1)) (hts _ (fj_wd_ok w2)) (hts _ (fj_wd_ok w3)) (hts _ (fj_wd_ok w4)) (Nat.le_trans hf1 hfr) (by have := cat4 r hr; omega) (by omega) (by omega) hdg (kk ad H locs lsA cells slots hcc hzz had hnl hW hLo)
      · cases h
    · rw [if_neg h997] at h hok
      by_cases h996 : a = 996
      · rw [if_pos h996] at h hok
        simp only [Bool.and_eq_true, decide_eq_true_eq] at hok
        obtain ⟨w1, w2, w3, w4, hf1, hl1⟩ := hok
        have h9 := fj_p2_some h
        clear h
        obtain ⟨x, y2, r, rfl, h⟩ := h9
        try dsimp only at h
        split at h
        · rename_i hr
          cases fj_go_some h
          exact va_mmin hx hb (by rw [hml, hsz, hny]) hown (hts _ (fj_wd_ok w1)) (hts _ (fj_wd_ok w2)) (hts _ (fj_wd_ok w3)) (hts _ (fj_wd_ok w4)) (Nat.le_trans hf1 hfr) (by have := cat4 r hr; omega) (by omega) (by omega) hdg (kk ad H locs lsA cells slots hcc hzz had hnl hW hLo)
        · cases h
      · rw [if_neg h996] at h hok
        by_cases h998 : a = 998
        · rw [if_pos h998] at h hok
          simp only [Bool.and_eq_true, decide_eq_true_eq] at hok
          obtain ⟨w1, w2, w3, w4, hf1, hl1⟩ := hok
          split at h
          · rename_i n dp d sp o r
            obtain ⟨⟨hr, hoc, hdc, hso, hsd, h0, h1, h2, h3, h4⟩, h⟩ := fj_if_some h
            cases fj_go_some h
            have hset := fj_wl_set (cI := cI) (cZ := cZ) (ad := ad) (M := M) (M' := fj_cy M o d sp.toNatClampNeg dp.toNatClampNeg n.toNatClampNeg) (P := P) (P' := P) (o := d) (e := .inl (cI, (fj_sh d).2, .inl (va_cpy (M o) (M d) sp.toNatClampNeg dp.toNatClampNeg n.toNatClampNeg))) (fun q hq => by funext j; simp [fj_cy, hq]) (fun q hq => rfl) (by rw [fj_xc_int hsd]; exact congrArg (fun f : Nat → Int32 => (Sum.inl (cI, (fj_sh d).2, Sum.inl f) : va_E)) (by funext j; simp [fj_cy, va_cpy]))
            exact va_copyi (D := D) hx hb (by rw [hml, hsz, hny]) hown (hts _ (fj_wd_ok w1)) (hts _ (fj_wd_ok w2)) (hts _ (fj_wd_ok w3)) (hts _ (fj_wd_ok w4)) hK hP hD hS o d 0 0 (by rw [fj_wl_get (by rw [hadl]; exact hoc), fj_xc_int hso]) (by rw [fj_wl_get (by rw [hadl]; exact hdc), fj_xc_int hsd]) rfl rfl rfl (Int32.not_lt.mpr h0) (Int32.not_lt.mpr h1) (Int32.not_lt.mpr h2) h3 h4 (fun i hi => rfl) (Nat.le_trans hf1 hfr) (by have := cat4 r hr; omega) hdg (fun H1 locs1 q1 q2 q3 => kk ad H1 locs1 lsA cells slots hcc hzz had hnl ⟨hadl, by rw [← hset]; exact q1, hK, by rw [← hset]; exact q2, q3, hA, hPc⟩ hLo)
          · cases h
        · rw [if_neg h998] at h
          obtain ⟨-, h⟩ := fj_if_some h
          cases h
  | invokespecial i =>
    simp only [fj_okI, Bool.and_eq_true, decide_eq_true_eq, beq_iff_eq] at ok
    dsimp only [fj_stp] at h
    obtain ⟨hdg, rfl, hok⟩ := ok
    by_cases h999 : a = 999
    · rw [if_pos h999] at h hok
      simp only [Bool.and_eq_true, decide_eq_true_eq] at hok
      obtain ⟨w1, w2, w3, hf1, hl1⟩ := hok
      split at h
      · rename_i o r
        split at h
        · rename_i hr
          cases fj_go_some h
          exact W.objInit hx hb hown (hts _ (fj_wd_ok w1)) (hts _ (fj_wd_ok w2)) (hts _ (fj_wd_ok w3)) (g := F0 m pc lsA (.ref (ad.getD o 0) :: r.map (fj_xv b ad))) rfl (by show lsA.size = cd.maxLocals; rw [hml, hsz, hny]) rfl hdg (Nat.le_trans hf1 hfr) (by have := cat4 r hr; show 2 * 0 + _ + 12 ≤ R.locals; omega) (kk ad H locs lsA cells slots hcc hzz had hnl hW hLo)
        · cases h
      · cases h
    · rw [if_neg h999] at h
      obtain ⟨-, h⟩ := fj_if_some h
      cases h
  | ireturn =>
    dsimp only [fj_stp] at h
    split at h
    · split at h
      · obtain ⟨-, h⟩ := fj_if_some h
        cases h
      · cases h
    · cases h
  | lreturn =>
    dsimp only [fj_stp] at h
    split at h
    · cases h
    · cases h
  | return_ =>
    dsimp only [fj_stp] at h
    split at h
    · cases h
    · cases h
  | _ => exact absurd (show (none : fj_R) = some _ from h) (by simp)
