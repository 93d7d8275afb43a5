/-! ===== the table that the class fills ===== -/
def ix (set last left : Nat) : Nat := (set * 7 + last) * 6 + left
theorem ix_inj {a b c a' b' c' : Nat} (hb : b < 7) (hb' : b' < 7) (hc : c < 6) (hc' : c' < 6) (h : ix a b c = ix a' b' c') : a = a' ∧ b = b' ∧ c = c' := by
  unfold ix at h
  omega
theorem ix_lt {a b c p : Nat} (ha : a ≤ p) (hb : b < 7) (hc : c < 6) : ix a b c < (p + 1) * 42 := by
  unfold ix
  omega
theorem q_ix {a b c : Nat} : (nI a * 7 + nI b) * 6 + nI c = nI (ix a b c) := by
  rw [show (7 : Int32) = nI 7 from rfl, show (6 : Int32) = nI 6 from rfl, pk_mul, nI_add, pk_mul, nI_add]
  rfl
def upT (T : Nat → Option Nat) (k : Nat) (x : Option Nat) : Nat → Option Nat := fun j => if j = k then x else T j
/-- the least of a row's first n -/
def rmN (T : Nat → Option Nat) (set : Nat) : Nat → Option Nat
  | 0 => none
  | n + 1 => omn (rmN T set n) (T (set * 42 + n))
def rmn (T : Nat → Option Nat) (set : Nat) : Option Nat := rmN T set 42
theorem rmN_cg {T T' : Nat → Option Nat} {set : Nat} : ∀ {n : Nat}, (∀ j, j < n → T' (set * 42 + j) = T (set * 42 + j)) → rmN T' set n = rmN T set n
  | 0, _ => rfl
  | n + 1, h => by
    unfold rmN
    rw [rmN_cg (n := n) (fun j hj => h j (by omega)), h n (by omega)]
def TB (T : Nat → Option Nat) : Prop := ∀ k v, T k = some v → v ≤ 13000
def sTR (M : fj_HM) (T : Nat → Option Nat) (p : Nat) : Prop := ∀ k, k < (p + 1) * 42 → M 13 k = tI (T k)
def sInv (A : fj_Yd) (p : Nat) (T : Nat → Option Nat) : Prop := T 36 = some 0 ∧ ∀ set last left v, set ≤ p → last < 7 → left < 6 → T (ix set last left) = some v → sRch A p set last left v
/-- what is done: the sets below s; of s the men below m; of him .. -/
def dnL (s m last left : Nat) (set' m' last' left' : Nat) : Prop := set' < s ∨ (set' = s ∧ (m' < m ∨ (m' = m ∧ (last' < last ∨ (last' = last ∧ left' < left)))))
def sCl (A : fj_Yd) (p : Nat) (T : Nat → Option Nat) (dn : Nat → Nat → Nat → Nat → Prop) : Prop := ∀ set last left v m, set ≤ p → last < 7 → left < 6 → dn set m last left → T (ix set last left) = some v → sQ A p set m → (0 < left → ∃ v', v' ≤ v + sS A last m ∧ T (ix (set ||| 2 ^ m) m (left - 1)) = some v') ∧ ∀ x, x < yq A → ∃ v', v' ≤ v + sO A last x m ∧ T (ix (set ||| 2 ^ m) m (ycn A - 1)) = some v'
theorem omn_some (o : Option Nat) (v : Nat) : ∃ w, omn o (some v) = some w ∧ w ≤ v ∧ (∀ u, o = some u → w ≤ u) ∧ (w = v ∨ o = some w) := by
  cases o with
  | none => exact ⟨v, rfl, Nat.le_refl _, (fun u h => by cases h), Or.inl rfl⟩
  | some u =>
    unfold omn
    simp only
    split
    · exact ⟨v, rfl, Nat.le_refl _, (fun u2 h => by cases h; omega), Or.inl rfl⟩
    · exact ⟨u, rfl, by omega, (fun u2 h => by cases h; omega), Or.inr rfl⟩
theorem sub_le {a p : Nat} (h : sdf a p = 0) : a ≤ p := by
  have h1 : a = a &&& p := by
    apply nat_ext
    intro i
    have h2 : (sdf a p).testBit i = false := by rw [h, Nat.zero_testBit]
    rw [sdf_bit] at h2
    rw [Nat.testBit_and]
    cases ha : a.testBit i <;> cases hp : p.testBit i <;> simp_all
  rw [h1]
  exact Nat.and_le_right
/-- an offer: what can be, to a set beyond s -/
theorem sOffer {A : fj_Yd} (hV : fj_YV A) (hc : 0 < yc A) {p s : Nat} {T : Nat → Option Nat} (hT : TB T) (hI : sInv A p T) {dn : Nat → Nat → Nat → Nat → Prop} (hdn : ∀ a b c d, dn a b c d → a ≤ s) (hC : sCl A p T dn) {s2 m2 l2 v2 : Nat} (hs2 : s < s2) (hp : s2 ≤ p) (hp6 : p < 64) (hm2 : m2 < 7) (hl2 : l2 < 6) (hR : sRch A p s2 m2 l2 v2) :
    TB (upT T (ix s2 m2 l2) (omn (T (ix s2 m2 l2)) (some v2))) ∧ sInv A p (upT T (ix s2 m2 l2) (omn (T (ix s2 m2 l2)) (some v2))) ∧ sCl A p (upT T (ix s2 m2 l2) (omn (T (ix s2 m2 l2)) (some v2))) dn ∧ (∃ w, w ≤ v2 ∧ upT T (ix s2 m2 l2) (omn (T (ix s2 m2 l2)) (some v2)) (ix s2 m2 l2) = some w) ∧ (∀ k u, T k = some u → ∃ w, w ≤ u ∧ upT T (ix s2 m2 l2) (omn (T (ix s2 m2 l2)) (some v2)) k = some w) := by
  obtain ⟨w, h1, h2, h3, h4⟩ := omn_some (T (ix s2 m2 l2)) v2
  have hok := sRch_ok hV hc hR
  rw [h1]
  have imp : ∀ k u, T k = some u → ∃ w', w' ≤ u ∧ upT T (ix s2 m2 l2) (some w) k = some w' := by
    intro k u hk
    unfold upT
    by_cases e : k = ix s2 m2 l2
    · rw [if_pos e]
      rw [e] at hk
      exact ⟨w, h3 u hk, rfl⟩
    · rw [if_neg e]
      exact ⟨u, Nat.le_refl _, hk⟩
  refine ⟨fun k v hk => ?_, ⟨?_, fun set last left v a1 a2 a3 hk => ?_⟩, fun set last left v m a1 a2 a3 ad hk hq => ?_, ⟨w, h2, ?_⟩, imp⟩
  · unfold upT at hk
    split at hk
    · cases hk
      omega
    · exact hT k v hk
  · unfold upT
    rw [if_neg (by unfold ix; omega)]
    exact hI.1
  · unfold upT at hk
    split at hk
    · rename_i e
      obtain ⟨rfl, rfl, rfl⟩ := ix_inj a2 hm2 a3 hl2 e
      cases hk
      rcases h4 with rfl | h4
      · exact hR
      · exact hI.2 _ _ _ _ a1 a2 a3 h4
    · exact hI.2 _ _ _ _ a1 a2 a3 hk
  · have hle := hdn _ _ _ _ ad
    unfold upT at hk
    rw [if_neg (fun e => by have := ix_inj a2 hm2 a3 hl2 e; omega)] at hk
    obtain ⟨c1, c2⟩ := hC set last left v m a1 a2 a3 ad hk hq
    refine ⟨fun hl => ?_, fun x hx => ?_⟩
    · obtain ⟨v', b1, b2⟩ := c1 hl
      obtain ⟨w', b3, b4⟩ := imp _ _ b2
      exact ⟨w', by omega, b4⟩
    · obtain ⟨v', b1, b2⟩ := c2 x hx
      obtain ⟨w', b3, b4⟩ := imp _ _ b2
      exact ⟨w', by omega, b4⟩
  · unfold upT
    rw [if_pos rfl]
theorem m17 {t : Bool} {M : fj_HM} {s2 m2 l2 v2 : Nat} {T : Nat → Option Nat} {p : Nat} (hTR : sTR M T p) (hT : TB T) (hp : s2 ≤ p) (hp6 : p < 64) (hm2 : m2 < 7) (hl2 : l2 < 6) (hv : v2 ≤ 13000) {Q : fj_Po} : fj_H none 17 0 [.ref 12, .int (nI s2), .int (nI m2), .int (nI l2), .int (nI v2), .null] [] M (fj_PY t) 53 7835 Q = Q none (fj_up M 13 (ix s2 m2 l2) (tI (omn (T (ix s2 m2 l2)) (some v2)))) (fj_PY t) 53 7835 := by
  have hk := ix_lt hp hm2 hl2
  have e := tI_lt (v := v2) (by omega) (T (ix s2 m2 l2)) (fun x hx => by have := hT _ _ hx; omega)
  simp only [fs17_0, fs17_1, fs17_3, fs17_4, fs17_5, fs17_6, fs17_8, fs17_9, fs17_10, fs17_11, fs17_13, fs17_14, fs17_17, fs17_19, fs17_20, fs17_23, fs17_25, fs17_26, fs17_28, fs17_31, fs17_32, fj_PV t, fj_OB, fj_AR, fj_CI, q_zo0, q_zo1, Option.toList_some, Option.toList_none, List.cons_append, List.nil_append, true_and, and_true, true_or, if_true, if_false, q_l10, q_l01, eq_self, Int32.reduceLT, Int32.reduceLE, Int32.reduceAdd, Int32.reduceSub, fj_up_at, Nat.reduceEqDiff, false_and, and_false, and_self, reduceCtorEq, Nat.reduceAdd, q_ix, q_in (show ix s2 m2 l2 < 2688 by omega), q_clamp (show ix s2 m2 l2 < 100000 by omega), hTR _ hk, e]
theorem sTR_up {M : fj_HM} {T : Nat → Option Nat} {p k : Nat} {x : Option Nat} (h : sTR M T p) : sTR (fj_up M 13 k (tI x)) (upT T k x) p := by
  intro j hj
  rw [fj_up_at]
  unfold upT
  by_cases e : j = k
  · rw [if_pos ⟨rfl, e⟩, if_pos e]
  · rw [if_neg (fun h => e h.2), if_neg e]
    exact h j hj
/-- all that holds while the table is filled: up to set s, man m, last, left -/
def sJ (o : Nat) (A : fj_Yd) (p : Nat) (M : fj_HM) (T : Nat → Option Nat) (dn : Nat → Nat → Nat → Nat → Prop) (nF : Nat) : Prop :=
  sTR M T p ∧ TB T ∧ sInv A p T ∧ sCl A p T dn ∧ (∀ set, set < nF → set ≤ p → M 14 set = tI (rmn T set)) ∧ (∀ j, j < yn A → M 15 j = nI (sHr A j)) ∧ fj_YC o M A ∧ ∀ j, j < 6 → ∃ c, c < 24 ∧ M (o + 4) j = nI c
theorem sJ_offer {o : Nat} (ho : o = 17 ∨ o = 25) {A : fj_Yd} (hV : fj_YV A) (hc : 0 < yc A) {p s : Nat} (hp6 : p < 64) {M : fj_HM} {T : Nat → Option Nat} {dn : Nat → Nat → Nat → Nat → Prop} (hdn : ∀ a b c d, dn a b c d → a ≤ s) (hJ : sJ o A p M T dn (s + 1)) {s2 m2 l2 v2 : Nat} (hs2 : s < s2) (hp : s2 ≤ p) (hm2 : m2 < 7) (hl2 : l2 < 6) (hR : sRch A p s2 m2 l2 v2) :
    sJ o A p (fj_up M 13 (ix s2 m2 l2) (tI (omn (T (ix s2 m2 l2)) (some v2)))) (upT T (ix s2 m2 l2) (omn (T (ix s2 m2 l2)) (some v2))) dn (s + 1) := by
  obtain ⟨j1, j2, j3, j4, j5, j6, j7, j8⟩ := hJ
  obtain ⟨a1, a2, a3, -, -⟩ := sOffer hV hc j2 j3 hdn j4 hs2 hp hp6 hm2 hl2 hR
  refine ⟨sTR_up j1, a1, a2, a3, fun set h1 h2 => ?_, fun j hj => ?_, ?_, fun j hj => ?_⟩
  · rw [fj_up_at, if_neg (by omega), j5 set h1 h2]
    congr 1
    refine (rmN_cg (fun j hj => ?_)).symm
    unfold upT
    rw [if_neg (by unfold ix; omega)]
  · rw [fj_up_at, if_neg (by omega)]; exact j6 j hj
  · rw [fj_YC_up ho (by decide)]; exact j7
  · obtain ⟨c, g1, g2⟩ := j8 j hj
    exact ⟨c, g1, by rw [fj_up_at, if_neg (by omega)]; exact g2⟩
theorem sJ_dn {o : Nat} {A : fj_Yd} {p : Nat} {M : fj_HM} {T : Nat → Option Nat} {dn dn' : Nat → Nat → Nat → Nat → Prop} {nF : Nat} (hJ : sJ o A p M T dn nF) (h : sCl A p T dn') : sJ o A p M T dn' nF := by
  obtain ⟨j1, j2, j3, j4, j5⟩ := hJ
  exact ⟨j1, j2, j3, h, j5⟩
set_option maxHeartbeats 1000000 in
theorem m15_left {o : Nat} (ho : o = 17 ∨ o = 25) (t : Bool) {A : fj_Yd} (hV : fj_YV A) (hc : 0 < yc A) (hcn : 1 ≤ ycn A) {p s m last f : Nat} (hp6 : p < 64) (hs : s ≤ p) (hq : sQ A p s m) (hs2 : s ||| 2 ^ m ≤ p) (hl7 : last < 7) {S B : Int32} (hSB : (last = 6 ∨ last < yn A) → S = nI (sS A last m) ∧ B = tI (oB A (sFrom A last) (ymc A m) (yq A))) {Q : fj_Po} : ∀ (k i : Nat) (M : fj_HM) (T : Nat → Option Nat) (d : Value), i + k = 6 → sJ o A p M T (dnL s m last i) (s + 1) → (∀ M' T' d', (∀ o', o' ≠ 13 → M' o' = M o') → sJ o A p M' T' (dnL s m last 6) (s + 1) → fj_H none 15 170 [.ref 12, .ref o, .int (nI s), .int (nI m), .int (nI last), .int (nI f), .int S, .int B, .int 6, d'] [] M' (fj_PY t) 53 7835 Q) → fj_H none 15 75 [.ref 12, .ref o, .int (nI s), .int (nI m), .int (nI last), .int (nI f), .int S, .int B, .int (nI i), d] [] M (fj_PY t) 53 7835 Q := by
  have h6 := yn_le hV
  have hcn6 : ycn A ≤ 6 := hV.2.2.2.2.2.2.1
  have hm := hq.1
  intro k
  induction k with
  | zero =>
    intro i M T d hi hJ hK
    obtain rfl : i = 6 := by omega
    rw [fs15_75]
    simp only [fs15_77, fs15_79, fj_OB, fj_AR, fj_CI, q_zo0, q_zo1, Option.toList_some, Option.toList_none, List.cons_append, List.nil_append, true_and, and_true, true_or, if_true, if_false, q_l10, q_l01, eq_self, Int32.reduceLT, Int32.reduceLE, Int32.reduceAdd, Int32.reduceSub, fj_up_at, Nat.reduceEqDiff, false_and, and_false, and_self, reduceCtorEq, Nat.reduceAdd]
    rw [if_pos (by decide)]
    exact hK M T d (fun _ _ => rfl) hJ
  | succ k ih =>
    intro i M T d hi hJ hK
    have hi6 : i < 6 := by omega
    have hk := ix_lt hs hl7 hi6
    have hgt := or_pow_gt (sQ_free hq)
    obtain ⟨j1, j2, j3, j4, j5, j6, j7, j8⟩ := id hJ
    have eT := j1 _ hk
    have hnev := tI_never (o := T (ix s last i)) (fun x hx => by have := j2 _ _ hx; omega)
    rw [fs15_75]
    simp only [fs15_77, fs15_79, fj_OB, fj_AR, fj_CI, q_zo0, q_zo1, Option.toList_some, Option.toList_none, List.cons_append, List.nil_append, true_and, and_true, true_or, if_true, if_false, q_l10, q_l01, eq_self, Int32.reduceLT, Int32.reduceLE, Int32.reduceAdd, Int32.reduceSub, fj_up_at, Nat.reduceEqDiff, false_and, and_false, and_self, reduceCtorEq, Nat.reduceAdd]
    rw [if_neg (by rw [show (6 : Int32) = nI 6 from rfl, q_le (by omega) (by omega)]; omega)]
    simp only [fs15_82, fs15_83, fs15_86, fs15_87, fs15_89, fs15_90, fs15_92, fs15_93, fs15_95, fs15_96, fs15_98, fs15_99, fs15_100, fs15_102, fs15_104, fs15_106, fj_PV t, fj_OB, fj_AR, fj_CI, q_zo0, q_zo1, Option.toList_some, Option.toList_none, List.cons_append, List.nil_append, true_and, and_true, true_or, if_true, if_false, q_l10, q_l01, eq_self, Int32.reduceLT, Int32.reduceLE, Int32.reduceAdd, Int32.reduceSub, fj_up_at, Nat.reduceEqDiff, false_and, and_false, and_self, reduceCtorEq, Nat.reduceAdd, q_ix, q_in (show ix s last i < 2688 by omega), q_clamp (show ix s last i < 100000 by omega), eT]
    cases hT : T (ix s last i) with
    | none =>
      rw [if_pos (by rw [hT] at hnev; exact hnev ▸ rfl)]
      simp only [fs15_109, fs15_164, fs15_167, fj_OB, fj_AR, fj_CI, q_zo0, q_zo1, Option.toList_some, Option.toList_none, List.cons_append, List.nil_append, true_and, and_true, true_or, if_true, if_false, q_l10, q_l01, eq_self, Int32.reduceLT, Int32.reduceLE, Int32.reduceAdd, Int32.reduceSub, fj_up_at, Nat.reduceEqDiff, false_and, and_false, and_self, reduceCtorEq, Nat.reduceAdd, nI_1]
      refine ih (i + 1) M T _ (by omega) (sJ_dn hJ ?_) hK
      intro set last' left' v m' a1 a2 a3 ad hk2 hq2
      by_cases e : set = s ∧ m' = m ∧ last' = last ∧ left' = i
      · obtain ⟨rfl, rfl, rfl, rfl⟩ := e
        rw [hT] at hk2
        cases hk2
      · exact j4 set last' left' v m' a1 a2 a3 (by unfold dnL at ad ⊢; omega) hk2 hq2
    | some v =>
      have hR := j3.2 _ _ _ _ hs hl7 hi6 hT
      have hok := sRch_ok hV hc hR
      obtain ⟨rfl, rfl⟩ := hSB hok.2.2.1
      have hfr : sFrom A last < yc A := by
        unfold sFrom
        split
        · exact hc
        · rcases hok.2.2.1 with h | h
          · contradiction
          · exact ym_mc hV h
      have hmc := ym_mc hV hm
      have hv := j2 _ _ hT
      have hvs : v ≤ 200 * s := hok.2.1
      have hd := yD_le hV hfr hmc
      have hor : nI s ||| (1 : Int32) <<< (nI m &&& 31) = nI (s ||| 2 ^ m) := by rw [q_shl m (by omega), q_or]
      have hdn : ∀ a b c d, dnL s m last i a b c d → a ≤ s := fun a b c d h => by unfold dnL at h; omega
      rw [if_neg (by rw [hT] at hnev; rw [hnev]; simp)]
      simp only [fs15_112, fs15_114, fj_OB, fj_AR, fj_CI, q_zo0, q_zo1, Option.toList_some, Option.toList_none, List.cons_append, List.nil_append, true_and, and_true, true_or, if_true, if_false, q_l10, q_l01, eq_self, Int32.reduceLT, Int32.reduceLE, Int32.reduceAdd, Int32.reduceSub, fj_up_at, Nat.reduceEqDiff, false_and, and_false, and_self, reduceCtorEq, Nat.reduceAdd, show tI (some v) = nI v from rfl]
      -- behind the first offer
      have step2 : ∀ (M1 : fj_HM) (T1 : Nat → Option Nat), (∀ o', o' ≠ 13 → M1 o' = M o') → sJ o A p M1 T1 (dnL s m last i) (s + 1) → (∀ k u, T k = some u → ∃ w, w ≤ u ∧ T1 k = some w) → (∀ a b c, b < 7 → c < 6 → a ≤ s → T1 (ix a b c) = T (ix a b c)) → (0 < i → ∃ v', v' ≤ v + sS A last m ∧ T1 (ix (s ||| 2 ^ m) m (i - 1)) = some v') → fj_H none 15 136 [.ref 12, .ref o, .int (nI s), .int (nI m), .int (nI last), .int (nI f), .int (nI (sS A last m)), .int (tI (oB A (sFrom A last) (ymc A m) (yq A))), .int (nI i), .int (nI v)] [] M1 (fj_PY t) 53 7835 Q := by
        intro M1 T1 hM1 hJ1 himp hrow hst
        obtain ⟨i1, i2, i3, i4, i5, i6, i7, i8⟩ := id hJ1
        have hbn := tI_never (o := oB A (sFrom A last) (ymc A m) (yq A)) (fun x hx => by have := oB_lt hV hfr hmc _ (Nat.le_refl _) _ hx; omega)
        simp only [fs15_136, fs15_138, fs15_140, fj_OB, fj_AR, fj_CI, q_zo0, q_zo1, Option.toList_some, Option.toList_none, List.cons_append, List.nil_append, true_and, and_true, true_or, if_true, if_false, q_l10, q_l01, eq_self, Int32.reduceLT, Int32.reduceLE, Int32.reduceAdd, Int32.reduceSub, fj_up_at, Nat.reduceEqDiff, false_and, and_false, and_self, reduceCtorEq, Nat.reduceAdd]
        cases hB : oB A (sFrom A last) (ymc A m) (yq A) with
        | none =>
          rw [if_pos (by rw [hB] at hbn; exact hbn ▸ rfl)]
          simp only [fs15_164, fs15_167, fj_OB, fj_AR, fj_CI, q_zo0, q_zo1, Option.toList_some, Option.toList_none, List.cons_append, List.nil_append, true_and, and_true, true_or, if_true, if_false, q_l10, q_l01, eq_self, Int32.reduceLT, Int32.reduceLE, Int32.reduceAdd, Int32.reduceSub, fj_up_at, Nat.reduceEqDiff, false_and, and_false, and_self, reduceCtorEq, Nat.reduceAdd, nI_1]
          rw [hB] at ih hK
          have hq0 : yq A = 0 := by
            rcases Nat.eq_zero_or_pos (yq A) with h | h
            · exact h
            · obtain ⟨v', h1, -⟩ := oB_le (A := A) (f := sFrom A last) (g := ymc A m) (n := yq A) (x := 0) h
              rw [h1] at hB; cases hB
          refine ih (i + 1) M1 T1 _ (by omega) (sJ_dn hJ1 ?_) (fun M' T' d' g1 g2 => hK M' T' d' (fun o' ho' => by rw [g1 o' ho', hM1 o' ho']) g2)
          intro set last' left' v9 m' a1 a2 a3 ad hk2 hq2
          by_cases e : set = s ∧ m' = m ∧ last' = last ∧ left' = i
          · obtain ⟨rfl, rfl, rfl, rfl⟩ := e
            rw [hrow _ _ _ hl7 hi6 (Nat.le_refl _), hT] at hk2
            cases hk2
            exact ⟨hst, fun x hx => by omega⟩
          · exact i4 set last' left' v9 m' a1 a2 a3 (by unfold dnL at ad ⊢; omega) hk2 hq2
        | some ob =>
          have hob := oB_lt hV hfr hmc _ (Nat.le_refl _) _ hB
          obtain ⟨x0, hx0, ex0⟩ := oB_some hB
          rw [if_neg (by rw [hB] at hbn; rw [hbn]; simp)]
          have hR2 := sRch_o (x := x0) hR hq hx0
          rw [show sO A last x0 m = ob from ex0.symm] at hR2
          have y5 := i7.2.2.2.2.1
          have ec : nI (ycn A) - 1 = nI (ycn A - 1) := by rw [q_1, pk_sub hcn]
          simp only [fs15_143, fs15_144, fs15_145, fs15_146, fs15_147, fs15_148, fs15_149, fs15_150, fs15_151, fs15_154, fs15_155, fs15_156, fs15_158, fs15_160, fs15_161, fs15_164, fs15_167, fj_YO ho t, fj_OB, fj_AR, fj_CI, q_zo0, q_zo1, Option.toList_some, Option.toList_none, List.cons_append, List.nil_append, true_and, and_true, true_or, if_true, if_false, q_l10, q_l01, eq_self, Int32.reduceLT, Int32.reduceLE, Int32.reduceAdd, Int32.reduceSub, fj_up_at, Nat.reduceEqDiff, false_and, and_false, and_self, reduceCtorEq, Nat.reduceAdd, hor, y5, ec, show tI (some ob) = nI ob from rfl, nI_add, m17 i1 i2 hs2 hp6 (show m < 7 by omega) (show ycn A - 1 < 6 by omega) (show v + ob ≤ 13000 by omega), nI_1]
          have hJ2 := sJ_offer ho hV hc hp6 hdn hJ1 hgt hs2 (show m < 7 by omega) (show ycn A - 1 < 6 by omega) hR2
          obtain ⟨-, -, -, ⟨w, hw1, hw2⟩, himp2⟩ := sOffer hV hc i2 i3 hdn i4 hgt hs2 hp6 (show m < 7 by omega) (show ycn A - 1 < 6 by omega) hR2
          rw [hB] at ih hK
          refine ih (i + 1) _ _ _ (by omega) (sJ_dn hJ2 ?_) (fun M' T' d' g1 g2 => hK M' T' d' (fun o' ho' => by rw [g1 o' ho']; funext j; rw [fj_up_at, if_neg (fun z => ho' z.1), hM1 o' ho']) g2)
          intro set last' left' v9 m' a1 a2 a3 ad hk2 hq2
          by_cases e : set = s ∧ m' = m ∧ last' = last ∧ left' = i
          · obtain ⟨rfl, rfl, rfl, rfl⟩ := e
            unfold upT at hk2
            rw [if_neg (fun e => by have := ix_inj a2 (show m' < 7 by omega) a3 (show ycn A - 1 < 6 by omega) e; omega), hrow _ _ _ hl7 hi6 (Nat.le_refl _), hT] at hk2
            cases hk2
            refine ⟨fun hl => ?_, fun x hx => ?_⟩
            · obtain ⟨v', b1, b2⟩ := hst hl
              obtain ⟨w', b3, b4⟩ := himp2 _ _ b2
              exact ⟨w', by omega, b4⟩
            · obtain ⟨v', b1, b2⟩ := oB_le (A := A) (f := sFrom A last') (g := ymc A m') hx
              rw [hB] at b1
              cases b1
              exact ⟨w, by unfold sO; omega, hw2⟩
          · exact hJ2.2.2.2.1 set last' left' v9 m' a1 a2 a3 (by unfold dnL at ad ⊢; omega) hk2 hq2
      by_cases hi0 : 0 < i
      · rw [if_neg (by rw [q_0, q_le (by omega) (by omega)]; omega)]
        have hR1 := sRch_s hR hq hi0
        have e1 : nI i - 1 = nI (i - 1) := by rw [q_1, pk_sub (by omega)]
        have hsS : sS A last m ≤ 61 := by unfold sS; omega
        simp only [fs15_117, fs15_118, fs15_119, fs15_120, fs15_121, fs15_122, fs15_123, fs15_124, fs15_126, fs15_127, fs15_128, fs15_130, fs15_132, fs15_133, fj_OB, fj_AR, fj_CI, q_zo0, q_zo1, Option.toList_some, Option.toList_none, List.cons_append, List.nil_append, true_and, and_true, true_or, if_true, if_false, q_l10, q_l01, eq_self, Int32.reduceLT, Int32.reduceLE, Int32.reduceAdd, Int32.reduceSub, fj_up_at, Nat.reduceEqDiff, false_and, and_false, and_self, reduceCtorEq, Nat.reduceAdd, hor, e1, nI_add, m17 j1 j2 hs2 hp6 (show m < 7 by omega) (show i - 1 < 6 by omega) (show v + sS A last m ≤ 13000 by omega)]
        have hJ1 := sJ_offer ho hV hc hp6 hdn hJ hgt hs2 (show m < 7 by omega) (show i - 1 < 6 by omega) hR1
        obtain ⟨-, -, -, ⟨w, hw1, hw2⟩, himp⟩ := sOffer hV hc j2 j3 hdn j4 hgt hs2 hp6 (show m < 7 by omega) (show i - 1 < 6 by omega) hR1
        refine step2 _ _ (fun o' ho' => ?_) hJ1 himp (fun a b c hb hc' ha => ?_) (fun _ => ⟨w, hw1, hw2⟩)
        · funext j
          rw [fj_up_at, if_neg (fun z => ho' z.1)]
        · unfold upT
          rw [if_neg (fun e => by have := ix_inj hb (show m < 7 by omega) hc' (show i - 1 < 6 by omega) e; omega)]
      · rw [if_pos (by rw [q_0, q_le (by omega) (by omega)]; omega)]
        exact step2 M T (fun _ _ => rfl) hJ (fun k u h => ⟨u, Nat.le_refl _, h⟩) (fun _ _ _ _ _ _ => rfl) (fun h => absurd h hi0)
