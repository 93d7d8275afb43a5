/-! ===== pairs: small changes ===== -/
def ySl (A : fj_Yd) (k : Nat) : fj_Yd := (yh A, yw A, yn A, yq A, k, ycn A, ysg A, yic A, ykd A, yer A, ymc A, yoc A)
def yCn (A : fj_Yd) (k : Nat) : fj_Yd := (yh A, yw A, yn A, yq A, ysl A, k, ysg A, yic A, ykd A, yer A, ymc A, yoc A)
def ySg (A : fj_Yd) (k : Nat) : fj_Yd := (yh A, yw A, yn A, yq A, ysl A, ycn A, k, yic A, ykd A, yer A, ymc A, yoc A)
theorem fj_In_sl {t : Bool} {M : fj_HM} {A : fj_Yd} {R : fj_Rd} (h : fj_In t M A R) {k : Nat} (hk : k < 2 ^ yn A) : fj_In t (fj_up (fj_up M (yo t) 3 (nI k)) 33 12 (nI k)) (ySl A k) R := by
  obtain ⟨a1, a2, a3, a4, a5, a6, a7, a8, a9, a10⟩ := h
  have hy := yo_or t
  obtain ⟨c0, c1, c2, c3, c4, c5, c6, c7, c8⟩ := a2
  obtain ⟨d0, d1, d2, d3, d4, d5, d6, d7, d8, d9⟩ := a3
  obtain ⟨v0, v1, v2, v3, v4, v5, v6, v7⟩ := a1
  refine ⟨⟨v0, v1, v2, v3, v4, hk, v6, v7⟩, ⟨?_, ?_, ?_, ?_, ?_, ?_, fun c hc => ?_, fun m hm => ?_, fun x hx => ?_⟩, ⟨?_, ?_, ?_, ?_, ?_, ?_, ?_, fun c hc => ?_, fun m hm => ?_, fun x hx => ?_⟩, a4, fj_RC_cg (fun o _ _ => (by (funext j; simp only [fj_up_at]; repeat (rw [if_neg (by omega)])))) a5, fj_RM_cg (fun o _ _ => (by (funext j; simp only [fj_up_at]; repeat (rw [if_neg (by omega)])))) (by (simp only [fj_up_at]; repeat (first | rw [if_neg (by omega)] | rw [if_pos (by omega)]))) a6, fj_S_cg (fun o ho => (by (funext j; simp only [fj_up_at]; repeat (rw [if_neg (by omega)])))) a7, fj_MB_cg (by (funext j; simp only [fj_up_at]; repeat (rw [if_neg (by omega)]))) (by (funext j; simp only [fj_up_at]; repeat (rw [if_neg (by omega)]))) a8, ?_, ?_⟩
  · (simp only [fj_up_at]; repeat (first | rw [if_neg (by omega)] | rw [if_pos (by omega)]))
    exact c0
  · (simp only [fj_up_at]; repeat (first | rw [if_neg (by omega)] | rw [if_pos (by omega)]))
    exact c1
  · (simp only [fj_up_at]; repeat (first | rw [if_neg (by omega)] | rw [if_pos (by omega)]))
    exact c2
  · (simp only [fj_up_at]; repeat (first | rw [if_neg (by omega)] | rw [if_pos (by omega)]))
    rfl
  · (simp only [fj_up_at]; repeat (first | rw [if_neg (by omega)] | rw [if_pos (by omega)]))
    exact c4
  · (simp only [fj_up_at]; repeat (first | rw [if_neg (by omega)] | rw [if_pos (by omega)]))
    exact c5
  · (simp only [fj_up_at]; repeat (first | rw [if_neg (by omega)] | rw [if_pos (by omega)]))
    exact c6 c hc
  · (simp only [fj_up_at]; repeat (first | rw [if_neg (by omega)] | rw [if_pos (by omega)]))
    exact c7 m hm
  · (simp only [fj_up_at]; repeat (first | rw [if_neg (by omega)] | rw [if_pos (by omega)]))
    exact c8 x hx
  · (simp only [fj_up_at]; repeat (first | rw [if_neg (by omega)] | rw [if_pos (by omega)]))
    exact d0
  · (simp only [fj_up_at]; repeat (first | rw [if_neg (by omega)] | rw [if_pos (by omega)]))
    exact d1
  · (simp only [fj_up_at]; repeat (first | rw [if_neg (by omega)] | rw [if_pos (by omega)]))
    exact d2
  · (simp only [fj_up_at]; repeat (first | rw [if_neg (by omega)] | rw [if_pos (by omega)]))
    exact d3
  · (simp only [fj_up_at]; repeat (first | rw [if_neg (by omega)] | rw [if_pos (by omega)]))
    rfl
  · (simp only [fj_up_at]; repeat (first | rw [if_neg (by omega)] | rw [if_pos (by omega)]))
    exact d5
  · (simp only [fj_up_at]; repeat (first | rw [if_neg (by omega)] | rw [if_pos (by omega)]))
    exact d6
  · (simp only [fj_up_at]; repeat (first | rw [if_neg (by omega)] | rw [if_pos (by omega)]))
    exact d7 c hc
  · (simp only [fj_up_at]; repeat (first | rw [if_neg (by omega)] | rw [if_pos (by omega)]))
    exact d8 m hm
  · (simp only [fj_up_at]; repeat (first | rw [if_neg (by omega)] | rw [if_pos (by omega)]))
    exact d9 x hx
  · (simp only [fj_up_at]; repeat (first | rw [if_neg (by omega)] | rw [if_pos (by omega)]))
    exact a9
  · (simp only [fj_up_at]; repeat (first | rw [if_neg (by omega)] | rw [if_pos (by omega)]))
    exact a10
theorem fj_In_cn {t : Bool} {M : fj_HM} {A : fj_Yd} {R : fj_Rd} (h : fj_In t M A R) {k : Nat} (hk : 1 ≤ k ∧ k ≤ 6) : fj_In t (fj_up (fj_up M (yo t) 4 (nI k)) 33 10 (nI k)) (yCn A k) R := by
  obtain ⟨a1, a2, a3, a4, a5, a6, a7, a8, a9, a10⟩ := h
  have hy := yo_or t
  obtain ⟨c0, c1, c2, c3, c4, c5, c6, c7, c8⟩ := a2
  obtain ⟨d0, d1, d2, d3, d4, d5, d6, d7, d8, d9⟩ := a3
  obtain ⟨v0, v1, v2, v3, v4, v5, v6, v7⟩ := a1
  refine ⟨⟨v0.imp id (fun z => ⟨z.1, z.2.1, z.2.2.1, z.2.2.2.1, hk.1⟩), v1, v2, v3, v4, v5, hk.2, v7⟩, ⟨?_, ?_, ?_, ?_, ?_, ?_, fun c hc => ?_, fun m hm => ?_, fun x hx => ?_⟩, ⟨?_, ?_, ?_, ?_, ?_, ?_, ?_, fun c hc => ?_, fun m hm => ?_, fun x hx => ?_⟩, a4, fj_RC_cg (fun o _ _ => (by (funext j; simp only [fj_up_at]; repeat (rw [if_neg (by omega)])))) a5, fj_RM_cg (fun o _ _ => (by (funext j; simp only [fj_up_at]; repeat (rw [if_neg (by omega)])))) (by (simp only [fj_up_at]; repeat (first | rw [if_neg (by omega)] | rw [if_pos (by omega)]))) a6, fj_S_cg (fun o ho => (by (funext j; simp only [fj_up_at]; repeat (rw [if_neg (by omega)])))) a7, fj_MB_cg (by (funext j; simp only [fj_up_at]; repeat (rw [if_neg (by omega)]))) (by (funext j; simp only [fj_up_at]; repeat (rw [if_neg (by omega)]))) a8, ?_, ?_⟩
  · (simp only [fj_up_at]; repeat (first | rw [if_neg (by omega)] | rw [if_pos (by omega)]))
    exact c0
  · (simp only [fj_up_at]; repeat (first | rw [if_neg (by omega)] | rw [if_pos (by omega)]))
    exact c1
  · (simp only [fj_up_at]; repeat (first | rw [if_neg (by omega)] | rw [if_pos (by omega)]))
    exact c2
  · (simp only [fj_up_at]; repeat (first | rw [if_neg (by omega)] | rw [if_pos (by omega)]))
    exact c3
  · (simp only [fj_up_at]; repeat (first | rw [if_neg (by omega)] | rw [if_pos (by omega)]))
    rfl
  · (simp only [fj_up_at]; repeat (first | rw [if_neg (by omega)] | rw [if_pos (by omega)]))
    exact c5
  · (simp only [fj_up_at]; repeat (first | rw [if_neg (by omega)] | rw [if_pos (by omega)]))
    exact c6 c hc
  · (simp only [fj_up_at]; repeat (first | rw [if_neg (by omega)] | rw [if_pos (by omega)]))
    exact c7 m hm
  · (simp only [fj_up_at]; repeat (first | rw [if_neg (by omega)] | rw [if_pos (by omega)]))
    exact c8 x hx
  · (simp only [fj_up_at]; repeat (first | rw [if_neg (by omega)] | rw [if_pos (by omega)]))
    exact d0
  · (simp only [fj_up_at]; repeat (first | rw [if_neg (by omega)] | rw [if_pos (by omega)]))
    exact d1
  · (simp only [fj_up_at]; repeat (first | rw [if_neg (by omega)] | rw [if_pos (by omega)]))
    exact d2
  · (simp only [fj_up_at]; repeat (first | rw [if_neg (by omega)] | rw [if_pos (by omega)]))
    exact d3
  · (simp only [fj_up_at]; repeat (first | rw [if_neg (by omega)] | rw [if_pos (by omega)]))
    exact d4
  · (simp only [fj_up_at]; repeat (first | rw [if_neg (by omega)] | rw [if_pos (by omega)]))
    rfl
  · (simp only [fj_up_at]; repeat (first | rw [if_neg (by omega)] | rw [if_pos (by omega)]))
    exact d6
  · (simp only [fj_up_at]; repeat (first | rw [if_neg (by omega)] | rw [if_pos (by omega)]))
    exact d7 c hc
  · (simp only [fj_up_at]; repeat (first | rw [if_neg (by omega)] | rw [if_pos (by omega)]))
    exact d8 m hm
  · (simp only [fj_up_at]; repeat (first | rw [if_neg (by omega)] | rw [if_pos (by omega)]))
    exact d9 x hx
  · (simp only [fj_up_at]; repeat (first | rw [if_neg (by omega)] | rw [if_pos (by omega)]))
    exact a9
  · (simp only [fj_up_at]; repeat (first | rw [if_neg (by omega)] | rw [if_pos (by omega)]))
    exact a10
theorem fj_In_sg {t : Bool} {M : fj_HM} {A : fj_Yd} {R : fj_Rd} (h : fj_In t M A R) {k : Nat} (hk : k ≤ 99) : fj_In t (fj_up (fj_up M (yo t) 5 (nI k)) 33 11 (nI k)) (ySg A k) R := by
  obtain ⟨a1, a2, a3, a4, a5, a6, a7, a8, a9, a10⟩ := h
  have hy := yo_or t
  obtain ⟨c0, c1, c2, c3, c4, c5, c6, c7, c8⟩ := a2
  obtain ⟨d0, d1, d2, d3, d4, d5, d6, d7, d8, d9⟩ := a3
  obtain ⟨v0, v1, v2, v3, v4, v5, v6, v7⟩ := a1
  refine ⟨⟨v0, v1, v2, v3, v4, v5, v6, hk⟩, ⟨?_, ?_, ?_, ?_, ?_, ?_, fun c hc => ?_, fun m hm => ?_, fun x hx => ?_⟩, ⟨?_, ?_, ?_, ?_, ?_, ?_, ?_, fun c hc => ?_, fun m hm => ?_, fun x hx => ?_⟩, a4, fj_RC_cg (fun o _ _ => (by (funext j; simp only [fj_up_at]; repeat (rw [if_neg (by omega)])))) a5, fj_RM_cg (fun o _ _ => (by (funext j; simp only [fj_up_at]; repeat (rw [if_neg (by omega)])))) (by (simp only [fj_up_at]; repeat (first | rw [if_neg (by omega)] | rw [if_pos (by omega)]))) a6, fj_S_cg (fun o ho => (by (funext j; simp only [fj_up_at]; repeat (rw [if_neg (by omega)])))) a7, fj_MB_cg (by (funext j; simp only [fj_up_at]; repeat (rw [if_neg (by omega)]))) (by (funext j; simp only [fj_up_at]; repeat (rw [if_neg (by omega)]))) a8, ?_, ?_⟩
  · (simp only [fj_up_at]; repeat (first | rw [if_neg (by omega)] | rw [if_pos (by omega)]))
    exact c0
  · (simp only [fj_up_at]; repeat (first | rw [if_neg (by omega)] | rw [if_pos (by omega)]))
    exact c1
  · (simp only [fj_up_at]; repeat (first | rw [if_neg (by omega)] | rw [if_pos (by omega)]))
    exact c2
  · (simp only [fj_up_at]; repeat (first | rw [if_neg (by omega)] | rw [if_pos (by omega)]))
    exact c3
  · (simp only [fj_up_at]; repeat (first | rw [if_neg (by omega)] | rw [if_pos (by omega)]))
    exact c4
  · (simp only [fj_up_at]; repeat (first | rw [if_neg (by omega)] | rw [if_pos (by omega)]))
    rfl
  · (simp only [fj_up_at]; repeat (first | rw [if_neg (by omega)] | rw [if_pos (by omega)]))
    exact c6 c hc
  · (simp only [fj_up_at]; repeat (first | rw [if_neg (by omega)] | rw [if_pos (by omega)]))
    exact c7 m hm
  · (simp only [fj_up_at]; repeat (first | rw [if_neg (by omega)] | rw [if_pos (by omega)]))
    exact c8 x hx
  · (simp only [fj_up_at]; repeat (first | rw [if_neg (by omega)] | rw [if_pos (by omega)]))
    exact d0
  · (simp only [fj_up_at]; repeat (first | rw [if_neg (by omega)] | rw [if_pos (by omega)]))
    exact d1
  · (simp only [fj_up_at]; repeat (first | rw [if_neg (by omega)] | rw [if_pos (by omega)]))
    exact d2
  · (simp only [fj_up_at]; repeat (first | rw [if_neg (by omega)] | rw [if_pos (by omega)]))
    exact d3
  · (simp only [fj_up_at]; repeat (first | rw [if_neg (by omega)] | rw [if_pos (by omega)]))
    exact d4
  · (simp only [fj_up_at]; repeat (first | rw [if_neg (by omega)] | rw [if_pos (by omega)]))
    exact d5
  · (simp only [fj_up_at]; repeat (first | rw [if_neg (by omega)] | rw [if_pos (by omega)]))
    rfl
  · (simp only [fj_up_at]; repeat (first | rw [if_neg (by omega)] | rw [if_pos (by omega)]))
    exact d7 c hc
  · (simp only [fj_up_at]; repeat (first | rw [if_neg (by omega)] | rw [if_pos (by omega)]))
    exact d8 m hm
  · (simp only [fj_up_at]; repeat (first | rw [if_neg (by omega)] | rw [if_pos (by omega)]))
    exact d9 x hx
  · (simp only [fj_up_at]; repeat (first | rw [if_neg (by omega)] | rw [if_pos (by omega)]))
    exact a9
  · (simp only [fj_up_at]; repeat (first | rw [if_neg (by omega)] | rw [if_pos (by omega)]))
    exact a10
