/-! The class's Market: one int is written. -/
variable {h : j_Hd} {M : Nat → Nat → Int32} {σ : j_St} {d b : Nat} {E : Nat → Nat} {z : Int32} {K0 K1 : List Int32}
def upE (E : Nat → Nat) (k v : Nat) : Nat → Nat := fun j => if j = k then v else E j
theorem upE_s (k v : Nat) : upE E k v k = v := by simp [upE]
theorem upE_o {k j : Nat} (v : Nat) (hj : j ≠ k) : upE E k v j = E j := by simp [upE, hj]
def upR (E : Nat → Nat) (c x y w : Nat) : Nat → Nat := upE (upE (upE E (40 + 5 * c) x) (41 + 5 * c) y) (42 + 5 * c) w
/-- but for the cells of a market -/
def mg (b : Nat) (M M' : Nat → Nat → Int32) : Prop := ∀ x, x < b ∨ b + 27 ≤ x → M' x = M x
theorem mg_r : mg b M M := fun _ _ => rfl
theorem mg_t {M1 M2 M3 : Nat → Nat → Int32} (h1 : mg b M1 M2) (h2 : mg b M2 M3) : mg b M1 M3 := fun x hx => by rw [h2 x hx, h1 x hx]
theorem mg_sg {M' : Nat → Nat → Int32} (h : sg b M M') : mg b M M' := fun x hx => h x (by omega) (by omega) (by omega) (by omega)
theorem mg_up {k : Nat} {v : Int32} (o : Nat) (h1 : b ≤ o) (h2 : o < b + 27) : mg b M (j_up M o k v) := fun x hx => up_r _ _ _ _ (by omega)
theorem Cd_up {o k u : Nat} {v : Int32} {K : List Int32} (hk : Cd M u K) (h1 : u + 1 ≠ o) (h2 : u + 2 ≠ o) : Cd (j_up M o k v) u K := by
  unfold Cd at hk ⊢
  rw [up_r _ _ _ _ h1, up_r _ _ _ _ h2]; exact hk
theorem CM_K (hm : CM M b E z K0 K1) (h6 : E 0 ≤ 6) (h8 : E 1 ≤ 8) {t0 : Nat} (ht0 : t0 < 6) (v : Nat) : CM (j_up M (b + 2) t0 (nI v)) b (upE E (8 + 5 * t0) v) z K0 K1 := by
  obtain ⟨a1, a2, a3, a4, a5, a6, a7⟩ := hm
  have e0 : (upE E (8 + 5 * t0) v) 0 = E 0 := by simp (disch := omega) only [upE_o]
  have e1 : (upE E (8 + 5 * t0) v) 1 = E 1 := by simp (disch := omega) only [upE_o]
  refine ⟨?_, fun t ht => ?_, fun c hc => ?_, fun c hc => ?_, ?_, Cd_up a6 (by omega) (by omega), Cd_up a7 (by omega) (by omega)⟩
  · unfold CS at a1 ⊢
    rw [e0, e1]
    simp (disch := omega) only [up_o]; exact a1
  · rw [e0] at ht
    have p := a2 t ht
    unfold CT at p ⊢
    by_cases e : t = t0
    · subst e
      simp (disch := omega) only [up_o, up_s, upE_o, upE_s]
      simp only [p, and_self]
    · simp (disch := omega) only [up_o, up_k, upE_o]; exact p
  · rw [e1] at hc
    have p := a3 c hc
    unfold CC rE at p ⊢
    simp (disch := omega) only [up_o, upE_o]; exact p
  · rw [up_o _ _ _ _ _ (by omega)]; exact a4 c hc
  · simp (disch := omega) only [up_o, upE_o]; exact a5

theorem CM_M (hm : CM M b E z K0 K1) (h6 : E 0 ≤ 6) (h8 : E 1 ≤ 8) {t0 : Nat} (ht0 : t0 < 6) (v : Nat) : CM (j_up M (b + 4) t0 (nI v)) b (upE E (9 + 5 * t0) v) z K0 K1 := by
  obtain ⟨a1, a2, a3, a4, a5, a6, a7⟩ := hm
  have e0 : (upE E (9 + 5 * t0) v) 0 = E 0 := by simp (disch := omega) only [upE_o]
  have e1 : (upE E (9 + 5 * t0) v) 1 = E 1 := by simp (disch := omega) only [upE_o]
  refine ⟨?_, fun t ht => ?_, fun c hc => ?_, fun c hc => ?_, ?_, Cd_up a6 (by omega) (by omega), Cd_up a7 (by omega) (by omega)⟩
  · unfold CS at a1 ⊢
    rw [e0, e1]
    simp (disch := omega) only [up_o]; exact a1
  · rw [e0] at ht
    have p := a2 t ht
    unfold CT at p ⊢
    by_cases e : t = t0
    · subst e
      simp (disch := omega) only [up_o, up_s, upE_o, upE_s]
      simp only [p, and_self]
    · simp (disch := omega) only [up_o, up_k, upE_o]; exact p
  · rw [e1] at hc
    have p := a3 c hc
    unfold CC rE at p ⊢
    simp (disch := omega) only [up_o, upE_o]; exact p
  · rw [up_o _ _ _ _ _ (by omega)]; exact a4 c hc
  · simp (disch := omega) only [up_o, upE_o]; exact a5

theorem CM_W (hm : CM M b E z K0 K1) (h6 : E 0 ≤ 6) (h8 : E 1 ≤ 8) {t0 : Nat} (ht0 : t0 < 6) (v : Nat) : CM (j_up M (b + 6) t0 (nI v)) b (upE E (10 + 5 * t0) v) z K0 K1 := by
  obtain ⟨a1, a2, a3, a4, a5, a6, a7⟩ := hm
  have e0 : (upE E (10 + 5 * t0) v) 0 = E 0 := by simp (disch := omega) only [upE_o]
  have e1 : (upE E (10 + 5 * t0) v) 1 = E 1 := by simp (disch := omega) only [upE_o]
  refine ⟨?_, fun t ht => ?_, fun c hc => ?_, fun c hc => ?_, ?_, Cd_up a6 (by omega) (by omega), Cd_up a7 (by omega) (by omega)⟩
  · unfold CS at a1 ⊢
    rw [e0, e1]
    simp (disch := omega) only [up_o]; exact a1
  · rw [e0] at ht
    have p := a2 t ht
    unfold CT at p ⊢
    by_cases e : t = t0
    · subst e
      simp (disch := omega) only [up_o, up_s, upE_o, upE_s]
      simp only [p, and_self]
    · simp (disch := omega) only [up_o, up_k, upE_o]; exact p
  · rw [e1] at hc
    have p := a3 c hc
    unfold CC rE at p ⊢
    simp (disch := omega) only [up_o, upE_o]; exact p
  · rw [up_o _ _ _ _ _ (by omega)]; exact a4 c hc
  · simp (disch := omega) only [up_o, upE_o]; exact a5

theorem CM_P (hm : CM M b E z K0 K1) (h6 : E 0 ≤ 6) (h8 : E 1 ≤ 8) {t0 : Nat} (ht0 : t0 < 6) (v : Nat) : CM (j_up M (b + 8) t0 (nI v)) b (upE E (11 + 5 * t0) v) z K0 K1 := by
  obtain ⟨a1, a2, a3, a4, a5, a6, a7⟩ := hm
  have e0 : (upE E (11 + 5 * t0) v) 0 = E 0 := by simp (disch := omega) only [upE_o]
  have e1 : (upE E (11 + 5 * t0) v) 1 = E 1 := by simp (disch := omega) only [upE_o]
  refine ⟨?_, fun t ht => ?_, fun c hc => ?_, fun c hc => ?_, ?_, Cd_up a6 (by omega) (by omega), Cd_up a7 (by omega) (by omega)⟩
  · unfold CS at a1 ⊢
    rw [e0, e1]
    simp (disch := omega) only [up_o]; exact a1
  · rw [e0] at ht
    have p := a2 t ht
    unfold CT at p ⊢
    by_cases e : t = t0
    · subst e
      simp (disch := omega) only [up_o, up_s, upE_o, upE_s]
      simp only [p, and_self]
    · simp (disch := omega) only [up_o, up_k, upE_o]; exact p
  · rw [e1] at hc
    have p := a3 c hc
    unfold CC rE at p ⊢
    simp (disch := omega) only [up_o, upE_o]; exact p
  · rw [up_o _ _ _ _ _ (by omega)]; exact a4 c hc
  · simp (disch := omega) only [up_o, upE_o]; exact a5

theorem CM_L (hm : CM M b E z K0 K1) (h6 : E 0 ≤ 6) (h8 : E 1 ≤ 8) {t0 : Nat} (ht0 : t0 < 6) (v : Nat) : CM (j_up M (b + 10) t0 (nI v)) b (upE E (12 + 5 * t0) v) z K0 K1 := by
  obtain ⟨a1, a2, a3, a4, a5, a6, a7⟩ := hm
  have e0 : (upE E (12 + 5 * t0) v) 0 = E 0 := by simp (disch := omega) only [upE_o]
  have e1 : (upE E (12 + 5 * t0) v) 1 = E 1 := by simp (disch := omega) only [upE_o]
  refine ⟨?_, fun t ht => ?_, fun c hc => ?_, fun c hc => ?_, ?_, Cd_up a6 (by omega) (by omega), Cd_up a7 (by omega) (by omega)⟩
  · unfold CS at a1 ⊢
    rw [e0, e1]
    simp (disch := omega) only [up_o]; exact a1
  · rw [e0] at ht
    have p := a2 t ht
    unfold CT at p ⊢
    by_cases e : t = t0
    · subst e
      simp (disch := omega) only [up_o, up_s, upE_o, upE_s]
      simp only [p, and_self]
    · simp (disch := omega) only [up_o, up_k, upE_o]; exact p
  · rw [e1] at hc
    have p := a3 c hc
    unfold CC rE at p ⊢
    simp (disch := omega) only [up_o, upE_o]; exact p
  · rw [up_o _ _ _ _ _ (by omega)]; exact a4 c hc
  · simp (disch := omega) only [up_o, upE_o]; exact a5

theorem CM_H (hm : CM M b E z K0 K1) (h6 : E 0 ≤ 6) (h8 : E 1 ≤ 8) {c0 : Nat} (hc0 : c0 < 8) (v : Nat) : CM (j_up M (b + 14) c0 (nI v)) b (upE E (39 + 5 * c0) v) z K0 K1 := by
  obtain ⟨a1, a2, a3, a4, a5, a6, a7⟩ := hm
  have e0 : (upE E (39 + 5 * c0) v) 0 = E 0 := by simp (disch := omega) only [upE_o]
  have e1 : (upE E (39 + 5 * c0) v) 1 = E 1 := by simp (disch := omega) only [upE_o]
  refine ⟨?_, fun t ht => ?_, fun c hc => ?_, fun c hc => ?_, ?_, Cd_up a6 (by omega) (by omega), Cd_up a7 (by omega) (by omega)⟩
  · unfold CS at a1 ⊢
    rw [e0, e1]
    simp (disch := omega) only [up_o]; exact a1
  · rw [e0] at ht
    have p := a2 t ht
    unfold CT at p ⊢
    simp (disch := omega) only [up_o, upE_o]; exact p
  · rw [e1] at hc
    have p := a3 c hc
    unfold CC rE at p ⊢
    by_cases e : c = c0
    · subst e
      simp (disch := omega) only [up_o, up_s, upE_o, upE_s]
      simp only [p, and_self]
    · simp (disch := omega) only [up_o, up_k, upE_o]; exact p
  · rw [up_o _ _ _ _ _ (by omega)]; exact a4 c hc
  · simp (disch := omega) only [up_o, upE_o]; exact a5

theorem CM_R (hm : CM M b E z K0 K1) (h6 : E 0 ≤ 6) (h8 : E 1 ≤ 8) {c0 x y w : Nat} (hc0 : c0 < 8) (hrl : rn x y w < 1000) : CM (j_up M (b + 16) c0 (nI (rn x y w))) b (upR E c0 x y w) z K0 K1 := by
  obtain ⟨a1, a2, a3, a4, a5, a6, a7⟩ := hm
  have e0 : (upR E c0 x y w) 0 = E 0 := by simp (disch := omega) only [upR, upE_o]
  have e1 : (upR E c0 x y w) 1 = E 1 := by simp (disch := omega) only [upR, upE_o]
  refine ⟨?_, fun t ht => ?_, fun c hc => ?_, fun c hc => ?_, ?_, Cd_up a6 (by omega) (by omega), Cd_up a7 (by omega) (by omega)⟩
  · unfold CS at a1 ⊢
    rw [e0, e1]
    simp (disch := omega) only [up_o]; exact a1
  · rw [e0] at ht
    have p := a2 t ht
    unfold CT at p ⊢
    simp (disch := omega) only [up_o, upR, upE_o]; exact p
  · rw [e1] at hc
    have p := a3 c hc
    unfold CC rE at p ⊢
    by_cases e : c = c0
    · subst e
      simp (disch := omega) only [up_o, up_s, upR, upE_o, upE_s]
      simp only [p, and_self]
    · simp (disch := omega) only [up_o, up_k, upR, upE_o]; exact p
  · by_cases e : c = c0
    · subst e; exact ⟨_, hrl, up_s _ _ _⟩
    · rw [up_k _ _ _ _ e]; exact a4 c hc
  · simp (disch := omega) only [up_o, upR, upE_o]; exact a5

theorem CM_day (hm : CM M b E z K0 K1) (h6 : E 0 ≤ 6) (h8 : E 1 ≤ 8) (v : Nat) : CM (j_up M b 10 (nI v)) b (upE E 2 v) z K0 K1 := by
  obtain ⟨a1, a2, a3, a4, a5, a6, a7⟩ := hm
  have e0 : (upE E 2 v) 0 = E 0 := by simp (disch := omega) only [upE_o]
  have e1 : (upE E 2 v) 1 = E 1 := by simp (disch := omega) only [upE_o]
  refine ⟨?_, fun t ht => ?_, fun c hc => ?_, fun c hc => ?_, ?_, Cd_up a6 (by omega) (by omega), Cd_up a7 (by omega) (by omega)⟩
  · unfold CS at a1 ⊢
    rw [e0, e1]
    simp (disch := omega) only [up_o]; exact a1
  · rw [e0] at ht
    have p := a2 t ht
    unfold CT at p ⊢
    simp (disch := omega) only [up_o, upE_o]; exact p
  · rw [e1] at hc
    have p := a3 c hc
    unfold CC rE at p ⊢
    simp (disch := omega) only [up_o, upE_o]; exact p
  · rw [up_o _ _ _ _ _ (by omega)]; exact a4 c hc
  · simp (disch := omega) only [up_k, up_s, upE_o, upE_s]
    simp only [a5, and_self]

theorem CM_fade (hm : CM M b E z K0 K1) (h6 : E 0 ≤ 6) (h8 : E 1 ≤ 8) (v : Nat) : CM (j_up M b 11 (nI v)) b (upE E 4 v) z K0 K1 := by
  obtain ⟨a1, a2, a3, a4, a5, a6, a7⟩ := hm
  have e0 : (upE E 4 v) 0 = E 0 := by simp (disch := omega) only [upE_o]
  have e1 : (upE E 4 v) 1 = E 1 := by simp (disch := omega) only [upE_o]
  refine ⟨?_, fun t ht => ?_, fun c hc => ?_, fun c hc => ?_, ?_, Cd_up a6 (by omega) (by omega), Cd_up a7 (by omega) (by omega)⟩
  · unfold CS at a1 ⊢
    rw [e0, e1]
    simp (disch := omega) only [up_o]; exact a1
  · rw [e0] at ht
    have p := a2 t ht
    unfold CT at p ⊢
    simp (disch := omega) only [up_o, upE_o]; exact p
  · rw [e1] at hc
    have p := a3 c hc
    unfold CC rE at p ⊢
    simp (disch := omega) only [up_o, upE_o]; exact p
  · rw [up_o _ _ _ _ _ (by omega)]; exact a4 c hc
  · simp (disch := omega) only [up_k, up_s, upE_o, upE_s]
    simp only [a5, and_self]

theorem CM_sales (hm : CM M b E z K0 K1) (h6 : E 0 ≤ 6) (h8 : E 1 ≤ 8) (v : Nat) : CM (j_up M b 12 (nI v)) b (upE E 3 v) z K0 K1 := by
  obtain ⟨a1, a2, a3, a4, a5, a6, a7⟩ := hm
  have e0 : (upE E 3 v) 0 = E 0 := by simp (disch := omega) only [upE_o]
  have e1 : (upE E 3 v) 1 = E 1 := by simp (disch := omega) only [upE_o]
  refine ⟨?_, fun t ht => ?_, fun c hc => ?_, fun c hc => ?_, ?_, Cd_up a6 (by omega) (by omega), Cd_up a7 (by omega) (by omega)⟩
  · unfold CS at a1 ⊢
    rw [e0, e1]
    simp (disch := omega) only [up_o]; exact a1
  · rw [e0] at ht
    have p := a2 t ht
    unfold CT at p ⊢
    simp (disch := omega) only [up_o, upE_o]; exact p
  · rw [e1] at hc
    have p := a3 c hc
    unfold CC rE at p ⊢
    simp (disch := omega) only [up_o, upE_o]; exact p
  · rw [up_o _ _ _ _ _ (by omega)]; exact a4 c hc
  · simp (disch := omega) only [up_k, up_s, upE_o, upE_s]
    simp only [a5, and_self]

theorem CM_z (hm : CM M b E z K0 K1) (v : Int32) : CM (j_up M b 13 v) b E v K0 K1 := by
  obtain ⟨a1, a2, a3, a4, a5, a6, a7⟩ := hm
  refine ⟨?_, fun t ht => ?_, fun c hc => ?_, fun c hc => ?_, ?_, Cd_up a6 (by omega) (by omega), Cd_up a7 (by omega) (by omega)⟩
  · unfold CS at a1 ⊢
    simp (disch := omega) only [up_o]; exact a1
  · have p := a2 t ht
    unfold CT at p ⊢
    simp (disch := omega) only [up_o]; exact p
  · have p := a3 c hc
    unfold CC at p ⊢
    simp (disch := omega) only [up_o]; exact p
  · rw [up_o _ _ _ _ _ (by omega)]; exact a4 c hc
  · simp (disch := omega) only [up_k, up_s]
    simp only [a5, and_self]

