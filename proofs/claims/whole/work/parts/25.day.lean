/-! The class's Market: a day. -/
variable {h : j_Hd} {M : Nat → Nat → Int32} {σ : j_St} {d b : Nat} {E : Nat → Nat} {z : Int32} {K0 K1 : List Int32}
/-- the ints that no row is made of -/
def sr (E E' : Nat → Nat) : Prop := ∀ j, (j < 38 ∨ j % 5 = 3 ∨ j % 5 = 4) → E' j = E j
theorem sr_r : sr E E := fun _ _ => rfl
theorem sr_t {E1 E2 E3 : Nat → Nat} (h1 : sr E1 E2) (h2 : sr E2 E3) : sr E1 E3 := fun j hj => by rw [h2 j hj, h1 j hj]
theorem sr_R (c x y w : Nat) : sr E (upR E c x y w) := fun j hj => by
  unfold upR; rw [upE_o _ (by omega), upE_o _ (by omega), upE_o _ (by omega)]
theorem WE_R (hw : WE E) {c x y w : Nat} (hr : Rw x y w) : WE (upR E c x y w) := by
  obtain ⟨h1, h2, h3, h4, h5, h6, h7, h8⟩ := hw
  have o : ∀ j, j < 38 → upR E c x y w j = E j := fun j hj => sr_R c x y w j (.inl hj)
  refine ⟨by rw [o 0 (by omega)]; exact h1, by rw [o 1 (by omega)]; exact h2, by rw [o 2 (by omega)]; exact h3, by rw [o 3 (by omega)]; exact h4, by rw [o 4 (by omega)]; exact h5, by rw [o 4 (by omega)]; exact h6, fun t' ht' => ?_, fun c' hc' => ?_⟩
  · rw [o 0 (by omega)] at ht'
    have p := h7 t' ht'
    unfold Tv at p ⊢
    rw [o _ (by omega), o _ (by omega), o _ (by omega), o _ (by omega), o _ (by omega)]; exact p
  · rw [o 1 (by omega)] at hc'
    have p := h8 c' hc'
    unfold Cv at p ⊢
    rw [o 0 (by omega), sr_R c x y w (38 + 5 * c') (by omega), sr_R c x y w (39 + 5 * c') (by omega)]
    refine ⟨p.1, p.2.1, p.2.2.1, ?_⟩
    unfold upR
    by_cases e : c' = c
    · subst e; simp (disch := omega) only [upE_o, upE_s]; exact hr
    · simp (disch := omega) only [upE_o]; exact p.2.2.2
/-- a smell more behind a row; a smell less -/
def oX (x s : Nat) : Nat := if x = 0 then s else x
def oY (x y s : Nat) : Nat := if x = 0 then y else if y = 0 then s else y
def oZ (x y w s : Nat) : Nat := if x = 0 then w else if y = 0 then w else if w = 0 then s else w
def addS (E : Nat → Nat) (c s : Nat) : Nat → Nat := upR E c (oX (E (40 + 5 * c)) s) (oY (E (40 + 5 * c)) (E (41 + 5 * c)) s) (oZ (E (40 + 5 * c)) (E (41 + 5 * c)) (E (42 + 5 * c)) s)
def drpS (E : Nat → Nat) (c : Nat) : Nat → Nat := upR E c (if E (41 + 5 * c) = 0 then 0 else E (40 + 5 * c)) (if E (42 + 5 * c) = 0 then 0 else E (41 + 5 * c)) 0
theorem wo_o {x y w s : Nat} (hr : Rw x y w) (hs : 1 ≤ s) : wo_ (rn x y w) s = rn (oX x s) (oY x y s) (oZ x y w s) := by
  rw [wo_rn hr s hs]
  obtain ⟨h1, h2, h3, h4, h5⟩ := hr
  unfold rs oX oY oZ
  by_cases e1 : x = 0
  · have := h4 e1; have := h5 this; subst_vars; simp only [↓reduceIte]
  · by_cases e2 : y = 0
    · have := h5 e2; subst_vars; simp only [e1, ↓reduceIte, Nat.one_ne_zero]
    · by_cases e3 : w = 0
      · subst e3; simp only [e1, e2, ↓reduceIte]; rfl
      · simp only [e1, e2, e3, ↓reduceIte]; rfl
theorem o_rw {x y w s : Nat} (hr : Rw x y w) (hs : 1 ≤ s) (hs7 : s ≤ 7) : Rw (oX x s) (oY x y s) (oZ x y w s) := by
  obtain ⟨h1, h2, h3, h4, h5⟩ := hr
  unfold oX oY oZ
  by_cases e1 : x = 0
  · have := h4 e1; have := h5 this; subst_vars; simp only [↓reduceIte]; exact ⟨by omega, by omega, by omega, fun _ => by omega, fun _ => by omega⟩
  · by_cases e2 : y = 0
    · have := h5 e2; subst_vars; simp only [e1, ↓reduceIte]; exact ⟨by omega, by omega, by omega, fun _ => by omega, fun _ => by omega⟩
    · by_cases e3 : w = 0
      · subst e3; simp only [e1, e2, ↓reduceIte]; exact ⟨by omega, by omega, by omega, fun _ => by omega, fun _ => by omega⟩
      · simp only [e1, e2, e3, ↓reduceIte]; exact ⟨by omega, by omega, by omega, fun _ => by omega, fun _ => by omega⟩
theorem d_rn {x y w : Nat} (hr : Rw x y w) : rn x y w / 10 = rn (if y = 0 then 0 else x) (if w = 0 then 0 else y) 0 := by
  rw [fd_rn hr]
  obtain ⟨h1, h2, h3, h4, h5⟩ := hr
  unfold rs
  by_cases e1 : x = 0
  · have := h4 e1; have := h5 this; subst_vars; rfl
  · by_cases e2 : y = 0
    · have := h5 e2; subst_vars; rw [if_neg e1]; rfl
    · by_cases e3 : w = 0
      · subst e3; simp only [e1, e2, ↓reduceIte]; rfl
      · simp only [e1, e2, e3, ↓reduceIte]
theorem d_rw {x y w : Nat} (hr : Rw x y w) : Rw (if y = 0 then 0 else x) (if w = 0 then 0 else y) 0 := by
  obtain ⟨h1, h2, h3, h4, h5⟩ := hr
  by_cases e2 : y = 0
  · have := h5 e2; subst_vars; simp only [↓reduceIte]; exact ⟨by omega, by omega, by omega, fun _ => by omega, fun _ => by omega⟩
  · by_cases e3 : w = 0
    · subst e3; simp only [e2, ↓reduceIte]; exact ⟨by omega, by omega, by omega, fun _ => by omega, fun _ => by omega⟩
    · simp only [e2, e3, ↓reduceIte]; exact ⟨by omega, by omega, by omega, fun _ => by omega, fun _ => by omega⟩
/-- the first coin from c on that a trader holds -/
def fstF (E : Nat → Nat) (t : Nat) : Nat → Nat → Nat
  | 0, c => c
  | r + 1, c => if E (39 + 5 * c) = t then c else fstF E t r (c + 1)
def mgL (t s : Nat) : (Nat → Nat) → Nat → Nat → (Nat → Nat)
  | E, 0, _ => E
  | E, r + 1, c => mgL t s (if E (39 + 5 * c) = t then addS E c s else E) r (c + 1)
def mgl (E : Nat → Nat) (t : Nat) : Nat → Nat := if fstF E t (E 1) 0 < E 1 ∧ E (40 + 5 * fstF E t (E 1) 0) ≠ 0 then mgL t (E (40 + 5 * fstF E t (E 1) 0)) E (E 1 - (fstF E t (E 1) 0 + 1)) (fstF E t (E 1) 0 + 1) else E
theorem fstF_le (t : Nat) : ∀ r c, fstF E t r c ≤ r + c ∧ c ≤ fstF E t r c := by
  intro r
  induction r with
  | zero => intro c; unfold fstF; omega
  | succ r ih => intro c; unfold fstF; split
                 · omega
                 · have := ih (c + 1); omega
theorem mgL_sr (t s : Nat) : ∀ r c (E : Nat → Nat), sr E (mgL t s E r c) := by
  intro r
  induction r with
  | zero => intro c E; exact sr_r
  | succ r ih =>
    intro c E
    unfold mgL
    refine sr_t ?_ (ih _ _)
    split
    · exact sr_R _ _ _ _
    · exact sr_r
theorem mgL_WE {t s : Nat} (hs : 1 ≤ s) (hs7 : s ≤ 7) : ∀ r c (E : Nat → Nat), WE E → r + c ≤ E 1 → WE (mgL t s E r c) := by
  intro r
  induction r with
  | zero => intro c E hw _; exact hw
  | succ r ih =>
    intro c E hw hr
    unfold mgL
    by_cases e : E (39 + 5 * c) = t
    · rw [if_pos e]
      refine ih _ _ (WE_R hw (o_rw (hw.2.2.2.2.2.2.2 c (by omega)).2.2.2 hs hs7)) ?_
      rw [addS, sr_R _ _ _ _ 1 (by omega)]; omega
    · rw [if_neg e]; exact ih _ _ hw (by omega)
theorem mgl_sr (t : Nat) : sr E (mgl E t) := by
  unfold mgl; split
  · exact mgL_sr _ _ _ _ _
  · exact sr_r
theorem mgl_WE (hw : WE E) (t : Nat) : WE (mgl E t) := by
  unfold mgl; split
  · rename_i e
    have cv := (hw.2.2.2.2.2.2.2 _ e.1).2.2.2
    exact mgL_WE (by omega) cv.1 _ _ _ hw (by omega)
  · exact hw
theorem c23a (hk : Mk h b) (hm : CM M b E z K0 K1) (hw : WE E) {t : Nat} (ht : t < 10) (o3 o4 : Option Value) : ∀ r c, r + c = E 1 → j_X (d + 2) 23 2 [some (.ref b), some (.int (nI t)), some (.int (nI c)), o3, o4] [] (FS h M) = j_X (d + 2) 23 25 [some (.ref b), some (.int (nI t)), some (.int (nI (fstF E t r c))), o3, o4] [] (FS h M) := by
  have h8 := hw.2.1
  have hs := hm.1.2.2.2.2.2.1
  intro r
  induction r with
  | zero =>
    intro c hc
    have e1 : ¬ c < E 1 := by omega
    rw [st_23_2]
    simp (disch := omega) only [st_23_0, st_23_1, st_23_3, st_23_4, st_23_7, st_23_10, st_23_11, st_23_12, st_23_13, st_23_16, st_23_19, st_23_22, ini_23, fs_cl, fs_len, fs_rf, fs_M, fs_put, fs_cpy, ↓reduceIte, rv_ref, true_or, or_true, true_and, and_true, nI_ltI, ix_nI, nI_clamp, ps_i, ps_n, Option.bind_some, sm_0, sm_1, sm_2, sm_3, sm_4, sto_0, sto_1, sto_2, sto_3, sto_4, sto_5, sto_6, sto_7, sto_8, sto_9, sto_10, sto_11, sto_12, sto_13, sto_14, nlo_n, nlo_i, nlo_r, nlo_0, nlo_l, and_self, or_self, Nat.reduceEqDiff, Nat.reduceLT, Nat.reduceLeDiff, Nat.one_ne_zero, Nat.zero_ne_one, hk.1, c7 hk, hs, e1, fstF]
  | succ r ih =>
    intro c hc
    have e1 : c < E 1 := by omega
    rw [st_23_2]
    unfold fstF
    have g := c12 (d := d) hk hm hw ht e1
    by_cases e : E (39 + 5 * c) = t
    · simp (disch := omega) only [st_23_0, st_23_1, st_23_3, st_23_4, st_23_7, st_23_10, st_23_11, st_23_12, st_23_13, st_23_16, st_23_19, st_23_22, ini_23, fs_cl, fs_len, fs_rf, fs_M, fs_put, fs_cpy, ↓reduceIte, rv_ref, true_or, or_true, true_and, and_true, nI_ltI, ix_nI, nI_clamp, ps_i, ps_n, Option.bind_some, sm_0, sm_1, sm_2, sm_3, sm_4, sto_0, sto_1, sto_2, sto_3, sto_4, sto_5, sto_6, sto_7, sto_8, sto_9, sto_10, sto_11, sto_12, sto_13, sto_14, nlo_n, nlo_i, nlo_r, nlo_0, nlo_l, and_self, or_self, Nat.reduceEqDiff, Nat.reduceLT, Nat.reduceLeDiff, Nat.one_ne_zero, Nat.zero_ne_one, hk.1, c7 hk, hs, e1, g, e, nI_eq]
    · simp (disch := omega) only [st_23_0, st_23_1, st_23_3, st_23_4, st_23_7, st_23_10, st_23_11, st_23_12, st_23_13, st_23_16, st_23_19, st_23_22, ini_23, fs_cl, fs_len, fs_rf, fs_M, fs_put, fs_cpy, ↓reduceIte, rv_ref, true_or, or_true, true_and, and_true, nI_ltI, ix_nI, nI_clamp, ps_i, ps_n, Option.bind_some, sm_0, sm_1, sm_2, sm_3, sm_4, sto_0, sto_1, sto_2, sto_3, sto_4, sto_5, sto_6, sto_7, sto_8, sto_9, sto_10, sto_11, sto_12, sto_13, sto_14, nlo_n, nlo_i, nlo_r, nlo_0, nlo_l, and_self, or_self, Nat.reduceEqDiff, Nat.reduceLT, Nat.reduceLeDiff, Nat.one_ne_zero, Nat.zero_ne_one, hk.1, c7 hk, hs, e1, g, e, nI_add, ih (c + 1) (by omega)]
theorem c23b (hk : Mk h b) {t s f : Nat} (ht : t < 10) (hs : 1 ≤ s) (hs7 : s ≤ 7) : ∀ r c (E : Nat → Nat) (M : Nat → Nat → Int32), CM M b E z K0 K1 → WE E → r + c = E 1 → ∃ M', j_X (d + 2) 23 55 [some (.ref b), some (.int (nI t)), some (.int (nI f)), some (.int (nI s)), some (.int (nI c))] [] (FS h M) = some (none, FS h M') ∧ CM M' b (mgL t s E r c) z K0 K1 ∧ mg b M M' := by
  intro r
  induction r with
  | zero =>
    intro c E M hm hw hc
    have h8 := hw.2.1
    have e1 : ¬ c < E 1 := by omega
    refine ⟨M, ?_, hm, mg_r⟩
    rw [st_23_55]
    simp (disch := omega) only [st_23_57, st_23_58, st_23_61, st_23_64, st_23_65, st_23_66, st_23_68, st_23_71, st_23_74, st_23_75, st_23_78, st_23_80, st_23_81, st_23_84, st_23_86, st_23_89, st_23_90, st_23_93, st_23_96, st_23_99, st_23_102, ini_23, fs_cl, fs_len, fs_rf, fs_M, fs_put, fs_cpy, ↓reduceIte, rv_ref, true_or, or_true, true_and, and_true, nI_ltI, ix_nI, nI_clamp, ps_i, ps_n, Option.bind_some, sm_0, sm_1, sm_2, sm_3, sm_4, sto_0, sto_1, sto_2, sto_3, sto_4, sto_5, sto_6, sto_7, sto_8, sto_9, sto_10, sto_11, sto_12, sto_13, sto_14, nlo_n, nlo_i, nlo_r, nlo_0, nlo_l, and_self, or_self, Nat.reduceEqDiff, Nat.reduceLT, Nat.reduceLeDiff, Nat.one_ne_zero, Nat.zero_ne_one, hk.1, c7 hk, hm.1.2.2.2.2.2.1, e1]
  | succ r ih =>
    intro c E M hm hw hc
    have h8 := hw.2.1
    have e1 : c < E 1 := by omega
    have g := c12 (d := d) hk hm hw ht e1
    unfold mgL
    by_cases e : E (39 + 5 * c) = t
    · rw [if_pos e]
      have cv := hw.2.2.2.2.2.2.2 c e1
      obtain ⟨m0, _, _, _, _, _, _, _, ⟨r7, n7⟩, _⟩ := id hk
      have o := o_rw cv.2.2.2 hs hs7
      have hm2 := CM_R (c0 := c) hm hw.1 h8 (by omega) (rn_lt o)
      have hw2 := WE_R (c := c) hw o
      have g7 := n33i (d := d + 1) (M := M) n7 (by omega : c < 8)
      have gc := (hm.2.2.1 c e1).2.2
      have go := c137 (σ := FS h M) (d := d) (v := rE E c) (w := s) (by have := rn_lt cv.2.2.2; unfold rE; omega)
      unfold rE at gc go
      rw [wo_o cv.2.2.2 hs] at go
      have w7 := n34 (d := d + 1) (M := M) n7 (by omega : c < 8) (nI (rn (oX (E (40 + 5 * c)) s) (oY (E (40 + 5 * c)) (E (41 + 5 * c)) s) (oZ (E (40 + 5 * c)) (E (41 + 5 * c)) (E (42 + 5 * c)) s)))
      obtain ⟨M', p1, p2, p3⟩ := ih (c + 1) (addS E c s) _ hm2 hw2 (by rw [addS, sr_R _ _ _ _ 1 (by omega)]; omega)
      refine ⟨M', ?_, p2, mg_t (mg_up _ (by omega) (by omega)) p3⟩
      rw [st_23_55]
      simp (disch := omega) only [st_23_57, st_23_58, st_23_61, st_23_64, st_23_65, st_23_66, st_23_68, st_23_71, st_23_74, st_23_75, st_23_78, st_23_80, st_23_81, st_23_84, st_23_86, st_23_89, st_23_90, st_23_93, st_23_96, st_23_99, st_23_102, ini_23, fs_cl, fs_len, fs_rf, fs_M, fs_put, fs_cpy, ↓reduceIte, rv_ref, true_or, or_true, true_and, and_true, nI_ltI, ix_nI, nI_clamp, ps_i, ps_n, Option.bind_some, sm_0, sm_1, sm_2, sm_3, sm_4, sto_0, sto_1, sto_2, sto_3, sto_4, sto_5, sto_6, sto_7, sto_8, sto_9, sto_10, sto_11, sto_12, sto_13, sto_14, nlo_n, nlo_i, nlo_r, nlo_0, nlo_l, and_self, or_self, Nat.reduceEqDiff, Nat.reduceLT, Nat.reduceLeDiff, Nat.one_ne_zero, Nat.zero_ne_one, hk.1, c7 hk, hm.1.2.2.2.2.2.1, e1, g, e, nI_eq, r7, n7.1, g7, gc, go, w7, nI_add, p1]
    · rw [if_neg e]
      obtain ⟨M', p1, p2, p3⟩ := ih (c + 1) E M hm hw (by omega)
      refine ⟨M', ?_, p2, p3⟩
      rw [st_23_55]
      simp (disch := omega) only [st_23_57, st_23_58, st_23_61, st_23_64, st_23_65, st_23_66, st_23_68, st_23_71, st_23_74, st_23_75, st_23_78, st_23_80, st_23_81, st_23_84, st_23_86, st_23_89, st_23_90, st_23_93, st_23_96, st_23_99, st_23_102, ini_23, fs_cl, fs_len, fs_rf, fs_M, fs_put, fs_cpy, ↓reduceIte, rv_ref, true_or, or_true, true_and, and_true, nI_ltI, ix_nI, nI_clamp, ps_i, ps_n, Option.bind_some, sm_0, sm_1, sm_2, sm_3, sm_4, sto_0, sto_1, sto_2, sto_3, sto_4, sto_5, sto_6, sto_7, sto_8, sto_9, sto_10, sto_11, sto_12, sto_13, sto_14, nlo_n, nlo_i, nlo_r, nlo_0, nlo_l, and_self, or_self, Nat.reduceEqDiff, Nat.reduceLT, Nat.reduceLeDiff, Nat.one_ne_zero, Nat.zero_ne_one, hk.1, c7 hk, hm.1.2.2.2.2.2.1, e1, g, e, nI_add, p1]
theorem c23 (hk : Mk h b) (hm : CM M b E z K0 K1) (hw : WE E) {t : Nat} (ht : t < 10) : ∃ M', j_C (d + 3) 23 [.ref b, .int (nI t)] (FS h M) = some (none, FS h M') ∧ CM M' b (mgl E t) z K0 K1 ∧ mg b M M' := by
  have h8 := hw.2.1
  obtain ⟨m0, _, _, _, _, _, _, _, ⟨r7, n7⟩, _⟩ := id hk
  have hA := c23a (d := d) hk hm hw ht none none (E 1) 0 (by omega)
  have hf := fstF_le (E := E) t (E 1) 0
  unfold mgl
  generalize fstF E t (E 1) 0 = f at hA hf ⊢
  by_cases e1 : f < E 1
  · have cv := hw.2.2.2.2.2.2.2 f e1
    have gc := (hm.2.2.1 f e1).2.2
    have g7 := n33i (d := d + 1) (M := M) n7 (by omega : f < 8)
    have g4 := c134 (σ := FS h M) (d := d) (v := rE E f) (by have := rn_lt cv.2.2.2; unfold rE; omega)
    unfold rE at gc g4
    rw [sz_rn cv.2.2.2, dg_0 cv.2.2.2] at g4
    generalize rn (E (40 + 5 * f)) (E (41 + 5 * f)) (E (42 + 5 * f)) = v at gc g4
    by_cases e2 : E (40 + 5 * f) = 0
    · rw [if_neg (fun hh => hh.2 e2)]
      refine ⟨M, ?_, hm, mg_r⟩
      rw [j_C_eq]
      simp (disch := omega) only [st_23_0, st_23_1, ini_23, fs_cl, fs_len, fs_rf, fs_M, fs_put, fs_cpy, ↓reduceIte, rv_ref, true_or, or_true, true_and, and_true, nI_ltI, ix_nI, nI_clamp, ps_i, ps_n, Option.bind_some, sm_0, sm_1, sm_2, sm_3, sm_4, sto_0, sto_1, sto_2, sto_3, sto_4, sto_5, sto_6, sto_7, sto_8, sto_9, sto_10, sto_11, sto_12, sto_13, sto_14, nlo_n, nlo_i, nlo_r, nlo_0, nlo_l, and_self, or_self, Nat.reduceEqDiff, Nat.reduceLT, Nat.reduceLeDiff, Nat.one_ne_zero, Nat.zero_ne_one, hA]
      simp (disch := omega) only [st_23_25, st_23_26, st_23_29, st_23_30, st_23_33, st_23_36, st_23_37, st_23_38, st_23_39, st_23_42, st_23_45, st_23_46, st_23_49, ini_23, fs_cl, fs_len, fs_rf, fs_M, fs_put, fs_cpy, ↓reduceIte, rv_ref, true_or, or_true, true_and, and_true, nI_ltI, ix_nI, nI_clamp, ps_i, ps_n, Option.bind_some, sm_0, sm_1, sm_2, sm_3, sm_4, sto_0, sto_1, sto_2, sto_3, sto_4, sto_5, sto_6, sto_7, sto_8, sto_9, sto_10, sto_11, sto_12, sto_13, sto_14, nlo_n, nlo_i, nlo_r, nlo_0, nlo_l, and_self, or_self, Nat.reduceEqDiff, Nat.reduceLT, Nat.reduceLeDiff, Nat.one_ne_zero, Nat.zero_ne_one, m0, r7, n7.1, g7, gc, g4, c7 hk, hm.1.2.2.2.2.2.1, e1, e2]
    · rw [if_pos ⟨e1, e2⟩]
      have e3 : ¬ nI (E (40 + 5 * f)) = nI 0 := nI_ne e2 (by have := cv.2.2.2.1; omega) (by omega)
      obtain ⟨M', p1, p2, p3⟩ := c23b (d := d) (f := f) hk ht (by omega) cv.2.2.2.1 (E 1 - (f + 1)) (f + 1) E M hm hw (by omega)
      refine ⟨M', ?_, p2, p3⟩
      rw [j_C_eq]
      simp (disch := omega) only [st_23_0, st_23_1, ini_23, fs_cl, fs_len, fs_rf, fs_M, fs_put, fs_cpy, ↓reduceIte, rv_ref, true_or, or_true, true_and, and_true, nI_ltI, ix_nI, nI_clamp, ps_i, ps_n, Option.bind_some, sm_0, sm_1, sm_2, sm_3, sm_4, sto_0, sto_1, sto_2, sto_3, sto_4, sto_5, sto_6, sto_7, sto_8, sto_9, sto_10, sto_11, sto_12, sto_13, sto_14, nlo_n, nlo_i, nlo_r, nlo_0, nlo_l, and_self, or_self, Nat.reduceEqDiff, Nat.reduceLT, Nat.reduceLeDiff, Nat.one_ne_zero, Nat.zero_ne_one, hA]
      simp (disch := omega) only [st_23_25, st_23_26, st_23_29, st_23_30, st_23_33, st_23_36, st_23_37, st_23_38, st_23_39, st_23_42, st_23_45, st_23_46, st_23_49, st_23_50, st_23_51, st_23_52, st_23_53, ini_23, fs_cl, fs_len, fs_rf, fs_M, fs_put, fs_cpy, ↓reduceIte, rv_ref, true_or, or_true, true_and, and_true, nI_ltI, ix_nI, nI_clamp, ps_i, ps_n, Option.bind_some, sm_0, sm_1, sm_2, sm_3, sm_4, sto_0, sto_1, sto_2, sto_3, sto_4, sto_5, sto_6, sto_7, sto_8, sto_9, sto_10, sto_11, sto_12, sto_13, sto_14, nlo_n, nlo_i, nlo_r, nlo_0, nlo_l, and_self, or_self, Nat.reduceEqDiff, Nat.reduceLT, Nat.reduceLeDiff, Nat.one_ne_zero, Nat.zero_ne_one, m0, r7, n7.1, g7, gc, g4, c7 hk, hm.1.2.2.2.2.2.1, e1, e3, nI_add, p1]
  · rw [if_neg (fun hh => e1 hh.1)]
    have gx : ∃ v, v < 1000 ∧ j_C (d + 2) 33 [.ref (b + 15), .int (nI f)] (FS h M) = some (some (.int (nI v)), FS h M) := by
      rw [n33 (d := d + 1) (M := M) n7 (by omega)]
      by_cases e3 : f < 8
      · obtain ⟨v, v1, v2⟩ := hm.2.2.2.1 f e3
        exact ⟨v, v1, by rw [if_pos e3, v2]⟩
      · exact ⟨0, by omega, by rw [if_neg e3]⟩
    obtain ⟨v, v1, g7⟩ := gx
    have g4 := c134 (σ := FS h M) (d := d) (v := v) (by omega)
    refine ⟨M, ?_, hm, mg_r⟩
    rw [j_C_eq]
    simp (disch := omega) only [st_23_0, st_23_1, ini_23, fs_cl, fs_len, fs_rf, fs_M, fs_put, fs_cpy, ↓reduceIte, rv_ref, true_or, or_true, true_and, and_true, nI_ltI, ix_nI, nI_clamp, ps_i, ps_n, Option.bind_some, sm_0, sm_1, sm_2, sm_3, sm_4, sto_0, sto_1, sto_2, sto_3, sto_4, sto_5, sto_6, sto_7, sto_8, sto_9, sto_10, sto_11, sto_12, sto_13, sto_14, nlo_n, nlo_i, nlo_r, nlo_0, nlo_l, and_self, or_self, Nat.reduceEqDiff, Nat.reduceLT, Nat.reduceLeDiff, Nat.one_ne_zero, Nat.zero_ne_one, hA]
    simp (disch := omega) only [st_23_25, st_23_26, st_23_29, st_23_30, st_23_33, st_23_36, st_23_37, st_23_38, st_23_39, st_23_42, st_23_45, st_23_46, st_23_49, ini_23, fs_cl, fs_len, fs_rf, fs_M, fs_put, fs_cpy, ↓reduceIte, rv_ref, true_or, or_true, true_and, and_true, nI_ltI, ix_nI, nI_clamp, ps_i, ps_n, Option.bind_some, sm_0, sm_1, sm_2, sm_3, sm_4, sto_0, sto_1, sto_2, sto_3, sto_4, sto_5, sto_6, sto_7, sto_8, sto_9, sto_10, sto_11, sto_12, sto_13, sto_14, nlo_n, nlo_i, nlo_r, nlo_0, nlo_l, and_self, or_self, Nat.reduceEqDiff, Nat.reduceLT, Nat.reduceLeDiff, Nat.one_ne_zero, Nat.zero_ne_one, m0, r7, n7.1, g7, g4, c7 hk, hm.1.2.2.2.2.2.1, e1]

/-- the days: all mingle, the day goes on, the rows fade -/
def mga : (Nat → Nat) → Nat → Nat → (Nat → Nat)
  | E, 0, _ => E
  | E, r + 1, t => mga (mgl E t) r (t + 1)
def fdL : (Nat → Nat) → Nat → Nat → (Nat → Nat)
  | E, 0, _ => E
  | E, r + 1, c => fdL (drpS E c) r (c + 1)
def day0 (E : Nat → Nat) : Nat → Nat := upE (mga E (E 0) 0) 2 (E 2 + 1)
def dayE (E : Nat → Nat) : Nat → Nat := if (E 2 + 1) % E 4 = 0 then fdL (day0 E) (E 1) 0 else day0 E
theorem mga_sr : ∀ r t (E : Nat → Nat), sr E (mga E r t) := by
  intro r
  induction r with
  | zero => intro t E; exact sr_r
  | succ r ih => intro t E; exact sr_t (mgl_sr t) (ih _ _)
theorem mga_WE : ∀ r t (E : Nat → Nat), WE E → WE (mga E r t) := by
  intro r
  induction r with
  | zero => intro t E hw; exact hw
  | succ r ih => intro t E hw; exact ih _ _ (mgl_WE hw t)
theorem fdL_sr : ∀ r c (E : Nat → Nat), sr E (fdL E r c) := by
  intro r
  induction r with
  | zero => intro t E; exact sr_r
  | succ r ih => intro t E; exact sr_t (sr_R _ _ _ _) (ih _ _)
theorem fdL_WE : ∀ r c (E : Nat → Nat), WE E → r + c ≤ E 1 → WE (fdL E r c) := by
  intro r
  induction r with
  | zero => intro t E hw _; exact hw
  | succ r ih =>
    intro c E hw hc
    refine ih _ _ (WE_R hw (d_rw (hw.2.2.2.2.2.2.2 c (by omega)).2.2.2)) ?_
    rw [drpS, sr_R _ _ _ _ 1 (by omega)]; omega
/-- an int of the land that is no row, no holder, no count of days or sales -/
theorem WE_day (hw : WE E) {v : Nat} (hv : v < 100000) : WE (upE E 2 v) := by
  obtain ⟨h1, h2, h3, h4, h5, h6, h7, h8⟩ := hw
  have o : ∀ j, j ≠ 2 → upE E 2 v j = E j := fun j hj => upE_o _ hj
  refine ⟨by rw [o 0 (by omega)]; exact h1, by rw [o 1 (by omega)]; exact h2, by rw [upE_s]; exact hv, by rw [o 3 (by omega)]; exact h4, by rw [o 4 (by omega)]; exact h5, by rw [o 4 (by omega)]; exact h6, fun t' ht' => ?_, fun c' hc' => ?_⟩
  · rw [o 0 (by omega)] at ht'
    have p := h7 t' ht'
    unfold Tv at p ⊢
    rw [o _ (by omega), o _ (by omega), o _ (by omega), o _ (by omega), o _ (by omega)]; exact p
  · rw [o 1 (by omega)] at hc'
    have p := h8 c' hc'
    unfold Cv at p ⊢
    rw [o 0 (by omega), o (38 + 5 * c') (by omega), o (39 + 5 * c') (by omega), o (40 + 5 * c') (by omega), o (41 + 5 * c') (by omega), o (42 + 5 * c') (by omega)]; exact p
theorem day0_o {j : Nat} (hj : j < 38 ∨ j % 5 = 3 ∨ j % 5 = 4) (h2 : j ≠ 2) : day0 E j = E j := by
  unfold day0; rw [upE_o _ h2, mga_sr _ _ _ j hj]
theorem day0_2 : day0 E 2 = E 2 + 1 := upE_s _ _
theorem dayE_o {j : Nat} (hj : j < 38 ∨ j % 5 = 3 ∨ j % 5 = 4) (h2 : j ≠ 2) : dayE E j = E j := by
  unfold dayE; split
  · rw [fdL_sr _ _ _ j hj, day0_o hj h2]
  · exact day0_o hj h2
theorem dayE_2 : dayE E 2 = E 2 + 1 := by
  unfold dayE; split
  · rw [fdL_sr _ _ _ 2 (by omega), day0_2]
  · exact day0_2
theorem day0_WE (hw : WE E) (hd : E 2 + 1 < 100000) : WE (day0 E) := WE_day (mga_WE _ _ _ hw) hd
theorem dayE_WE (hw : WE E) (hd : E 2 + 1 < 100000) : WE (dayE E) := by
  unfold dayE; split
  · exact fdL_WE _ _ _ (day0_WE hw hd) (by rw [day0_o (by omega) (by omega)]; omega)
  · exact day0_WE hw hd
theorem c22a (hk : Mk h b) : ∀ r t (E : Nat → Nat) (M : Nat → Nat → Int32), CM M b E z K0 K1 → WE E → r + t = E 0 → ∃ M', j_X (d + 3) 22 2 [some (.ref b), some (.int (nI t))] [] (FS h M) = j_X (d + 3) 22 21 [some (.ref b), some (.int (nI (E 0)))] [] (FS h M') ∧ CM M' b (mga E r t) z K0 K1 ∧ mg b M M' := by
  intro r
  induction r with
  | zero =>
    intro t E M hm hw ht
    have h6 := hw.1
    have e1 : ¬ t < E 0 := by omega
    refine ⟨M, ?_, hm, mg_r⟩
    rw [st_22_2]
    simp (disch := omega) only [st_22_0, st_22_1, st_22_3, st_22_4, st_22_7, st_22_10, st_22_11, st_22_12, st_22_15, st_22_18, ini_22, fs_cl, fs_len, fs_rf, fs_M, fs_put, fs_cpy, ↓reduceIte, rv_ref, true_or, or_true, true_and, and_true, nI_ltI, ix_nI, nI_clamp, ps_i, ps_n, Option.bind_some, sm_0, sm_1, sm_2, sm_3, sm_4, sto_0, sto_1, sto_2, sto_3, sto_4, sto_5, sto_6, sto_7, sto_8, sto_9, sto_10, sto_11, sto_12, sto_13, sto_14, nlo_n, nlo_i, nlo_r, nlo_0, nlo_l, and_self, or_self, Nat.reduceEqDiff, Nat.reduceLT, Nat.reduceLeDiff, Nat.one_ne_zero, Nat.zero_ne_one, hk.1, c6 hk, hm.1.1, e1]
    rw [show t = E 0 by omega]
  | succ r ih =>
    intro t E M hm hw ht
    have h6 := hw.1
    have e1 : t < E 0 := by omega
    obtain ⟨M1, p1, p2, p3⟩ := c23 (d := d) hk hm hw (by omega : t < 10)
    have e0 : mgl E t 0 = E 0 := mgl_sr t 0 (by omega)
    obtain ⟨M', q1, q2, q3⟩ := ih (t + 1) (mgl E t) M1 p2 (mgl_WE hw t) (by rw [e0]; omega)
    refine ⟨M', ?_, q2, mg_t p3 q3⟩
    rw [e0] at q1
    rw [st_22_2]
    simp (disch := omega) only [st_22_0, st_22_1, st_22_3, st_22_4, st_22_7, st_22_10, st_22_11, st_22_12, st_22_15, st_22_18, ini_22, fs_cl, fs_len, fs_rf, fs_M, fs_put, fs_cpy, ↓reduceIte, rv_ref, true_or, or_true, true_and, and_true, nI_ltI, ix_nI, nI_clamp, ps_i, ps_n, Option.bind_some, sm_0, sm_1, sm_2, sm_3, sm_4, sto_0, sto_1, sto_2, sto_3, sto_4, sto_5, sto_6, sto_7, sto_8, sto_9, sto_10, sto_11, sto_12, sto_13, sto_14, nlo_n, nlo_i, nlo_r, nlo_0, nlo_l, and_self, or_self, Nat.reduceEqDiff, Nat.reduceLT, Nat.reduceLeDiff, Nat.one_ne_zero, Nat.zero_ne_one, hk.1, c6 hk, hm.1.1, e1, p1, nI_add, q1]
theorem c22b (hk : Mk h b) : ∀ r c (E : Nat → Nat) (M : Nat → Nat → Int32), CM M b E z K0 K1 → WE E → r + c = E 1 → ∃ M', j_X (d + 3) 22 52 [some (.ref b), some (.int (nI c))] [] (FS h M) = some (none, FS h M') ∧ CM M' b (fdL E r c) z K0 K1 ∧ mg b M M' := by
  intro r
  induction r with
  | zero =>
    intro c E M hm hw hc
    have h8 := hw.2.1
    have e1 : ¬ c < E 1 := by omega
    refine ⟨M, ?_, hm, mg_r⟩
    rw [st_22_52]
    simp (disch := omega) only [st_22_53, st_22_54, st_22_57, st_22_60, st_22_61, st_22_64, st_22_65, st_22_66, st_22_69, st_22_70, st_22_73, st_22_75, st_22_76, st_22_79, st_22_82, st_22_85, ini_22, fs_cl, fs_len, fs_rf, fs_M, fs_put, fs_cpy, ↓reduceIte, rv_ref, true_or, or_true, true_and, and_true, nI_ltI, ix_nI, nI_clamp, ps_i, ps_n, Option.bind_some, sm_0, sm_1, sm_2, sm_3, sm_4, sto_0, sto_1, sto_2, sto_3, sto_4, sto_5, sto_6, sto_7, sto_8, sto_9, sto_10, sto_11, sto_12, sto_13, sto_14, nlo_n, nlo_i, nlo_r, nlo_0, nlo_l, and_self, or_self, Nat.reduceEqDiff, Nat.reduceLT, Nat.reduceLeDiff, Nat.one_ne_zero, Nat.zero_ne_one, hk.1, c7 hk, hm.1.2.2.2.2.2.1, e1]
  | succ r ih =>
    intro c E M hm hw hc
    have h8 := hw.2.1
    have e1 : c < E 1 := by omega
    have cv := hw.2.2.2.2.2.2.2 c e1
    obtain ⟨m0, _, _, _, _, _, _, _, ⟨r7, n7⟩, _⟩ := id hk
    have o := d_rw cv.2.2.2
    have hm2 := CM_R (c0 := c) hm hw.1 h8 (by omega) (rn_lt o)
    have hw2 := WE_R (c := c) hw o
    have g7 := n33i (d := d + 2) (M := M) n7 (by omega : c < 8)
    have gc := (hm.2.2.1 c e1).2.2
    have hrl := rn_lt cv.2.2.2
    unfold rE at gc
    have e9 : ¬ nI 10 = nI 0 := by decide +kernel
    have ed : nI (rn (E (40 + 5 * c)) (E (41 + 5 * c)) (E (42 + 5 * c))) / nI 10 = nI (rn (if E (41 + 5 * c) = 0 then 0 else E (40 + 5 * c)) (if E (42 + 5 * c) = 0 then 0 else E (41 + 5 * c)) 0) := by
      rw [nI_div (by omega) (by omega), d_rn cv.2.2.2]
    have w7 := n34 (d := d + 2) (M := M) n7 (by omega : c < 8) (nI (rn (if E (41 + 5 * c) = 0 then 0 else E (40 + 5 * c)) (if E (42 + 5 * c) = 0 then 0 else E (41 + 5 * c)) 0))
    obtain ⟨M', p1, p2, p3⟩ := ih (c + 1) (drpS E c) _ hm2 hw2 (by rw [drpS, sr_R _ _ _ _ 1 (by omega)]; omega)
    refine ⟨M', ?_, p2, mg_t (mg_up _ (by omega) (by omega)) p3⟩
    rw [st_22_52]
    simp (disch := omega) only [st_22_53, st_22_54, st_22_57, st_22_60, st_22_61, st_22_64, st_22_65, st_22_66, st_22_69, st_22_70, st_22_73, st_22_75, st_22_76, st_22_79, st_22_82, st_22_85, ini_22, fs_cl, fs_len, fs_rf, fs_M, fs_put, fs_cpy, ↓reduceIte, rv_ref, true_or, or_true, true_and, and_true, nI_ltI, ix_nI, nI_clamp, ps_i, ps_n, Option.bind_some, sm_0, sm_1, sm_2, sm_3, sm_4, sto_0, sto_1, sto_2, sto_3, sto_4, sto_5, sto_6, sto_7, sto_8, sto_9, sto_10, sto_11, sto_12, sto_13, sto_14, nlo_n, nlo_i, nlo_r, nlo_0, nlo_l, and_self, or_self, Nat.reduceEqDiff, Nat.reduceLT, Nat.reduceLeDiff, Nat.one_ne_zero, Nat.zero_ne_one, m0, c7 hk, hm.1.2.2.2.2.2.1, e1, r7, n7.1, g7, gc, ed, e9, w7, nI_add, p1]
theorem c22 (hk : Mk h b) (hm : CM M b E z K0 K1) (hw : WE E) (hd : E 2 + 1 < 100000) : ∃ M', j_C (d + 4) 22 [.ref b] (FS h M) = some (none, FS h M') ∧ CM M' b (dayE E) z K0 K1 ∧ mg b M M' := by
  obtain ⟨M1, p1, p2, p3⟩ := c22a (d := d) hk (E 0) 0 E M hm hw (by omega)
  have hw1 := mga_WE (E 0) 0 E hw
  have e0 : mga E (E 0) 0 0 = E 0 := mga_sr _ _ _ 0 (by omega)
  have e1 : mga E (E 0) 0 1 = E 1 := mga_sr _ _ _ 1 (by omega)
  have e2 : mga E (E 0) 0 2 = E 2 := mga_sr _ _ _ 2 (by omega)
  have e4 : mga E (E 0) 0 4 = E 4 := mga_sr _ _ _ 4 (by omega)
  have f10 : M1 b 10 = nI (E 2) := by rw [← e2]; exact p2.2.2.2.2.1.1
  have f11 : M1 b 11 = nI (E 4) := by rw [← e4]; exact p2.2.2.2.2.1.2.1
  have hm2 := CM_day p2 hw1.1 hw1.2.1 (E 2 + 1)
  have hw2 := day0_WE hw hd
  have g1 := hw.2.2.2.2.1
  have g2 := hw.2.2.2.2.2.1
  have b1 : nI 0 < nI (E 4) := nI_lt (by omega) (by omega)
  have b2 : ¬ nI (E 4) = nI 0 := nI_ne (by omega) (by omega) (by omega)
  have g10 : j_up M1 b 10 (nI (E 2 + 1)) b 10 = nI (E 2 + 1) := up_s _ _ _
  have g11 : j_up M1 b 10 (nI (E 2 + 1)) b 11 = nI (E 4) := by rw [up_k _ _ _ _ (by omega)]; exact f11
  have md : (E 2 + 1) % E 4 < 10 := by have := Nat.mod_lt (E 2 + 1) (by omega : 0 < E 4); omega
  unfold dayE
  by_cases e : (E 2 + 1) % E 4 = 0
  · rw [if_pos e]
    obtain ⟨M', q1, q2, q3⟩ := c22b (d := d) hk (E 1) 0 (day0 E) _ hm2 hw2 (by rw [day0_o (by omega) (by omega)]; omega)
    refine ⟨M', ?_, q2, mg_t p3 (mg_t (mg_up _ (by omega) (by omega)) q3)⟩
    rw [j_C_eq]
    simp (disch := omega) only [st_22_0, st_22_1, ini_22, fs_cl, fs_len, fs_rf, fs_M, fs_put, fs_cpy, ↓reduceIte, rv_ref, true_or, or_true, true_and, and_true, nI_ltI, ix_nI, nI_clamp, ps_i, ps_n, Option.bind_some, sm_0, sm_1, sm_2, sm_3, sm_4, sto_0, sto_1, sto_2, sto_3, sto_4, sto_5, sto_6, sto_7, sto_8, sto_9, sto_10, sto_11, sto_12, sto_13, sto_14, nlo_n, nlo_i, nlo_r, nlo_0, nlo_l, and_self, or_self, Nat.reduceEqDiff, Nat.reduceLT, Nat.reduceLeDiff, Nat.one_ne_zero, Nat.zero_ne_one, p1]
    simp (disch := omega) only [st_22_21, st_22_22, st_22_22r, st_22_23, st_22_26, st_22_27, st_22_28, st_22_31, st_22_32, st_22_35, st_22_38, st_22_39, st_22_42, st_22_43, st_22_46, st_22_47, st_22_50, st_22_51, ini_22, fs_cl, fs_len, fs_rf, fs_M, fs_put, fs_cpy, ↓reduceIte, rv_ref, true_or, or_true, true_and, and_true, nI_ltI, ix_nI, nI_clamp, ps_i, ps_n, Option.bind_some, sm_0, sm_1, sm_2, sm_3, sm_4, sto_0, sto_1, sto_2, sto_3, sto_4, sto_5, sto_6, sto_7, sto_8, sto_9, sto_10, sto_11, sto_12, sto_13, sto_14, nlo_n, nlo_i, nlo_r, nlo_0, nlo_l, and_self, or_self, Nat.reduceEqDiff, Nat.reduceLT, Nat.reduceLeDiff, Nat.one_ne_zero, Nat.zero_ne_one, hk.1, f10, nI_add, b1, b2, g10, g11, nI_rem, e, q1]
  · rw [if_neg e]
    have e' : ¬ nI ((E 2 + 1) % E 4) = nI 0 := nI_ne e (by omega) (by omega)
    refine ⟨_, ?_, hm2, mg_t p3 (mg_up _ (by omega) (by omega))⟩
    rw [j_C_eq]
    simp (disch := omega) only [st_22_0, st_22_1, ini_22, fs_cl, fs_len, fs_rf, fs_M, fs_put, fs_cpy, ↓reduceIte, rv_ref, true_or, or_true, true_and, and_true, nI_ltI, ix_nI, nI_clamp, ps_i, ps_n, Option.bind_some, sm_0, sm_1, sm_2, sm_3, sm_4, sto_0, sto_1, sto_2, sto_3, sto_4, sto_5, sto_6, sto_7, sto_8, sto_9, sto_10, sto_11, sto_12, sto_13, sto_14, nlo_n, nlo_i, nlo_r, nlo_0, nlo_l, and_self, or_self, Nat.reduceEqDiff, Nat.reduceLT, Nat.reduceLeDiff, Nat.one_ne_zero, Nat.zero_ne_one, p1]
    simp (disch := omega) only [st_22_21, st_22_22, st_22_22r, st_22_23, st_22_26, st_22_27, st_22_28, st_22_31, st_22_32, st_22_35, st_22_38, st_22_39, st_22_42, st_22_43, st_22_46, st_22_47, st_22_50, st_22_51, ini_22, st_22_85, fs_cl, fs_len, fs_rf, fs_M, fs_put, fs_cpy, ↓reduceIte, rv_ref, true_or, or_true, true_and, and_true, nI_ltI, ix_nI, nI_clamp, ps_i, ps_n, Option.bind_some, sm_0, sm_1, sm_2, sm_3, sm_4, sto_0, sto_1, sto_2, sto_3, sto_4, sto_5, sto_6, sto_7, sto_8, sto_9, sto_10, sto_11, sto_12, sto_13, sto_14, nlo_n, nlo_i, nlo_r, nlo_0, nlo_l, and_self, or_self, Nat.reduceEqDiff, Nat.reduceLT, Nat.reduceLeDiff, Nat.one_ne_zero, Nat.zero_ne_one, hk.1, f10, nI_add, b1, b2, g10, g11, nI_rem, e']
