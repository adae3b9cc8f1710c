/-! The reference: a day. -/
variable {h : j_Hd} {M : Nat → Nat → Int32} {σ : j_St} {d o : Nat} {E : Nat → Nat} {z : Int32}
theorem nE_0 (c : Nat) : nE E c = 0 ↔ E (40 + 5 * c) = 0 := by
  unfold nE rs
  by_cases e : E (40 + 5 * c) = 0
  · simp only [e, ↓reduceIte]
  · rw [if_neg e]
    constructor
    · intro e2; split at e2 <;> (try split at e2) <;> omega
    · intro e2; exact absurd e2 e
/-- a smell more is one int more -/
theorem addS_pt {c s : Nat} (hr : Rw (E (40 + 5 * c)) (E (41 + 5 * c)) (E (42 + 5 * c))) (j : Nat) : addS E c s j = if nE E c < 3 then upE E (38 + 5 * c + 2 + nE E c) s j else E j := by
  obtain ⟨h1, h2, h3, h4, h5⟩ := hr
  unfold addS nE rs oX oY oZ upR upE
  by_cases e1 : E (40 + 5 * c) = 0
  · have f2 := h4 e1
    have f3 := h5 f2
    simp only [e1, f2, f3, ↓reduceIte, Nat.reduceLT]
    by_cases j2 : j = 42 + 5 * c
    · subst j2; rw [if_pos rfl, if_neg (by omega)]; exact f3.symm
    · rw [if_neg j2]
      by_cases j1 : j = 41 + 5 * c
      · subst j1; rw [if_pos rfl, if_neg (by omega)]; exact f2.symm
      · rw [if_neg j1]
        by_cases j0 : j = 40 + 5 * c
        · rw [if_pos j0, if_pos (by omega)]
        · rw [if_neg j0, if_neg (by omega)]
  · by_cases e2 : E (41 + 5 * c) = 0
    · have f3 := h5 e2
      simp only [e1, e2, f3, ↓reduceIte, Nat.reduceLT]
      by_cases j2 : j = 42 + 5 * c
      · subst j2; rw [if_pos rfl, if_neg (by omega)]; exact f3.symm
      · rw [if_neg j2]
        by_cases j1 : j = 41 + 5 * c
        · rw [if_pos j1, if_pos (by omega)]
        · rw [if_neg j1]
          by_cases j0 : j = 40 + 5 * c
          · subst j0; rw [if_pos rfl, if_neg (by omega)]
          · rw [if_neg j0, if_neg (by omega)]
    · by_cases e3 : E (42 + 5 * c) = 0
      · simp only [e1, e2, e3, ↓reduceIte, Nat.reduceLT]
        by_cases j2 : j = 42 + 5 * c
        · rw [if_pos j2, if_pos (by omega)]
        · rw [if_neg j2]
          by_cases j1 : j = 41 + 5 * c
          · subst j1; rw [if_pos rfl, if_neg (by omega)]
          · rw [if_neg j1]
            by_cases j0 : j = 40 + 5 * c
            · subst j0; rw [if_pos rfl, if_neg (by omega)]
            · rw [if_neg j0, if_neg (by omega)]
      · simp only [e1, e2, e3, ↓reduceIte, Nat.reduceLT, Nat.lt_irrefl]
        by_cases j2 : j = 42 + 5 * c
        · subst j2; rw [if_pos rfl]
        · rw [if_neg j2]
          by_cases j1 : j = 41 + 5 * c
          · subst j1; rw [if_pos rfl]
          · rw [if_neg j1]
            by_cases j0 : j = 40 + 5 * c
            · subst j0; rw [if_pos rfl]
            · rw [if_neg j0]
theorem r186b (hk : Md h o) {t f s : Nat} (ht : t < 10) (hs7 : s ≤ 7) : ∀ r c (E : Nat → Nat) (M : Nat → Nat → Int32) (o4 : Option Value), RLd M o E z → WE E → r + c = E 1 → f < c → E (40 + 5 * f) = s → ∃ M', j_X (d + 2) 186 4 [some (.ref o), some (.int (nI t)), some (.int (nI f)), some (.int (nI c)), o4] [] (FS h M) = some (none, FS h M') ∧ RLd M' o (if s = 0 then E else mgL t s E r c) z ∧ ld o M M' := by
  obtain ⟨m0, ⟨q0, a1, a2, a3⟩, _⟩ := id hk
  intro r
  induction r with
  | zero =>
    intro c E M o4 hm hw hc hf hs
    have h8 := hw.2.1
    have g1 := hm.1 1 (by omega) (by omega)
    have e1 : ¬ c < E 1 := by omega
    refine ⟨M, ?_, by unfold mgL; rw [ite_self]; exact hm, ld_r⟩
    rw [st_186_4]
    simp (disch := omega) only [st_186_0, st_186_1, st_186_2, st_186_3, st_186_5, st_186_6, st_186_9, st_186_10, st_186_11, st_186_14, st_186_15, st_186_16, st_186_17, st_186_20, st_186_21, st_186_24, st_186_27, st_186_28, st_186_31, st_186_32, st_186_35, st_186_36, st_186_37, st_186_38, st_186_39, st_186_42, st_186_44, st_186_45, st_186_46, st_186_49, st_186_51, st_186_52, st_186_55, st_186_56, st_186_57, st_186_60, st_186_63, st_186_64, st_186_67, st_186_69, st_186_70, st_186_71, st_186_72, st_186_73, st_186_74, st_186_75, st_186_77, st_186_78, st_186_81, st_186_83, st_186_86, st_186_87, st_186_88, st_186_89, st_186_90, st_186_91, st_186_94, st_186_95, st_186_98, st_186_101, ini_186, fs_cl, fs_len, fs_rf, fs_M, fs_put, fs_cpy, ↓reduceIte, rv_ref, true_or, or_true, true_and, and_true, nI_ltI, ix_nI, nI_clamp, ps_i, ps_n, Option.bind_some, sm_0, sm_1, sm_2, sm_3, sm_4, sto_0, sto_1, sto_2, sto_3, sto_4, sto_5, sto_6, sto_7, sto_8, sto_9, sto_10, sto_11, sto_12, sto_13, sto_14, nlo_n, nlo_i, nlo_r, nlo_0, nlo_l, and_self, or_self, Nat.reduceEqDiff, Nat.reduceLT, Nat.reduceLeDiff, Nat.one_ne_zero, Nat.zero_ne_one, m0, q0, a1, a2, g1, e1]
  | succ r ih =>
    intro c E M o4 hm hw hc hf hs
    have h8 := hw.2.1
    have h6 := hw.1
    have g1 := hm.1 1 (by omega) (by omega)
    have e1 : c < E 1 := by omega
    have cv := hw.2.2.2.2.2.2.2 c e1
    have ch := cv.2.2.1
    have fv := hw.2.2.2.2.2.2.2 f (by omega)
    have gh := r148 (d := d + 1) (M := M) hk (t := c) (k := 1) (by omega)
    rw [show 38 + 5 * c + 1 = 39 + 5 * c by omega, hm.1 _ (by omega) (by omega)] at gh
    have gn := r166 (d := d) hk hm (by omega : c < 8) cv.2.2.2
    have gf := r166 (d := d) hk hm (by omega : f < 8) fv.2.2.2
    have n3 := nE_le (E := E) c
    have n3f := nE_le (E := E) f
    have nf0 := nE_0 (E := E) f
    rw [hs] at nf0
    have e2 : ¬ nI f < nI 0 := nI_nlt (Nat.zero_le _) (by omega)
    have e3 : ¬ c = f := by omega
    by_cases e : E (39 + 5 * c) = t
    · by_cases e4 : nE E c < 3
      · by_cases e5 : s = 0
        · have e6 : nE E f = 0 := nf0.mpr e5
          rw [e6] at gf
          have e7 : ¬ nI 0 < nI 0 := nI_nlt (Nat.le_refl _) (by omega)
          obtain ⟨M', p1, p2, p3⟩ := ih (c + 1) E M (some (.int (nI (nE E c)))) hm hw (by omega) (by omega) hs
          rw [if_pos e5] at p2 ⊢
          refine ⟨M', ?_, p2, p3⟩
          rw [st_186_4]
          simp (disch := omega) only [st_186_0, st_186_1, st_186_2, st_186_3, st_186_5, st_186_6, st_186_9, st_186_10, st_186_11, st_186_14, st_186_15, st_186_16, st_186_17, st_186_20, st_186_21, st_186_24, st_186_27, st_186_28, st_186_31, st_186_32, st_186_35, st_186_36, st_186_37, st_186_38, st_186_39, st_186_42, st_186_44, st_186_45, st_186_46, st_186_49, st_186_51, st_186_52, st_186_55, st_186_56, st_186_57, st_186_60, st_186_63, st_186_64, st_186_67, st_186_69, st_186_70, st_186_71, st_186_72, st_186_73, st_186_74, st_186_75, st_186_77, st_186_78, st_186_81, st_186_83, st_186_86, st_186_87, st_186_88, st_186_89, st_186_90, st_186_91, st_186_94, st_186_95, st_186_98, st_186_101, ini_186, fs_cl, fs_len, fs_rf, fs_M, fs_put, fs_cpy, ↓reduceIte, rv_ref, true_or, or_true, true_and, and_true, nI_ltI, ix_nI, nI_clamp, ps_i, ps_n, Option.bind_some, sm_0, sm_1, sm_2, sm_3, sm_4, sto_0, sto_1, sto_2, sto_3, sto_4, sto_5, sto_6, sto_7, sto_8, sto_9, sto_10, sto_11, sto_12, sto_13, sto_14, nlo_n, nlo_i, nlo_r, nlo_0, nlo_l, and_self, or_self, Nat.reduceEqDiff, Nat.reduceLT, Nat.reduceLeDiff, Nat.one_ne_zero, Nat.zero_ne_one, m0, q0, a1, a2, g1, e1, gh, eq_true e, nI_eq, e2, gn, e3, e4, gf, e7, nI_add, p1]
        · have e6 : nI 0 < nI (nE E f) := nI_lt (by omega) (by omega)
          have gs := r148 (d := d + 1) (M := M) hk (t := f) (k := 2) (by omega)
          rw [show 38 + 5 * f + 2 = 40 + 5 * f by omega, hm.1 _ (by omega) (by omega), hs] at gs
          have hm2 : RLd (j_up M (o + 1) (38 + 5 * c + 2 + nE E c) (nI s)) o (addS E c s) z := by
            refine RLd_cg (RLd_up hm (by omega)) (fun j hj => ?_)
            rw [addS_pt cv.2.2.2, if_pos e4]
          have hw2 : WE (addS E c s) := WE_R hw (o_rw cv.2.2.2 (by omega) hs7)
          have i1 : 38 + 5 * c + 2 + nE E c < 250 := by omega
          have ef : addS E c s (40 + 5 * f) = s := by
            unfold addS upR; rw [upE_o _ (by omega), upE_o _ (by omega), upE_o _ (by omega)]; exact hs
          obtain ⟨M', p1, p2, p3⟩ := ih (c + 1) (addS E c s) _ (some (.int (nI (nE E c)))) hm2 hw2 (by rw [addS, sr_R _ _ _ _ 1 (by omega)]; omega) (by omega) ef
          rw [if_neg e5] at p2 ⊢
          refine ⟨M', ?_, by rw [mgL, if_pos e]; exact p2, ld_t (ld_up (by omega)) p3⟩
          rw [st_186_4]
          simp (disch := omega) only [st_186_0, st_186_1, st_186_2, st_186_3, st_186_5, st_186_6, st_186_9, st_186_10, st_186_11, st_186_14, st_186_15, st_186_16, st_186_17, st_186_20, st_186_21, st_186_24, st_186_27, st_186_28, st_186_31, st_186_32, st_186_35, st_186_36, st_186_37, st_186_38, st_186_39, st_186_42, st_186_44, st_186_45, st_186_46, st_186_49, st_186_51, st_186_52, st_186_55, st_186_56, st_186_57, st_186_60, st_186_63, st_186_64, st_186_67, st_186_69, st_186_70, st_186_71, st_186_72, st_186_73, st_186_74, st_186_75, st_186_77, st_186_78, st_186_81, st_186_83, st_186_86, st_186_87, st_186_88, st_186_89, st_186_90, st_186_91, st_186_94, st_186_95, st_186_98, st_186_101, ini_186, fs_cl, fs_len, fs_rf, fs_M, fs_put, fs_cpy, ↓reduceIte, rv_ref, true_or, or_true, true_and, and_true, nI_ltI, ix_nI, nI_clamp, ps_i, ps_n, Option.bind_some, sm_0, sm_1, sm_2, sm_3, sm_4, sto_0, sto_1, sto_2, sto_3, sto_4, sto_5, sto_6, sto_7, sto_8, sto_9, sto_10, sto_11, sto_12, sto_13, sto_14, nlo_n, nlo_i, nlo_r, nlo_0, nlo_l, and_self, or_self, Nat.reduceEqDiff, Nat.reduceLT, Nat.reduceLeDiff, Nat.one_ne_zero, Nat.zero_ne_one, m0, q0, a1, a2, g1, e1, gh, eq_true e, nI_eq, e2, gn, e3, e4, gf, e6, nI_mul, nI_add, i1, gs, p1]
      · have pt : addS E c s = E := funext fun j => by rw [addS_pt cv.2.2.2, if_neg e4]
        obtain ⟨M', p1, p2, p3⟩ := ih (c + 1) E M (some (.int (nI (nE E c)))) hm hw (by omega) (by omega) hs
        refine ⟨M', ?_, ?_, p3⟩
        · rw [st_186_4]
          simp (disch := omega) only [st_186_0, st_186_1, st_186_2, st_186_3, st_186_5, st_186_6, st_186_9, st_186_10, st_186_11, st_186_14, st_186_15, st_186_16, st_186_17, st_186_20, st_186_21, st_186_24, st_186_27, st_186_28, st_186_31, st_186_32, st_186_35, st_186_36, st_186_37, st_186_38, st_186_39, st_186_42, st_186_44, st_186_45, st_186_46, st_186_49, st_186_51, st_186_52, st_186_55, st_186_56, st_186_57, st_186_60, st_186_63, st_186_64, st_186_67, st_186_69, st_186_70, st_186_71, st_186_72, st_186_73, st_186_74, st_186_75, st_186_77, st_186_78, st_186_81, st_186_83, st_186_86, st_186_87, st_186_88, st_186_89, st_186_90, st_186_91, st_186_94, st_186_95, st_186_98, st_186_101, ini_186, fs_cl, fs_len, fs_rf, fs_M, fs_put, fs_cpy, ↓reduceIte, rv_ref, true_or, or_true, true_and, and_true, nI_ltI, ix_nI, nI_clamp, ps_i, ps_n, Option.bind_some, sm_0, sm_1, sm_2, sm_3, sm_4, sto_0, sto_1, sto_2, sto_3, sto_4, sto_5, sto_6, sto_7, sto_8, sto_9, sto_10, sto_11, sto_12, sto_13, sto_14, nlo_n, nlo_i, nlo_r, nlo_0, nlo_l, and_self, or_self, Nat.reduceEqDiff, Nat.reduceLT, Nat.reduceLeDiff, Nat.one_ne_zero, Nat.zero_ne_one, m0, q0, a1, a2, g1, e1, gh, eq_true e, nI_eq, e2, gn, e3, e4, nI_add, p1]
        · rw [mgL, if_pos e, pt]; exact p2
    · obtain ⟨M', p1, p2, p3⟩ := ih (c + 1) E M o4 hm hw (by omega) (by omega) hs
      refine ⟨M', ?_, ?_, p3⟩
      · rw [st_186_4]
        simp (disch := omega) only [st_186_0, st_186_1, st_186_2, st_186_3, st_186_5, st_186_6, st_186_9, st_186_10, st_186_11, st_186_14, st_186_15, st_186_16, st_186_17, st_186_20, st_186_21, st_186_24, st_186_27, st_186_28, st_186_31, st_186_32, st_186_35, st_186_36, st_186_37, st_186_38, st_186_39, st_186_42, st_186_44, st_186_45, st_186_46, st_186_49, st_186_51, st_186_52, st_186_55, st_186_56, st_186_57, st_186_60, st_186_63, st_186_64, st_186_67, st_186_69, st_186_70, st_186_71, st_186_72, st_186_73, st_186_74, st_186_75, st_186_77, st_186_78, st_186_81, st_186_83, st_186_86, st_186_87, st_186_88, st_186_89, st_186_90, st_186_91, st_186_94, st_186_95, st_186_98, st_186_101, ini_186, fs_cl, fs_len, fs_rf, fs_M, fs_put, fs_cpy, ↓reduceIte, rv_ref, true_or, or_true, true_and, and_true, nI_ltI, ix_nI, nI_clamp, ps_i, ps_n, Option.bind_some, sm_0, sm_1, sm_2, sm_3, sm_4, sto_0, sto_1, sto_2, sto_3, sto_4, sto_5, sto_6, sto_7, sto_8, sto_9, sto_10, sto_11, sto_12, sto_13, sto_14, nlo_n, nlo_i, nlo_r, nlo_0, nlo_l, and_self, or_self, Nat.reduceEqDiff, Nat.reduceLT, Nat.reduceLeDiff, Nat.one_ne_zero, Nat.zero_ne_one, m0, q0, a1, a2, g1, e1, gh, e, nI_eq, nI_add, p1]
      · rw [mgL, if_neg e]; exact p2
theorem r186a (hk : Md h o) {t : Nat} (ht : t < 10) (hm : RLd M o E z) (hw : WE E) : ∀ r c (o4 : Option Value), r + c = E 1 → ∃ M', j_X (d + 2) 186 4 [some (.ref o), some (.int (nI t)), some (.int (-1)), some (.int (nI c)), o4] [] (FS h M) = some (none, FS h M') ∧ RLd M' o (if fstF E t r c < E 1 ∧ E (40 + 5 * fstF E t r c) ≠ 0 then mgL t (E (40 + 5 * fstF E t r c)) E (E 1 - (fstF E t r c + 1)) (fstF E t r c + 1) else E) z ∧ ld o M M' := by
  obtain ⟨m0, ⟨q0, a1, a2, a3⟩, _⟩ := id hk
  have h8 := hw.2.1
  have h6 := hw.1
  have g1 := hm.1 1 (by omega) (by omega)
  intro r
  induction r with
  | zero =>
    intro c o4 hc
    have e1 : ¬ c < E 1 := by omega
    refine ⟨M, ?_, by unfold fstF; rw [if_neg (fun hh => e1 hh.1)]; exact hm, ld_r⟩
    rw [st_186_4]
    simp (disch := omega) only [st_186_0, st_186_1, st_186_2, st_186_3, st_186_5, st_186_6, st_186_9, st_186_10, st_186_11, st_186_14, st_186_15, st_186_16, st_186_17, st_186_20, st_186_21, st_186_24, st_186_27, st_186_28, st_186_31, st_186_32, st_186_35, st_186_36, st_186_37, st_186_38, st_186_39, st_186_42, st_186_44, st_186_45, st_186_46, st_186_49, st_186_51, st_186_52, st_186_55, st_186_56, st_186_57, st_186_60, st_186_63, st_186_64, st_186_67, st_186_69, st_186_70, st_186_71, st_186_72, st_186_73, st_186_74, st_186_75, st_186_77, st_186_78, st_186_81, st_186_83, st_186_86, st_186_87, st_186_88, st_186_89, st_186_90, st_186_91, st_186_94, st_186_95, st_186_98, st_186_101, ini_186, fs_cl, fs_len, fs_rf, fs_M, fs_put, fs_cpy, ↓reduceIte, rv_ref, true_or, or_true, true_and, and_true, nI_ltI, ix_nI, nI_clamp, ps_i, ps_n, Option.bind_some, sm_0, sm_1, sm_2, sm_3, sm_4, sto_0, sto_1, sto_2, sto_3, sto_4, sto_5, sto_6, sto_7, sto_8, sto_9, sto_10, sto_11, sto_12, sto_13, sto_14, nlo_n, nlo_i, nlo_r, nlo_0, nlo_l, and_self, or_self, Nat.reduceEqDiff, Nat.reduceLT, Nat.reduceLeDiff, Nat.one_ne_zero, Nat.zero_ne_one, m0, q0, a1, a2, g1, e1]
  | succ r ih =>
    intro c o4 hc
    have e1 : c < E 1 := by omega
    have cv := hw.2.2.2.2.2.2.2 c e1
    have ch := cv.2.2.1
    have gh := r148 (d := d + 1) (M := M) hk (t := c) (k := 1) (by omega)
    rw [show 38 + 5 * c + 1 = 39 + 5 * c by omega, hm.1 _ (by omega) (by omega)] at gh
    have gn := r166 (d := d) hk hm (by omega : c < 8) cv.2.2.2
    have e2 : (-1 : Int32) < nI 0 := by decide +kernel
    unfold fstF
    by_cases e : E (39 + 5 * c) = t
    · rw [if_pos e]
      obtain ⟨M', p1, p2, p3⟩ := r186b (d := d) (z := z) hk ht cv.2.2.2.1 r (c + 1) E M (some (.int (nI (nE E c)))) hm hw (by omega) (Nat.lt_succ_self c) rfl
      refine ⟨M', ?_, ?_, p3⟩
      · rw [st_186_4]
        simp (disch := omega) only [st_186_0, st_186_1, st_186_2, st_186_3, st_186_5, st_186_6, st_186_9, st_186_10, st_186_11, st_186_14, st_186_15, st_186_16, st_186_17, st_186_20, st_186_21, st_186_24, st_186_27, st_186_28, st_186_31, st_186_32, st_186_35, st_186_36, st_186_37, st_186_38, st_186_39, st_186_42, st_186_44, st_186_45, st_186_46, st_186_49, st_186_51, st_186_52, st_186_55, st_186_56, st_186_57, st_186_60, st_186_63, st_186_64, st_186_67, st_186_69, st_186_70, st_186_71, st_186_72, st_186_73, st_186_74, st_186_75, st_186_77, st_186_78, st_186_81, st_186_83, st_186_86, st_186_87, st_186_88, st_186_89, st_186_90, st_186_91, st_186_94, st_186_95, st_186_98, st_186_101, ini_186, fs_cl, fs_len, fs_rf, fs_M, fs_put, fs_cpy, ↓reduceIte, rv_ref, true_or, or_true, true_and, and_true, nI_ltI, ix_nI, nI_clamp, ps_i, ps_n, Option.bind_some, sm_0, sm_1, sm_2, sm_3, sm_4, sto_0, sto_1, sto_2, sto_3, sto_4, sto_5, sto_6, sto_7, sto_8, sto_9, sto_10, sto_11, sto_12, sto_13, sto_14, nlo_n, nlo_i, nlo_r, nlo_0, nlo_l, and_self, or_self, Nat.reduceEqDiff, Nat.reduceLT, Nat.reduceLeDiff, Nat.one_ne_zero, Nat.zero_ne_one, m0, q0, a1, a2, g1, e1, gh, eq_true e, nI_eq, e2, gn, nI_add, p1]
      · rw [show E 1 - (c + 1) = r by omega]
        by_cases e5 : E (40 + 5 * c) = 0
        · rw [if_neg (fun hh => hh.2 e5)]; rw [if_pos e5] at p2; exact p2
        · rw [if_pos ⟨e1, e5⟩]; rw [if_neg e5] at p2; exact p2
    · rw [if_neg e]
      obtain ⟨M', p1, p2, p3⟩ := ih (c + 1) o4 (by omega)
      refine ⟨M', ?_, p2, p3⟩
      rw [st_186_4]
      simp (disch := omega) only [st_186_0, st_186_1, st_186_2, st_186_3, st_186_5, st_186_6, st_186_9, st_186_10, st_186_11, st_186_14, st_186_15, st_186_16, st_186_17, st_186_20, st_186_21, st_186_24, st_186_27, st_186_28, st_186_31, st_186_32, st_186_35, st_186_36, st_186_37, st_186_38, st_186_39, st_186_42, st_186_44, st_186_45, st_186_46, st_186_49, st_186_51, st_186_52, st_186_55, st_186_56, st_186_57, st_186_60, st_186_63, st_186_64, st_186_67, st_186_69, st_186_70, st_186_71, st_186_72, st_186_73, st_186_74, st_186_75, st_186_77, st_186_78, st_186_81, st_186_83, st_186_86, st_186_87, st_186_88, st_186_89, st_186_90, st_186_91, st_186_94, st_186_95, st_186_98, st_186_101, ini_186, fs_cl, fs_len, fs_rf, fs_M, fs_put, fs_cpy, ↓reduceIte, rv_ref, true_or, or_true, true_and, and_true, nI_ltI, ix_nI, nI_clamp, ps_i, ps_n, Option.bind_some, sm_0, sm_1, sm_2, sm_3, sm_4, sto_0, sto_1, sto_2, sto_3, sto_4, sto_5, sto_6, sto_7, sto_8, sto_9, sto_10, sto_11, sto_12, sto_13, sto_14, nlo_n, nlo_i, nlo_r, nlo_0, nlo_l, and_self, or_self, Nat.reduceEqDiff, Nat.reduceLT, Nat.reduceLeDiff, Nat.one_ne_zero, Nat.zero_ne_one, m0, q0, a1, a2, g1, e1, gh, e, nI_eq, nI_add, p1]
theorem r186 (hk : Md h o) {t : Nat} (ht : t < 10) (hm : RLd M o E z) (hw : WE E) : ∃ M', j_C (d + 3) 186 [.ref o, .int (nI t)] (FS h M) = some (none, FS h M') ∧ RLd M' o (mgl E t) z ∧ ld o M M' := by
  obtain ⟨M', p1, p2, p3⟩ := r186a (d := d) hk ht hm hw (E 1) 0 none (by omega)
  refine ⟨M', ?_, p2, p3⟩
  rw [j_C_eq]
  simp (disch := omega) only [st_186_0, st_186_1, st_186_2, st_186_3, st_186_5, st_186_6, st_186_9, st_186_10, st_186_11, st_186_14, st_186_15, st_186_16, st_186_17, st_186_20, st_186_21, st_186_24, st_186_27, st_186_28, st_186_31, st_186_32, st_186_35, st_186_36, st_186_37, st_186_38, st_186_39, st_186_42, st_186_44, st_186_45, st_186_46, st_186_49, st_186_51, st_186_52, st_186_55, st_186_56, st_186_57, st_186_60, st_186_63, st_186_64, st_186_67, st_186_69, st_186_70, st_186_71, st_186_72, st_186_73, st_186_74, st_186_75, st_186_77, st_186_78, st_186_81, st_186_83, st_186_86, st_186_87, st_186_88, st_186_89, st_186_90, st_186_91, st_186_94, st_186_95, st_186_98, st_186_101, ini_186, fs_cl, fs_len, fs_rf, fs_M, fs_put, fs_cpy, ↓reduceIte, rv_ref, true_or, or_true, true_and, and_true, nI_ltI, ix_nI, nI_clamp, ps_i, ps_n, Option.bind_some, sm_0, sm_1, sm_2, sm_3, sm_4, sto_0, sto_1, sto_2, sto_3, sto_4, sto_5, sto_6, sto_7, sto_8, sto_9, sto_10, sto_11, sto_12, sto_13, sto_14, nlo_n, nlo_i, nlo_r, nlo_0, nlo_l, and_self, or_self, Nat.reduceEqDiff, Nat.reduceLT, Nat.reduceLeDiff, Nat.one_ne_zero, Nat.zero_ne_one, p1]

theorem drp_pt {c : Nat} (hr : Rw (E (40 + 5 * c)) (E (41 + 5 * c)) (E (42 + 5 * c))) (j : Nat) : drpS E c j = upE E (38 + 5 * c + 2 + (if 0 < nE E c then nE E c - 1 else 0)) 0 j := by
  obtain ⟨h1, h2, h3, h4, h5⟩ := hr
  unfold drpS nE rs upR upE
  by_cases e1 : E (40 + 5 * c) = 0
  · have f2 := h4 e1
    have f3 := h5 f2
    simp only [e1, f2, f3, ↓reduceIte, Nat.lt_irrefl]
    by_cases j2 : j = 42 + 5 * c
    · subst j2; rw [if_pos rfl, if_neg (by omega)]; exact f3.symm
    · rw [if_neg j2]
      by_cases j1 : j = 41 + 5 * c
      · subst j1; rw [if_pos rfl, if_neg (by omega)]; exact f2.symm
      · rw [if_neg j1]
        by_cases j0 : j = 40 + 5 * c
        · rw [if_pos j0, if_pos (by omega)]
        · rw [if_neg j0, if_neg (by omega)]
  · by_cases e2 : E (41 + 5 * c) = 0
    · have f3 := h5 e2
      simp only [e1, e2, f3, ↓reduceIte, Nat.reduceLT, Nat.reduceSub]
      by_cases j2 : j = 42 + 5 * c
      · subst j2; rw [if_pos rfl, if_neg (by omega)]; exact f3.symm
      · rw [if_neg j2]
        by_cases j1 : j = 41 + 5 * c
        · subst j1; rw [if_pos rfl, if_neg (by omega)]; exact e2.symm
        · rw [if_neg j1]
          by_cases j0 : j = 40 + 5 * c
          · rw [if_pos j0, if_pos (by omega)]
          · rw [if_neg j0, if_neg (by omega)]
    · by_cases e3 : E (42 + 5 * c) = 0
      · simp only [e1, e2, e3, ↓reduceIte, Nat.reduceLT, Nat.reduceSub]
        by_cases j2 : j = 42 + 5 * c
        · subst j2; rw [if_pos rfl, if_neg (by omega)]; exact e3.symm
        · rw [if_neg j2]
          by_cases j1 : j = 41 + 5 * c
          · rw [if_pos j1, if_pos (by omega)]
          · rw [if_neg j1]
            by_cases j0 : j = 40 + 5 * c
            · subst j0; rw [if_pos rfl, if_neg (by omega)]
            · rw [if_neg j0, if_neg (by omega)]
      · simp only [e1, e2, e3, ↓reduceIte, Nat.reduceLT, Nat.reduceSub]
        by_cases j2 : j = 42 + 5 * c
        · rw [if_pos j2, if_pos (by omega)]
        · rw [if_neg j2]
          by_cases j1 : j = 41 + 5 * c
          · subst j1; rw [if_pos rfl, if_neg (by omega)]
          · rw [if_neg j1]
            by_cases j0 : j = 40 + 5 * c
            · subst j0; rw [if_pos rfl, if_neg (by omega)]
            · rw [if_neg j0, if_neg (by omega)]
theorem r187a (hk : Md h o) : ∀ r t (E : Nat → Nat) (M : Nat → Nat → Int32) (o2 : Option Value), RLd M o E z → WE E → r + t = E 0 → ∃ M', j_X (d + 3) 187 2 [some (.ref o), some (.int (nI t)), o2] [] (FS h M) = j_X (d + 3) 187 23 [some (.ref o), some (.int (nI (E 0))), o2] [] (FS h M') ∧ RLd M' o (mga E r t) z ∧ ld o M M' := by
  obtain ⟨m0, ⟨q0, a1, a2, a3⟩, _⟩ := id hk
  intro r
  induction r with
  | zero =>
    intro t E M o2 hm hw ht
    have h6 := hw.1
    have g0 := hm.1 0 (by omega) (by omega)
    have e1 : ¬ t < E 0 := by omega
    refine ⟨M, ?_, hm, ld_r⟩
    rw [st_187_2]
    simp (disch := omega) only [st_187_0, st_187_1, st_187_3, st_187_4, st_187_7, st_187_8, st_187_9, st_187_12, st_187_13, st_187_14, st_187_17, st_187_20, ini_187, fs_cl, fs_len, fs_rf, fs_M, fs_put, fs_cpy, ↓reduceIte, rv_ref, true_or, or_true, true_and, and_true, nI_ltI, ix_nI, nI_clamp, ps_i, ps_n, Option.bind_some, sm_0, sm_1, sm_2, sm_3, sm_4, sto_0, sto_1, sto_2, sto_3, sto_4, sto_5, sto_6, sto_7, sto_8, sto_9, sto_10, sto_11, sto_12, sto_13, sto_14, nlo_n, nlo_i, nlo_r, nlo_0, nlo_l, and_self, or_self, Nat.reduceEqDiff, Nat.reduceLT, Nat.reduceLeDiff, Nat.one_ne_zero, Nat.zero_ne_one, m0, q0, a1, a2, g0, e1]
    rw [show t = E 0 by omega]
  | succ r ih =>
    intro t E M o2 hm hw ht
    have h6 := hw.1
    have g0 := hm.1 0 (by omega) (by omega)
    have e1 : t < E 0 := by omega
    obtain ⟨M1, p1, p2, p3⟩ := r186 (d := d) hk (by omega : t < 10) hm hw
    have e0 : mgl E t 0 = E 0 := mgl_sr t 0 (by omega)
    obtain ⟨M', s1, s2, s3⟩ := ih (t + 1) (mgl E t) M1 o2 p2 (mgl_WE hw t) (by rw [e0]; omega)
    refine ⟨M', ?_, s2, ld_t p3 s3⟩
    rw [e0] at s1
    rw [st_187_2]
    simp (disch := omega) only [st_187_0, st_187_1, st_187_3, st_187_4, st_187_7, st_187_8, st_187_9, st_187_12, st_187_13, st_187_14, st_187_17, st_187_20, ini_187, fs_cl, fs_len, fs_rf, fs_M, fs_put, fs_cpy, ↓reduceIte, rv_ref, true_or, or_true, true_and, and_true, nI_ltI, ix_nI, nI_clamp, ps_i, ps_n, Option.bind_some, sm_0, sm_1, sm_2, sm_3, sm_4, sto_0, sto_1, sto_2, sto_3, sto_4, sto_5, sto_6, sto_7, sto_8, sto_9, sto_10, sto_11, sto_12, sto_13, sto_14, nlo_n, nlo_i, nlo_r, nlo_0, nlo_l, and_self, or_self, Nat.reduceEqDiff, Nat.reduceLT, Nat.reduceLeDiff, Nat.one_ne_zero, Nat.zero_ne_one, m0, q0, a1, a2, g0, e1, p1, nI_add, s1]
theorem r187b (hk : Md h o) : ∀ r c (E : Nat → Nat) (M : Nat → Nat → Int32) (o2 : Option Value), RLd M o E z → WE E → r + c = E 1 → E 2 % E 4 = 0 → ∃ M', j_X (d + 3) 187 35 [some (.ref o), some (.int (nI c)), o2] [] (FS h M) = some (none, FS h M') ∧ RLd M' o (fdL E r c) z ∧ ld o M M' := by
  obtain ⟨m0, ⟨q0, a1, a2, a3⟩, _⟩ := id hk
  intro r
  induction r with
  | zero =>
    intro c E M o2 hm hw hc hd
    have h8 := hw.2.1
    have g1 := hm.1 1 (by omega) (by omega)
    have e1 : ¬ c < E 1 := by omega
    refine ⟨M, ?_, hm, ld_r⟩
    rw [st_187_35]
    simp (disch := omega) only [st_187_0, st_187_1, st_187_3, st_187_4, st_187_7, st_187_8, st_187_9, st_187_12, st_187_13, st_187_14, st_187_17, st_187_20, st_187_23, st_187_24, st_187_27, st_187_28, st_187_29, st_187_30, st_187_31, st_187_32, st_187_33, st_187_34, st_187_36, st_187_37, st_187_40, st_187_41, st_187_42, st_187_45, st_187_46, st_187_49, st_187_50, st_187_51, st_187_52, st_187_55, st_187_56, st_187_57, st_187_58, st_187_61, st_187_62, st_187_63, st_187_66, st_187_67, st_187_68, st_187_71, st_187_73, st_187_74, st_187_75, st_187_76, st_187_77, st_187_78, st_187_79, st_187_80, st_187_83, st_187_84, st_187_85, st_187_86, st_187_89, st_187_90, st_187_91, st_187_92, st_187_93, st_187_96, st_187_99, ini_187, fs_cl, fs_len, fs_rf, fs_M, fs_put, fs_cpy, ↓reduceIte, rv_ref, true_or, or_true, true_and, and_true, nI_ltI, ix_nI, nI_clamp, ps_i, ps_n, Option.bind_some, sm_0, sm_1, sm_2, sm_3, sm_4, sto_0, sto_1, sto_2, sto_3, sto_4, sto_5, sto_6, sto_7, sto_8, sto_9, sto_10, sto_11, sto_12, sto_13, sto_14, nlo_n, nlo_i, nlo_r, nlo_0, nlo_l, and_self, or_self, Nat.reduceEqDiff, Nat.reduceLT, Nat.reduceLeDiff, Nat.one_ne_zero, Nat.zero_ne_one, m0, q0, a1, a2, g1, e1]
  | succ r ih =>
    intro c E M o2 hm hw hc hd
    have h8 := hw.2.1
    have g1 := hm.1 1 (by omega) (by omega)
    have g2 := hm.1 2 (by omega) (by omega)
    have g4 := hm.1 4 (by omega) (by omega)
    have e1 : c < E 1 := by omega
    have w2 := hw.2.2.1
    have w4 := hw.2.2.2.2.1
    have w5 := hw.2.2.2.2.2.1
    have e4 : ¬ nI (E 4) = nI 0 := nI_ne (by omega) (by omega) (by omega)
    have cv := hw.2.2.2.2.2.2.2 c e1
    have gn := r166 (d := d + 1) hk hm (by omega : c < 8) cv.2.2.2
    have n3 := nE_le (E := E) c
    have hm2 : RLd (j_up M (o + 1) (38 + 5 * c + 2 + (if 0 < nE E c then nE E c - 1 else 0)) (nI 0)) o (drpS E c) z :=
      RLd_cg (RLd_up hm (by omega)) (fun j hj => drp_pt cv.2.2.2 j)
    have hw2 : WE (drpS E c) := WE_R hw (d_rw cv.2.2.2)
    have f : ∀ j, j < 38 → drpS E c j = E j := fun j hj => sr_R _ _ _ _ j (.inl hj)
    obtain ⟨M', p1, p2, p3⟩ := ih (c + 1) (drpS E c) _ (some (.int (nI (nE E c)))) hm2 hw2 (by rw [f 1 (by omega)]; omega) (by rw [f 2 (by omega), f 4 (by omega)]; exact hd)
    refine ⟨M', ?_, p2, ld_t (ld_up (by split <;> omega)) p3⟩
    rw [st_187_35]
    by_cases e5 : 0 < nE E c
    · rw [if_pos e5] at p1
      have i1 : 38 + 5 * c + 2 + (nE E c - 1) < 250 := by omega
      simp (disch := omega) only [st_187_0, st_187_1, st_187_3, st_187_4, st_187_7, st_187_8, st_187_9, st_187_12, st_187_13, st_187_14, st_187_17, st_187_20, st_187_23, st_187_24, st_187_27, st_187_28, st_187_29, st_187_30, st_187_31, st_187_32, st_187_33, st_187_34, st_187_36, st_187_37, st_187_40, st_187_41, st_187_42, st_187_45, st_187_46, st_187_49, st_187_50, st_187_51, st_187_52, st_187_55, st_187_56, st_187_57, st_187_58, st_187_61, st_187_62, st_187_63, st_187_66, st_187_67, st_187_68, st_187_71, st_187_73, st_187_74, st_187_75, st_187_76, st_187_77, st_187_78, st_187_79, st_187_80, st_187_83, st_187_84, st_187_85, st_187_86, st_187_89, st_187_90, st_187_91, st_187_92, st_187_93, st_187_96, st_187_99, ini_187, fs_cl, fs_len, fs_rf, fs_M, fs_put, fs_cpy, ↓reduceIte, rv_ref, true_or, or_true, true_and, and_true, nI_ltI, ix_nI, nI_clamp, ps_i, ps_n, Option.bind_some, sm_0, sm_1, sm_2, sm_3, sm_4, sto_0, sto_1, sto_2, sto_3, sto_4, sto_5, sto_6, sto_7, sto_8, sto_9, sto_10, sto_11, sto_12, sto_13, sto_14, nlo_n, nlo_i, nlo_r, nlo_0, nlo_l, and_self, or_self, Nat.reduceEqDiff, Nat.reduceLT, Nat.reduceLeDiff, Nat.one_ne_zero, Nat.zero_ne_one, m0, q0, a1, a2, g1, g2, g4, e1, e4, nI_rem, hd, gn, e5, nI_mul, nI_add, nI_sub, i1, p1]
    · rw [if_neg e5] at p1
      have i1 : 38 + 5 * c + 2 + 0 < 250 := by omega
      have e6 : nE E c = 0 := by omega
      have e7 : ¬ nI 0 < nI 0 := nI_nlt (Nat.le_refl _) (by omega)
      rw [e6] at gn p1
      simp (disch := omega) only [st_187_0, st_187_1, st_187_3, st_187_4, st_187_7, st_187_8, st_187_9, st_187_12, st_187_13, st_187_14, st_187_17, st_187_20, st_187_23, st_187_24, st_187_27, st_187_28, st_187_29, st_187_30, st_187_31, st_187_32, st_187_33, st_187_34, st_187_36, st_187_37, st_187_40, st_187_41, st_187_42, st_187_45, st_187_46, st_187_49, st_187_50, st_187_51, st_187_52, st_187_55, st_187_56, st_187_57, st_187_58, st_187_61, st_187_62, st_187_63, st_187_66, st_187_67, st_187_68, st_187_71, st_187_73, st_187_74, st_187_75, st_187_76, st_187_77, st_187_78, st_187_79, st_187_80, st_187_83, st_187_84, st_187_85, st_187_86, st_187_89, st_187_90, st_187_91, st_187_92, st_187_93, st_187_96, st_187_99, ini_187, fs_cl, fs_len, fs_rf, fs_M, fs_put, fs_cpy, ↓reduceIte, rv_ref, true_or, or_true, true_and, and_true, nI_ltI, ix_nI, nI_clamp, ps_i, ps_n, Option.bind_some, sm_0, sm_1, sm_2, sm_3, sm_4, sto_0, sto_1, sto_2, sto_3, sto_4, sto_5, sto_6, sto_7, sto_8, sto_9, sto_10, sto_11, sto_12, sto_13, sto_14, nlo_n, nlo_i, nlo_r, nlo_0, nlo_l, and_self, or_self, Nat.reduceEqDiff, Nat.reduceLT, Nat.reduceLeDiff, Nat.one_ne_zero, Nat.zero_ne_one, m0, q0, a1, a2, g1, g2, g4, e1, e4, nI_rem, hd, gn, e7, nI_mul, nI_add, i1, p1]
theorem r187 (hk : Md h o) (hm : RLd M o E z) (hw : WE E) (hd : E 2 + 1 < 100000) : ∃ M', j_C (d + 4) 187 [.ref o] (FS h M) = some (none, FS h M') ∧ RLd M' o (dayE E) z ∧ ld o M M' := by
  obtain ⟨m0, ⟨q0, a1, a2, a3⟩, _⟩ := id hk
  obtain ⟨M1, p1, p2, p3⟩ := r187a (d := d) hk (E 0) 0 E M none hm hw (by omega)
  have hw1 := mga_WE (E 0) 0 E hw
  have e2 : mga E (E 0) 0 2 = E 2 := mga_sr _ _ _ 2 (by omega)
  have g2 := p2.1 2 (by omega) (by omega)
  rw [e2] at g2
  have hm2 : RLd (j_up M1 (o + 1) 2 (nI (E 2 + 1))) o (day0 E) z := RLd_up p2 (by omega)
  have hw2 := day0_WE hw hd
  have f1 : day0 E 1 = E 1 := day0_o (by omega) (by omega)
  have f4 : day0 E 4 = E 4 := day0_o (by omega) (by omega)
  have h8 := hw.2.1
  have w4 := hw.2.2.2.2.1
  have w5 := hw.2.2.2.2.2.1
  have run : j_C (d + 4) 187 [.ref o] (FS h M) = j_X (d + 3) 187 35 [some (.ref o), some (.int (nI 0)), none] [] (FS h (j_up M1 (o + 1) 2 (nI (E 2 + 1)))) := by
    rw [j_C_eq]
    simp (disch := omega) only [st_187_0, st_187_1, ini_187, fs_cl, fs_len, fs_rf, fs_M, fs_put, fs_cpy, ↓reduceIte, rv_ref, true_or, or_true, true_and, and_true, nI_ltI, ix_nI, nI_clamp, ps_i, ps_n, Option.bind_some, sm_0, sm_1, sm_2, sm_3, sm_4, sto_0, sto_1, sto_2, sto_3, sto_4, sto_5, sto_6, sto_7, sto_8, sto_9, sto_10, sto_11, sto_12, sto_13, sto_14, nlo_n, nlo_i, nlo_r, nlo_0, nlo_l, and_self, or_self, Nat.reduceEqDiff, Nat.reduceLT, Nat.reduceLeDiff, Nat.one_ne_zero, Nat.zero_ne_one, p1]
    simp (disch := omega) only [st_187_23, st_187_24, st_187_27, st_187_28, st_187_29, st_187_30, st_187_31, st_187_32, st_187_33, st_187_34, ini_187, fs_cl, fs_len, fs_rf, fs_M, fs_put, fs_cpy, ↓reduceIte, rv_ref, true_or, or_true, true_and, and_true, nI_ltI, ix_nI, nI_clamp, ps_i, ps_n, Option.bind_some, sm_0, sm_1, sm_2, sm_3, sm_4, sto_0, sto_1, sto_2, sto_3, sto_4, sto_5, sto_6, sto_7, sto_8, sto_9, sto_10, sto_11, sto_12, sto_13, sto_14, nlo_n, nlo_i, nlo_r, nlo_0, nlo_l, and_self, or_self, Nat.reduceEqDiff, Nat.reduceLT, Nat.reduceLeDiff, Nat.one_ne_zero, Nat.zero_ne_one, m0, q0, a1, a2, g2, nI_add]
  unfold dayE
  by_cases e : (E 2 + 1) % E 4 = 0
  · rw [if_pos e]
    obtain ⟨M', s1, s2, s3⟩ := r187b (d := d) hk (E 1) 0 (day0 E) _ none hm2 hw2 (by omega) (by rw [day0_2, f4]; exact e)
    refine ⟨M', ?_, s2, ld_t p3 (ld_t (ld_up (by omega)) s3)⟩
    rw [run]; exact s1
  · rw [if_neg e]
    refine ⟨_, ?_, hm2, ld_t p3 (ld_up (by omega))⟩
    have k1 := hm2.1 1 (by omega) (by omega)
    have k2 := hm2.1 2 (by omega) (by omega)
    have k4 := hm2.1 4 (by omega) (by omega)
    rw [f1] at k1
    rw [day0_2] at k2
    rw [f4] at k4
    have e4 : ¬ nI (E 4) = nI 0 := nI_ne (by omega) (by omega) (by omega)
    have md := Nat.mod_lt (E 2 + 1) (by omega : 0 < E 4)
    have e' : ¬ nI ((E 2 + 1) % E 4) = nI 0 := nI_ne e (by omega) (by omega)
    rw [run, st_187_35]
    by_cases e0 : 0 < E 1
    · simp (disch := omega) only [st_187_36, st_187_37, st_187_40, st_187_41, st_187_42, st_187_45, st_187_46, st_187_49, st_187_50, st_187_51, st_187_52, st_187_55, st_187_56, st_187_57, st_187_58, st_187_61, st_187_62, st_187_63, st_187_66, st_187_67, st_187_68, st_187_71, st_187_73, st_187_74, st_187_75, st_187_76, st_187_77, st_187_78, st_187_79, st_187_80, st_187_83, st_187_84, st_187_85, st_187_86, st_187_89, st_187_90, st_187_91, st_187_92, st_187_93, st_187_96, st_187_99, ini_187, fs_cl, fs_len, fs_rf, fs_M, fs_put, fs_cpy, ↓reduceIte, rv_ref, true_or, or_true, true_and, and_true, nI_ltI, ix_nI, nI_clamp, ps_i, ps_n, Option.bind_some, sm_0, sm_1, sm_2, sm_3, sm_4, sto_0, sto_1, sto_2, sto_3, sto_4, sto_5, sto_6, sto_7, sto_8, sto_9, sto_10, sto_11, sto_12, sto_13, sto_14, nlo_n, nlo_i, nlo_r, nlo_0, nlo_l, and_self, or_self, Nat.reduceEqDiff, Nat.reduceLT, Nat.reduceLeDiff, Nat.one_ne_zero, Nat.zero_ne_one, m0, q0, a1, a2, k1, k2, k4, e0, e4, nI_rem, e']
    · simp (disch := omega) only [st_187_36, st_187_37, st_187_40, st_187_41, st_187_42, st_187_45, st_187_46, st_187_49, st_187_50, st_187_51, st_187_52, st_187_55, st_187_56, st_187_57, st_187_58, st_187_61, st_187_62, st_187_63, st_187_66, st_187_67, st_187_68, st_187_71, st_187_73, st_187_74, st_187_75, st_187_76, st_187_77, st_187_78, st_187_79, st_187_80, st_187_83, st_187_84, st_187_85, st_187_86, st_187_89, st_187_90, st_187_91, st_187_92, st_187_93, st_187_96, st_187_99, ini_187, fs_cl, fs_len, fs_rf, fs_M, fs_put, fs_cpy, ↓reduceIte, rv_ref, true_or, or_true, true_and, and_true, nI_ltI, ix_nI, nI_clamp, ps_i, ps_n, Option.bind_some, sm_0, sm_1, sm_2, sm_3, sm_4, sto_0, sto_1, sto_2, sto_3, sto_4, sto_5, sto_6, sto_7, sto_8, sto_9, sto_10, sto_11, sto_12, sto_13, sto_14, nlo_n, nlo_i, nlo_r, nlo_0, nlo_l, and_self, or_self, Nat.reduceEqDiff, Nat.reduceLT, Nat.reduceLeDiff, Nat.one_ne_zero, Nat.zero_ne_one, m0, q0, a1, a2, k1, e0]
