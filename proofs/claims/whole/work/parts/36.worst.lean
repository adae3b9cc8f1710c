/-! The class's Thoughts: the worst. -/
variable {h : j_Hd} {M : Nat → Nat → Int32} {σ : j_St} {d b w : Nat} {E : Nat → Nat} {z : Int32} {K0 K1 : List Int32}
def lwV : Option Nat → Int32
  | none => -1
  | some v => nI v
/-- the worst among the first coins -/
def lwS (E : Nat → Nat) (K : List Int32) (t u : Nat) : Nat → Option Nat
  | 0 => none
  | c + 1 => if E (39 + 5 * c) = t then (if wth E K c u < nI (E (11 + 5 * u)) then lwS E K t u c else match lwS E K t u c with
    | none => some c
    | some v => if wth E K c t < wth E K v t then some c else some v) else lwS E K t u c
theorem lwS_lt (t u : Nat) : ∀ c v, lwS E K0 t u c = some v → v < c := by
  intro c
  induction c with
  | zero => intro v h; cases h
  | succ c ih =>
    intro v hv
    unfold lwS at hv
    split at hv
    · split at hv
      · have := ih v hv; omega
      · cases hq : lwS E K0 t u c with
        | none => rw [hq] at hv; cases hv; omega
        | some y =>
          rw [hq] at hv
          have := ih y hq
          simp only at hv
          split at hv <;> cases hv <;> omega
    · have := ih v hv; omega
theorem c59l (ht : Th h w) (hk : Mk h b) (hw : WE E) {t u : Nat} (htt : t < E 0) (hu : u < E 0) : ∀ r c (M : Nat → Nat → Int32), CM M b E z K0 K1 → r + c = E 1 → ∃ M', j_X (d + 5) 59 6 [some (.ref w), some (.ref b), some (.int (nI t)), some (.int (nI u)), some (.int (lwV (lwS E K0 t u c))), some (.int (nI c))] [] (FS h M) = some (some (.int (lwV (lwS E K0 t u (E 1)))), FS h M') ∧ sg b M M' := by
  have h6 := hw.1
  have h8 := hw.2.1
  have e10 : ¬ nI 1 = nI 0 := by decide +kernel
  have em : (-1 : Int32) < nI 0 := by decide +kernel
  intro r
  induction r with
  | zero =>
    intro c M hm hr
    have e : c = E 1 := by omega
    have e1 : ¬ c < E 1 := by omega
    refine ⟨M, ?_, sg_r⟩
    rw [st_59_6]
    simp (disch := omega) only [st_59_0, st_59_1, st_59_3, st_59_4, st_59_8, st_59_9, st_59_12, st_59_15, st_59_16, st_59_17, st_59_19, st_59_22, st_59_25, st_59_26, st_59_27, st_59_29, st_59_32, st_59_35, st_59_37, st_59_40, st_59_41, st_59_43, st_59_44, st_59_47, st_59_48, st_59_50, st_59_51, st_59_54, st_59_57, st_59_59, st_59_61, st_59_64, st_59_67, st_59_69, ini_59, fs_cl, fs_len, fs_rf, fs_M, fs_put, fs_cpy, ↓reduceIte, rv_ref, true_or, or_true, true_and, and_true, nI_ltI, ix_nI, nI_clamp, ps_i, ps_n, Option.bind_some, sm_0, sm_1, sm_2, sm_3, sm_4, sto_0, sto_1, sto_2, sto_3, sto_4, sto_5, sto_6, sto_7, sto_8, sto_9, sto_10, sto_11, sto_12, sto_13, sto_14, nlo_n, nlo_i, nlo_r, nlo_0, nlo_l, and_self, or_self, Nat.reduceEqDiff, Nat.reduceLT, Nat.reduceLeDiff, Nat.one_ne_zero, Nat.zero_ne_one, hk.1, c7 hk, hm.1.2.2.2.2.2.1, e1]
    rw [e]
  | succ r ih =>
    intro c M hm hr
    have e1 : c < E 1 := by omega
    have g := c12 (d := d + 3) hk hm hw (by omega : t < 10) e1
    by_cases e : E (39 + 5 * c) = t
    · obtain ⟨M1, p1, p2⟩ := c18 (d := d) hk hm hw hu e1
      have hm1 := CM_sg p2 hm
      rw [if_pos e] at g
      by_cases e2 : wth E K0 c u < nI (E (11 + 5 * u))
      · obtain ⟨M', s1, s2⟩ := ih (c + 1) M1 hm1 (by omega)
        rw [lwS, if_pos e, if_pos e2] at s1
        rw [if_pos e2] at p1
        refine ⟨M', ?_, sg_t p2 s2⟩
        rw [st_59_6]
        simp (disch := omega) only [st_59_0, st_59_1, st_59_3, st_59_4, st_59_8, st_59_9, st_59_12, st_59_15, st_59_16, st_59_17, st_59_19, st_59_22, st_59_25, st_59_26, st_59_27, st_59_29, st_59_32, st_59_35, st_59_37, st_59_40, st_59_41, st_59_43, st_59_44, st_59_47, st_59_48, st_59_50, st_59_51, st_59_54, st_59_57, st_59_59, st_59_61, st_59_64, st_59_67, st_59_69, ini_59, fs_cl, fs_len, fs_rf, fs_M, fs_put, fs_cpy, ↓reduceIte, rv_ref, true_or, or_true, true_and, and_true, nI_ltI, ix_nI, nI_clamp, ps_i, ps_n, Option.bind_some, sm_0, sm_1, sm_2, sm_3, sm_4, sto_0, sto_1, sto_2, sto_3, sto_4, sto_5, sto_6, sto_7, sto_8, sto_9, sto_10, sto_11, sto_12, sto_13, sto_14, nlo_n, nlo_i, nlo_r, nlo_0, nlo_l, and_self, or_self, Nat.reduceEqDiff, Nat.reduceLT, Nat.reduceLeDiff, Nat.one_ne_zero, Nat.zero_ne_one, hk.1, c7 hk, hm.1.2.2.2.2.2.1, e1, g, e10, p1, nI_add, s1]
      · rw [if_neg e2] at p1
        cases hq : lwS E K0 t u c with
        | none =>
          obtain ⟨M', s1, s2⟩ := ih (c + 1) M1 hm1 (by omega)
          rw [lwS, if_pos e, if_neg e2, hq] at s1
          simp only [lwV] at s1 ⊢
          refine ⟨M', ?_, sg_t p2 s2⟩
          rw [st_59_6]
          simp (disch := omega) only [st_59_0, st_59_1, st_59_3, st_59_4, st_59_8, st_59_9, st_59_12, st_59_15, st_59_16, st_59_17, st_59_19, st_59_22, st_59_25, st_59_26, st_59_27, st_59_29, st_59_32, st_59_35, st_59_37, st_59_40, st_59_41, st_59_43, st_59_44, st_59_47, st_59_48, st_59_50, st_59_51, st_59_54, st_59_57, st_59_59, st_59_61, st_59_64, st_59_67, st_59_69, ini_59, fs_cl, fs_len, fs_rf, fs_M, fs_put, fs_cpy, ↓reduceIte, rv_ref, true_or, or_true, true_and, and_true, nI_ltI, ix_nI, nI_clamp, ps_i, ps_n, Option.bind_some, sm_0, sm_1, sm_2, sm_3, sm_4, sto_0, sto_1, sto_2, sto_3, sto_4, sto_5, sto_6, sto_7, sto_8, sto_9, sto_10, sto_11, sto_12, sto_13, sto_14, nlo_n, nlo_i, nlo_r, nlo_0, nlo_l, and_self, or_self, Nat.reduceEqDiff, Nat.reduceLT, Nat.reduceLeDiff, Nat.one_ne_zero, Nat.zero_ne_one, hk.1, c7 hk, hm.1.2.2.2.2.2.1, e1, g, e10, p1, em, nI_add, s1]
        | some v =>
          have hv := lwS_lt t u c v hq
          have ev : ¬ nI v < nI 0 := nI_nlt (Nat.zero_le _) (by omega)
          obtain ⟨M2, q1, q2⟩ := c17 (d := d + 1) hk hm1 hw htt e1
          have hm2 := CM_sg q2 hm1
          obtain ⟨M3, y1, y2⟩ := c17 (d := d + 1) hk hm2 hw htt (by omega : v < E 1)
          have hm3 := CM_sg y2 hm2
          obtain ⟨M', s1, s2⟩ := ih (c + 1) M3 hm3 (by omega)
          rw [lwS, if_pos e, if_neg e2, hq] at s1
          simp only at s1
          refine ⟨M', ?_, sg_t p2 (sg_t q2 (sg_t y2 s2))⟩
          rw [st_59_6]
          by_cases e3 : wth E K0 c t < wth E K0 v t
          · rw [if_pos e3] at s1
            simp only [lwV] at s1 ⊢
            simp (disch := omega) only [st_59_0, st_59_1, st_59_3, st_59_4, st_59_8, st_59_9, st_59_12, st_59_15, st_59_16, st_59_17, st_59_19, st_59_22, st_59_25, st_59_26, st_59_27, st_59_29, st_59_32, st_59_35, st_59_37, st_59_40, st_59_41, st_59_43, st_59_44, st_59_47, st_59_48, st_59_50, st_59_51, st_59_54, st_59_57, st_59_59, st_59_61, st_59_64, st_59_67, st_59_69, ini_59, fs_cl, fs_len, fs_rf, fs_M, fs_put, fs_cpy, ↓reduceIte, rv_ref, true_or, or_true, true_and, and_true, nI_ltI, ix_nI, nI_clamp, ps_i, ps_n, Option.bind_some, sm_0, sm_1, sm_2, sm_3, sm_4, sto_0, sto_1, sto_2, sto_3, sto_4, sto_5, sto_6, sto_7, sto_8, sto_9, sto_10, sto_11, sto_12, sto_13, sto_14, nlo_n, nlo_i, nlo_r, nlo_0, nlo_l, and_self, or_self, Nat.reduceEqDiff, Nat.reduceLT, Nat.reduceLeDiff, Nat.one_ne_zero, Nat.zero_ne_one, hk.1, c7 hk, hm.1.2.2.2.2.2.1, e1, g, e10, p1, ev, q1, y1, e3, nI_add, s1]
          · rw [if_neg e3] at s1
            simp only [lwV] at s1 ⊢
            simp (disch := omega) only [st_59_0, st_59_1, st_59_3, st_59_4, st_59_8, st_59_9, st_59_12, st_59_15, st_59_16, st_59_17, st_59_19, st_59_22, st_59_25, st_59_26, st_59_27, st_59_29, st_59_32, st_59_35, st_59_37, st_59_40, st_59_41, st_59_43, st_59_44, st_59_47, st_59_48, st_59_50, st_59_51, st_59_54, st_59_57, st_59_59, st_59_61, st_59_64, st_59_67, st_59_69, ini_59, fs_cl, fs_len, fs_rf, fs_M, fs_put, fs_cpy, ↓reduceIte, rv_ref, true_or, or_true, true_and, and_true, nI_ltI, ix_nI, nI_clamp, ps_i, ps_n, Option.bind_some, sm_0, sm_1, sm_2, sm_3, sm_4, sto_0, sto_1, sto_2, sto_3, sto_4, sto_5, sto_6, sto_7, sto_8, sto_9, sto_10, sto_11, sto_12, sto_13, sto_14, nlo_n, nlo_i, nlo_r, nlo_0, nlo_l, and_self, or_self, Nat.reduceEqDiff, Nat.reduceLT, Nat.reduceLeDiff, Nat.one_ne_zero, Nat.zero_ne_one, hk.1, c7 hk, hm.1.2.2.2.2.2.1, e1, g, e10, p1, ev, q1, y1, e3, nI_add, s1]
    · obtain ⟨M', s1, s2⟩ := ih (c + 1) M hm (by omega)
      rw [lwS, if_neg e] at s1
      rw [if_neg e] at g
      refine ⟨M', ?_, s2⟩
      rw [st_59_6]
      simp (disch := omega) only [st_59_0, st_59_1, st_59_3, st_59_4, st_59_8, st_59_9, st_59_12, st_59_15, st_59_16, st_59_17, st_59_19, st_59_22, st_59_25, st_59_26, st_59_27, st_59_29, st_59_32, st_59_35, st_59_37, st_59_40, st_59_41, st_59_43, st_59_44, st_59_47, st_59_48, st_59_50, st_59_51, st_59_54, st_59_57, st_59_59, st_59_61, st_59_64, st_59_67, st_59_69, ini_59, fs_cl, fs_len, fs_rf, fs_M, fs_put, fs_cpy, ↓reduceIte, rv_ref, true_or, or_true, true_and, and_true, nI_ltI, ix_nI, nI_clamp, ps_i, ps_n, Option.bind_some, sm_0, sm_1, sm_2, sm_3, sm_4, sto_0, sto_1, sto_2, sto_3, sto_4, sto_5, sto_6, sto_7, sto_8, sto_9, sto_10, sto_11, sto_12, sto_13, sto_14, nlo_n, nlo_i, nlo_r, nlo_0, nlo_l, and_self, or_self, Nat.reduceEqDiff, Nat.reduceLT, Nat.reduceLeDiff, Nat.one_ne_zero, Nat.zero_ne_one, hk.1, c7 hk, hm.1.2.2.2.2.2.1, e1, g, nI_add, s1]
theorem c59 (ht : Th h w) (hk : Mk h b) (hm : CM M b E z K0 K1) (hw : WE E) {t u : Nat} (htt : t < E 0) (hu : u < E 0) : ∃ M', j_C (d + 6) 59 [.ref w, .ref b, .int (nI t), .int (nI u)] (FS h M) = some (some (.int (lwV (lwS E K0 t u (E 1)))), FS h M') ∧ sg b M M' := by
  obtain ⟨M', s1, s2⟩ := c59l (d := d) ht hk hw htt hu (E 1) 0 M hm (by omega)
  refine ⟨M', ?_, s2⟩
  rw [j_C_eq]
  simp only [st_59_0, st_59_1, st_59_3, st_59_4, st_59_8, st_59_9, st_59_12, st_59_15, st_59_16, st_59_17, st_59_19, st_59_22, st_59_25, st_59_26, st_59_27, st_59_29, st_59_32, st_59_35, st_59_37, st_59_40, st_59_41, st_59_43, st_59_44, st_59_47, st_59_48, st_59_50, st_59_51, st_59_54, st_59_57, st_59_59, st_59_61, st_59_64, st_59_67, st_59_69, ini_59, fs_cl, fs_len, fs_rf, fs_M, fs_put, fs_cpy, ↓reduceIte, rv_ref, true_or, or_true, true_and, and_true, nI_ltI, ix_nI, nI_clamp, ps_i, ps_n, Option.bind_some, sm_0, sm_1, sm_2, sm_3, sm_4, sto_0, sto_1, sto_2, sto_3, sto_4, sto_5, sto_6, sto_7, sto_8, sto_9, sto_10, sto_11, sto_12, sto_13, sto_14, nlo_n, nlo_i, nlo_r, nlo_0, nlo_l, and_self, or_self, Nat.reduceEqDiff, Nat.reduceLT, Nat.reduceLeDiff, Nat.one_ne_zero, Nat.zero_ne_one]
  exact s1
