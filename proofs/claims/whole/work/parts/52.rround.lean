/-! The reference: rounds, takers, tolls, home. -/
variable {h : j_Hd} {M : Nat → Nat → Int32} {σ : j_St} {d o : Nat} {E : Nat → Nat} {z : Int32} {K0 K1 : List Int32}
theorem x188 (hk : Md h o) (hm : RLd M o E z) (hw : WE E) {n : Nat} (hn : n ≤ 1000) (hd : E 2 + n < 100000) {e : Nat} (he : 5 ≤ e) : ∃ M', j_C e 188 [.ref o, .int (nI n)] (FS h M) = some (none, FS h M') ∧ RLd M' o (dyN n E) z ∧ ld o M M' := by
  obtain ⟨d, rfl⟩ := le_ex he
  obtain ⟨M', p1, p2, p3⟩ := r188 (d := d) hk hn n 0 E M hm hw hd (by omega)
  refine ⟨M', ?_, p2, p3⟩
  rw [j_C_eq]
  simp only [st_188_0, st_188_1, st_188_3, st_188_4, st_188_7, st_188_8, st_188_11, st_188_14, st_188_17, ini_188, fs_cl, fs_len, fs_rf, fs_M, fs_put, fs_cpy, ↓reduceIte, rv_ref, true_or, or_true, true_and, and_true, nI_ltI, ix_nI, nI_clamp, ps_i, ps_n, Option.bind_some, sm_0, sm_1, sm_2, sm_3, sm_4, sto_0, sto_1, sto_2, sto_3, sto_4, sto_5, sto_6, sto_7, sto_8, sto_9, sto_10, sto_11, sto_12, sto_13, sto_14, nlo_n, nlo_i, nlo_r, nlo_0, nlo_l, and_self, or_self, Nat.reduceEqDiff, Nat.reduceLT, Nat.reduceLeDiff, Nat.one_ne_zero, Nat.zero_ne_one, p1]
/-- the first that takes the coin -/
theorem r198i (hk : Md h o) (hw : WE E) {c hd : Nat} (hc : c < E 1) (hh : hd < 10) {e : Nat} (he : 60 ≤ e) {n : Nat} : ∀ r k (M : Nat → Nat → Int32) (o6 : Option Value), RC M o E z K0 K1 → r + k = E 0 → 1 ≤ k → ∃ M' x5 x6, j_X e 198 45 [some (.ref o), some (.int (nI c)), some (.int (nI n)), some (.int (nI 0)), some (.int (nI hd)), some (.int (nI k)), o6] [] (FS h M) = (match ipS E K0 c hd r k with | none => j_X e 198 22 [some (.ref o), some (.int (nI c)), some (.int (nI n)), some (.int (nI 0)), some (.int (nI hd)), x5, x6] [] (FS h M') | some _ => j_X e 198 22 [some (.ref o), some (.int (nI c)), some (.int (nI (n + 1))), some (.int (nI 1)), some (.int (nI hd)), x5, x6] [] (FS h M')) ∧ RC M' o ((ipS E K0 c hd r k).getD E) z K0 K1 ∧ rh o M M' := by
  have m0 := hk.1
  have q0 := hk.2.1.1
  have a1 := hk.2.1.2.1
  have a2 := hk.2.1.2.2.1
  have h6 := hw.1
  have h8 := hw.2.1
  have e10 : ¬ nI 1 = nI 0 := by decide +kernel
  have ch := (hw.2.2.2.2.2.2.2 c hc).2.2.1
  intro r
  induction r with
  | zero =>
    intro k M o6 hR hr hk1
    have e1 : ¬ k < E 0 := by omega
    have g0 := hR.1.1 0 (by omega) (by omega)
    refine ⟨M, some (.int (nI k)), o6, ?_, hR, rh_r⟩
    rw [st_198_45]
    simp (disch := omega) only [st_198_0, st_198_1, st_198_2, st_198_5, st_198_8, st_198_9, st_198_10, st_198_13, st_198_14, st_198_15, st_198_18, st_198_19, st_198_20, st_198_21, st_198_23, st_198_26, st_198_27, st_198_29, st_198_32, st_198_33, st_198_34, st_198_35, st_198_36, st_198_37, st_198_40, st_198_42, st_198_43, st_198_47, st_198_48, st_198_51, st_198_52, st_198_53, st_198_56, st_198_57, st_198_60, st_198_62, st_198_64, st_198_65, st_198_66, st_198_69, st_198_70, st_198_71, st_198_72, st_198_74, st_198_75, st_198_76, st_198_78, st_198_81, st_198_84, st_198_85, st_198_86, st_198_88, st_198_91, st_198_94, st_198_95, st_198_96, st_198_99, st_198_102, st_198_105, st_198_106, st_198_109, st_198_110, ini_198, fs_cl, fs_len, fs_rf, fs_M, fs_put, fs_cpy, ↓reduceIte, rv_ref, true_or, or_true, true_and, and_true, nI_ltI, ix_nI, nI_clamp, ps_i, ps_n, Option.bind_some, sm_0, sm_1, sm_2, sm_3, sm_4, sto_0, sto_1, sto_2, sto_3, sto_4, sto_5, sto_6, sto_7, sto_8, sto_9, sto_10, sto_11, sto_12, sto_13, sto_14, nlo_n, nlo_i, nlo_r, nlo_0, nlo_l, and_self, or_self, Nat.reduceEqDiff, Nat.reduceLT, Nat.reduceLeDiff, Nat.one_ne_zero, Nat.zero_ne_one, m0, q0, a1, a2, g0, e1]
    rfl
  | succ r ih =>
    intro k M o6 hR hr hk1
    have e1 : k < E 0 := by omega
    have g0 := hR.1.1 0 (by omega) (by omega)
    have f4 : ¬ nI (E 0) = nI 0 := nI_ne (by omega) (by omega) (by omega)
    have mt := Nat.mod_lt (hd + k) (by omega : 0 < E 0)
    obtain ⟨M1, p1, p2⟩ := r182 hk hR hw mt hc (e := e) (by omega)
    have hR1 := RC_wf p2 hR
    unfold ipS
    by_cases c2 : wth E K0 c ((hd + k) % E 0) < nI (E (11 + 5 * ((hd + k) % E 0)))
    · rw [if_pos c2] at p1
      rw [if_pos c2]
      obtain ⟨M', x5, x6, s1, s2, s3⟩ := ih (k + 1) M1 (some (.int (nI ((hd + k) % E 0)))) hR1 (by omega) (by omega)
      refine ⟨M', x5, x6, ?_, s2, rh_t (rh_wf p2) s3⟩
      rw [← s1, st_198_45]
      simp (disch := omega) only [st_198_0, st_198_1, st_198_2, st_198_5, st_198_8, st_198_9, st_198_10, st_198_13, st_198_14, st_198_15, st_198_18, st_198_19, st_198_20, st_198_21, st_198_23, st_198_26, st_198_27, st_198_29, st_198_32, st_198_33, st_198_34, st_198_35, st_198_36, st_198_37, st_198_40, st_198_42, st_198_43, st_198_47, st_198_48, st_198_51, st_198_52, st_198_53, st_198_56, st_198_57, st_198_60, st_198_62, st_198_64, st_198_65, st_198_66, st_198_69, st_198_70, st_198_71, st_198_72, st_198_74, st_198_75, st_198_76, st_198_78, st_198_81, st_198_84, st_198_85, st_198_86, st_198_88, st_198_91, st_198_94, st_198_95, st_198_96, st_198_99, st_198_102, st_198_105, st_198_106, st_198_109, st_198_110, ini_198, fs_cl, fs_len, fs_rf, fs_M, fs_put, fs_cpy, ↓reduceIte, rv_ref, true_or, or_true, true_and, and_true, nI_ltI, ix_nI, nI_clamp, ps_i, ps_n, Option.bind_some, sm_0, sm_1, sm_2, sm_3, sm_4, sto_0, sto_1, sto_2, sto_3, sto_4, sto_5, sto_6, sto_7, sto_8, sto_9, sto_10, sto_11, sto_12, sto_13, sto_14, nlo_n, nlo_i, nlo_r, nlo_0, nlo_l, and_self, or_self, Nat.reduceEqDiff, Nat.reduceLT, Nat.reduceLeDiff, Nat.one_ne_zero, Nat.zero_ne_one, m0, q0, a1, a2, g0, e1, f4, nI_add, nI_rem, p1]
    · rw [if_neg c2] at p1
      rw [if_neg c2]
      have kd := (hw.2.2.2.2.2.2.1 _ mt).1
      obtain ⟨M2, y1, y2, y3⟩ := r183e hk hR1.1 (by omega : (hd + k) % E 0 < 6) (by omega : c < 8) kd hw.2.2.2.1 (e := e) (by omega)
      have hR2 := RC_ld y3 y2 hR1
      have g02 := hR2.1.1 0 (by omega) (by omega)
      rw [sel_o (by omega) (by omega)] at g02
      refine ⟨M2, some (.int (nI (k + 1))), some (.int (nI ((hd + k) % E 0))), ?_, hR2, rh_t (rh_wf p2) (rh_ld y3)⟩
      rw [st_198_45]
      simp (disch := omega) only [st_198_0, st_198_1, st_198_2, st_198_5, st_198_8, st_198_9, st_198_10, st_198_13, st_198_14, st_198_15, st_198_18, st_198_19, st_198_20, st_198_21, st_198_23, st_198_26, st_198_27, st_198_29, st_198_32, st_198_33, st_198_34, st_198_35, st_198_36, st_198_37, st_198_40, st_198_42, st_198_43, st_198_47, st_198_48, st_198_51, st_198_52, st_198_53, st_198_56, st_198_57, st_198_60, st_198_62, st_198_64, st_198_65, st_198_66, st_198_69, st_198_70, st_198_71, st_198_72, st_198_74, st_198_75, st_198_76, st_198_78, st_198_81, st_198_84, st_198_85, st_198_86, st_198_88, st_198_91, st_198_94, st_198_95, st_198_96, st_198_99, st_198_102, st_198_105, st_198_106, st_198_109, st_198_110, ini_198, fs_cl, fs_len, fs_rf, fs_M, fs_put, fs_cpy, ↓reduceIte, rv_ref, true_or, or_true, true_and, and_true, nI_ltI, ix_nI, nI_clamp, ps_i, ps_n, Option.bind_some, sm_0, sm_1, sm_2, sm_3, sm_4, sto_0, sto_1, sto_2, sto_3, sto_4, sto_5, sto_6, sto_7, sto_8, sto_9, sto_10, sto_11, sto_12, sto_13, sto_14, nlo_n, nlo_i, nlo_r, nlo_0, nlo_l, and_self, or_self, Nat.reduceEqDiff, Nat.reduceLT, Nat.reduceLeDiff, Nat.one_ne_zero, Nat.zero_ne_one, m0, q0, a1, a2, g0, e1, f4, nI_add, nI_rem, p1, e10, y1]
      rw [st_198_45]
      by_cases c3 : k + 1 < E 0
      · simp (disch := omega) only [st_198_0, st_198_1, st_198_2, st_198_5, st_198_8, st_198_9, st_198_10, st_198_13, st_198_14, st_198_15, st_198_18, st_198_19, st_198_20, st_198_21, st_198_23, st_198_26, st_198_27, st_198_29, st_198_32, st_198_33, st_198_34, st_198_35, st_198_36, st_198_37, st_198_40, st_198_42, st_198_43, st_198_47, st_198_48, st_198_51, st_198_52, st_198_53, st_198_56, st_198_57, st_198_60, st_198_62, st_198_64, st_198_65, st_198_66, st_198_69, st_198_70, st_198_71, st_198_72, st_198_74, st_198_75, st_198_76, st_198_78, st_198_81, st_198_84, st_198_85, st_198_86, st_198_88, st_198_91, st_198_94, st_198_95, st_198_96, st_198_99, st_198_102, st_198_105, st_198_106, st_198_109, st_198_110, ini_198, fs_cl, fs_len, fs_rf, fs_M, fs_put, fs_cpy, ↓reduceIte, rv_ref, true_or, or_true, true_and, and_true, nI_ltI, ix_nI, nI_clamp, ps_i, ps_n, Option.bind_some, sm_0, sm_1, sm_2, sm_3, sm_4, sto_0, sto_1, sto_2, sto_3, sto_4, sto_5, sto_6, sto_7, sto_8, sto_9, sto_10, sto_11, sto_12, sto_13, sto_14, nlo_n, nlo_i, nlo_r, nlo_0, nlo_l, and_self, or_self, Nat.reduceEqDiff, Nat.reduceLT, Nat.reduceLeDiff, Nat.one_ne_zero, Nat.zero_ne_one, m0, q0, a1, a2, g02, c3, e10]
      · simp (disch := omega) only [st_198_0, st_198_1, st_198_2, st_198_5, st_198_8, st_198_9, st_198_10, st_198_13, st_198_14, st_198_15, st_198_18, st_198_19, st_198_20, st_198_21, st_198_23, st_198_26, st_198_27, st_198_29, st_198_32, st_198_33, st_198_34, st_198_35, st_198_36, st_198_37, st_198_40, st_198_42, st_198_43, st_198_47, st_198_48, st_198_51, st_198_52, st_198_53, st_198_56, st_198_57, st_198_60, st_198_62, st_198_64, st_198_65, st_198_66, st_198_69, st_198_70, st_198_71, st_198_72, st_198_74, st_198_75, st_198_76, st_198_78, st_198_81, st_198_84, st_198_85, st_198_86, st_198_88, st_198_91, st_198_94, st_198_95, st_198_96, st_198_99, st_198_102, st_198_105, st_198_106, st_198_109, st_198_110, ini_198, fs_cl, fs_len, fs_rf, fs_M, fs_put, fs_cpy, ↓reduceIte, rv_ref, true_or, or_true, true_and, and_true, nI_ltI, ix_nI, nI_clamp, ps_i, ps_n, Option.bind_some, sm_0, sm_1, sm_2, sm_3, sm_4, sto_0, sto_1, sto_2, sto_3, sto_4, sto_5, sto_6, sto_7, sto_8, sto_9, sto_10, sto_11, sto_12, sto_13, sto_14, nlo_n, nlo_i, nlo_r, nlo_0, nlo_l, and_self, or_self, Nat.reduceEqDiff, Nat.reduceLT, Nat.reduceLeDiff, Nat.one_ne_zero, Nat.zero_ne_one, m0, q0, a1, a2, g02, c3]
theorem r198 (hk : Md h o) (hR : RC M o E z K0 K1) (hw : WE E) {c : Nat} (hc : c < E 1) {e : Nat} (he : 61 ≤ e) : ∃ M', j_C e 198 [.ref o, .int (nI c)] (FS h M) = some (some (.int (nI (rdS K0 c 100 0 E))), FS h M') ∧ RC M' o E z K0 K1 ∧ rg o M M' := by
  obtain ⟨e, rfl⟩ : ∃ d, e = d + 1 := ⟨e - 1, by omega⟩
  have m0 := hk.1
  have e10 : ¬ nI 1 = nI 0 := by decide +kernel
  obtain ⟨M1, k1, k2, k3⟩ := r149e (M := M) hk (e := e) (by omega)
  have fin : ∀ n (x4 x5 x6 : Option Value) (on : Nat) (M2 : Nat → Nat → Int32), (on = 0 ∨ on = 1 ∧ 100 ≤ n ∧ n < 1000) → rh o M1 M2 → ∃ M', j_X e 198 22 [some (.ref o), some (.int (nI c)), some (.int (nI n)), some (.int (nI on)), x4, x5, x6] [] (FS h M2) = some (some (.int (nI n)), FS h M') ∧ RC M' o E z K0 K1 ∧ rg o M M' := by
    intro n x4 x5 x6 on M2 ho hr
    obtain ⟨M3, l1, l2, l3, l4⟩ := r150e (M := M2) hk (e := e) (by omega)
    obtain ⟨b1, b2⟩ := put_bk hR k2 k3 hr l2 l3 l4
    refine ⟨M3, ?_, b1, b2⟩
    rw [st_198_22]
    rcases ho with ho | ⟨ho, hn, hn2⟩
    · subst ho
      simp (disch := omega) only [st_198_0, st_198_1, st_198_2, st_198_5, st_198_8, st_198_9, st_198_10, st_198_13, st_198_14, st_198_15, st_198_18, st_198_19, st_198_20, st_198_21, st_198_23, st_198_26, st_198_27, st_198_29, st_198_32, st_198_33, st_198_34, st_198_35, st_198_36, st_198_37, st_198_40, st_198_42, st_198_43, st_198_47, st_198_48, st_198_51, st_198_52, st_198_53, st_198_56, st_198_57, st_198_60, st_198_62, st_198_64, st_198_65, st_198_66, st_198_69, st_198_70, st_198_71, st_198_72, st_198_74, st_198_75, st_198_76, st_198_78, st_198_81, st_198_84, st_198_85, st_198_86, st_198_88, st_198_91, st_198_94, st_198_95, st_198_96, st_198_99, st_198_102, st_198_105, st_198_106, st_198_109, st_198_110, ini_198, fs_cl, fs_len, fs_rf, fs_M, fs_put, fs_cpy, ↓reduceIte, rv_ref, true_or, or_true, true_and, and_true, nI_ltI, ix_nI, nI_clamp, ps_i, ps_n, Option.bind_some, sm_0, sm_1, sm_2, sm_3, sm_4, sto_0, sto_1, sto_2, sto_3, sto_4, sto_5, sto_6, sto_7, sto_8, sto_9, sto_10, sto_11, sto_12, sto_13, sto_14, nlo_n, nlo_i, nlo_r, nlo_0, nlo_l, and_self, or_self, Nat.reduceEqDiff, Nat.reduceLT, Nat.reduceLeDiff, Nat.one_ne_zero, Nat.zero_ne_one, m0, l1]
    · subst ho
      have nl : ¬ n < 100 := by omega
      simp (disch := omega) only [st_198_0, st_198_1, st_198_2, st_198_5, st_198_8, st_198_9, st_198_10, st_198_13, st_198_14, st_198_15, st_198_18, st_198_19, st_198_20, st_198_21, st_198_23, st_198_26, st_198_27, st_198_29, st_198_32, st_198_33, st_198_34, st_198_35, st_198_36, st_198_37, st_198_40, st_198_42, st_198_43, st_198_47, st_198_48, st_198_51, st_198_52, st_198_53, st_198_56, st_198_57, st_198_60, st_198_62, st_198_64, st_198_65, st_198_66, st_198_69, st_198_70, st_198_71, st_198_72, st_198_74, st_198_75, st_198_76, st_198_78, st_198_81, st_198_84, st_198_85, st_198_86, st_198_88, st_198_91, st_198_94, st_198_95, st_198_96, st_198_99, st_198_102, st_198_105, st_198_106, st_198_109, st_198_110, ini_198, fs_cl, fs_len, fs_rf, fs_M, fs_put, fs_cpy, ↓reduceIte, rv_ref, true_or, or_true, true_and, and_true, nI_ltI, ix_nI, nI_clamp, ps_i, ps_n, Option.bind_some, sm_0, sm_1, sm_2, sm_3, sm_4, sto_0, sto_1, sto_2, sto_3, sto_4, sto_5, sto_6, sto_7, sto_8, sto_9, sto_10, sto_11, sto_12, sto_13, sto_14, nlo_n, nlo_i, nlo_r, nlo_0, nlo_l, and_self, or_self, Nat.reduceEqDiff, Nat.reduceLT, Nat.reduceLeDiff, Nat.one_ne_zero, Nat.zero_ne_one, m0, e10, nl, l1]
  have L : ∀ r n (E' : Nat → Nat) (M2 : Nat → Nat → Int32) (x4 x5 x6 : Option Value), RC M2 o E' z K0 K1 → WE E' → c < E' 1 → r + n = 100 → rh o M1 M2 → ∃ M', j_X e 198 22 [some (.ref o), some (.int (nI c)), some (.int (nI n)), some (.int (nI 1)), x4, x5, x6] [] (FS h M2) = some (some (.int (nI (rdS K0 c r n E'))), FS h M') ∧ RC M' o E z K0 K1 ∧ rg o M M' := by
    intro r
    induction r with
    | zero =>
      intro n E' M2 x4 x5 x6 hR2 hw' hc' hr hh
      exact fin n x4 x5 x6 1 M2 (.inr ⟨rfl, by omega, by omega⟩) hh
    | succ r ih =>
      intro n E' M2 x4 x5 x6 hR2 hw' hc' hr hh
      have e1 : n < 100 := by omega
      have h6 := hw'.1
      have h8 := hw'.2.1
      have ch := (hw'.2.2.2.2.2.2.2 c hc').2.2.1
      have gh := r148e (M := M2) hk (t := c) (k := 1) (by omega) (e := e) (by omega)
      rw [show 38 + 5 * c + 1 = 39 + 5 * c by omega, hR2.1.1 _ (by omega) (by omega)] at gh
      obtain ⟨M3, y5, y6, s1, s2, s3⟩ := r198i hk hw' hc' (by omega : E' (39 + 5 * c) < 10) (e := e) (n := n) (by omega) (E' 0 - 1) 1 M2 x6 hR2 (by omega) (by omega)
      have run : ∀ R, j_X e 198 45 [some (.ref o), some (.int (nI c)), some (.int (nI n)), some (.int (nI 0)), some (.int (nI (E' (39 + 5 * c)))), some (.int (nI 1)), x6] [] (FS h M2) = R → j_X e 198 22 [some (.ref o), some (.int (nI c)), some (.int (nI n)), some (.int (nI 1)), x4, x5, x6] [] (FS h M2) = R := by
        intro R hX
        rw [← hX, st_198_22]
        simp (disch := omega) only [st_198_23, st_198_26, st_198_27, st_198_29, st_198_32, st_198_33, st_198_34, st_198_35, st_198_36, st_198_37, st_198_40, st_198_42, st_198_43, ini_198, fs_cl, fs_len, fs_rf, fs_M, fs_put, fs_cpy, ↓reduceIte, rv_ref, true_or, or_true, true_and, and_true, nI_ltI, ix_nI, nI_clamp, ps_i, ps_n, Option.bind_some, sm_0, sm_1, sm_2, sm_3, sm_4, sto_0, sto_1, sto_2, sto_3, sto_4, sto_5, sto_6, sto_7, sto_8, sto_9, sto_10, sto_11, sto_12, sto_13, sto_14, nlo_n, nlo_i, nlo_r, nlo_0, nlo_l, and_self, or_self, Nat.reduceEqDiff, Nat.reduceLT, Nat.reduceLeDiff, Nat.one_ne_zero, Nat.zero_ne_one, m0, e10, e1, gh]
      unfold rdS
      cases hq : ipS E' K0 c (E' (39 + 5 * c)) (E' 0 - 1) 1 with
      | none =>
        rw [hq] at s1 s2
        obtain ⟨M', f1, f2, f3⟩ := fin n (some (.int (nI (E' (39 + 5 * c))))) y5 y6 0 M3 (.inl rfl) (rh_t hh s3)
        exact ⟨M', (run _ s1).trans f1, f2, f3⟩
      | some E2 =>
        rw [hq] at s1 s2
        obtain ⟨w1, w2, w3⟩ := ipS_WE hw' hc' (by omega) _ _ _ hq
        obtain ⟨M', f1, f2, f3⟩ := ih (n + 1) E2 M3 (some (.int (nI (E' (39 + 5 * c))))) y5 y6 s2 w1 (by omega) (by omega) (rh_t hh s3)
        exact ⟨M', (run _ s1).trans f1, f2, f3⟩
  obtain ⟨M', f1, f2, f3⟩ := L 100 0 E M1 none none none (RC_as hR k3) hw hc (by omega) rh_r
  refine ⟨M', ?_, f2, f3⟩
  have gt := r146ye hk hR.1 hw.2.1 hc (e := e) (by omega)
  rw [j_C_eq]
  simp (disch := omega) only [st_198_0, st_198_1, st_198_2, st_198_5, st_198_8, st_198_9, st_198_10, st_198_13, st_198_14, st_198_15, st_198_18, st_198_19, st_198_20, st_198_21, st_198_23, st_198_26, st_198_27, st_198_29, st_198_32, st_198_33, st_198_34, st_198_35, st_198_36, st_198_37, st_198_40, st_198_42, st_198_43, st_198_47, st_198_48, st_198_51, st_198_52, st_198_53, st_198_56, st_198_57, st_198_60, st_198_62, st_198_64, st_198_65, st_198_66, st_198_69, st_198_70, st_198_71, st_198_72, st_198_74, st_198_75, st_198_76, st_198_78, st_198_81, st_198_84, st_198_85, st_198_86, st_198_88, st_198_91, st_198_94, st_198_95, st_198_96, st_198_99, st_198_102, st_198_105, st_198_106, st_198_109, st_198_110, ini_198, fs_cl, fs_len, fs_rf, fs_M, fs_put, fs_cpy, ↓reduceIte, rv_ref, true_or, or_true, true_and, and_true, nI_ltI, ix_nI, nI_clamp, ps_i, ps_n, Option.bind_some, sm_0, sm_1, sm_2, sm_3, sm_4, sto_0, sto_1, sto_2, sto_3, sto_4, sto_5, sto_6, sto_7, sto_8, sto_9, sto_10, sto_11, sto_12, sto_13, sto_14, nlo_n, nlo_i, nlo_r, nlo_0, nlo_l, and_self, or_self, Nat.reduceEqDiff, Nat.reduceLT, Nat.reduceLeDiff, Nat.one_ne_zero, Nat.zero_ne_one, m0, gt, e10, k1]
  exact f1
theorem r202 (hk : Md h o) (hR : RC M o E z K0 K1) (hw : WE E) {c n : Nat} (hc : c < E 1) (hn : n ≤ 100) (hd : E 2 ≤ 9999) {e : Nat} (he : 61 ≤ e) : ∃ M', j_C e 202 [.ref o, .int (nI c), .int (nI n)] (FS h M) = some (some (.int (tkS (dyN n E) K0 c (dyN n E 0))), FS h M') ∧ RC M' o E z K0 K1 ∧ rg o M M' := by
  obtain ⟨e, rfl⟩ : ∃ d, e = d + 1 := ⟨e - 1, by omega⟩
  have m0 := hk.1
  have e10 : ¬ nI 1 = nI 0 := by decide +kernel
  obtain ⟨M1, k1, k2, k3⟩ := r149e (M := M) hk (e := e) (by omega)
  have hR1 := RC_as hR k3
  obtain ⟨M2, p1, p2, p3⟩ := x188 hk hR1.1 hw (by omega : n ≤ 1000) (by omega) (e := e) (by omega)
  have hR2 := RC_ld p3 p2 hR1
  have hw2 := dyN_WE n E hw (by omega)
  have e1 : dyN n E 1 = E 1 := dyN_o (by omega) (by omega) n E
  obtain ⟨M3, q1, q2⟩ := r200 hk hR2 hw2 (by rw [e1]; exact hc : c < dyN n E 1) (e := e) (by omega)
  obtain ⟨M4, l1, l2, l3, l4⟩ := r150e (M := M3) hk (e := e) (by omega)
  obtain ⟨b1, b2⟩ := put_bk hR k2 k3 (rh_t (rh_ld p3) (rh_wf q2)) l2 l3 l4
  refine ⟨M4, ?_, b1, b2⟩
  have gt := r146ye hk hR.1 hw.2.1 hc (e := e) (by omega)
  have gl := r143e (σ := FS h M) (nI n).toInt64 (lN 0) (lN 100) (e := e) (by omega)
  rw [lin_in (Nat.zero_le _) hn (by omega)] at gl
  rw [j_C_eq]
  simp (disch := omega) only [st_202_0, st_202_1, st_202_2, st_202_5, st_202_8, st_202_9, st_202_10, st_202_11, st_202_14, st_202_17, st_202_20, st_202_21, st_202_22, st_202_25, st_202_26, st_202_27, st_202_30, st_202_31, st_202_32, st_202_35, st_202_36, st_202_37, st_202_40, st_202_41, st_202_42, st_202_45, st_202_46, ini_202, fs_cl, fs_len, fs_rf, fs_M, fs_put, fs_cpy, ↓reduceIte, rv_ref, true_or, or_true, true_and, and_true, nI_ltI, ix_nI, nI_clamp, ps_i, ps_n, Option.bind_some, sm_0, sm_1, sm_2, sm_3, sm_4, sto_0, sto_1, sto_2, sto_3, sto_4, sto_5, sto_6, sto_7, sto_8, sto_9, sto_10, sto_11, sto_12, sto_13, sto_14, nlo_n, nlo_i, nlo_r, nlo_0, nlo_l, and_self, or_self, Nat.reduceEqDiff, Nat.reduceLT, Nat.reduceLeDiff, Nat.one_ne_zero, Nat.zero_ne_one, m0, gt, gl, e10, k1, p1, q1, l1]
theorem r203 (hk : Md h o) (hR : RC M o E z K0 K1) (hw : WE E) {t n : Nat} (ht : t < E 0) (hn : n ≤ 100) (hd : E 2 ≤ 9999) {e : Nat} (he : 61 ≤ e) : ∃ M', j_C e 203 [.ref o, .int (nI t), .int (nI n)] (FS h M) = some (some (.int (tyS K1 t n (nI 0) E)), FS h M') ∧ RC M' o E z K0 K1 ∧ rg o M M' := by
  obtain ⟨e, rfl⟩ : ∃ d, e = d + 1 := ⟨e - 1, by omega⟩
  have m0 := hk.1
  have q0 := hk.2.1.1
  have a1 := hk.2.1.2.1
  have a2 := hk.2.1.2.2.1
  have h6 := hw.1
  have e10 : ¬ nI 1 = nI 0 := by decide +kernel
  have e12 : ¬ 1 = 0 := by omega
  obtain ⟨M1, k1, k2, k3⟩ := r149e (M := M) hk (e := e) (by omega)
  have I : ∀ (a : Int32) (k : Nat) (E : Nat → Nat), WE E → ∀ r c (M2 : Nat → Nat → Int32), RC M2 o E z K0 K1 → r + c = E 1 → ∃ M3, j_X e 203 44 [some (.ref o), some (.int (nI t)), some (.int (nI n)), some (.int (a + tlS E K1 t c)), some (.int (nI k)), some (.int (nI c))] [] (FS h M2) = j_X e 203 103 [some (.ref o), some (.int (nI t)), some (.int (nI n)), some (.int (a + tlS E K1 t (E 1))), some (.int (nI k)), some (.int (nI (E 1)))] [] (FS h M3) ∧ RC M3 o E z K0 K1 ∧ rh o M2 M3 := by
    intro a k E hw r
    have h6 := hw.1
    have h8 := hw.2.1
    induction r with
    | zero =>
      intro c M2 hR hr
      have e1 : ¬ c < E 1 := by omega
      have et : c = E 1 := by omega
      have g0 := hR.1.1 1 (by omega) (by omega)
      refine ⟨M2, ?_, hR, rh_r⟩
      rw [st_203_44]
      simp (disch := omega) only [st_203_46, st_203_47, st_203_50, st_203_51, st_203_52, st_203_55, st_203_56, st_203_57, st_203_59, st_203_60, st_203_63, st_203_64, st_203_67, st_203_68, st_203_69, st_203_70, st_203_72, st_203_73, st_203_76, st_203_77, st_203_79, st_203_82, st_203_83, st_203_86, st_203_87, st_203_88, st_203_91, st_203_94, st_203_95, st_203_96, st_203_97, st_203_100, ini_203, fs_cl, fs_len, fs_rf, fs_M, fs_put, fs_cpy, ↓reduceIte, rv_ref, true_or, or_true, true_and, and_true, nI_ltI, ix_nI, nI_clamp, ps_i, ps_n, Option.bind_some, sm_0, sm_1, sm_2, sm_3, sm_4, sto_0, sto_1, sto_2, sto_3, sto_4, sto_5, sto_6, sto_7, sto_8, sto_9, sto_10, sto_11, sto_12, sto_13, sto_14, nlo_n, nlo_i, nlo_r, nlo_0, nlo_l, and_self, or_self, Nat.reduceEqDiff, Nat.reduceLT, Nat.reduceLeDiff, Nat.one_ne_zero, Nat.zero_ne_one, m0, q0, a1, a2, g0, e1]
      rw [et]
    | succ r ih =>
      intro c M2 hR hr
      have e1 : c < E 1 := by omega
      have g0 := hR.1.1 1 (by omega) (by omega)
      have g2 := hR.1.1 2 (by omega) (by omega)
      have cv := hw.2.2.2.2.2.2.2 c e1
      have ch := cv.2.2.1
      have gh := r148e (M := M2) hk (t := c) (k := 1) (by omega) (e := e) (by omega)
      rw [show 38 + 5 * c + 1 = 39 + 5 * c by omega, hR.1.1 _ (by omega) (by omega)] at gh
      have gv := r148e (M := M2) hk (t := c) (k := 0) (by omega) (e := e) (by omega)
      rw [show 38 + 5 * c + 0 = 38 + 5 * c by omega, hR.1.1 _ (by omega) (by omega)] at gv
      have gn := r166e hk hR.1 (by omega : c < 8) cv.2.2.2 (e := e) (by omega)
      by_cases c1 : E (39 + 5 * c) = t
      · obtain ⟨M3, p1, p2⟩ := r164 hk (K := K1) (u := 1) (by omega) hR.2.2 (nI (E (38 + 5 * c))) (nI (nE E c)) (nI (E 2)) (e := e) (by omega)
        rw [if_neg e12] at p1
        obtain ⟨M', s1, s2, s3⟩ := ih (c + 1) M3 (RC_wf p2 hR) (by omega)
        rw [tlS, if_pos c1, ← Int32.add_assoc] at s1
        refine ⟨M', ?_, s2, rh_t (rh_wf p2) s3⟩
        rw [← s1, st_203_44]
        simp (disch := omega) only [st_203_46, st_203_47, st_203_50, st_203_51, st_203_52, st_203_55, st_203_56, st_203_57, st_203_59, st_203_60, st_203_63, st_203_64, st_203_67, st_203_68, st_203_69, st_203_70, st_203_72, st_203_73, st_203_76, st_203_77, st_203_79, st_203_82, st_203_83, st_203_86, st_203_87, st_203_88, st_203_91, st_203_94, st_203_95, st_203_96, st_203_97, st_203_100, ini_203, fs_cl, fs_len, fs_rf, fs_M, fs_put, fs_cpy, ↓reduceIte, rv_ref, true_or, or_true, true_and, and_true, nI_ltI, ix_nI, nI_clamp, ps_i, ps_n, Option.bind_some, sm_0, sm_1, sm_2, sm_3, sm_4, sto_0, sto_1, sto_2, sto_3, sto_4, sto_5, sto_6, sto_7, sto_8, sto_9, sto_10, sto_11, sto_12, sto_13, sto_14, nlo_n, nlo_i, nlo_r, nlo_0, nlo_l, and_self, or_self, Nat.reduceEqDiff, Nat.reduceLT, Nat.reduceLeDiff, Nat.one_ne_zero, Nat.zero_ne_one, m0, q0, a1, a2, g0, g2, e1, gh, gv, gn, nI_eq, eq_true c1, p1, nI_add]
      · obtain ⟨M', s1, s2, s3⟩ := ih (c + 1) M2 hR (by omega)
        rw [tlS, if_neg c1] at s1
        have z0 : a + tlS E K1 t c + nI 0 = a + tlS E K1 t c := by rw [nI_0]; exact Int32.add_zero _
        refine ⟨M', ?_, s2, s3⟩
        rw [← s1, st_203_44]
        simp (disch := omega) only [st_203_46, st_203_47, st_203_50, st_203_51, st_203_52, st_203_55, st_203_56, st_203_57, st_203_59, st_203_60, st_203_63, st_203_64, st_203_67, st_203_68, st_203_69, st_203_70, st_203_72, st_203_73, st_203_76, st_203_77, st_203_79, st_203_82, st_203_83, st_203_86, st_203_87, st_203_88, st_203_91, st_203_94, st_203_95, st_203_96, st_203_97, st_203_100, ini_203, fs_cl, fs_len, fs_rf, fs_M, fs_put, fs_cpy, ↓reduceIte, rv_ref, true_or, or_true, true_and, and_true, nI_ltI, ix_nI, nI_clamp, ps_i, ps_n, Option.bind_some, sm_0, sm_1, sm_2, sm_3, sm_4, sto_0, sto_1, sto_2, sto_3, sto_4, sto_5, sto_6, sto_7, sto_8, sto_9, sto_10, sto_11, sto_12, sto_13, sto_14, nlo_n, nlo_i, nlo_r, nlo_0, nlo_l, and_self, or_self, Nat.reduceEqDiff, Nat.reduceLT, Nat.reduceLeDiff, Nat.one_ne_zero, Nat.zero_ne_one, m0, q0, a1, a2, g0, e1, gh, nI_eq, c1, z0, nI_add]
  have L : ∀ r k (a : Int32) (E' : Nat → Nat) (M2 : Nat → Nat → Int32) (o5 : Option Value), RC M2 o E' z K0 K1 → WE E' → E' 2 + r < 100000 → r + k = n → rh o M1 M2 → ∃ M', j_X e 203 35 [some (.ref o), some (.int (nI t)), some (.int (nI n)), some (.int a), some (.int (nI k)), o5] [] (FS h M2) = some (some (.int (tyS K1 t r a E')), FS h M') ∧ RC M' o E z K0 K1 ∧ rg o M M' := by
    intro r
    induction r with
    | zero =>
      intro k a E' M2 o5 hR2 hw' hd hr hh
      have e1 : ¬ k < n := by omega
      obtain ⟨M4, l1, l2, l3, l4⟩ := r150e (M := M2) hk (e := e) (by omega)
      obtain ⟨b1, b2⟩ := put_bk hR k2 k3 hh l2 l3 l4
      refine ⟨M4, ?_, b1, b2⟩
      rw [st_203_35]
      simp (disch := omega) only [st_203_0, st_203_1, st_203_2, st_203_5, st_203_8, st_203_9, st_203_10, st_203_11, st_203_14, st_203_17, st_203_20, st_203_21, st_203_22, st_203_25, st_203_26, st_203_27, st_203_30, st_203_31, st_203_32, st_203_33, st_203_37, st_203_38, st_203_41, st_203_42, st_203_46, st_203_47, st_203_50, st_203_51, st_203_52, st_203_55, st_203_56, st_203_57, st_203_59, st_203_60, st_203_63, st_203_64, st_203_67, st_203_68, st_203_69, st_203_70, st_203_72, st_203_73, st_203_76, st_203_77, st_203_79, st_203_82, st_203_83, st_203_86, st_203_87, st_203_88, st_203_91, st_203_94, st_203_95, st_203_96, st_203_97, st_203_100, st_203_103, st_203_104, st_203_107, st_203_110, st_203_113, st_203_114, st_203_117, st_203_118, ini_203, fs_cl, fs_len, fs_rf, fs_M, fs_put, fs_cpy, ↓reduceIte, rv_ref, true_or, or_true, true_and, and_true, nI_ltI, ix_nI, nI_clamp, ps_i, ps_n, Option.bind_some, sm_0, sm_1, sm_2, sm_3, sm_4, sto_0, sto_1, sto_2, sto_3, sto_4, sto_5, sto_6, sto_7, sto_8, sto_9, sto_10, sto_11, sto_12, sto_13, sto_14, nlo_n, nlo_i, nlo_r, nlo_0, nlo_l, and_self, or_self, Nat.reduceEqDiff, Nat.reduceLT, Nat.reduceLeDiff, Nat.one_ne_zero, Nat.zero_ne_one, m0, e1, l1]
      rfl
    | succ r ih =>
      intro k a E' M2 o5 hR2 hw' hd hr hh
      have e1 : k < n := by omega
      obtain ⟨M3, s1, s2, s3⟩ := I a k E' hw' (E' 1) 0 M2 hR2 (by omega)
      have z0 : a + tlS E' K1 t 0 = a := by show a + nI 0 = a; rw [nI_0]; exact Int32.add_zero _
      rw [z0] at s1
      obtain ⟨M4, p1, p2, p3⟩ := r187e hk s2.1 hw' (by omega) (e := e) (by omega)
      obtain ⟨M', y1, y2, y3⟩ := ih (k + 1) (a + tlS E' K1 t (E' 1)) (dayE E') M4 (some (.int (nI (E' 1)))) (RC_ld p3 p2 s2) (dayE_WE hw' (by omega)) (by rw [dayE_2]; omega) (by omega) (rh_t hh (rh_t s3 (rh_ld p3)))
      refine ⟨M', ?_, y2, y3⟩
      have fin : j_X e 203 103 [some (.ref o), some (.int (nI t)), some (.int (nI n)), some (.int (a + tlS E' K1 t (E' 1))), some (.int (nI k)), some (.int (nI (E' 1)))] [] (FS h M3) = some (some (.int (tyS K1 t (r + 1) a E')), FS h M') := by
        simp (disch := omega) only [st_203_103, st_203_104, st_203_107, st_203_110, ini_203, fs_cl, fs_len, fs_rf, fs_M, fs_put, fs_cpy, ↓reduceIte, rv_ref, true_or, or_true, true_and, and_true, nI_ltI, ix_nI, nI_clamp, ps_i, ps_n, Option.bind_some, sm_0, sm_1, sm_2, sm_3, sm_4, sto_0, sto_1, sto_2, sto_3, sto_4, sto_5, sto_6, sto_7, sto_8, sto_9, sto_10, sto_11, sto_12, sto_13, sto_14, nlo_n, nlo_i, nlo_r, nlo_0, nlo_l, and_self, or_self, Nat.reduceEqDiff, Nat.reduceLT, Nat.reduceLeDiff, Nat.one_ne_zero, Nat.zero_ne_one, m0, p1, nI_add]
        exact y1
      rw [← fin, ← s1, st_203_35]
      simp (disch := omega) only [st_203_37, st_203_38, st_203_41, st_203_42, ini_203, fs_cl, fs_len, fs_rf, fs_M, fs_put, fs_cpy, ↓reduceIte, rv_ref, true_or, or_true, true_and, and_true, nI_ltI, ix_nI, nI_clamp, ps_i, ps_n, Option.bind_some, sm_0, sm_1, sm_2, sm_3, sm_4, sto_0, sto_1, sto_2, sto_3, sto_4, sto_5, sto_6, sto_7, sto_8, sto_9, sto_10, sto_11, sto_12, sto_13, sto_14, nlo_n, nlo_i, nlo_r, nlo_0, nlo_l, and_self, or_self, Nat.reduceEqDiff, Nat.reduceLT, Nat.reduceLeDiff, Nat.one_ne_zero, Nat.zero_ne_one, e1]
  obtain ⟨M', f1, f2, f3⟩ := L n 0 (nI 0) E M1 none (RC_as hR k3) hw (by omega) (by omega) rh_r
  refine ⟨M', ?_, f2, f3⟩
  have gt := r145ye hk hR.1 hw.1 ht (e := e) (by omega)
  have gl := r143e (σ := FS h M) (nI n).toInt64 (lN 0) (lN 100) (e := e) (by omega)
  rw [lin_in (Nat.zero_le _) hn (by omega)] at gl
  rw [j_C_eq]
  simp (disch := omega) only [st_203_0, st_203_1, st_203_2, st_203_5, st_203_8, st_203_9, st_203_10, st_203_11, st_203_14, st_203_17, st_203_20, st_203_21, st_203_22, st_203_25, st_203_26, st_203_27, st_203_30, st_203_31, st_203_32, st_203_33, st_203_37, st_203_38, st_203_41, st_203_42, st_203_46, st_203_47, st_203_50, st_203_51, st_203_52, st_203_55, st_203_56, st_203_57, st_203_59, st_203_60, st_203_63, st_203_64, st_203_67, st_203_68, st_203_69, st_203_70, st_203_72, st_203_73, st_203_76, st_203_77, st_203_79, st_203_82, st_203_83, st_203_86, st_203_87, st_203_88, st_203_91, st_203_94, st_203_95, st_203_96, st_203_97, st_203_100, st_203_103, st_203_104, st_203_107, st_203_110, st_203_113, st_203_114, st_203_117, st_203_118, ini_203, fs_cl, fs_len, fs_rf, fs_M, fs_put, fs_cpy, ↓reduceIte, rv_ref, true_or, or_true, true_and, and_true, nI_ltI, ix_nI, nI_clamp, ps_i, ps_n, Option.bind_some, sm_0, sm_1, sm_2, sm_3, sm_4, sto_0, sto_1, sto_2, sto_3, sto_4, sto_5, sto_6, sto_7, sto_8, sto_9, sto_10, sto_11, sto_12, sto_13, sto_14, nlo_n, nlo_i, nlo_r, nlo_0, nlo_l, and_self, or_self, Nat.reduceEqDiff, Nat.reduceLT, Nat.reduceLeDiff, Nat.one_ne_zero, Nat.zero_ne_one, m0, gt, gl, e10, k1]
  exact f1
