/-! Both sides: home, traders, coins. -/
variable {h : j_Hd} {M M1 M2 : Nat → Nat → Int32} {o : Nat} {E : Nat → Nat} {z : Int32} {K0 K1 : List Int32} {T : Nat → Nat} {W : Nat → Int32}
def inP (E : Nat → Nat) (c s : Nat) : Nat → Nat
  | 0 => 0
  | i + 1 => inP E c s i + if E (38 + 5 * c + (2 + i)) = s then 3 - i else 0
theorem inP_3 {c s : Nat} (h1 : 1 ≤ s) : inP E c s 3 = st3 (one s) (E (40 + 5 * c)) (E (41 + 5 * c)) (E (42 + 5 * c)) := by
  have i0 : 38 + 5 * c + (2 + 0) = 40 + 5 * c := by omega
  have i1 : 38 + 5 * c + (2 + 1) = 41 + 5 * c := by omega
  have i2 : 38 + 5 * c + (2 + 2) = 42 + 5 * c := by omega
  have g : ∀ x k : Nat, (if x = s then k else 0) = if x = 0 then 0 else k * one s x := by
    intro x k
    unfold one
    by_cases e : x = s
    · rw [if_pos e, if_neg (by omega), if_pos e]; omega
    · rw [if_neg e, if_neg e]; split <;> omega
  simp only [inP, i0, i1, i2, Nat.zero_add, Nat.reduceSub, g, st3, Nat.one_mul]
theorem siS_0 : ∀ n, siS E 0 n = 0 := by
  intro n
  induction n with
  | zero => rfl
  | succ n ih =>
    rw [siS, ih]
    unfold st3 one
    split <;> split <;> split <;> simp_all
theorem r199 (hk : Md h o) (hR : RC M o E z K0 K1) (hw : WE E) {e : Nat} (he : 4 ≤ e) : j_C e 199 [.ref o] (FS h M) = if hmS E 7 = 0 then some (some (.int (fl 2)), FS h (fd o 2 M)) else some (some (.int (nI (hmS E 7))), FS h M) := by
  obtain ⟨e, rfl⟩ : ∃ d, e = d + 1 := ⟨e - 1, by omega⟩
  have m0 := hk.1
  have q0 := hk.2.1.1
  have a1 := hk.2.1.2.1
  have a2 := hk.2.1.2.2.1
  have h8 := hw.2.1
  have g1 := hR.1.1 1 (by omega) (by omega)
  have I : ∀ c s (b m : Int32) (s0 : Nat), c < E 1 → s < 8 → ∀ r i, r + i = 3 → ∃ x6, j_X e 199 32 [some (.ref o), some (.int b), some (.int m), some (.int (nI s)), some (.int (nI (s0 + inP E c s i))), some (.int (nI c)), some (.int (nI i))] [] (FS h M) = j_X e 199 18 [some (.ref o), some (.int b), some (.int m), some (.int (nI s)), some (.int (nI (s0 + inP E c s 3))), some (.int (nI (c + 1))), x6] [] (FS h M) := by
    intro c s b m s0 hc hs r
    have w4 := (hw.2.2.2.2.2.2.2 c hc).2.2.2
    induction r with
    | zero =>
      intro i hi
      have ei : i = 3 := by omega
      subst ei
      have e1 : ¬ 3 < 3 := by omega
      refine ⟨some (.int (nI 3)), ?_⟩
      rw [st_199_32]
      simp (disch := omega) only [st_199_34, st_199_35, st_199_38, st_199_40, st_199_41, st_199_43, st_199_44, st_199_46, st_199_47, st_199_50, st_199_51, st_199_54, st_199_55, st_199_57, st_199_58, st_199_61, st_199_62, st_199_63, st_199_65, st_199_68, st_199_71, st_199_74, ini_199, fs_cl, fs_len, fs_rf, fs_M, fs_put, fs_cpy, ↓reduceIte, rv_ref, true_or, or_true, true_and, and_true, nI_ltI, ix_nI, nI_clamp, ps_i, ps_n, Option.bind_some, sm_0, sm_1, sm_2, sm_3, sm_4, sto_0, sto_1, sto_2, sto_3, sto_4, sto_5, sto_6, sto_7, sto_8, sto_9, sto_10, sto_11, sto_12, sto_13, sto_14, nlo_n, nlo_i, nlo_r, nlo_0, nlo_l, and_self, or_self, Nat.reduceEqDiff, Nat.reduceLT, Nat.reduceLeDiff, Nat.one_ne_zero, Nat.zero_ne_one, e1, nI_add]
    | succ r ih =>
      intro i hi
      have e1 : i < 3 := by omega
      have gs := r148e (M := M) hk (t := c) (k := 2 + i) (by omega) (e := e) (by omega)
      rw [hR.1.1 _ (by omega) (by omega)] at gs
      have s8 : E (38 + 5 * c + (2 + i)) < 8 := by
        have hi3 : i = 0 ∨ i = 1 ∨ i = 2 := by omega
        rcases hi3 with ei | ei | ei
        · subst ei; have := w4.1; rw [show 38 + 5 * c + (2 + 0) = 40 + 5 * c by omega]; omega
        · subst ei; have := w4.2.1; rw [show 38 + 5 * c + (2 + 1) = 41 + 5 * c by omega]; omega
        · subst ei; have := w4.2.2.1; rw [show 38 + 5 * c + (2 + 2) = 42 + 5 * c by omega]; omega
      obtain ⟨x6, hX⟩ := ih (i + 1) (by omega)
      rw [inP] at hX
      refine ⟨x6, ?_⟩
      rw [← hX, st_199_32]
      by_cases c1 : E (38 + 5 * c + (2 + i)) = s
      · rw [if_pos c1, ← Nat.add_assoc s0]
        simp (disch := omega) only [st_199_34, st_199_35, st_199_38, st_199_40, st_199_41, st_199_43, st_199_44, st_199_46, st_199_47, st_199_50, st_199_51, st_199_54, st_199_55, st_199_57, st_199_58, st_199_61, st_199_62, st_199_63, st_199_65, st_199_68, st_199_71, st_199_74, ini_199, fs_cl, fs_len, fs_rf, fs_M, fs_put, fs_cpy, ↓reduceIte, rv_ref, true_or, or_true, true_and, and_true, nI_ltI, ix_nI, nI_clamp, ps_i, ps_n, Option.bind_some, sm_0, sm_1, sm_2, sm_3, sm_4, sto_0, sto_1, sto_2, sto_3, sto_4, sto_5, sto_6, sto_7, sto_8, sto_9, sto_10, sto_11, sto_12, sto_13, sto_14, nlo_n, nlo_i, nlo_r, nlo_0, nlo_l, and_self, or_self, Nat.reduceEqDiff, Nat.reduceLT, Nat.reduceLeDiff, Nat.one_ne_zero, Nat.zero_ne_one, m0, e1, gs, nI_eq, eq_true c1, nI_sub, nI_add]
      · rw [if_neg c1]
        simp (disch := omega) only [st_199_34, st_199_35, st_199_38, st_199_40, st_199_41, st_199_43, st_199_44, st_199_46, st_199_47, st_199_50, st_199_51, st_199_54, st_199_55, st_199_57, st_199_58, st_199_61, st_199_62, st_199_63, st_199_65, st_199_68, st_199_71, st_199_74, ini_199, fs_cl, fs_len, fs_rf, fs_M, fs_put, fs_cpy, ↓reduceIte, rv_ref, true_or, or_true, true_and, and_true, nI_ltI, ix_nI, nI_clamp, ps_i, ps_n, Option.bind_some, sm_0, sm_1, sm_2, sm_3, sm_4, sto_0, sto_1, sto_2, sto_3, sto_4, sto_5, sto_6, sto_7, sto_8, sto_9, sto_10, sto_11, sto_12, sto_13, sto_14, nlo_n, nlo_i, nlo_r, nlo_0, nlo_l, and_self, or_self, Nat.reduceEqDiff, Nat.reduceLT, Nat.reduceLeDiff, Nat.one_ne_zero, Nat.zero_ne_one, m0, e1, gs, nI_eq, c1, nI_add, Nat.add_zero]
  have C : ∀ s (b m : Int32), 1 ≤ s → s < 8 → ∀ r c (o6 : Option Value), r + c = E 1 → ∃ x6, j_X e 199 18 [some (.ref o), some (.int b), some (.int m), some (.int (nI s)), some (.int (nI (siS E s c))), some (.int (nI c)), o6] [] (FS h M) = j_X e 199 77 [some (.ref o), some (.int b), some (.int m), some (.int (nI s)), some (.int (nI (siS E s (E 1)))), some (.int (nI (E 1))), x6] [] (FS h M) := by
    intro s b m hs1 hs r
    induction r with
    | zero =>
      intro c o6 hr
      have ec : c = E 1 := by omega
      have e1 : ¬ E 1 < E 1 := by omega
      subst ec
      refine ⟨o6, ?_⟩
      rw [st_199_18]
      simp (disch := omega) only [st_199_20, st_199_21, st_199_24, st_199_25, st_199_26, st_199_29, st_199_30, st_199_34, st_199_35, st_199_38, st_199_40, st_199_41, st_199_43, st_199_44, st_199_46, st_199_47, st_199_50, st_199_51, st_199_54, st_199_55, st_199_57, st_199_58, st_199_61, st_199_62, st_199_63, st_199_65, st_199_68, st_199_71, st_199_74, ini_199, fs_cl, fs_len, fs_rf, fs_M, fs_put, fs_cpy, ↓reduceIte, rv_ref, true_or, or_true, true_and, and_true, nI_ltI, ix_nI, nI_clamp, ps_i, ps_n, Option.bind_some, sm_0, sm_1, sm_2, sm_3, sm_4, sto_0, sto_1, sto_2, sto_3, sto_4, sto_5, sto_6, sto_7, sto_8, sto_9, sto_10, sto_11, sto_12, sto_13, sto_14, nlo_n, nlo_i, nlo_r, nlo_0, nlo_l, and_self, or_self, Nat.reduceEqDiff, Nat.reduceLT, Nat.reduceLeDiff, Nat.one_ne_zero, Nat.zero_ne_one, m0, q0, a1, a2, g1, e1]
    | succ r ih =>
      intro c o6 hr
      have e1 : c < E 1 := by omega
      obtain ⟨y6, hI⟩ := I c s b m (siS E s c) e1 hs 3 0 (by omega)
      obtain ⟨x6, hX⟩ := ih (c + 1) y6 (by omega)
      rw [inP_3 hs1] at hI
      rw [siS] at hX
      refine ⟨x6, ?_⟩
      rw [← hX, ← hI, st_199_18]
      simp (disch := omega) only [st_199_20, st_199_21, st_199_24, st_199_25, st_199_26, st_199_29, st_199_30, ini_199, fs_cl, fs_len, fs_rf, fs_M, fs_put, fs_cpy, ↓reduceIte, rv_ref, true_or, or_true, true_and, and_true, nI_ltI, ix_nI, nI_clamp, ps_i, ps_n, Option.bind_some, sm_0, sm_1, sm_2, sm_3, sm_4, sto_0, sto_1, sto_2, sto_3, sto_4, sto_5, sto_6, sto_7, sto_8, sto_9, sto_10, sto_11, sto_12, sto_13, sto_14, nlo_n, nlo_i, nlo_r, nlo_0, nlo_l, and_self, or_self, Nat.reduceEqDiff, Nat.reduceLT, Nat.reduceLeDiff, Nat.one_ne_zero, Nat.zero_ne_one, m0, q0, a1, a2, g1, e1, inP, Nat.add_zero]
  have L : ∀ r k (o4 o5 o6 : Option Value), r + k = 7 → j_X e 199 6 [some (.ref o), some (.int (bst (hmS E k))), some (.int (nI (siS E (hmS E k) (E 1)))), some (.int (nI (k + 1))), o4, o5, o6] [] (FS h M) = if hmS E 7 = 0 then some (some (.int (fl 2)), FS h (fd o 2 M)) else some (some (.int (nI (hmS E 7))), FS h M) := by
    intro r
    induction r with
    | zero =>
      intro k o4 o5 o6 hr
      have ek : k = 7 := by omega
      subst ek
      have e1 : 7 < 7 + 1 := by omega
      have gf := r142 (M := M) hk (k := 2) (by omega) (e := e) (by omega)
      have l7 := hmS_le (E := E) 7
      rw [st_199_6]
      by_cases c0 : hmS E 7 = 0
      · have em : (-1 : Int32) < nI 0 := by decide +kernel
        have eb : bst (hmS E 7) = -1 := by unfold bst; rw [if_pos c0]
        rw [if_pos c0, eb]
        simp (disch := omega) only [st_199_7, st_199_9, st_199_12, st_199_13, st_199_15, st_199_16, st_199_20, st_199_21, st_199_24, st_199_25, st_199_26, st_199_29, st_199_30, st_199_34, st_199_35, st_199_38, st_199_40, st_199_41, st_199_43, st_199_44, st_199_46, st_199_47, st_199_50, st_199_51, st_199_54, st_199_55, st_199_57, st_199_58, st_199_61, st_199_62, st_199_63, st_199_65, st_199_68, st_199_71, st_199_74, st_199_77, st_199_79, st_199_80, st_199_83, st_199_85, st_199_86, st_199_87, st_199_88, st_199_91, st_199_94, st_199_95, st_199_98, st_199_99, st_199_100, st_199_103, st_199_106, st_199_107, ini_199, fs_cl, fs_len, fs_rf, fs_M, fs_put, fs_cpy, ↓reduceIte, rv_ref, true_or, or_true, true_and, and_true, nI_ltI, ix_nI, nI_clamp, ps_i, ps_n, Option.bind_some, sm_0, sm_1, sm_2, sm_3, sm_4, sto_0, sto_1, sto_2, sto_3, sto_4, sto_5, sto_6, sto_7, sto_8, sto_9, sto_10, sto_11, sto_12, sto_13, sto_14, nlo_n, nlo_i, nlo_r, nlo_0, nlo_l, and_self, or_self, Nat.reduceEqDiff, Nat.reduceLT, Nat.reduceLeDiff, Nat.one_ne_zero, Nat.zero_ne_one, m0, e1, em, gf]
      · have eb : bst (hmS E 7) = nI (hmS E 7) := by unfold bst; rw [if_neg c0]
        have ev : ¬ nI (hmS E 7) < nI 0 := nI_nlt (Nat.zero_le _) (by omega)
        rw [if_neg c0, eb]
        simp (disch := omega) only [st_199_7, st_199_9, st_199_12, st_199_13, st_199_15, st_199_16, st_199_20, st_199_21, st_199_24, st_199_25, st_199_26, st_199_29, st_199_30, st_199_34, st_199_35, st_199_38, st_199_40, st_199_41, st_199_43, st_199_44, st_199_46, st_199_47, st_199_50, st_199_51, st_199_54, st_199_55, st_199_57, st_199_58, st_199_61, st_199_62, st_199_63, st_199_65, st_199_68, st_199_71, st_199_74, st_199_77, st_199_79, st_199_80, st_199_83, st_199_85, st_199_86, st_199_87, st_199_88, st_199_91, st_199_94, st_199_95, st_199_98, st_199_99, st_199_100, st_199_103, st_199_106, st_199_107, ini_199, fs_cl, fs_len, fs_rf, fs_M, fs_put, fs_cpy, ↓reduceIte, rv_ref, true_or, or_true, true_and, and_true, nI_ltI, ix_nI, nI_clamp, ps_i, ps_n, Option.bind_some, sm_0, sm_1, sm_2, sm_3, sm_4, sto_0, sto_1, sto_2, sto_3, sto_4, sto_5, sto_6, sto_7, sto_8, sto_9, sto_10, sto_11, sto_12, sto_13, sto_14, nlo_n, nlo_i, nlo_r, nlo_0, nlo_l, and_self, or_self, Nat.reduceEqDiff, Nat.reduceLT, Nat.reduceLeDiff, Nat.one_ne_zero, Nat.zero_ne_one, e1, ev]
    | succ r ih =>
      intro k o4 o5 o6 hr
      have e1 : ¬ 7 < k + 1 := by omega
      obtain ⟨x6, hC⟩ := C (k + 1) (bst (hmS E k)) (nI (siS E (hmS E k) (E 1))) (by omega) (by omega) (E 1) 0 o6 (by omega)
      have lk := hmS_le (E := E) k
      have s1 := siS_le (E := E) (hmS E k) (E 1)
      have s2 := siS_le (E := E) (k + 1) (E 1)
      have hX := ih (k + 1) (some (.int (nI (siS E (k + 1) (E 1))))) (some (.int (nI (E 1)))) x6 (by omega)
      rw [hmS] at hX
      have run : ∀ R, j_X e 199 77 [some (.ref o), some (.int (bst (hmS E k))), some (.int (nI (siS E (hmS E k) (E 1)))), some (.int (nI (k + 1))), some (.int (nI (siS E (k + 1) (E 1)))), some (.int (nI (E 1))), x6] [] (FS h M) = R → j_X e 199 6 [some (.ref o), some (.int (bst (hmS E k))), some (.int (nI (siS E (hmS E k) (E 1)))), some (.int (nI (k + 1))), o4, o5, o6] [] (FS h M) = R := by
        intro R hR'
        rw [← hR', ← hC, st_199_6]
        simp (disch := omega) only [st_199_7, st_199_9, st_199_12, st_199_13, st_199_15, st_199_16, ini_199, fs_cl, fs_len, fs_rf, fs_M, fs_put, fs_cpy, ↓reduceIte, rv_ref, true_or, or_true, true_and, and_true, nI_ltI, ix_nI, nI_clamp, ps_i, ps_n, Option.bind_some, sm_0, sm_1, sm_2, sm_3, sm_4, sto_0, sto_1, sto_2, sto_3, sto_4, sto_5, sto_6, sto_7, sto_8, sto_9, sto_10, sto_11, sto_12, sto_13, sto_14, nlo_n, nlo_i, nlo_r, nlo_0, nlo_l, and_self, or_self, Nat.reduceEqDiff, Nat.reduceLT, Nat.reduceLeDiff, Nat.one_ne_zero, Nat.zero_ne_one, e1]
        rfl
      apply run
      by_cases c1 : siS E (hmS E k) (E 1) < siS E (k + 1) (E 1)
      · rw [if_pos c1] at hX
        have eb : bst (k + 1) = nI (k + 1) := by unfold bst; rw [if_neg (by omega)]
        rw [eb] at hX
        rw [← hX]
        simp (disch := omega) only [st_199_77, st_199_79, st_199_80, st_199_83, st_199_85, st_199_86, st_199_87, st_199_88, st_199_91, ini_199, fs_cl, fs_len, fs_rf, fs_M, fs_put, fs_cpy, ↓reduceIte, rv_ref, true_or, or_true, true_and, and_true, nI_ltI, ix_nI, nI_clamp, ps_i, ps_n, Option.bind_some, sm_0, sm_1, sm_2, sm_3, sm_4, sto_0, sto_1, sto_2, sto_3, sto_4, sto_5, sto_6, sto_7, sto_8, sto_9, sto_10, sto_11, sto_12, sto_13, sto_14, nlo_n, nlo_i, nlo_r, nlo_0, nlo_l, and_self, or_self, Nat.reduceEqDiff, Nat.reduceLT, Nat.reduceLeDiff, Nat.one_ne_zero, Nat.zero_ne_one, c1, nI_add]
      · rw [if_neg c1] at hX
        rw [← hX]
        simp (disch := omega) only [st_199_77, st_199_79, st_199_80, st_199_83, st_199_85, st_199_86, st_199_87, st_199_88, st_199_91, ini_199, fs_cl, fs_len, fs_rf, fs_M, fs_put, fs_cpy, ↓reduceIte, rv_ref, true_or, or_true, true_and, and_true, nI_ltI, ix_nI, nI_clamp, ps_i, ps_n, Option.bind_some, sm_0, sm_1, sm_2, sm_3, sm_4, sto_0, sto_1, sto_2, sto_3, sto_4, sto_5, sto_6, sto_7, sto_8, sto_9, sto_10, sto_11, sto_12, sto_13, sto_14, nlo_n, nlo_i, nlo_r, nlo_0, nlo_l, and_self, or_self, Nat.reduceEqDiff, Nat.reduceLT, Nat.reduceLeDiff, Nat.one_ne_zero, Nat.zero_ne_one, c1, nI_add]
  have hX := L 7 0 none none none (by omega)
  rw [j_C_eq]
  have e0 : siS E (hmS E 0) (E 1) = 0 := siS_0 _
  rw [e0] at hX
  have eb : bst (hmS E 0) = -1 := rfl
  rw [eb] at hX
  simp (disch := omega) only [st_199_0, st_199_1, st_199_2, st_199_3, st_199_4, st_199_5, ini_199, fs_cl, fs_len, fs_rf, fs_M, fs_put, fs_cpy, ↓reduceIte, rv_ref, true_or, or_true, true_and, and_true, nI_ltI, ix_nI, nI_clamp, ps_i, ps_n, Option.bind_some, sm_0, sm_1, sm_2, sm_3, sm_4, sto_0, sto_1, sto_2, sto_3, sto_4, sto_5, sto_6, sto_7, sto_8, sto_9, sto_10, sto_11, sto_12, sto_13, sto_14, nlo_n, nlo_i, nlo_r, nlo_0, nlo_l, and_self, or_self, Nat.reduceEqDiff, Nat.reduceLT, Nat.reduceLeDiff, Nat.one_ne_zero, Nat.zero_ne_one]
  exact hX
theorem g_home (hh : Hd h) (hi : IE M E z K0 K1 T W) : Go h M 101 199 [] := by
  have w0 := hh.1.1
  have f0 := hh.1.2.1
  have r7 := hh.1.2.2.2.2.2.2.2.1
  have mk := hh.2.1.1
  have th := hh.2.2.2.1.1
  have md : Md h 115 := hh.2.2.2.2.2.2.2.1
  have m0 := md.1
  have q0 := md.2.1.1
  have a1 := md.2.1.2.1
  have a2 := md.2.1.2.2.1
  have hw := hi.1.1
  have h6 := hw.1
  have h8 := hw.2.1
  have hm := hi.2.1.1
  have hs := hm.1
  have hR : RC M 115 E z K0 K1 := hi.2.2.1.1
  have sd := hi.2.2.2.1
  have e10 : ¬ nI 1 = nI 0 := by decide +kernel
  by_cases c0 : hmS E 7 = 0
  · refine go_f hi (k := 2) ?_
    intro e he
    obtain ⟨e, rfl⟩ : ∃ d, e = d + 1 := ⟨e - 1, by omega⟩
    have p1 := c29e mk hm hw (e := e) (by omega)
    rw [c0] at p1
    have s1 := r199 md (RC_fc (k := 2) hR) hw (e := e + 1) (by omega)
    rw [if_pos c0] at s1
    refine ⟨M, fc 2 M, ?_, cq_r, sd, s1, rg_r, RC_fc hR⟩
    have kf := c119 (M := M) hh (k := 2) (by omega) (e := e) (by omega)
    (rw [j_C_eq]; simp (disch := omega) only [st_101_0, st_101_1, st_101_4, st_101_7, st_101_8, st_101_9, st_101_12, st_101_13, st_101_14, st_101_17, st_101_20, st_101_21, ini_101, fs_cl, fs_len, fs_rf, fs_M, fs_put, fs_cpy, ↓reduceIte, rv_ref, true_or, or_true, true_and, and_true, nI_ltI, ix_nI, nI_clamp, ps_i, ps_n, Option.bind_some, sm_0, sm_1, sm_2, sm_3, sm_4, sto_0, sto_1, sto_2, sto_3, sto_4, sto_5, sto_6, sto_7, sto_8, sto_9, sto_10, sto_11, sto_12, sto_13, sto_14, nlo_n, nlo_i, nlo_r, nlo_0, nlo_l, and_self, or_self, Nat.reduceEqDiff, Nat.reduceLT, Nat.reduceLeDiff, Nat.one_ne_zero, Nat.zero_ne_one, w0, f0, r7, m0, q0, a1, a2, e10, mk.1, p1, kf])
  · refine go_q hi ?_
    intro e he
    obtain ⟨e, rfl⟩ : ∃ d, e = d + 1 := ⟨e - 1, by omega⟩
    have p1 := c29e mk hm hw (e := e) (by omega)
    have s1 := r199 md hR hw (e := e + 1) (by omega)
    rw [if_neg c0] at s1
    have l7 := hmS_le (E := E) 7
    have ev : ¬ nI (hmS E 7) = nI 0 := nI_ne c0 (by omega) (by omega)
    refine ⟨nI (hmS E 7), M, M, ?_, cq_r, sd, s1, rg_r, hR⟩
    (rw [j_C_eq]; simp (disch := omega) only [st_101_0, st_101_1, st_101_4, st_101_7, st_101_8, st_101_9, st_101_12, st_101_13, st_101_14, st_101_17, st_101_20, st_101_21, ini_101, fs_cl, fs_len, fs_rf, fs_M, fs_put, fs_cpy, ↓reduceIte, rv_ref, true_or, or_true, true_and, and_true, nI_ltI, ix_nI, nI_clamp, ps_i, ps_n, Option.bind_some, sm_0, sm_1, sm_2, sm_3, sm_4, sto_0, sto_1, sto_2, sto_3, sto_4, sto_5, sto_6, sto_7, sto_8, sto_9, sto_10, sto_11, sto_12, sto_13, sto_14, nlo_n, nlo_i, nlo_r, nlo_0, nlo_l, and_self, or_self, Nat.reduceEqDiff, Nat.reduceLT, Nat.reduceLeDiff, Nat.one_ne_zero, Nat.zero_ne_one, w0, f0, r7, m0, q0, a1, a2, e10, mk.1, p1, ev])
theorem g_trader (hh : Hd h) (hi : IE M E z K0 K1 T W) (x y : Int32) : Go h M 80 174 [.int x, .int y] := by
  have w0 := hh.1.1
  have f0 := hh.1.2.1
  have r7 := hh.1.2.2.2.2.2.2.2.1
  have mk := hh.2.1.1
  have th := hh.2.2.2.1.1
  have md : Md h 115 := hh.2.2.2.2.2.2.2.1
  have m0 := md.1
  have q0 := md.2.1.1
  have a1 := md.2.1.2.1
  have a2 := md.2.1.2.2.1
  have hw := hi.1.1
  have h6 := hw.1
  have h8 := hw.2.1
  have hm := hi.2.1.1
  have hs := hm.1
  have hR : RC M 115 E z K0 K1 := hi.2.2.1.1
  have sd := hi.2.2.2.1
  have e10 : ¬ nI 1 = nI 0 := by decide +kernel
  by_cases hx : ∃ j, 0 ≤ j ∧ j ≤ 69 ∧ x = nI j
  · obtain ⟨km, hk0, hk, rfl⟩ := hx
    by_cases hy : ∃ j, 1 ≤ j ∧ j ≤ 7 ∧ y = nI j
    · obtain ⟨w, hw1, hw7, rfl⟩ := hy
      have wi1 := wi_in hk0 hk (by omega : 69 < 2147483648)
      have wi2 := wi_in hw1 hw7 (by omega : 7 < 2147483648)
      have li1 := lin_in hk0 hk (by omega : 69 < 2147483648)
      have li2 := lin_in hw1 hw7 (by omega : 7 < 2147483648)
      have k6 : ∀ M' : Nat → Nat → Int32, CS M' 2 E → ∀ e, 2 ≤ e → j_C e 6 [.ref 2] (FS h M') = some (some (.int (nI (E 0))), FS h M') := fun M' hs' e he => by
        have := c6e (M := M') mk (e := e) he
        rw [hs'.1] at this; exact this
      by_cases c6 : E 0 < 6
      · refine go_c hi ?_
        intro e he
        obtain ⟨e, rfl⟩ : ∃ d, e = d + 1 := ⟨e - 1, by omega⟩
        obtain ⟨M1, p1, p2, p3⟩ := c10e mk hm hw (km := km) (w := w) hk hw7 c6 (e := e) (by omega)
        have hR1 := RC_mg p3 hR
        have d10 : ¬ nI 10 = nI 0 := by decide +kernel
        have g0 := hR1.1.1 0 (by omega) (by omega)
        have pw := pow_w w (by omega)
        refine ⟨nI (E 0), M1, j_up (j_up (j_up (j_up (j_up (j_up M1 116 (8 + 5 * E 0 + 0) (nI (km / 10))) 116 (8 + 5 * E 0 + 1) (nI (km % 10))) 116 (8 + 5 * E 0 + 2) (nI w)) 116 (8 + 5 * E 0 + 3) (nI 10)) 116 (8 + 5 * E 0 + 4) (nI (2 ^ w))) 116 0 (nI (E 0 + 1)), addT E km w, z, ?_, p2, p3, ?_, ?_, ?_, ⟨addT_WE hw hk hw1 hw7 c6, ?_, ?_, ?_⟩, ?_, ?_⟩
        · have kw := c123e (σ := FS h M) (nI km) (e := e) (by omega)
          have kv := c124e (σ := FS h M) (nI w) (e := e) (by omega)
          rw [wi1] at kw
          rw [wi2] at kv
          have kk := k6 M hs e (by omega)
          (rw [j_C_eq]; simp (disch := omega) only [st_80_0, st_80_1, st_80_4, st_80_7, st_80_8, st_80_11, st_80_14, st_80_15, st_80_16, st_80_19, st_80_20, st_80_21, st_80_24, st_80_27, st_80_29, st_80_32, st_80_33, st_80_34, st_80_37, st_80_38, st_80_39, st_80_42, st_80_43, st_80_44, st_80_47, ini_80, fs_cl, fs_len, fs_rf, fs_M, fs_put, fs_cpy, ↓reduceIte, rv_ref, true_or, or_true, true_and, and_true, nI_ltI, ix_nI, nI_clamp, ps_i, ps_n, Option.bind_some, sm_0, sm_1, sm_2, sm_3, sm_4, sto_0, sto_1, sto_2, sto_3, sto_4, sto_5, sto_6, sto_7, sto_8, sto_9, sto_10, sto_11, sto_12, sto_13, sto_14, nlo_n, nlo_i, nlo_r, nlo_0, nlo_l, and_self, or_self, Nat.reduceEqDiff, Nat.reduceLT, Nat.reduceLeDiff, Nat.one_ne_zero, Nat.zero_ne_one, w0, f0, r7, m0, q0, a1, a2, e10, mk.1, kw, kv, kk, c6, p1])
        · have kw := r143e (σ := FS h M1) (nI km).toInt64 (lN 0) (lN 69) (e := e) (by omega)
          have kv := r143e (σ := FS h M1) (nI w).toInt64 (lN 1) (lN 7) (e := e) (by omega)
          rw [li1] at kw
          rw [li2] at kv
          have n6 : ¬ E 0 = 6 := by omega
          have b0 : 8 + 5 * E 0 + 0 < 250 := by omega
          have b1 : 8 + 5 * E 0 + 1 < 250 := by omega
          have b2 : 8 + 5 * E 0 + 2 < 250 := by omega
          have b3 : 8 + 5 * E 0 + 3 < 250 := by omega
          have b4 : 8 + 5 * E 0 + 4 < 250 := by omega
          have bz : 0 < 250 := by omega
          have ge : j_up (j_up (j_up (j_up (j_up M1 (115 + 1) (8 + 5 * E 0 + 0) (nI (km / 10))) (115 + 1) (8 + 5 * E 0 + 1) (nI (km % 10))) (115 + 1) (8 + 5 * E 0 + 2) (nI w)) (115 + 1) (8 + 5 * E 0 + 3) (nI 10)) (115 + 1) (8 + 5 * E 0 + 4) (nI (2 ^ w)) (115 + 1) 0 = nI (E 0) := by
            rw [up_k _ _ _ _ (by omega), up_k _ _ _ _ (by omega), up_k _ _ _ _ (by omega), up_k _ _ _ _ (by omega), up_k _ _ _ _ (by omega)]; exact g0
          have hrm : nI km - nI (km / 10 * 10) = nI (km % 10) := by
            rw [nI_sub (Nat.div_mul_le_self _ _)]; congr 1; omega
          have hs1 : nI (E 0 + 1) - nI 1 = nI (E 0) := nI_sub (by omega)
          rw [j_C_eq]
          simp (disch := omega) only [st_174_0, st_174_1, st_174_2, st_174_3, st_174_6, st_174_9, st_174_12, st_174_13, st_174_14, st_174_15, st_174_18, st_174_21, st_174_24, st_174_25, st_174_26, st_174_29, st_174_30, st_174_31, st_174_34, st_174_35, st_174_36, st_174_38, st_174_41, st_174_42, st_174_43, st_174_46, st_174_47, st_174_49, st_174_50, st_174_51, st_174_54, st_174_55, st_174_56, st_174_57, st_174_58, st_174_59, st_174_60, st_174_63, st_174_64, st_174_65, st_174_66, st_174_67, st_174_69, st_174_70, st_174_71, st_174_72, st_174_75, st_174_76, st_174_77, st_174_78, st_174_79, st_174_81, st_174_82, st_174_83, st_174_84, st_174_87, st_174_88, st_174_89, st_174_90, st_174_91, st_174_92, st_174_93, st_174_96, st_174_97, st_174_98, st_174_99, st_174_101, st_174_102, st_174_103, st_174_106, st_174_107, st_174_108, st_174_109, st_174_110, st_174_111, st_174_112, st_174_113, st_174_114, st_174_117, st_174_118, st_174_119, st_174_120, st_174_121, st_174_122, st_174_123, st_174_124, st_174_127, st_174_128, st_174_129, st_174_130, st_174_131, ini_174, fs_cl, fs_len, fs_rf, fs_M, fs_put, fs_cpy, ↓reduceIte, rv_ref, true_or, or_true, true_and, and_true, nI_ltI, ix_nI, nI_clamp, ps_i, ps_n, Option.bind_some, sm_0, sm_1, sm_2, sm_3, sm_4, sto_0, sto_1, sto_2, sto_3, sto_4, sto_5, sto_6, sto_7, sto_8, sto_9, sto_10, sto_11, sto_12, sto_13, sto_14, nlo_n, nlo_i, nlo_r, nlo_0, nlo_l, and_self, or_self, Nat.reduceEqDiff, Nat.reduceLT, Nat.reduceLeDiff, Nat.one_ne_zero, Nat.zero_ne_one, w0, f0, m0, q0, a1, a2, e10, kw, kv, g0, nI_eq, n6, d10, nI_div, hrm, nI_mul, nI_add, b0, b1, b2, b3, b4, bz, pw, ge, up_s, hs1]
        · exact rg_t (rg_ld (o := 115) (ld_up (by omega))) (rg_t (rg_ld (o := 115) (ld_up (by omega))) (rg_t (rg_ld (o := 115) (ld_up (by omega))) (rg_t (rg_ld (o := 115) (ld_up (by omega))) (rg_t (rg_ld (o := 115) (ld_up (by omega))) (rg_ld (o := 115) (ld_up (by omega)))))))
        · refine RC_ld (o := 115) (ld_t (ld_up (by omega)) (ld_t (ld_up (by omega)) (ld_t (ld_up (by omega)) (ld_t (ld_up (by omega)) (ld_t (ld_up (by omega)) (ld_up (by omega))))))) ?_ hR1
          refine RLd_cg (RLd_up (o := 115) (RLd_up (o := 115) (RLd_up (o := 115) (RLd_up (o := 115) (RLd_up (o := 115) (RLd_up (o := 115) hR1.1 (by omega)) (by omega)) (by omega)) (by omega)) (by omega)) (by omega)) (fun j hj => ?_)
          unfold addT upE
          rw [show 8 + 5 * E 0 + 4 = 12 + 5 * E 0 by omega, show 8 + 5 * E 0 + 3 = 11 + 5 * E 0 by omega, show 8 + 5 * E 0 + 2 = 10 + 5 * E 0 by omega, show 8 + 5 * E 0 + 1 = 9 + 5 * E 0 by omega, show 8 + 5 * E 0 + 0 = 8 + 5 * E 0 by omega]
          by_cases j0 : j = 0
          · rw [if_pos j0, if_neg (show ¬ j = 12 + 5 * E 0 by omega), if_neg (show ¬ j = 11 + 5 * E 0 by omega), if_neg (show ¬ j = 10 + 5 * E 0 by omega), if_neg (show ¬ j = 9 + 5 * E 0 by omega), if_neg (show ¬ j = 8 + 5 * E 0 by omega), if_pos j0]
          · rw [if_neg j0, if_neg j0]
        · rw [addT_o (by omega) (by omega)]; exact hi.1.2.1
        · rw [addT_o (by omega) (by omega)]; exact hi.1.2.2.1
        · rw [addT_o (by omega) (by omega)]; exact hi.1.2.2.2
        · exact addT_o (by omega) (by omega)
        · exact addT_o (by omega) (by omega)
      · refine go_f0 hi (k := 4) ?_
        intro e he
        obtain ⟨e, rfl⟩ : ∃ d, e = d + 1 := ⟨e - 1, by omega⟩
        have kw := c123e (σ := FS h M) (nI km) (e := e) (by omega)
        have kv := c124e (σ := FS h M) (nI w) (e := e) (by omega)
        rw [wi1] at kw
        rw [wi2] at kv
        have kk := k6 M hs e (by omega)
        have kf := c119 (M := M) hh (k := 4) (by omega) (e := e) (by omega)
        refine ⟨by (rw [j_C_eq]; simp (disch := omega) only [st_80_0, st_80_1, st_80_4, st_80_7, st_80_8, st_80_11, st_80_14, st_80_15, st_80_16, st_80_19, st_80_20, st_80_21, st_80_24, st_80_27, st_80_29, st_80_32, st_80_33, st_80_34, st_80_37, st_80_38, st_80_39, st_80_42, st_80_43, st_80_44, st_80_47, ini_80, fs_cl, fs_len, fs_rf, fs_M, fs_put, fs_cpy, ↓reduceIte, rv_ref, true_or, or_true, true_and, and_true, nI_ltI, ix_nI, nI_clamp, ps_i, ps_n, Option.bind_some, sm_0, sm_1, sm_2, sm_3, sm_4, sto_0, sto_1, sto_2, sto_3, sto_4, sto_5, sto_6, sto_7, sto_8, sto_9, sto_10, sto_11, sto_12, sto_13, sto_14, nlo_n, nlo_i, nlo_r, nlo_0, nlo_l, and_self, or_self, Nat.reduceEqDiff, Nat.reduceLT, Nat.reduceLeDiff, Nat.one_ne_zero, Nat.zero_ne_one, w0, f0, r7, m0, q0, a1, a2, e10, mk.1, kw, kv, kk, c6, kf]), fun M' hR' => ?_⟩
        have kw := r143e (σ := FS h M') (nI km).toInt64 (lN 0) (lN 69) (e := e) (by omega)
        have kv := r143e (σ := FS h M') (nI w).toInt64 (lN 1) (lN 7) (e := e) (by omega)
        rw [li1] at kw
        rw [li2] at kv
        have g0 := hR'.1.1 0 (by omega) (by omega)
        have n6 : E 0 = 6 := by omega
        rw [n6] at g0
        have kf := r142 (M := M') md (k := 4) (by omega) (e := e) (by omega)
        (rw [j_C_eq]; simp (disch := omega) only [st_174_0, st_174_1, st_174_2, st_174_3, st_174_6, st_174_9, st_174_12, st_174_13, st_174_14, st_174_15, st_174_18, st_174_21, st_174_24, st_174_25, st_174_26, st_174_29, st_174_30, st_174_31, st_174_34, st_174_35, st_174_36, st_174_38, st_174_41, st_174_42, st_174_43, st_174_46, st_174_47, st_174_49, st_174_50, st_174_51, st_174_54, st_174_55, st_174_56, st_174_57, st_174_58, st_174_59, st_174_60, st_174_63, st_174_64, st_174_65, st_174_66, st_174_67, st_174_69, st_174_70, st_174_71, st_174_72, st_174_75, st_174_76, st_174_77, st_174_78, st_174_79, st_174_81, st_174_82, st_174_83, st_174_84, st_174_87, st_174_88, st_174_89, st_174_90, st_174_91, st_174_92, st_174_93, st_174_96, st_174_97, st_174_98, st_174_99, st_174_101, st_174_102, st_174_103, st_174_106, st_174_107, st_174_108, st_174_109, st_174_110, st_174_111, st_174_112, st_174_113, st_174_114, st_174_117, st_174_118, st_174_119, st_174_120, st_174_121, st_174_122, st_174_123, st_174_124, st_174_127, st_174_128, st_174_129, st_174_130, st_174_131, ini_174, fs_cl, fs_len, fs_rf, fs_M, fs_put, fs_cpy, ↓reduceIte, rv_ref, true_or, or_true, true_and, and_true, nI_ltI, ix_nI, nI_clamp, ps_i, ps_n, Option.bind_some, sm_0, sm_1, sm_2, sm_3, sm_4, sto_0, sto_1, sto_2, sto_3, sto_4, sto_5, sto_6, sto_7, sto_8, sto_9, sto_10, sto_11, sto_12, sto_13, sto_14, nlo_n, nlo_i, nlo_r, nlo_0, nlo_l, and_self, or_self, Nat.reduceEqDiff, Nat.reduceLT, Nat.reduceLeDiff, Nat.one_ne_zero, Nat.zero_ne_one, w0, f0, r7, m0, q0, a1, a2, e10, kw, kv, g0, kf])
    · refine go_f0 hi (k := 1) ?_
      intro e he
      obtain ⟨e, rfl⟩ : ∃ d, e = d + 1 := ⟨e - 1, by omega⟩
      have kw := c123e (σ := FS h M) (nI km) (e := e) (by omega)
      have kv := c124e (σ := FS h M) y (e := e) (by omega)
      rw [wi_in hk0 hk (by omega)] at kw
      rw [wi_out hy (by omega) (by omega)] at kv
      have kf := c119 (M := M) hh (k := 1) (by omega) (e := e) (by omega)
      refine ⟨by (rw [j_C_eq]; simp (disch := omega) only [st_80_0, st_80_1, st_80_4, st_80_7, st_80_8, st_80_11, st_80_14, st_80_15, st_80_16, st_80_19, st_80_20, st_80_21, st_80_24, st_80_27, st_80_29, st_80_32, st_80_33, st_80_34, st_80_37, st_80_38, st_80_39, st_80_42, st_80_43, st_80_44, st_80_47, ini_80, fs_cl, fs_len, fs_rf, fs_M, fs_put, fs_cpy, ↓reduceIte, rv_ref, true_or, or_true, true_and, and_true, nI_ltI, ix_nI, nI_clamp, ps_i, ps_n, Option.bind_some, sm_0, sm_1, sm_2, sm_3, sm_4, sto_0, sto_1, sto_2, sto_3, sto_4, sto_5, sto_6, sto_7, sto_8, sto_9, sto_10, sto_11, sto_12, sto_13, sto_14, nlo_n, nlo_i, nlo_r, nlo_0, nlo_l, and_self, or_self, Nat.reduceEqDiff, Nat.reduceLT, Nat.reduceLeDiff, Nat.one_ne_zero, Nat.zero_ne_one, w0, f0, r7, m0, q0, a1, a2, e10, kw, kv, kf]), fun M' hR' => ?_⟩
      have kw := r143e (σ := FS h M') (nI km).toInt64 (lN 0) (lN 69) (e := e) (by omega)
      have kv := r143e (σ := FS h M') y.toInt64 (lN 1) (lN 7) (e := e) (by omega)
      rw [lin_in hk0 hk (by omega)] at kw
      rw [lin_out hy (by omega) (by omega)] at kv
      have kf := r142 (M := M') md (k := 1) (by omega) (e := e) (by omega)
      (rw [j_C_eq]; simp (disch := omega) only [st_174_0, st_174_1, st_174_2, st_174_3, st_174_6, st_174_9, st_174_12, st_174_13, st_174_14, st_174_15, st_174_18, st_174_21, st_174_24, st_174_25, st_174_26, st_174_29, st_174_30, st_174_31, st_174_34, st_174_35, st_174_36, st_174_38, st_174_41, st_174_42, st_174_43, st_174_46, st_174_47, st_174_49, st_174_50, st_174_51, st_174_54, st_174_55, st_174_56, st_174_57, st_174_58, st_174_59, st_174_60, st_174_63, st_174_64, st_174_65, st_174_66, st_174_67, st_174_69, st_174_70, st_174_71, st_174_72, st_174_75, st_174_76, st_174_77, st_174_78, st_174_79, st_174_81, st_174_82, st_174_83, st_174_84, st_174_87, st_174_88, st_174_89, st_174_90, st_174_91, st_174_92, st_174_93, st_174_96, st_174_97, st_174_98, st_174_99, st_174_101, st_174_102, st_174_103, st_174_106, st_174_107, st_174_108, st_174_109, st_174_110, st_174_111, st_174_112, st_174_113, st_174_114, st_174_117, st_174_118, st_174_119, st_174_120, st_174_121, st_174_122, st_174_123, st_174_124, st_174_127, st_174_128, st_174_129, st_174_130, st_174_131, ini_174, fs_cl, fs_len, fs_rf, fs_M, fs_put, fs_cpy, ↓reduceIte, rv_ref, true_or, or_true, true_and, and_true, nI_ltI, ix_nI, nI_clamp, ps_i, ps_n, Option.bind_some, sm_0, sm_1, sm_2, sm_3, sm_4, sto_0, sto_1, sto_2, sto_3, sto_4, sto_5, sto_6, sto_7, sto_8, sto_9, sto_10, sto_11, sto_12, sto_13, sto_14, nlo_n, nlo_i, nlo_r, nlo_0, nlo_l, and_self, or_self, Nat.reduceEqDiff, Nat.reduceLT, Nat.reduceLeDiff, Nat.one_ne_zero, Nat.zero_ne_one, w0, f0, r7, m0, q0, a1, a2, e10, kw, kv, kf])
  · refine go_f0 hi (k := 1) ?_
    intro e he
    obtain ⟨e, rfl⟩ : ∃ d, e = d + 1 := ⟨e - 1, by omega⟩
    have kw := c123e (σ := FS h M) x (e := e) (by omega)
    rw [wi_out hx (by omega) (by omega)] at kw
    have kf := c119 (M := M) hh (k := 1) (by omega) (e := e) (by omega)
    refine ⟨by (rw [j_C_eq]; simp (disch := omega) only [st_80_0, st_80_1, st_80_4, st_80_7, st_80_8, st_80_11, st_80_14, st_80_15, st_80_16, st_80_19, st_80_20, st_80_21, st_80_24, st_80_27, st_80_29, st_80_32, st_80_33, st_80_34, st_80_37, st_80_38, st_80_39, st_80_42, st_80_43, st_80_44, st_80_47, ini_80, fs_cl, fs_len, fs_rf, fs_M, fs_put, fs_cpy, ↓reduceIte, rv_ref, true_or, or_true, true_and, and_true, nI_ltI, ix_nI, nI_clamp, ps_i, ps_n, Option.bind_some, sm_0, sm_1, sm_2, sm_3, sm_4, sto_0, sto_1, sto_2, sto_3, sto_4, sto_5, sto_6, sto_7, sto_8, sto_9, sto_10, sto_11, sto_12, sto_13, sto_14, nlo_n, nlo_i, nlo_r, nlo_0, nlo_l, and_self, or_self, Nat.reduceEqDiff, Nat.reduceLT, Nat.reduceLeDiff, Nat.one_ne_zero, Nat.zero_ne_one, w0, f0, r7, m0, q0, a1, a2, e10, kw, kf]), fun M' hR' => ?_⟩
    have kw := r143e (σ := FS h M') x.toInt64 (lN 0) (lN 69) (e := e) (by omega)
    rw [lin_out hx (by omega) (by omega)] at kw
    have kf := r142 (M := M') md (k := 1) (by omega) (e := e) (by omega)
    (rw [j_C_eq]; simp (disch := omega) only [st_174_0, st_174_1, st_174_2, st_174_3, st_174_6, st_174_9, st_174_12, st_174_13, st_174_14, st_174_15, st_174_18, st_174_21, st_174_24, st_174_25, st_174_26, st_174_29, st_174_30, st_174_31, st_174_34, st_174_35, st_174_36, st_174_38, st_174_41, st_174_42, st_174_43, st_174_46, st_174_47, st_174_49, st_174_50, st_174_51, st_174_54, st_174_55, st_174_56, st_174_57, st_174_58, st_174_59, st_174_60, st_174_63, st_174_64, st_174_65, st_174_66, st_174_67, st_174_69, st_174_70, st_174_71, st_174_72, st_174_75, st_174_76, st_174_77, st_174_78, st_174_79, st_174_81, st_174_82, st_174_83, st_174_84, st_174_87, st_174_88, st_174_89, st_174_90, st_174_91, st_174_92, st_174_93, st_174_96, st_174_97, st_174_98, st_174_99, st_174_101, st_174_102, st_174_103, st_174_106, st_174_107, st_174_108, st_174_109, st_174_110, st_174_111, st_174_112, st_174_113, st_174_114, st_174_117, st_174_118, st_174_119, st_174_120, st_174_121, st_174_122, st_174_123, st_174_124, st_174_127, st_174_128, st_174_129, st_174_130, st_174_131, ini_174, fs_cl, fs_len, fs_rf, fs_M, fs_put, fs_cpy, ↓reduceIte, rv_ref, true_or, or_true, true_and, and_true, nI_ltI, ix_nI, nI_clamp, ps_i, ps_n, Option.bind_some, sm_0, sm_1, sm_2, sm_3, sm_4, sto_0, sto_1, sto_2, sto_3, sto_4, sto_5, sto_6, sto_7, sto_8, sto_9, sto_10, sto_11, sto_12, sto_13, sto_14, nlo_n, nlo_i, nlo_r, nlo_0, nlo_l, and_self, or_self, Nat.reduceEqDiff, Nat.reduceLT, Nat.reduceLeDiff, Nat.one_ne_zero, Nat.zero_ne_one, w0, f0, r7, m0, q0, a1, a2, e10, kw, kf])
