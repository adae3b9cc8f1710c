/-! Both sides: change, become, rub, as. -/
variable {h : j_Hd} {M M1 M2 : Nat → Nat → Int32} {o : Nat} {E : Nat → Nat} {z : Int32} {K0 K1 : List Int32} {T : Nat → Nat} {W : Nat → Int32}
theorem WX_T (hx : WX E) {t k v : Nat} (hk : k < 5) (ok : (k = 0 → v < 7) ∧ (k = 1 → v < 10) ∧ (k = 2 → 1 ≤ v ∧ v ≤ 7) ∧ (k = 3 → v ≤ 99) ∧ (k = 4 → v < 256)) (ht : t < 6) : WX (upE E (8 + 5 * t + k) v) := ⟨WE_T hx.1 hk ok ht, by rw [upE_o _ (by omega)]; exact hx.2.1, by rw [upE_o _ (by omega)]; exact hx.2.2.1, by rw [upE_o _ (by omega)]; exact hx.2.2.2⟩
theorem c126 {n : Nat} (hn : n ≤ 254) {e : Nat} (he : 2 ≤ e) {σ : j_St} : j_C e 126 [.int (nI n)] σ = some (some (.int (if n % 2 = 0 then nI 1 else nI 0)), σ) := by
  obtain ⟨e, rfl⟩ : ∃ d, e = d + 1 := ⟨e - 1, by omega⟩
  have e10 : ¬ nI 1 = nI 0 := by decide +kernel
  have kw := c122e (σ := σ) (nI n) (nI 0) (nI 254) (e := e) (by omega)
  rw [wi_in (Nat.zero_le _) hn (by omega)] at kw
  have ev := even_d n (by omega)
  rw [j_C_eq]
  by_cases c0 : n % 2 = 0
  · rw [if_pos c0]
    have c1 := ev.mpr c0
    simp (disch := omega) only [st_126_0, st_126_1, st_126_2, st_126_5, st_126_8, st_126_11, st_126_12, st_126_13, st_126_14, st_126_17, st_126_18, st_126_21, st_126_22, ini_126, fs_cl, fs_len, fs_rf, fs_M, fs_put, fs_cpy, ↓reduceIte, rv_ref, true_or, or_true, true_and, and_true, nI_ltI, ix_nI, nI_clamp, ps_i, ps_n, Option.bind_some, sm_0, sm_1, sm_2, sm_3, sm_4, sto_0, sto_1, sto_2, sto_3, sto_4, sto_5, sto_6, sto_7, sto_8, sto_9, sto_10, sto_11, sto_12, sto_13, sto_14, nlo_n, nlo_i, nlo_r, nlo_0, nlo_l, and_self, or_self, Nat.reduceEqDiff, Nat.reduceLT, Nat.reduceLeDiff, Nat.one_ne_zero, Nat.zero_ne_one, kw, e10, c1]
  · rw [if_neg c0]
    have c1 : ¬ (nI n &&& nI 1 = nI 0) := fun hh => c0 (ev.mp hh)
    simp (disch := omega) only [st_126_0, st_126_1, st_126_2, st_126_5, st_126_8, st_126_11, st_126_12, st_126_13, st_126_14, st_126_17, st_126_18, st_126_21, st_126_22, ini_126, fs_cl, fs_len, fs_rf, fs_M, fs_put, fs_cpy, ↓reduceIte, rv_ref, true_or, or_true, true_and, and_true, nI_ltI, ix_nI, nI_clamp, ps_i, ps_n, Option.bind_some, sm_0, sm_1, sm_2, sm_3, sm_4, sto_0, sto_1, sto_2, sto_3, sto_4, sto_5, sto_6, sto_7, sto_8, sto_9, sto_10, sto_11, sto_12, sto_13, sto_14, nlo_n, nlo_i, nlo_r, nlo_0, nlo_l, and_self, or_self, Nat.reduceEqDiff, Nat.reduceLT, Nat.reduceLeDiff, Nat.one_ne_zero, Nat.zero_ne_one, kw, e10, c1]
theorem c126n {x : Int32} (hx : ¬ ∃ j, 0 ≤ j ∧ j ≤ 254 ∧ x = nI j) {e : Nat} (he : 2 ≤ e) {σ : j_St} : j_C e 126 [.int x] σ = some (some (.int (nI 0)), σ) := by
  obtain ⟨e, rfl⟩ : ∃ d, e = d + 1 := ⟨e - 1, by omega⟩
  have kw := c122e (σ := σ) x (nI 0) (nI 254) (e := e) (by omega)
  rw [wi_out hx (by omega) (by omega)] at kw
  rw [j_C_eq]
  simp (disch := omega) only [st_126_0, st_126_1, st_126_2, st_126_5, st_126_8, st_126_11, st_126_12, st_126_13, st_126_14, st_126_17, st_126_18, st_126_21, st_126_22, ini_126, fs_cl, fs_len, fs_rf, fs_M, fs_put, fs_cpy, ↓reduceIte, rv_ref, true_or, or_true, true_and, and_true, nI_ltI, ix_nI, nI_clamp, ps_i, ps_n, Option.bind_some, sm_0, sm_1, sm_2, sm_3, sm_4, sto_0, sto_1, sto_2, sto_3, sto_4, sto_5, sto_6, sto_7, sto_8, sto_9, sto_10, sto_11, sto_12, sto_13, sto_14, nlo_n, nlo_i, nlo_r, nlo_0, nlo_l, and_self, or_self, Nat.reduceEqDiff, Nat.reduceLT, Nat.reduceLeDiff, Nat.one_ne_zero, Nat.zero_ne_one, kw]
/-- what may be changed, and to what -/
def chV (k v : Nat) : Prop := (k = 0 ∧ 1 ≤ v ∧ v ≤ 7) ∨ (k = 1 ∧ v ≤ 99) ∨ (k = 2 ∧ v ≤ 254 ∧ v % 2 = 0)
theorem g_change (hh : Hd h) (hi : IE M E z K0 K1 T W) (x y v : Int32) : Go h M 82 177 [.int x, .int y, .int v] := by
  have w0 := hh.1.1
  have f0 := hh.1.2.1
  have r7 := hh.1.2.2.2.2.2.2.2.1
  have mk := hh.2.1.1
  have th := hh.2.2.2.1.1
  have md : Md h 115 := hh.2.2.2.2.2.2.2.1
  have m0 := md.1
  have q0 := md.2.1.1
  have a1 := md.2.1.2.1
  have a2 := md.2.1.2.2.1
  have hw := hi.1.1
  have h6 := hw.1
  have h8 := hw.2.1
  have hm := hi.2.1.1
  have hs := hm.1
  have hR : RC M 115 E z K0 K1 := hi.2.2.1.1
  have sd := hi.2.2.2.1
  have e10 : ¬ nI 1 = nI 0 := by decide +kernel
  have e21 : ¬ nI 2 = nI 1 := by decide +kernel
  have e20 : ¬ nI 2 = nI 0 := by decide +kernel
  have n2 : ¬ nI 2 = nI 0 := by decide +kernel
  -- the reference's question of the value
  have Q : ∀ (σ : j_St) (e : Nat), 2 ≤ e → ∀ (x y v : Int32) (R : j_R), (∀ b : Int32, ((∃ k w, chV k w ∧ y = nI k ∧ v = nI w) ∧ b = nI 1) ∨ (¬ (∃ k w, chV k w ∧ y = nI k ∧ v = nI w) ∧ b = nI 0) → j_X e 177 63 [some (.ref 115), some (.int x), some (.int y), some (.int v), some (.int b), none] [] σ = R) → j_C (e + 1) 177 [.ref 115, .int x, .int y, .int v] σ = R := by
    intro σ e he x y v R hX
    have uy : ∀ k w k', chV k w → y = nI k → y = nI k' → k' < 2147483648 → k = k' := fun k w k' hc h1 h2 hk => by
      rw [h1] at h2
      have : k < 3 := by unfold chV at hc; omega
      exact (nI_eq (by omega) (by omega)).mp h2
    by_cases y0 : y = nI 0
    · have kl := r143e (σ := σ) v.toInt64 (lN 1) (lN 7) (e := e) (by omega)
      by_cases hv : ∃ j, 1 ≤ j ∧ j ≤ 7 ∧ v = nI j
      · obtain ⟨j, j1, j2, rfl⟩ := hv
        have hX := hX (nI 1) (.inl ⟨⟨0, j, .inl ⟨rfl, j1, j2⟩, y0, rfl⟩, rfl⟩)
        rw [lin_in j1 j2 (by omega)] at kl
        rw [j_C_eq, ← hX]
        simp (disch := omega) only [st_177_0, st_177_1, st_177_4, st_177_5, st_177_6, st_177_7, st_177_10, st_177_13, st_177_16, st_177_17, st_177_18, st_177_21, st_177_22, st_177_23, st_177_24, st_177_27, st_177_30, st_177_33, st_177_34, st_177_35, st_177_38, st_177_39, st_177_40, st_177_41, st_177_44, st_177_47, st_177_50, st_177_51, st_177_52, st_177_53, st_177_56, st_177_57, st_177_60, st_177_61, ini_177, fs_cl, fs_len, fs_rf, fs_M, fs_put, fs_cpy, ↓reduceIte, rv_ref, true_or, or_true, true_and, and_true, nI_ltI, ix_nI, nI_clamp, ps_i, ps_n, Option.bind_some, sm_0, sm_1, sm_2, sm_3, sm_4, sto_0, sto_1, sto_2, sto_3, sto_4, sto_5, sto_6, sto_7, sto_8, sto_9, sto_10, sto_11, sto_12, sto_13, sto_14, nlo_n, nlo_i, nlo_r, nlo_0, nlo_l, and_self, or_self, Nat.reduceEqDiff, Nat.reduceLT, Nat.reduceLeDiff, Nat.one_ne_zero, Nat.zero_ne_one, eq_true y0, kl]
      · have hX := hX (nI 0) (.inr ⟨(fun ⟨k, w, hc, h1, h2⟩ => hv (by
          have := uy k w 0 hc h1 y0 (by omega)
          unfold chV at hc
          exact ⟨w, by omega, by omega, h2⟩)), rfl⟩)
        rw [lin_out hv (by omega) (by omega)] at kl
        rw [j_C_eq, ← hX]
        simp (disch := omega) only [st_177_0, st_177_1, st_177_4, st_177_5, st_177_6, st_177_7, st_177_10, st_177_13, st_177_16, st_177_17, st_177_18, st_177_21, st_177_22, st_177_23, st_177_24, st_177_27, st_177_30, st_177_33, st_177_34, st_177_35, st_177_38, st_177_39, st_177_40, st_177_41, st_177_44, st_177_47, st_177_50, st_177_51, st_177_52, st_177_53, st_177_56, st_177_57, st_177_60, st_177_61, ini_177, fs_cl, fs_len, fs_rf, fs_M, fs_put, fs_cpy, ↓reduceIte, rv_ref, true_or, or_true, true_and, and_true, nI_ltI, ix_nI, nI_clamp, ps_i, ps_n, Option.bind_some, sm_0, sm_1, sm_2, sm_3, sm_4, sto_0, sto_1, sto_2, sto_3, sto_4, sto_5, sto_6, sto_7, sto_8, sto_9, sto_10, sto_11, sto_12, sto_13, sto_14, nlo_n, nlo_i, nlo_r, nlo_0, nlo_l, and_self, or_self, Nat.reduceEqDiff, Nat.reduceLT, Nat.reduceLeDiff, Nat.one_ne_zero, Nat.zero_ne_one, eq_true y0, kl]
    · by_cases y1 : y = nI 1
      · have kl := r143e (σ := σ) v.toInt64 (lN 0) (lN 99) (e := e) (by omega)
        by_cases hv : ∃ j, 0 ≤ j ∧ j ≤ 99 ∧ v = nI j
        · obtain ⟨j, j1, j2, rfl⟩ := hv
          have hX := hX (nI 1) (.inl ⟨⟨1, j, .inr (.inl ⟨rfl, j2⟩), y1, rfl⟩, rfl⟩)
          rw [lin_in j1 j2 (by omega)] at kl
          rw [j_C_eq, ← hX]
          simp (disch := omega) only [st_177_0, st_177_1, st_177_4, st_177_5, st_177_6, st_177_7, st_177_10, st_177_13, st_177_16, st_177_17, st_177_18, st_177_21, st_177_22, st_177_23, st_177_24, st_177_27, st_177_30, st_177_33, st_177_34, st_177_35, st_177_38, st_177_39, st_177_40, st_177_41, st_177_44, st_177_47, st_177_50, st_177_51, st_177_52, st_177_53, st_177_56, st_177_57, st_177_60, st_177_61, ini_177, fs_cl, fs_len, fs_rf, fs_M, fs_put, fs_cpy, ↓reduceIte, rv_ref, true_or, or_true, true_and, and_true, nI_ltI, ix_nI, nI_clamp, ps_i, ps_n, Option.bind_some, sm_0, sm_1, sm_2, sm_3, sm_4, sto_0, sto_1, sto_2, sto_3, sto_4, sto_5, sto_6, sto_7, sto_8, sto_9, sto_10, sto_11, sto_12, sto_13, sto_14, nlo_n, nlo_i, nlo_r, nlo_0, nlo_l, and_self, or_self, Nat.reduceEqDiff, Nat.reduceLT, Nat.reduceLeDiff, Nat.one_ne_zero, Nat.zero_ne_one, y0, eq_true y1, kl]
        · have hX := hX (nI 0) (.inr ⟨(fun ⟨k, w, hc, h1, h2⟩ => hv (by
            have := uy k w 1 hc h1 y1 (by omega)
            unfold chV at hc
            exact ⟨w, by omega, by omega, h2⟩)), rfl⟩)
          rw [lin_out hv (by omega) (by omega)] at kl
          rw [j_C_eq, ← hX]
          simp (disch := omega) only [st_177_0, st_177_1, st_177_4, st_177_5, st_177_6, st_177_7, st_177_10, st_177_13, st_177_16, st_177_17, st_177_18, st_177_21, st_177_22, st_177_23, st_177_24, st_177_27, st_177_30, st_177_33, st_177_34, st_177_35, st_177_38, st_177_39, st_177_40, st_177_41, st_177_44, st_177_47, st_177_50, st_177_51, st_177_52, st_177_53, st_177_56, st_177_57, st_177_60, st_177_61, ini_177, fs_cl, fs_len, fs_rf, fs_M, fs_put, fs_cpy, ↓reduceIte, rv_ref, true_or, or_true, true_and, and_true, nI_ltI, ix_nI, nI_clamp, ps_i, ps_n, Option.bind_some, sm_0, sm_1, sm_2, sm_3, sm_4, sto_0, sto_1, sto_2, sto_3, sto_4, sto_5, sto_6, sto_7, sto_8, sto_9, sto_10, sto_11, sto_12, sto_13, sto_14, nlo_n, nlo_i, nlo_r, nlo_0, nlo_l, and_self, or_self, Nat.reduceEqDiff, Nat.reduceLT, Nat.reduceLeDiff, Nat.one_ne_zero, Nat.zero_ne_one, y0, eq_true y1, kl]
      · by_cases y2 : y = nI 2
        · have kl := r143e (σ := σ) v.toInt64 (lN 0) (lN 254) (e := e) (by omega)
          have e10 : ¬ nI 1 = nI 0 := by decide +kernel
          by_cases hv : ∃ j, 0 ≤ j ∧ j ≤ 254 ∧ v = nI j
          · obtain ⟨j, j1, j2, rfl⟩ := hv
            rw [lin_in j1 j2 (by omega)] at kl
            by_cases c0 : j % 2 = 0
            · have hX := hX (nI 1) (.inl ⟨⟨2, j, .inr (.inr ⟨rfl, j2, c0⟩), y2, rfl⟩, rfl⟩)
              rw [j_C_eq, ← hX]
              simp (disch := omega) only [st_177_0, st_177_1, st_177_4, st_177_5, st_177_6, st_177_7, st_177_10, st_177_13, st_177_16, st_177_17, st_177_18, st_177_21, st_177_22, st_177_23, st_177_24, st_177_27, st_177_30, st_177_33, st_177_34, st_177_35, st_177_38, st_177_39, st_177_40, st_177_41, st_177_44, st_177_47, st_177_50, st_177_51, st_177_52, st_177_53, st_177_56, st_177_57, st_177_60, st_177_61, ini_177, fs_cl, fs_len, fs_rf, fs_M, fs_put, fs_cpy, ↓reduceIte, rv_ref, true_or, or_true, true_and, and_true, nI_ltI, ix_nI, nI_clamp, ps_i, ps_n, Option.bind_some, sm_0, sm_1, sm_2, sm_3, sm_4, sto_0, sto_1, sto_2, sto_3, sto_4, sto_5, sto_6, sto_7, sto_8, sto_9, sto_10, sto_11, sto_12, sto_13, sto_14, nlo_n, nlo_i, nlo_r, nlo_0, nlo_l, and_self, or_self, Nat.reduceEqDiff, Nat.reduceLT, Nat.reduceLeDiff, Nat.one_ne_zero, Nat.zero_ne_one, y0, y1, eq_true y2, kl, e10, n2, nI_rem, c0]
            · have hX := hX (nI 0) (.inr ⟨(fun ⟨k, w, hc, h1, h2⟩ => c0 (by
                have := uy k w 2 hc h1 y2 (by omega)
                unfold chV at hc
                rw [nI_eq (by omega) (by omega)] at h2
                omega)), rfl⟩)
              have c1 : ¬ nI (j % 2) = nI 0 := nI_ne c0 (by omega) (by omega)
              rw [j_C_eq, ← hX]
              simp (disch := omega) only [st_177_0, st_177_1, st_177_4, st_177_5, st_177_6, st_177_7, st_177_10, st_177_13, st_177_16, st_177_17, st_177_18, st_177_21, st_177_22, st_177_23, st_177_24, st_177_27, st_177_30, st_177_33, st_177_34, st_177_35, st_177_38, st_177_39, st_177_40, st_177_41, st_177_44, st_177_47, st_177_50, st_177_51, st_177_52, st_177_53, st_177_56, st_177_57, st_177_60, st_177_61, ini_177, fs_cl, fs_len, fs_rf, fs_M, fs_put, fs_cpy, ↓reduceIte, rv_ref, true_or, or_true, true_and, and_true, nI_ltI, ix_nI, nI_clamp, ps_i, ps_n, Option.bind_some, sm_0, sm_1, sm_2, sm_3, sm_4, sto_0, sto_1, sto_2, sto_3, sto_4, sto_5, sto_6, sto_7, sto_8, sto_9, sto_10, sto_11, sto_12, sto_13, sto_14, nlo_n, nlo_i, nlo_r, nlo_0, nlo_l, and_self, or_self, Nat.reduceEqDiff, Nat.reduceLT, Nat.reduceLeDiff, Nat.one_ne_zero, Nat.zero_ne_one, y0, y1, eq_true y2, kl, e10, n2, nI_rem, c1]
          · have hX := hX (nI 0) (.inr ⟨(fun ⟨k, w, hc, h1, h2⟩ => hv (by
              have := uy k w 2 hc h1 y2 (by omega)
              unfold chV at hc
              exact ⟨w, by omega, by omega, h2⟩)), rfl⟩)
            rw [lin_out hv (by omega) (by omega)] at kl
            rw [j_C_eq, ← hX]
            simp (disch := omega) only [st_177_0, st_177_1, st_177_4, st_177_5, st_177_6, st_177_7, st_177_10, st_177_13, st_177_16, st_177_17, st_177_18, st_177_21, st_177_22, st_177_23, st_177_24, st_177_27, st_177_30, st_177_33, st_177_34, st_177_35, st_177_38, st_177_39, st_177_40, st_177_41, st_177_44, st_177_47, st_177_50, st_177_51, st_177_52, st_177_53, st_177_56, st_177_57, st_177_60, st_177_61, ini_177, fs_cl, fs_len, fs_rf, fs_M, fs_put, fs_cpy, ↓reduceIte, rv_ref, true_or, or_true, true_and, and_true, nI_ltI, ix_nI, nI_clamp, ps_i, ps_n, Option.bind_some, sm_0, sm_1, sm_2, sm_3, sm_4, sto_0, sto_1, sto_2, sto_3, sto_4, sto_5, sto_6, sto_7, sto_8, sto_9, sto_10, sto_11, sto_12, sto_13, sto_14, nlo_n, nlo_i, nlo_r, nlo_0, nlo_l, and_self, or_self, Nat.reduceEqDiff, Nat.reduceLT, Nat.reduceLeDiff, Nat.one_ne_zero, Nat.zero_ne_one, y0, y1, eq_true y2, kl]
        · have hX := hX (nI 0) (.inr ⟨(fun ⟨k, w, hc, h1, h2⟩ => by
            have : k = 0 ∨ k = 1 ∨ k = 2 := by unfold chV at hc; omega
            rcases this with e | e | e
            · subst e; exact y0 h1
            · subst e; exact y1 h1
            · subst e; exact y2 h1), rfl⟩)
          rw [j_C_eq, ← hX]
          simp (disch := omega) only [st_177_0, st_177_1, st_177_4, st_177_5, st_177_6, st_177_7, st_177_10, st_177_13, st_177_16, st_177_17, st_177_18, st_177_21, st_177_22, st_177_23, st_177_24, st_177_27, st_177_30, st_177_33, st_177_34, st_177_35, st_177_38, st_177_39, st_177_40, st_177_41, st_177_44, st_177_47, st_177_50, st_177_51, st_177_52, st_177_53, st_177_56, st_177_57, st_177_60, st_177_61, ini_177, fs_cl, fs_len, fs_rf, fs_M, fs_put, fs_cpy, ↓reduceIte, rv_ref, true_or, or_true, true_and, and_true, nI_ltI, ix_nI, nI_clamp, ps_i, ps_n, Option.bind_some, sm_0, sm_1, sm_2, sm_3, sm_4, sto_0, sto_1, sto_2, sto_3, sto_4, sto_5, sto_6, sto_7, sto_8, sto_9, sto_10, sto_11, sto_12, sto_13, sto_14, nlo_n, nlo_i, nlo_r, nlo_0, nlo_l, and_self, or_self, Nat.reduceEqDiff, Nat.reduceLT, Nat.reduceLeDiff, Nat.one_ne_zero, Nat.zero_ne_one, y0, y1, y2]
  by_cases hx : ∃ j, j < E 0 ∧ x = nI j
  · obtain ⟨t, ht, rfl⟩ := hx
    by_cases hv : ∃ k w, chV k w ∧ y = nI k ∧ v = nI w
    · have hv' := hv
      obtain ⟨k, w, hc, rfl, rfl⟩ := hv'
      have k3 : k < 3 := by unfold chV at hc; omega
      obtain ⟨t1, t2, t3, t4, t5⟩ := hm.2.1 t ht
      have R := mk.2
      have okw : (2 + k = 0 → w < 7) ∧ (2 + k = 1 → w < 10) ∧ (2 + k = 2 → 1 ≤ w ∧ w ≤ 7) ∧ (2 + k = 3 → w ≤ 99) ∧ (2 + k = 4 → w < 256) := by
        unfold chV at hc
        exact ⟨fun _ => by omega, fun _ => by omega, fun _ => by omega, fun _ => by omega, fun _ => by omega⟩
      refine go_c hi ?_
      intro e he
      obtain ⟨e, rfl⟩ : ∃ d, e = d + 1 := ⟨e - 1, by omega⟩
      have k8 := c8ye (M := M) mk hs h6 ht (e := e) (by omega)
      have main : ∀ M1 : Nat → Nat → Int32, CM M1 2 (upE E (8 + 5 * t + (2 + k)) w) z K0 K1 → mg 2 M M1 → j_C (e + 1) 82 [.ref 1, .int (nI t), .int (nI k), .int (nI w)] (FS h M) = some (some (.int (nI (E (8 + 5 * t + (2 + k))))), FS h M1) → ∃ v M1 M2 E' z', j_C (e + 1) 82 (.ref 1 :: [.int (nI t), .int (nI k), .int (nI w)]) (FS h M) = some (some (.int v), FS h M1) ∧ CM M1 2 E' z' K0 K1 ∧ mg 2 M M1 ∧ j_C (e + 1) 177 (.ref 115 :: [.int (nI t), .int (nI k), .int (nI w)]) (FS h M1) = some (some (.int v), FS h M2) ∧ rg 115 M1 M2 ∧ RC M2 115 E' z' K0 K1 ∧ WX E' ∧ E' 6 = E 6 ∧ E' 7 = E 7 := by
        intro M1 p2 p3 p1
        have hR1 := RC_mg p3 hR
        refine ⟨_, M1, j_up M1 116 (8 + 5 * t + (2 + k)) (nI w), _, z, p1, p2, p3, ?_, rg_ld (o := 115) (ld_up (by omega)), RC_ld (o := 115) (ld_up (by omega)) (RLd_up (o := 115) hR1.1 (by omega)) hR1, WX_T hi.1 (by omega) okw (by omega), upE_o _ (by omega), upE_o _ (by omega)⟩
        apply Q _ e (by omega)
        intro b hb
        have hb : b = nI 1 := hb.elim (fun a => a.2) (fun a => absurd hv a.1)
        subst hb
        have l8 := r145ye md hR1.1 h6 ht (e := e) (by omega)
        have g := r147e (M := M1) md (t := t) (k := 2 + k) (by omega) (e := e) (by omega)
        rw [hR1.1.1 _ (by omega) (by omega)] at g
        have ib : 8 + 5 * t + 2 + k < 250 := by omega
        have ia : 8 + 5 * t + (2 + k) = 8 + 5 * t + 2 + k := by omega
        rw [ia] at g ⊢
        simp (disch := omega) only [st_177_63, st_177_64, st_177_65, st_177_68, st_177_71, st_177_73, st_177_76, st_177_77, st_177_78, st_177_81, st_177_82, st_177_83, st_177_84, st_177_85, st_177_86, st_177_87, st_177_90, st_177_92, st_177_93, st_177_96, st_177_98, st_177_99, st_177_100, st_177_101, st_177_102, st_177_103, st_177_104, st_177_105, st_177_106, st_177_107, st_177_108, st_177_110, ini_177, fs_cl, fs_len, fs_rf, fs_M, fs_put, fs_cpy, ↓reduceIte, rv_ref, true_or, or_true, true_and, and_true, nI_ltI, ix_nI, nI_clamp, ps_i, ps_n, Option.bind_some, sm_0, sm_1, sm_2, sm_3, sm_4, sto_0, sto_1, sto_2, sto_3, sto_4, sto_5, sto_6, sto_7, sto_8, sto_9, sto_10, sto_11, sto_12, sto_13, sto_14, nlo_n, nlo_i, nlo_r, nlo_0, nlo_l, and_self, or_self, Nat.reduceEqDiff, Nat.reduceLT, Nat.reduceLeDiff, Nat.one_ne_zero, Nat.zero_ne_one, m0, q0, a1, a2, e10, l8, nI_add, nI_mul, g, ib]
      have hk : k = 0 ∨ k = 1 ∨ k = 2 := by omega
      rcases hk with e3 | e3 | e3
      · subst e3
        have hc1 : 1 ≤ w ∧ w ≤ 7 := by unfold chV at hc; omega
        refine main (j_up M 8 t (nI w)) ?_ (mg_up 8 (by omega) (by omega)) ?_
        · rw [show 8 + 5 * t + (2 + 0) = 10 + 5 * t by omega]
          exact CM_W hm h6 h8 (by omega) w
        · have g2 := n35e (M := M) R.2.2.1.2 (by omega : t < 6) (nI w) (e := e) (by omega)
          rw [t3] at g2
          have kw := c124e (σ := FS h M) (nI w) (e := e) (by omega)
          rw [wi_in hc1.1 hc1.2 (by omega)] at kw
          rw [show 8 + 5 * t + (2 + 0) = 10 + 5 * t by omega]
          (rw [j_C_eq]; simp (disch := omega) only [st_82_0, st_82_1, st_82_4, st_82_5, st_82_8, st_82_11, st_82_12, st_82_13, st_82_16, st_82_17, st_82_18, st_82_21, st_82_22, st_82_25, st_82_28, st_82_29, st_82_32, st_82_35, st_82_36, st_82_37, st_82_40, st_82_41, st_82_42, st_82_43, st_82_46, st_82_47, st_82_50, st_82_53, st_82_54, st_82_57, st_82_60, st_82_61, st_82_62, st_82_65, st_82_66, st_82_67, st_82_68, st_82_71, st_82_72, st_82_75, st_82_78, st_82_79, st_82_82, st_82_85, st_82_86, st_82_87, st_82_90, st_82_91, st_82_92, st_82_93, st_82_96, ini_82, fs_cl, fs_len, fs_rf, fs_M, fs_put, fs_cpy, ↓reduceIte, rv_ref, true_or, or_true, true_and, and_true, nI_ltI, ix_nI, nI_clamp, ps_i, ps_n, Option.bind_some, sm_0, sm_1, sm_2, sm_3, sm_4, sto_0, sto_1, sto_2, sto_3, sto_4, sto_5, sto_6, sto_7, sto_8, sto_9, sto_10, sto_11, sto_12, sto_13, sto_14, nlo_n, nlo_i, nlo_r, nlo_0, nlo_l, and_self, or_self, Nat.reduceEqDiff, Nat.reduceLT, Nat.reduceLeDiff, Nat.one_ne_zero, Nat.zero_ne_one, w0, f0, r7, m0, q0, a1, a2, e10, mk.1, k8, kw, R.2.2.1.1, R.2.2.1.2.1, g2])
      · subst e3
        have hc1 : w ≤ 99 := by unfold chV at hc; omega
        refine main (j_up M 10 t (nI w)) ?_ (mg_up 10 (by omega) (by omega)) ?_
        · rw [show 8 + 5 * t + (2 + 1) = 11 + 5 * t by omega]
          exact CM_P hm h6 h8 (by omega) w
        · have g2 := n35e (M := M) R.2.2.2.1.2 (by omega : t < 6) (nI w) (e := e) (by omega)
          rw [t4] at g2
          have kw := c125e (σ := FS h M) (nI w) (e := e) (by omega)
          rw [wi_in (Nat.zero_le _) hc1 (by omega)] at kw
          rw [show 8 + 5 * t + (2 + 1) = 11 + 5 * t by omega]
          (rw [j_C_eq]; simp (disch := omega) only [st_82_0, st_82_1, st_82_4, st_82_5, st_82_8, st_82_11, st_82_12, st_82_13, st_82_16, st_82_17, st_82_18, st_82_21, st_82_22, st_82_25, st_82_28, st_82_29, st_82_32, st_82_35, st_82_36, st_82_37, st_82_40, st_82_41, st_82_42, st_82_43, st_82_46, st_82_47, st_82_50, st_82_53, st_82_54, st_82_57, st_82_60, st_82_61, st_82_62, st_82_65, st_82_66, st_82_67, st_82_68, st_82_71, st_82_72, st_82_75, st_82_78, st_82_79, st_82_82, st_82_85, st_82_86, st_82_87, st_82_90, st_82_91, st_82_92, st_82_93, st_82_96, ini_82, fs_cl, fs_len, fs_rf, fs_M, fs_put, fs_cpy, ↓reduceIte, rv_ref, true_or, or_true, true_and, and_true, nI_ltI, ix_nI, nI_clamp, ps_i, ps_n, Option.bind_some, sm_0, sm_1, sm_2, sm_3, sm_4, sto_0, sto_1, sto_2, sto_3, sto_4, sto_5, sto_6, sto_7, sto_8, sto_9, sto_10, sto_11, sto_12, sto_13, sto_14, nlo_n, nlo_i, nlo_r, nlo_0, nlo_l, and_self, or_self, Nat.reduceEqDiff, Nat.reduceLT, Nat.reduceLeDiff, Nat.one_ne_zero, Nat.zero_ne_one, w0, f0, r7, m0, q0, a1, a2, e10, mk.1, k8, kw, R.2.2.2.1.1, R.2.2.2.1.2.1, g2])
      · subst e3
        have hc1 : w ≤ 254 ∧ w % 2 = 0 := by unfold chV at hc; omega
        refine main (j_up M 12 t (nI w)) ?_ (mg_up 12 (by omega) (by omega)) ?_
        · rw [show 8 + 5 * t + (2 + 2) = 12 + 5 * t by omega]
          exact CM_L hm h6 h8 (by omega) w
        · have g2 := n35e (M := M) R.2.2.2.2.1.2 (by omega : t < 6) (nI w) (e := e) (by omega)
          rw [t5] at g2
          have kw := c126 (σ := FS h M) hc1.1 (e := e) (by omega)
          rw [if_pos hc1.2] at kw
          rw [show 8 + 5 * t + (2 + 2) = 12 + 5 * t by omega]
          (rw [j_C_eq]; simp (disch := omega) only [st_82_0, st_82_1, st_82_4, st_82_5, st_82_8, st_82_11, st_82_12, st_82_13, st_82_16, st_82_17, st_82_18, st_82_21, st_82_22, st_82_25, st_82_28, st_82_29, st_82_32, st_82_35, st_82_36, st_82_37, st_82_40, st_82_41, st_82_42, st_82_43, st_82_46, st_82_47, st_82_50, st_82_53, st_82_54, st_82_57, st_82_60, st_82_61, st_82_62, st_82_65, st_82_66, st_82_67, st_82_68, st_82_71, st_82_72, st_82_75, st_82_78, st_82_79, st_82_82, st_82_85, st_82_86, st_82_87, st_82_90, st_82_91, st_82_92, st_82_93, st_82_96, ini_82, fs_cl, fs_len, fs_rf, fs_M, fs_put, fs_cpy, ↓reduceIte, rv_ref, true_or, or_true, true_and, and_true, nI_ltI, ix_nI, nI_clamp, ps_i, ps_n, Option.bind_some, sm_0, sm_1, sm_2, sm_3, sm_4, sto_0, sto_1, sto_2, sto_3, sto_4, sto_5, sto_6, sto_7, sto_8, sto_9, sto_10, sto_11, sto_12, sto_13, sto_14, nlo_n, nlo_i, nlo_r, nlo_0, nlo_l, and_self, or_self, Nat.reduceEqDiff, Nat.reduceLT, Nat.reduceLeDiff, Nat.one_ne_zero, Nat.zero_ne_one, w0, f0, r7, m0, q0, a1, a2, e10, mk.1, k8, e20, e21, kw, R.2.2.2.2.1.1, R.2.2.2.2.1.2.1, g2])
    · refine go_f0 hi (k := 1) ?_
      intro e he
      obtain ⟨e, rfl⟩ : ∃ d, e = d + 1 := ⟨e - 1, by omega⟩
      have k8 := c8ye (M := M) mk hs h6 ht (e := e) (by omega)
      have kf := c119 (M := M) hh (k := 1) (by omega) (e := e) (by omega)
      refine ⟨?_, fun M' hR' => ?_⟩
      · by_cases y0 : y = nI 0
        · have nv : ¬ ∃ j, 1 ≤ j ∧ j ≤ 7 ∧ v = nI j := fun ⟨j, j1, j2, j3⟩ => hv ⟨0, j, .inl ⟨rfl, j1, j2⟩, y0, j3⟩
          have kw := c124e (σ := FS h M) v (e := e) (by omega)
          rw [wi_out nv (by omega) (by omega)] at kw
          have y1 : ¬ y = nI 1 := by rw [y0]; decide +kernel
          have y2 : ¬ y = nI 2 := by rw [y0]; decide +kernel
          (rw [j_C_eq]; simp (disch := omega) only [st_82_0, st_82_1, st_82_4, st_82_5, st_82_8, st_82_11, st_82_12, st_82_13, st_82_16, st_82_17, st_82_18, st_82_21, st_82_22, st_82_25, st_82_28, st_82_29, st_82_32, st_82_35, st_82_36, st_82_37, st_82_40, st_82_41, st_82_42, st_82_43, st_82_46, st_82_47, st_82_50, st_82_53, st_82_54, st_82_57, st_82_60, st_82_61, st_82_62, st_82_65, st_82_66, st_82_67, st_82_68, st_82_71, st_82_72, st_82_75, st_82_78, st_82_79, st_82_82, st_82_85, st_82_86, st_82_87, st_82_90, st_82_91, st_82_92, st_82_93, st_82_96, ini_82, fs_cl, fs_len, fs_rf, fs_M, fs_put, fs_cpy, ↓reduceIte, rv_ref, true_or, or_true, true_and, and_true, nI_ltI, ix_nI, nI_clamp, ps_i, ps_n, Option.bind_some, sm_0, sm_1, sm_2, sm_3, sm_4, sto_0, sto_1, sto_2, sto_3, sto_4, sto_5, sto_6, sto_7, sto_8, sto_9, sto_10, sto_11, sto_12, sto_13, sto_14, nlo_n, nlo_i, nlo_r, nlo_0, nlo_l, and_self, or_self, Nat.reduceEqDiff, Nat.reduceLT, Nat.reduceLeDiff, Nat.one_ne_zero, Nat.zero_ne_one, w0, f0, r7, m0, q0, a1, a2, e10, mk.1, k8, eq_true y0, kw, y1, y2, kf])
        · by_cases y1 : y = nI 1
          · have nv : ¬ ∃ j, 0 ≤ j ∧ j ≤ 99 ∧ v = nI j := fun ⟨j, j1, j2, j3⟩ => hv ⟨1, j, .inr (.inl ⟨rfl, j2⟩), y1, j3⟩
            have kw := c125e (σ := FS h M) v (e := e) (by omega)
            rw [wi_out nv (by omega) (by omega)] at kw
            have y2 : ¬ y = nI 2 := by rw [y1]; decide +kernel
            (rw [j_C_eq]; simp (disch := omega) only [st_82_0, st_82_1, st_82_4, st_82_5, st_82_8, st_82_11, st_82_12, st_82_13, st_82_16, st_82_17, st_82_18, st_82_21, st_82_22, st_82_25, st_82_28, st_82_29, st_82_32, st_82_35, st_82_36, st_82_37, st_82_40, st_82_41, st_82_42, st_82_43, st_82_46, st_82_47, st_82_50, st_82_53, st_82_54, st_82_57, st_82_60, st_82_61, st_82_62, st_82_65, st_82_66, st_82_67, st_82_68, st_82_71, st_82_72, st_82_75, st_82_78, st_82_79, st_82_82, st_82_85, st_82_86, st_82_87, st_82_90, st_82_91, st_82_92, st_82_93, st_82_96, ini_82, fs_cl, fs_len, fs_rf, fs_M, fs_put, fs_cpy, ↓reduceIte, rv_ref, true_or, or_true, true_and, and_true, nI_ltI, ix_nI, nI_clamp, ps_i, ps_n, Option.bind_some, sm_0, sm_1, sm_2, sm_3, sm_4, sto_0, sto_1, sto_2, sto_3, sto_4, sto_5, sto_6, sto_7, sto_8, sto_9, sto_10, sto_11, sto_12, sto_13, sto_14, nlo_n, nlo_i, nlo_r, nlo_0, nlo_l, and_self, or_self, Nat.reduceEqDiff, Nat.reduceLT, Nat.reduceLeDiff, Nat.one_ne_zero, Nat.zero_ne_one, w0, f0, r7, m0, q0, a1, a2, e10, mk.1, k8, y0, eq_true y1, kw, y2, kf])
          · by_cases y2 : y = nI 2
            · by_cases nv : ∃ j, 0 ≤ j ∧ j ≤ 254 ∧ v = nI j
              · obtain ⟨j, j1, j2, rfl⟩ := nv
                have kw := c126 (σ := FS h M) j2 (e := e) (by omega)
                rw [if_neg (fun c => hv ⟨2, j, .inr (.inr ⟨rfl, j2, c⟩), y2, rfl⟩)] at kw
                (rw [j_C_eq]; simp (disch := omega) only [st_82_0, st_82_1, st_82_4, st_82_5, st_82_8, st_82_11, st_82_12, st_82_13, st_82_16, st_82_17, st_82_18, st_82_21, st_82_22, st_82_25, st_82_28, st_82_29, st_82_32, st_82_35, st_82_36, st_82_37, st_82_40, st_82_41, st_82_42, st_82_43, st_82_46, st_82_47, st_82_50, st_82_53, st_82_54, st_82_57, st_82_60, st_82_61, st_82_62, st_82_65, st_82_66, st_82_67, st_82_68, st_82_71, st_82_72, st_82_75, st_82_78, st_82_79, st_82_82, st_82_85, st_82_86, st_82_87, st_82_90, st_82_91, st_82_92, st_82_93, st_82_96, ini_82, fs_cl, fs_len, fs_rf, fs_M, fs_put, fs_cpy, ↓reduceIte, rv_ref, true_or, or_true, true_and, and_true, nI_ltI, ix_nI, nI_clamp, ps_i, ps_n, Option.bind_some, sm_0, sm_1, sm_2, sm_3, sm_4, sto_0, sto_1, sto_2, sto_3, sto_4, sto_5, sto_6, sto_7, sto_8, sto_9, sto_10, sto_11, sto_12, sto_13, sto_14, nlo_n, nlo_i, nlo_r, nlo_0, nlo_l, and_self, or_self, Nat.reduceEqDiff, Nat.reduceLT, Nat.reduceLeDiff, Nat.one_ne_zero, Nat.zero_ne_one, w0, f0, r7, m0, q0, a1, a2, e10, mk.1, k8, y0, y1, eq_true y2, kw, kf])
              · have kw := c126n (σ := FS h M) nv (e := e) (by omega)
                (rw [j_C_eq]; simp (disch := omega) only [st_82_0, st_82_1, st_82_4, st_82_5, st_82_8, st_82_11, st_82_12, st_82_13, st_82_16, st_82_17, st_82_18, st_82_21, st_82_22, st_82_25, st_82_28, st_82_29, st_82_32, st_82_35, st_82_36, st_82_37, st_82_40, st_82_41, st_82_42, st_82_43, st_82_46, st_82_47, st_82_50, st_82_53, st_82_54, st_82_57, st_82_60, st_82_61, st_82_62, st_82_65, st_82_66, st_82_67, st_82_68, st_82_71, st_82_72, st_82_75, st_82_78, st_82_79, st_82_82, st_82_85, st_82_86, st_82_87, st_82_90, st_82_91, st_82_92, st_82_93, st_82_96, ini_82, fs_cl, fs_len, fs_rf, fs_M, fs_put, fs_cpy, ↓reduceIte, rv_ref, true_or, or_true, true_and, and_true, nI_ltI, ix_nI, nI_clamp, ps_i, ps_n, Option.bind_some, sm_0, sm_1, sm_2, sm_3, sm_4, sto_0, sto_1, sto_2, sto_3, sto_4, sto_5, sto_6, sto_7, sto_8, sto_9, sto_10, sto_11, sto_12, sto_13, sto_14, nlo_n, nlo_i, nlo_r, nlo_0, nlo_l, and_self, or_self, Nat.reduceEqDiff, Nat.reduceLT, Nat.reduceLeDiff, Nat.one_ne_zero, Nat.zero_ne_one, w0, f0, r7, m0, q0, a1, a2, e10, mk.1, k8, y0, y1, eq_true y2, kw, kf])
            · (rw [j_C_eq]; simp (disch := omega) only [st_82_0, st_82_1, st_82_4, st_82_5, st_82_8, st_82_11, st_82_12, st_82_13, st_82_16, st_82_17, st_82_18, st_82_21, st_82_22, st_82_25, st_82_28, st_82_29, st_82_32, st_82_35, st_82_36, st_82_37, st_82_40, st_82_41, st_82_42, st_82_43, st_82_46, st_82_47, st_82_50, st_82_53, st_82_54, st_82_57, st_82_60, st_82_61, st_82_62, st_82_65, st_82_66, st_82_67, st_82_68, st_82_71, st_82_72, st_82_75, st_82_78, st_82_79, st_82_82, st_82_85, st_82_86, st_82_87, st_82_90, st_82_91, st_82_92, st_82_93, st_82_96, ini_82, fs_cl, fs_len, fs_rf, fs_M, fs_put, fs_cpy, ↓reduceIte, rv_ref, true_or, or_true, true_and, and_true, nI_ltI, ix_nI, nI_clamp, ps_i, ps_n, Option.bind_some, sm_0, sm_1, sm_2, sm_3, sm_4, sto_0, sto_1, sto_2, sto_3, sto_4, sto_5, sto_6, sto_7, sto_8, sto_9, sto_10, sto_11, sto_12, sto_13, sto_14, nlo_n, nlo_i, nlo_r, nlo_0, nlo_l, and_self, or_self, Nat.reduceEqDiff, Nat.reduceLT, Nat.reduceLeDiff, Nat.one_ne_zero, Nat.zero_ne_one, w0, f0, r7, m0, q0, a1, a2, e10, mk.1, k8, y0, y1, y2, kf])
      · apply Q _ e (by omega)
        intro b hb
        have hb : b = nI 0 := hb.elim (fun a => absurd a.1 hv) (fun a => a.2)
        subst hb
        have l8 := r145ye md hR'.1 h6 ht (e := e) (by omega)
        have kf := r142 (M := M') md (k := 1) (by omega) (e := e) (by omega)
        simp (disch := omega) only [st_177_63, st_177_64, st_177_65, st_177_68, st_177_71, st_177_73, st_177_76, st_177_77, st_177_78, st_177_81, st_177_82, st_177_83, st_177_84, st_177_85, st_177_86, st_177_87, st_177_90, st_177_92, st_177_93, st_177_96, st_177_98, st_177_99, st_177_100, st_177_101, st_177_102, st_177_103, st_177_104, st_177_105, st_177_106, st_177_107, st_177_108, st_177_110, ini_177, fs_cl, fs_len, fs_rf, fs_M, fs_put, fs_cpy, ↓reduceIte, rv_ref, true_or, or_true, true_and, and_true, nI_ltI, ix_nI, nI_clamp, ps_i, ps_n, Option.bind_some, sm_0, sm_1, sm_2, sm_3, sm_4, sto_0, sto_1, sto_2, sto_3, sto_4, sto_5, sto_6, sto_7, sto_8, sto_9, sto_10, sto_11, sto_12, sto_13, sto_14, nlo_n, nlo_i, nlo_r, nlo_0, nlo_l, and_self, or_self, Nat.reduceEqDiff, Nat.reduceLT, Nat.reduceLeDiff, Nat.one_ne_zero, Nat.zero_ne_one, m0, e10, l8, kf]
  · refine go_f0 hi (k := 1) ?_
    intro e he
    obtain ⟨e, rfl⟩ : ∃ d, e = d + 1 := ⟨e - 1, by omega⟩
    have k8 := c8ne (M := M) mk hs h6 hx (e := e) (by omega)
    have kf := c119 (M := M) hh (k := 1) (by omega) (e := e) (by omega)
    refine ⟨by (rw [j_C_eq]; simp (disch := omega) only [st_82_0, st_82_1, st_82_4, st_82_5, st_82_8, st_82_11, st_82_12, st_82_13, st_82_16, st_82_17, st_82_18, st_82_21, st_82_22, st_82_25, st_82_28, st_82_29, st_82_32, st_82_35, st_82_36, st_82_37, st_82_40, st_82_41, st_82_42, st_82_43, st_82_46, st_82_47, st_82_50, st_82_53, st_82_54, st_82_57, st_82_60, st_82_61, st_82_62, st_82_65, st_82_66, st_82_67, st_82_68, st_82_71, st_82_72, st_82_75, st_82_78, st_82_79, st_82_82, st_82_85, st_82_86, st_82_87, st_82_90, st_82_91, st_82_92, st_82_93, st_82_96, ini_82, fs_cl, fs_len, fs_rf, fs_M, fs_put, fs_cpy, ↓reduceIte, rv_ref, true_or, or_true, true_and, and_true, nI_ltI, ix_nI, nI_clamp, ps_i, ps_n, Option.bind_some, sm_0, sm_1, sm_2, sm_3, sm_4, sto_0, sto_1, sto_2, sto_3, sto_4, sto_5, sto_6, sto_7, sto_8, sto_9, sto_10, sto_11, sto_12, sto_13, sto_14, nlo_n, nlo_i, nlo_r, nlo_0, nlo_l, and_self, or_self, Nat.reduceEqDiff, Nat.reduceLT, Nat.reduceLeDiff, Nat.one_ne_zero, Nat.zero_ne_one, w0, f0, r7, m0, q0, a1, a2, e10, mk.1, k8, kf]), fun M' hR' => ?_⟩
    apply Q _ e (by omega)
    intro b hb
    have l8 := r145ne md hR'.1 h6 hx (e := e) (by omega)
    have kf := r142 (M := M') md (k := 1) (by omega) (e := e) (by omega)
    simp (disch := omega) only [st_177_63, st_177_64, st_177_65, st_177_68, st_177_71, st_177_73, st_177_76, st_177_77, st_177_78, st_177_81, st_177_82, st_177_83, st_177_84, st_177_85, st_177_86, st_177_87, st_177_90, st_177_92, st_177_93, st_177_96, st_177_98, st_177_99, st_177_100, st_177_101, st_177_102, st_177_103, st_177_104, st_177_105, st_177_106, st_177_107, st_177_108, st_177_110, ini_177, fs_cl, fs_len, fs_rf, fs_M, fs_put, fs_cpy, ↓reduceIte, rv_ref, true_or, or_true, true_and, and_true, nI_ltI, ix_nI, nI_clamp, ps_i, ps_n, Option.bind_some, sm_0, sm_1, sm_2, sm_3, sm_4, sto_0, sto_1, sto_2, sto_3, sto_4, sto_5, sto_6, sto_7, sto_8, sto_9, sto_10, sto_11, sto_12, sto_13, sto_14, nlo_n, nlo_i, nlo_r, nlo_0, nlo_l, and_self, or_self, Nat.reduceEqDiff, Nat.reduceLT, Nat.reduceLeDiff, Nat.one_ne_zero, Nat.zero_ne_one, m0, l8, kf]
theorem g_become (hh : Hd h) (hi : IE M E z K0 K1 T W) (x y : Int32) : Go h M 83 178 [.int x, .int y] := by
  have w0 := hh.1.1
  have f0 := hh.1.2.1
  have r7 := hh.1.2.2.2.2.2.2.2.1
  have mk := hh.2.1.1
  have th := hh.2.2.2.1.1
  have md : Md h 115 := hh.2.2.2.2.2.2.2.1
  have m0 := md.1
  have q0 := md.2.1.1
  have a1 := md.2.1.2.1
  have a2 := md.2.1.2.2.1
  have hw := hi.1.1
  have h6 := hw.1
  have h8 := hw.2.1
  have hm := hi.2.1.1
  have hs := hm.1
  have hR : RC M 115 E z K0 K1 := hi.2.2.1.1
  have sd := hi.2.2.2.1
  have e10 : ¬ nI 1 = nI 0 := by decide +kernel
  by_cases hx : ∃ j, j < E 0 ∧ x = nI j
  · obtain ⟨t, ht, rfl⟩ := hx
    by_cases hy : ∃ j, 0 ≤ j ∧ j ≤ 69 ∧ y = nI j
    · obtain ⟨km, hk0, hk, rfl⟩ := hy
      obtain ⟨t1, t2, t3, t4, t5⟩ := hm.2.1 t ht
      have R := mk.2
      have d10 : ¬ nI 10 = nI 0 := by decide +kernel
      refine go_c hi ?_
      intro e he
      obtain ⟨e, rfl⟩ : ∃ d, e = d + 1 := ⟨e - 1, by omega⟩
      have hm1 := CM_M hm h6 h8 (by omega : t < 6) (km % 10)
      have hm2 := CM_K hm1 (by rw [upE_o _ (by omega)]; exact h6) (by rw [upE_o _ (by omega)]; exact h8) (by omega : t < 6) (km / 10)
      have p3 : mg 2 M (j_up (j_up M 6 t (nI (km % 10))) 4 t (nI (km / 10))) := mg_t (mg_up 6 (by omega) (by omega)) (mg_up 4 (by omega) (by omega))
      have hR1 := RC_mg p3 hR
      refine ⟨nI (E (8 + 5 * t)), j_up (j_up M 6 t (nI (km % 10))) 4 t (nI (km / 10)), j_up (j_up (j_up (j_up M 6 t (nI (km % 10))) 4 t (nI (km / 10))) 116 (8 + 5 * t + 0) (nI (km / 10))) 116 (8 + 5 * t + 1) (nI (km % 10)), upE (upE E (9 + 5 * t) (km % 10)) (8 + 5 * t) (km / 10), z, ?_, hm2, p3, ?_, rg_t (rg_ld (o := 115) (ld_up (by omega))) (rg_ld (o := 115) (ld_up (by omega))), ?_, ?_, ?_, ?_⟩
      · have k8 := c8ye (M := M) mk hs h6 ht (e := e) (by omega)
        have kw := c123e (σ := FS h M) (nI km) (e := e) (by omega)
        rw [wi_in hk0 hk (by omega)] at kw
        have g1 := n34e (M := M) R.2.1.2 (by omega : t < 6) (nI (km % 10)) (e := e) (by omega)
        have g0 := n35e (M := j_up M 6 t (nI (km % 10))) R.1.2 (by omega : t < 6) (nI (km / 10)) (e := e) (by omega)
        rw [up_o _ _ _ _ _ (by omega), t1] at g0
        (rw [j_C_eq]; simp (disch := omega) only [st_83_0, st_83_1, st_83_4, st_83_5, st_83_8, st_83_11, st_83_12, st_83_15, st_83_18, st_83_19, st_83_20, st_83_23, st_83_24, st_83_25, st_83_28, st_83_31, st_83_32, st_83_33, st_83_35, st_83_36, st_83_39, st_83_40, st_83_43, st_83_46, st_83_47, st_83_48, st_83_50, st_83_51, st_83_54, ini_83, fs_cl, fs_len, fs_rf, fs_M, fs_put, fs_cpy, ↓reduceIte, rv_ref, true_or, or_true, true_and, and_true, nI_ltI, ix_nI, nI_clamp, ps_i, ps_n, Option.bind_some, sm_0, sm_1, sm_2, sm_3, sm_4, sto_0, sto_1, sto_2, sto_3, sto_4, sto_5, sto_6, sto_7, sto_8, sto_9, sto_10, sto_11, sto_12, sto_13, sto_14, nlo_n, nlo_i, nlo_r, nlo_0, nlo_l, and_self, or_self, Nat.reduceEqDiff, Nat.reduceLT, Nat.reduceLeDiff, Nat.one_ne_zero, Nat.zero_ne_one, w0, f0, r7, m0, q0, a1, a2, e10, mk.1, k8, kw, d10, nI_div, nI_rm, R.1.1, R.1.2.1, R.2.1.1, R.2.1.2.1, g1, g0])
      · have l8 := r145ye md hR1.1 h6 ht (e := e) (by omega)
        have kl := r143e (σ := FS h (j_up (j_up M 6 t (nI (km % 10))) 4 t (nI (km / 10)))) (nI km).toInt64 (lN 0) (lN 69) (e := e) (by omega)
        rw [lin_in hk0 hk (by omega)] at kl
        have g := r147e (M := j_up (j_up M 6 t (nI (km % 10))) 4 t (nI (km / 10))) md (t := t) (k := 0) (by omega) (e := e) (by omega)
        rw [hR1.1.1 _ (by omega) (by omega), show 8 + 5 * t + 0 = 8 + 5 * t by omega] at g
        have b0 : 8 + 5 * t + 0 < 250 := by omega
        have b1 : 8 + 5 * t + 1 < 250 := by omega
        have hrm : nI km - nI (km / 10 * 10) = nI (km % 10) := by
          rw [nI_sub (Nat.div_mul_le_self _ _)]; congr 1; omega
        (rw [j_C_eq]; simp (disch := omega) only [st_178_0, st_178_1, st_178_2, st_178_5, st_178_8, st_178_9, st_178_10, st_178_11, st_178_14, st_178_17, st_178_20, st_178_21, st_178_22, st_178_25, st_178_26, st_178_27, st_178_28, st_178_29, st_178_32, st_178_33, st_178_34, st_178_37, st_178_39, st_178_40, st_178_41, st_178_42, st_178_43, st_178_44, st_178_45, st_178_46, st_178_48, st_178_49, st_178_50, st_178_51, st_178_54, st_178_56, st_178_57, st_178_58, st_178_59, st_178_60, st_178_61, st_178_62, st_178_63, st_178_65, st_178_66, st_178_67, st_178_68, ini_178, fs_cl, fs_len, fs_rf, fs_M, fs_put, fs_cpy, ↓reduceIte, rv_ref, true_or, or_true, true_and, and_true, nI_ltI, ix_nI, nI_clamp, ps_i, ps_n, Option.bind_some, sm_0, sm_1, sm_2, sm_3, sm_4, sto_0, sto_1, sto_2, sto_3, sto_4, sto_5, sto_6, sto_7, sto_8, sto_9, sto_10, sto_11, sto_12, sto_13, sto_14, nlo_n, nlo_i, nlo_r, nlo_0, nlo_l, and_self, or_self, Nat.reduceEqDiff, Nat.reduceLT, Nat.reduceLeDiff, Nat.one_ne_zero, Nat.zero_ne_one, w0, f0, r7, m0, q0, a1, a2, e10, l8, kl, g, d10, nI_div, nI_mul, hrm, nI_add, b0, b1])
      · refine RC_ld (o := 115) (ld_t (ld_up (by omega)) (ld_up (by omega))) ?_ hR1
        refine RLd_cg (RLd_up (o := 115) (RLd_up (o := 115) hR1.1 (by omega)) (by omega)) (fun j hj => ?_)
        unfold upE
        by_cases j0 : j = 8 + 5 * t
        · rw [if_pos j0, if_neg (show ¬ j = 8 + 5 * t + 1 by omega), if_pos (show j = 8 + 5 * t + 0 by omega)]
        · rw [if_neg j0, if_neg (show ¬ j = 8 + 5 * t + 0 by omega), show 8 + 5 * t + 1 = 9 + 5 * t by omega]
      · have w1 := WX_T hi.1 (t := t) (k := 1) (v := km % 10) (by omega) ⟨fun _ => by omega, fun _ => by omega, fun _ => by omega, fun _ => by omega, fun _ => by omega⟩ (by omega)
        have w2 := WX_T w1 (t := t) (k := 0) (v := km / 10) (by omega) ⟨fun _ => by omega, fun _ => by omega, fun _ => by omega, fun _ => by omega, fun _ => by omega⟩ (by omega)
        rw [show 8 + 5 * t + 1 = 9 + 5 * t by omega, show 8 + 5 * t + 0 = 8 + 5 * t by omega] at w2
        exact w2
      · rw [upE_o _ (by omega), upE_o _ (by omega)]
      · rw [upE_o _ (by omega), upE_o _ (by omega)]
    · refine go_f0 hi (k := 1) ?_
      intro e he
      obtain ⟨e, rfl⟩ : ∃ d, e = d + 1 := ⟨e - 1, by omega⟩
      have k8 := c8ye (M := M) mk hs h6 ht (e := e) (by omega)
      have kw := c123e (σ := FS h M) y (e := e) (by omega)
      rw [wi_out hy (by omega) (by omega)] at kw
      have kf := c119 (M := M) hh (k := 1) (by omega) (e := e) (by omega)
      refine ⟨by (rw [j_C_eq]; simp (disch := omega) only [st_83_0, st_83_1, st_83_4, st_83_5, st_83_8, st_83_11, st_83_12, st_83_15, st_83_18, st_83_19, st_83_20, st_83_23, st_83_24, st_83_25, st_83_28, st_83_31, st_83_32, st_83_33, st_83_35, st_83_36, st_83_39, st_83_40, st_83_43, st_83_46, st_83_47, st_83_48, st_83_50, st_83_51, st_83_54, ini_83, fs_cl, fs_len, fs_rf, fs_M, fs_put, fs_cpy, ↓reduceIte, rv_ref, true_or, or_true, true_and, and_true, nI_ltI, ix_nI, nI_clamp, ps_i, ps_n, Option.bind_some, sm_0, sm_1, sm_2, sm_3, sm_4, sto_0, sto_1, sto_2, sto_3, sto_4, sto_5, sto_6, sto_7, sto_8, sto_9, sto_10, sto_11, sto_12, sto_13, sto_14, nlo_n, nlo_i, nlo_r, nlo_0, nlo_l, and_self, or_self, Nat.reduceEqDiff, Nat.reduceLT, Nat.reduceLeDiff, Nat.one_ne_zero, Nat.zero_ne_one, w0, f0, r7, m0, q0, a1, a2, e10, mk.1, k8, kw, kf]), fun M' hR' => ?_⟩
      have l8 := r145ye md hR'.1 h6 ht (e := e) (by omega)
      have kl := r143e (σ := FS h M') y.toInt64 (lN 0) (lN 69) (e := e) (by omega)
      rw [lin_out hy (by omega) (by omega)] at kl
      have kf := r142 (M := M') md (k := 1) (by omega) (e := e) (by omega)
      (rw [j_C_eq]; simp (disch := omega) only [st_178_0, st_178_1, st_178_2, st_178_5, st_178_8, st_178_9, st_178_10, st_178_11, st_178_14, st_178_17, st_178_20, st_178_21, st_178_22, st_178_25, st_178_26, st_178_27, st_178_28, st_178_29, st_178_32, st_178_33, st_178_34, st_178_37, st_178_39, st_178_40, st_178_41, st_178_42, st_178_43, st_178_44, st_178_45, st_178_46, st_178_48, st_178_49, st_178_50, st_178_51, st_178_54, st_178_56, st_178_57, st_178_58, st_178_59, st_178_60, st_178_61, st_178_62, st_178_63, st_178_65, st_178_66, st_178_67, st_178_68, ini_178, fs_cl, fs_len, fs_rf, fs_M, fs_put, fs_cpy, ↓reduceIte, rv_ref, true_or, or_true, true_and, and_true, nI_ltI, ix_nI, nI_clamp, ps_i, ps_n, Option.bind_some, sm_0, sm_1, sm_2, sm_3, sm_4, sto_0, sto_1, sto_2, sto_3, sto_4, sto_5, sto_6, sto_7, sto_8, sto_9, sto_10, sto_11, sto_12, sto_13, sto_14, nlo_n, nlo_i, nlo_r, nlo_0, nlo_l, and_self, or_self, Nat.reduceEqDiff, Nat.reduceLT, Nat.reduceLeDiff, Nat.one_ne_zero, Nat.zero_ne_one, w0, f0, r7, m0, q0, a1, a2, e10, l8, kl, kf])
  · refine go_f0 hi (k := 1) ?_
    intro e he
    obtain ⟨e, rfl⟩ : ∃ d, e = d + 1 := ⟨e - 1, by omega⟩
    have k8 := c8ne (M := M) mk hs h6 hx (e := e) (by omega)
    have kf := c119 (M := M) hh (k := 1) (by omega) (e := e) (by omega)
    refine ⟨by (rw [j_C_eq]; simp (disch := omega) only [st_83_0, st_83_1, st_83_4, st_83_5, st_83_8, st_83_11, st_83_12, st_83_15, st_83_18, st_83_19, st_83_20, st_83_23, st_83_24, st_83_25, st_83_28, st_83_31, st_83_32, st_83_33, st_83_35, st_83_36, st_83_39, st_83_40, st_83_43, st_83_46, st_83_47, st_83_48, st_83_50, st_83_51, st_83_54, ini_83, fs_cl, fs_len, fs_rf, fs_M, fs_put, fs_cpy, ↓reduceIte, rv_ref, true_or, or_true, true_and, and_true, nI_ltI, ix_nI, nI_clamp, ps_i, ps_n, Option.bind_some, sm_0, sm_1, sm_2, sm_3, sm_4, sto_0, sto_1, sto_2, sto_3, sto_4, sto_5, sto_6, sto_7, sto_8, sto_9, sto_10, sto_11, sto_12, sto_13, sto_14, nlo_n, nlo_i, nlo_r, nlo_0, nlo_l, and_self, or_self, Nat.reduceEqDiff, Nat.reduceLT, Nat.reduceLeDiff, Nat.one_ne_zero, Nat.zero_ne_one, w0, f0, r7, m0, q0, a1, a2, e10, mk.1, k8, kf]), fun M' hR' => ?_⟩
    have l8 := r145ne md hR'.1 h6 hx (e := e) (by omega)
    have kf := r142 (M := M') md (k := 1) (by omega) (e := e) (by omega)
    (rw [j_C_eq]; simp (disch := omega) only [st_178_0, st_178_1, st_178_2, st_178_5, st_178_8, st_178_9, st_178_10, st_178_11, st_178_14, st_178_17, st_178_20, st_178_21, st_178_22, st_178_25, st_178_26, st_178_27, st_178_28, st_178_29, st_178_32, st_178_33, st_178_34, st_178_37, st_178_39, st_178_40, st_178_41, st_178_42, st_178_43, st_178_44, st_178_45, st_178_46, st_178_48, st_178_49, st_178_50, st_178_51, st_178_54, st_178_56, st_178_57, st_178_58, st_178_59, st_178_60, st_178_61, st_178_62, st_178_63, st_178_65, st_178_66, st_178_67, st_178_68, ini_178, fs_cl, fs_len, fs_rf, fs_M, fs_put, fs_cpy, ↓reduceIte, rv_ref, true_or, or_true, true_and, and_true, nI_ltI, ix_nI, nI_clamp, ps_i, ps_n, Option.bind_some, sm_0, sm_1, sm_2, sm_3, sm_4, sto_0, sto_1, sto_2, sto_3, sto_4, sto_5, sto_6, sto_7, sto_8, sto_9, sto_10, sto_11, sto_12, sto_13, sto_14, nlo_n, nlo_i, nlo_r, nlo_0, nlo_l, and_self, or_self, Nat.reduceEqDiff, Nat.reduceLT, Nat.reduceLeDiff, Nat.one_ne_zero, Nat.zero_ne_one, w0, f0, r7, m0, q0, a1, a2, e10, l8, kf])
