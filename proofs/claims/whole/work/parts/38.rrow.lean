/-! The reference: a row as a number. -/
variable {h : j_Hd} {M : Nat → Nat → Int32} {σ : j_St} {d o : Nat} {E : Nat → Nat} {z : Int32}
/-- the number of the first places of a row -/
def rowP (E : Nat → Nat) (c : Nat) : Nat → Nat
  | 0 => 0
  | i + 1 => 10 * rowP E c i + E (38 + 5 * c + (2 + i))
theorem rowP_rn {c : Nat} (hr : Rw (E (40 + 5 * c)) (E (41 + 5 * c)) (E (42 + 5 * c))) : rowP E c (nE E c) = rE E c := by
  obtain ⟨h1, h2, h3, h4, h5⟩ := hr
  have i0 : 38 + 5 * c + (2 + 0) = 40 + 5 * c := by omega
  have i1 : 38 + 5 * c + (2 + 1) = 41 + 5 * c := by omega
  have i2 : 38 + 5 * c + (2 + 2) = 42 + 5 * c := by omega
  unfold nE rE rs rn
  by_cases e1 : E (40 + 5 * c) = 0
  · rw [if_pos e1, if_pos (h4 e1), e1]; rfl
  · by_cases e2 : E (41 + 5 * c) = 0
    · rw [if_neg e1, if_pos e2, if_pos e2]
      simp only [rowP, i0]; omega
    · rw [if_neg e1, if_neg e2, if_neg e2]
      by_cases e3 : E (42 + 5 * c) = 0
      · rw [if_pos e3, if_pos e3]
        simp only [rowP, i0, i1]; omega
      · rw [if_neg e3, if_neg e3]
        simp only [rowP, i0, i1, i2]; omega
theorem r168 (hk : Md h o) (hm : RLd M o E z) {c : Nat} (hc : c < 8) (hr : Rw (E (40 + 5 * c)) (E (41 + 5 * c)) (E (42 + 5 * c))) : j_C (d + 3) 168 [.ref o, .int (nI c)] (FS h M) = some (some (.int (nI (rE E c))), FS h M) := by
  have m0 := hk.1
  have gn := r166 (d := d) hk hm hc hr
  have n3 := nE_le (E := E) c
  have L : ∀ r i, r + i = nE E c → j_X (d + 2) 168 4 [some (.ref o), some (.int (nI c)), some (.int (nI (rowP E c i))), some (.int (nI i))] [] (FS h M) = some (some (.int (nI (rowP E c (nE E c)))), FS h M) := by
    intro r
    induction r with
    | zero =>
      intro i hi
      have e : i = nE E c := by omega
      rw [st_168_4]
      simp (disch := omega) only [st_168_0, st_168_1, st_168_2, st_168_3, st_168_5, st_168_6, st_168_7, st_168_10, st_168_13, st_168_15, st_168_16, st_168_17, st_168_18, st_168_19, st_168_20, st_168_21, st_168_22, st_168_25, st_168_26, st_168_27, st_168_30, st_168_33, st_168_34, ini_168, fs_cl, fs_len, fs_rf, fs_M, fs_put, fs_cpy, ↓reduceIte, rv_ref, true_or, or_true, true_and, and_true, nI_ltI, ix_nI, nI_clamp, ps_i, ps_n, Option.bind_some, sm_0, sm_1, sm_2, sm_3, sm_4, sto_0, sto_1, sto_2, sto_3, sto_4, sto_5, sto_6, sto_7, sto_8, sto_9, sto_10, sto_11, sto_12, sto_13, sto_14, nlo_n, nlo_i, nlo_r, nlo_0, nlo_l, and_self, or_self, Nat.reduceEqDiff, Nat.reduceLT, Nat.reduceLeDiff, Nat.one_ne_zero, Nat.zero_ne_one, m0, gn, e, Nat.lt_irrefl]
    | succ r ih =>
      intro i hi
      have e1 : i < nE E c := by omega
      have g := r148 (d := d + 1) (M := M) hk (t := c) (k := 2 + i) (by omega)
      rw [hm.1 _ (by omega) (by omega)] at g
      have hX := ih (i + 1) (by omega)
      rw [rowP] at hX
      rw [st_168_4]
      simp (disch := omega) only [st_168_0, st_168_1, st_168_2, st_168_3, st_168_5, st_168_6, st_168_7, st_168_10, st_168_13, st_168_15, st_168_16, st_168_17, st_168_18, st_168_19, st_168_20, st_168_21, st_168_22, st_168_25, st_168_26, st_168_27, st_168_30, st_168_33, st_168_34, ini_168, fs_cl, fs_len, fs_rf, fs_M, fs_put, fs_cpy, ↓reduceIte, rv_ref, true_or, or_true, true_and, and_true, nI_ltI, ix_nI, nI_clamp, ps_i, ps_n, Option.bind_some, sm_0, sm_1, sm_2, sm_3, sm_4, sto_0, sto_1, sto_2, sto_3, sto_4, sto_5, sto_6, sto_7, sto_8, sto_9, sto_10, sto_11, sto_12, sto_13, sto_14, nlo_n, nlo_i, nlo_r, nlo_0, nlo_l, and_self, or_self, Nat.reduceEqDiff, Nat.reduceLT, Nat.reduceLeDiff, Nat.one_ne_zero, Nat.zero_ne_one, m0, gn, e1, nI_mul, nI_add, g, hX]
  have hX := L (nE E c) 0 (by omega)
  rw [rowP_rn hr] at hX
  rw [j_C_eq]
  simp only [st_168_0, st_168_1, st_168_2, st_168_3, st_168_5, st_168_6, st_168_7, st_168_10, st_168_13, st_168_15, st_168_16, st_168_17, st_168_18, st_168_19, st_168_20, st_168_21, st_168_22, st_168_25, st_168_26, st_168_27, st_168_30, st_168_33, st_168_34, ini_168, fs_cl, fs_len, fs_rf, fs_M, fs_put, fs_cpy, ↓reduceIte, rv_ref, true_or, or_true, true_and, and_true, nI_ltI, ix_nI, nI_clamp, ps_i, ps_n, Option.bind_some, sm_0, sm_1, sm_2, sm_3, sm_4, sto_0, sto_1, sto_2, sto_3, sto_4, sto_5, sto_6, sto_7, sto_8, sto_9, sto_10, sto_11, sto_12, sto_13, sto_14, nlo_n, nlo_i, nlo_r, nlo_0, nlo_l, and_self, or_self, Nat.reduceEqDiff, Nat.reduceLT, Nat.reduceLeDiff, Nat.one_ne_zero, Nat.zero_ne_one]
  exact hX
