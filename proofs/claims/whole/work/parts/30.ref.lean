/-! The reference: its questions of the land. -/
variable {h : j_Hd} {M : Nat → Nat → Int32} {σ : j_St} {d o : Nat} {E : Nat → Nat} {z : Int32}
def Ar (h : j_Hd) (a n : Nat) : Prop := hC h a = 20 ∧ hN h a = n ∧ 1 ≤ a
def Md (h : j_Hd) (o : Nat) : Prop := hC h o = 8 ∧ (hR h o 0 = o + 1 ∧ Ar h (o + 1) 250) ∧ (hR h o 1 = o + 2 ∧ Ar h (o + 2) 250) ∧ (hR h o 3 = o + 3 ∧ Ar h (o + 3) 6) ∧ (hR h o 4 = o + 4 ∧ Ar h (o + 4) 78) ∧ (hR h o 11 = o + 5 ∧ Ar h (o + 5) 3) ∧ (hR h o 12 = o + 6 ∧ Ar h (o + 6) 3) ∧ (hR h o 13 = o + 7 ∧ Ar h (o + 7) 40) ∧ (hR h o 16 = o + 8 ∧ Ar h (o + 8) 4) ∧ (hR h o 17 = o + 9 ∧ Ar h (o + 9) 4) ∧ (hR h o 18 = o + 10 ∧ Ar h (o + 10) 160) ∧ (hR h o 19 = o + 11 ∧ Ar h (o + 11) 40)
/-- the land of the reference -/
def RLd (M : Nat → Nat → Int32) (o : Nat) (E : Nat → Nat) (z : Int32) : Prop := (∀ k, k < 78 → k ≠ 5 → M (o + 1) k = nI (E k)) ∧ M (o + 1) 5 = z
def lin (x lo hi : Int64) : Int32 := if x < lo then nI 0 else if hi < x then nI 0 else nI 1
theorem lin_01 (x lo hi : Int64) : lin x lo hi = nI 0 ∨ lin x lo hi = nI 1 := by
  unfold lin; split
  · exact .inl rfl
  · split
    · exact .inl rfl
    · exact .inr rfl
theorem lcl (x y : Int64) : (lg_cmp x y < nI 0) ↔ x < y := by rw [nI_0]; exact lg_cmp_lt x y
theorem lcg (x y : Int64) : (nI 0 < lg_cmp x y) ↔ y < x := by rw [nI_0]; exact lg_cmp_gt x y
theorem r143 (x lo hi : Int64) : j_C (d + 1) 143 [.long x, .long lo, .long hi] σ = some (some (.int (lin x lo hi)), σ) := by
  rw [j_C_eq]
  unfold lin
  by_cases e1 : x < lo
  · simp only [st_143_0, st_143_1, st_143_2, st_143_3, st_143_6, st_143_7, st_143_9, st_143_10, st_143_13, st_143_14, st_143_17, st_143_18, ini_143, fs_cl, fs_len, fs_rf, fs_M, fs_put, fs_cpy, ↓reduceIte, rv_ref, true_or, or_true, true_and, and_true, nI_ltI, ix_nI, nI_clamp, ps_i, ps_n, Option.bind_some, sm_0, sm_1, sm_2, sm_3, sm_4, sto_0, sto_1, sto_2, sto_3, sto_4, sto_5, sto_6, sto_7, sto_8, sto_9, sto_10, sto_11, sto_12, sto_13, sto_14, nlo_n, nlo_i, nlo_r, nlo_0, nlo_l, and_self, or_self, Nat.reduceEqDiff, Nat.reduceLT, Nat.reduceLeDiff, Nat.one_ne_zero, Nat.zero_ne_one, lcl, lcg, e1]
  · by_cases e2 : hi < x
    · simp only [st_143_0, st_143_1, st_143_2, st_143_3, st_143_6, st_143_7, st_143_9, st_143_10, st_143_13, st_143_14, st_143_17, st_143_18, ini_143, fs_cl, fs_len, fs_rf, fs_M, fs_put, fs_cpy, ↓reduceIte, rv_ref, true_or, or_true, true_and, and_true, nI_ltI, ix_nI, nI_clamp, ps_i, ps_n, Option.bind_some, sm_0, sm_1, sm_2, sm_3, sm_4, sto_0, sto_1, sto_2, sto_3, sto_4, sto_5, sto_6, sto_7, sto_8, sto_9, sto_10, sto_11, sto_12, sto_13, sto_14, nlo_n, nlo_i, nlo_r, nlo_0, nlo_l, and_self, or_self, Nat.reduceEqDiff, Nat.reduceLT, Nat.reduceLeDiff, Nat.one_ne_zero, Nat.zero_ne_one, lcl, lcg, e1, e2]
    · simp only [st_143_0, st_143_1, st_143_2, st_143_3, st_143_6, st_143_7, st_143_9, st_143_10, st_143_13, st_143_14, st_143_17, st_143_18, ini_143, fs_cl, fs_len, fs_rf, fs_M, fs_put, fs_cpy, ↓reduceIte, rv_ref, true_or, or_true, true_and, and_true, nI_ltI, ix_nI, nI_clamp, ps_i, ps_n, Option.bind_some, sm_0, sm_1, sm_2, sm_3, sm_4, sto_0, sto_1, sto_2, sto_3, sto_4, sto_5, sto_6, sto_7, sto_8, sto_9, sto_10, sto_11, sto_12, sto_13, sto_14, nlo_n, nlo_i, nlo_r, nlo_0, nlo_l, and_self, or_self, Nat.reduceEqDiff, Nat.reduceLT, Nat.reduceLeDiff, Nat.one_ne_zero, Nat.zero_ne_one, lcl, lcg, e1, e2]
theorem lin_y {x lo hi : Int64} (h1 : lo.toInt ≤ x.toInt) (h2 : x.toInt ≤ hi.toInt) : lin x lo hi = nI 1 := by
  unfold lin
  rw [if_neg (by rw [Int64.lt_iff_toInt_lt]; omega), if_neg (by rw [Int64.lt_iff_toInt_lt]; omega)]
theorem lin_n {x lo hi : Int64} (h1 : ¬ (lo.toInt ≤ x.toInt ∧ x.toInt ≤ hi.toInt)) : lin x lo hi = nI 0 := by
  unfold lin
  by_cases e : x < lo
  · rw [if_pos e]
  · rw [if_neg e]
    rw [Int64.lt_iff_toInt_lt] at e
    rw [if_pos (by rw [Int64.lt_iff_toInt_lt]; omega)]
/-- an int of the reference's array -/
theorem r147 (hk : Md h o) {t k : Nat} (hi : 8 + 5 * t + k < 250) : j_C (d + 1) 147 [.ref o, .int (nI t), .int (nI k)] (FS h M) = some (some (.int (M (o + 1) (8 + 5 * t + k))), FS h M) := by
  obtain ⟨m0, ⟨q0, a1, a2, a3⟩, _⟩ := hk
  rw [j_C_eq]
  simp (disch := omega) only [st_147_0, st_147_1, st_147_4, st_147_6, st_147_7, st_147_8, st_147_9, st_147_10, st_147_11, st_147_12, st_147_13, ini_147, fs_cl, fs_len, fs_rf, fs_M, fs_put, fs_cpy, ↓reduceIte, rv_ref, true_or, or_true, true_and, and_true, nI_ltI, ix_nI, nI_clamp, ps_i, ps_n, Option.bind_some, sm_0, sm_1, sm_2, sm_3, sm_4, sto_0, sto_1, sto_2, sto_3, sto_4, sto_5, sto_6, sto_7, sto_8, sto_9, sto_10, sto_11, sto_12, sto_13, sto_14, nlo_n, nlo_i, nlo_r, nlo_0, nlo_l, and_self, or_self, Nat.reduceEqDiff, Nat.reduceLT, Nat.reduceLeDiff, Nat.one_ne_zero, Nat.zero_ne_one, m0, q0, a1, a2, nI_mul, nI_add, hi]
theorem r148 (hk : Md h o) {t k : Nat} (hi : 38 + 5 * t + k < 250) : j_C (d + 1) 148 [.ref o, .int (nI t), .int (nI k)] (FS h M) = some (some (.int (M (o + 1) (38 + 5 * t + k))), FS h M) := by
  obtain ⟨m0, ⟨q0, a1, a2, a3⟩, _⟩ := hk
  rw [j_C_eq]
  simp (disch := omega) only [st_148_0, st_148_1, st_148_4, st_148_6, st_148_7, st_148_8, st_148_9, st_148_10, st_148_11, st_148_12, st_148_13, ini_148, fs_cl, fs_len, fs_rf, fs_M, fs_put, fs_cpy, ↓reduceIte, rv_ref, true_or, or_true, true_and, and_true, nI_ltI, ix_nI, nI_clamp, ps_i, ps_n, Option.bind_some, sm_0, sm_1, sm_2, sm_3, sm_4, sto_0, sto_1, sto_2, sto_3, sto_4, sto_5, sto_6, sto_7, sto_8, sto_9, sto_10, sto_11, sto_12, sto_13, sto_14, nlo_n, nlo_i, nlo_r, nlo_0, nlo_l, and_self, or_self, Nat.reduceEqDiff, Nat.reduceLT, Nat.reduceLeDiff, Nat.one_ne_zero, Nat.zero_ne_one, m0, q0, a1, a2, nI_mul, nI_add, hi]
theorem i64_nI {n : Nat} (hn : n < 2147483648) : (nI n).toInt64.toInt = n := by
  rw [Int32.toInt_toInt64, nI_tI hn]
theorem i64_m {n : Nat} (hn : n < 2147483647) : (nI n - nI 1).toInt64.toInt = (n : Int) - 1 := by
  rw [Int32.toInt_toInt64, nI_subz, zI_toInt (by omega) (by omega)]; omega
theorem l0_toInt : (lN 0).toInt = 0 := by decide +kernel
theorem r145y (hk : Md h o) (hm : RLd M o E z) (h6 : E 0 ≤ 6) {t : Nat} (ht : t < E 0) : j_C (d + 2) 145 [.ref o, .int (nI t)] (FS h M) = some (some (.int (nI 1)), FS h M) := by
  obtain ⟨m0, ⟨q0, a1, a2, a3⟩, _⟩ := hk
  have g := hm.1 0 (by omega) (by omega)
  have e : lin (nI t).toInt64 (lN 0) (nI (E 0) - nI 1).toInt64 = nI 1 := lin_y (by rw [l0_toInt, i64_nI (by omega)]; omega) (by rw [i64_m (by omega), i64_nI (by omega)]; omega)
  rw [j_C_eq]
  simp (disch := omega) only [st_145_0, st_145_1, st_145_2, st_145_3, st_145_4, st_145_7, st_145_8, st_145_9, st_145_10, st_145_11, st_145_12, st_145_15, ini_145, fs_cl, fs_len, fs_rf, fs_M, fs_put, fs_cpy, ↓reduceIte, rv_ref, true_or, or_true, true_and, and_true, nI_ltI, ix_nI, nI_clamp, ps_i, ps_n, Option.bind_some, sm_0, sm_1, sm_2, sm_3, sm_4, sto_0, sto_1, sto_2, sto_3, sto_4, sto_5, sto_6, sto_7, sto_8, sto_9, sto_10, sto_11, sto_12, sto_13, sto_14, nlo_n, nlo_i, nlo_r, nlo_0, nlo_l, and_self, or_self, Nat.reduceEqDiff, Nat.reduceLT, Nat.reduceLeDiff, Nat.one_ne_zero, Nat.zero_ne_one, m0, q0, a1, a2, g, r143, e]
theorem r145n (hk : Md h o) (hm : RLd M o E z) (h6 : E 0 ≤ 6) {t : Int32} (ht : ¬ ∃ j, j < E 0 ∧ t = nI j) : j_C (d + 2) 145 [.ref o, .int t] (FS h M) = some (some (.int (nI 0)), FS h M) := by
  obtain ⟨m0, ⟨q0, a1, a2, a3⟩, _⟩ := hk
  have g := hm.1 0 (by omega) (by omega)
  have e : lin t.toInt64 (lN 0) (nI (E 0) - nI 1).toInt64 = nI 0 := lin_n (fun ⟨h1, h2⟩ => ht ⟨t.toInt.toNat, by
    rw [l0_toInt, Int32.toInt_toInt64] at h1
    rw [i64_m (by omega), Int32.toInt_toInt64] at h2
    exact ⟨by omega, by rw [nI_z, Int.toNat_of_nonneg (by omega)]; exact zI_of t⟩⟩)
  rw [j_C_eq]
  simp (disch := omega) only [st_145_0, st_145_1, st_145_2, st_145_3, st_145_4, st_145_7, st_145_8, st_145_9, st_145_10, st_145_11, st_145_12, st_145_15, ini_145, fs_cl, fs_len, fs_rf, fs_M, fs_put, fs_cpy, ↓reduceIte, rv_ref, true_or, or_true, true_and, and_true, nI_ltI, ix_nI, nI_clamp, ps_i, ps_n, Option.bind_some, sm_0, sm_1, sm_2, sm_3, sm_4, sto_0, sto_1, sto_2, sto_3, sto_4, sto_5, sto_6, sto_7, sto_8, sto_9, sto_10, sto_11, sto_12, sto_13, sto_14, nlo_n, nlo_i, nlo_r, nlo_0, nlo_l, and_self, or_self, Nat.reduceEqDiff, Nat.reduceLT, Nat.reduceLeDiff, Nat.one_ne_zero, Nat.zero_ne_one, m0, q0, a1, a2, g, r143, e]
theorem r146y (hk : Md h o) (hm : RLd M o E z) (h8 : E 1 ≤ 8) {t : Nat} (ht : t < E 1) : j_C (d + 2) 146 [.ref o, .int (nI t)] (FS h M) = some (some (.int (nI 1)), FS h M) := by
  obtain ⟨m0, ⟨q0, a1, a2, a3⟩, _⟩ := hk
  have g := hm.1 1 (by omega) (by omega)
  have e : lin (nI t).toInt64 (lN 0) (nI (E 1) - nI 1).toInt64 = nI 1 := lin_y (by rw [l0_toInt, i64_nI (by omega)]; omega) (by rw [i64_m (by omega), i64_nI (by omega)]; omega)
  rw [j_C_eq]
  simp (disch := omega) only [st_146_0, st_146_1, st_146_2, st_146_3, st_146_4, st_146_7, st_146_8, st_146_9, st_146_10, st_146_11, st_146_12, st_146_15, ini_146, fs_cl, fs_len, fs_rf, fs_M, fs_put, fs_cpy, ↓reduceIte, rv_ref, true_or, or_true, true_and, and_true, nI_ltI, ix_nI, nI_clamp, ps_i, ps_n, Option.bind_some, sm_0, sm_1, sm_2, sm_3, sm_4, sto_0, sto_1, sto_2, sto_3, sto_4, sto_5, sto_6, sto_7, sto_8, sto_9, sto_10, sto_11, sto_12, sto_13, sto_14, nlo_n, nlo_i, nlo_r, nlo_0, nlo_l, and_self, or_self, Nat.reduceEqDiff, Nat.reduceLT, Nat.reduceLeDiff, Nat.one_ne_zero, Nat.zero_ne_one, m0, q0, a1, a2, g, r143, e]
theorem r146n (hk : Md h o) (hm : RLd M o E z) (h8 : E 1 ≤ 8) {t : Int32} (ht : ¬ ∃ j, j < E 1 ∧ t = nI j) : j_C (d + 2) 146 [.ref o, .int t] (FS h M) = some (some (.int (nI 0)), FS h M) := by
  obtain ⟨m0, ⟨q0, a1, a2, a3⟩, _⟩ := hk
  have g := hm.1 1 (by omega) (by omega)
  have e : lin t.toInt64 (lN 0) (nI (E 1) - nI 1).toInt64 = nI 0 := lin_n (fun ⟨h1, h2⟩ => ht ⟨t.toInt.toNat, by
    rw [l0_toInt, Int32.toInt_toInt64] at h1
    rw [i64_m (by omega), Int32.toInt_toInt64] at h2
    exact ⟨by omega, by rw [nI_z, Int.toNat_of_nonneg (by omega)]; exact zI_of t⟩⟩)
  rw [j_C_eq]
  simp (disch := omega) only [st_146_0, st_146_1, st_146_2, st_146_3, st_146_4, st_146_7, st_146_8, st_146_9, st_146_10, st_146_11, st_146_12, st_146_15, ini_146, fs_cl, fs_len, fs_rf, fs_M, fs_put, fs_cpy, ↓reduceIte, rv_ref, true_or, or_true, true_and, and_true, nI_ltI, ix_nI, nI_clamp, ps_i, ps_n, Option.bind_some, sm_0, sm_1, sm_2, sm_3, sm_4, sto_0, sto_1, sto_2, sto_3, sto_4, sto_5, sto_6, sto_7, sto_8, sto_9, sto_10, sto_11, sto_12, sto_13, sto_14, nlo_n, nlo_i, nlo_r, nlo_0, nlo_l, and_self, or_self, Nat.reduceEqDiff, Nat.reduceLT, Nat.reduceLeDiff, Nat.one_ne_zero, Nat.zero_ne_one, m0, q0, a1, a2, g, r143, e]
/-- smells -/
theorem r166 (hk : Md h o) (hm : RLd M o E z) {c : Nat} (hc : c < 8) (hr : Rw (E (40 + 5 * c)) (E (41 + 5 * c)) (E (42 + 5 * c))) : j_C (d + 2) 166 [.ref o, .int (nI c)] (FS h M) = some (some (.int (nI (nE E c))), FS h M) := by
  have m0 := hk.1
  have g0 := r148 (d := d) (M := M) hk (t := c) (k := 2) (by omega)
  have g1 := r148 (d := d) (M := M) hk (t := c) (k := 3) (by omega)
  have g2 := r148 (d := d) (M := M) hk (t := c) (k := 4) (by omega)
  rw [show 38 + 5 * c + 2 = 40 + 5 * c by omega, hm.1 _ (by omega) (by omega)] at g0
  rw [show 38 + 5 * c + 3 = 41 + 5 * c by omega, hm.1 _ (by omega) (by omega)] at g1
  rw [show 38 + 5 * c + 4 = 42 + 5 * c by omega, hm.1 _ (by omega) (by omega)] at g2
  have t0 : nI 2 + nI 0 = nI 2 := nI_add _ _
  have t1 : nI 2 + nI 1 = nI 3 := nI_add _ _
  have t2 : nI 2 + nI 2 = nI 4 := nI_add _ _
  have u1 : nI 0 + nI 1 = nI 1 := nI_add _ _
  have u2 : nI 1 + nI 1 = nI 2 := nI_add _ _
  have u3 : nI 2 + nI 1 = nI 3 := nI_add _ _
  obtain ⟨h1, h2, h3, h4, h5⟩ := hr
  have p : ∀ x, x ≤ 7 → (nI 0 < nI x ↔ ¬ x = 0) := fun x hx => by rw [nI_ltI (by omega) (by omega)]; omega
  have p0 := p _ h1
  have p1 := p _ h2
  have p2 := p _ h3
  unfold nE rs
  rw [j_C_eq]
  simp only [st_166_0, st_166_1, st_166_3, st_166_4, st_166_7, st_166_8, st_166_9, st_166_10, st_166_11, st_166_12, st_166_15, st_166_16, st_166_19, st_166_20, st_166_21, st_166_24, st_166_27, st_166_30, st_166_33, st_166_34, ini_166, fs_cl, fs_len, fs_rf, fs_M, fs_put, fs_cpy, ↓reduceIte, rv_ref, true_or, or_true, true_and, and_true, nI_ltI, ix_nI, nI_clamp, ps_i, ps_n, Option.bind_some, sm_0, sm_1, sm_2, sm_3, sm_4, sto_0, sto_1, sto_2, sto_3, sto_4, sto_5, sto_6, sto_7, sto_8, sto_9, sto_10, sto_11, sto_12, sto_13, sto_14, nlo_n, nlo_i, nlo_r, nlo_0, nlo_l, and_self, or_self, Nat.reduceEqDiff, Nat.reduceLT, Nat.reduceLeDiff, Nat.one_ne_zero, Nat.zero_ne_one]
  rw [st_166_2]
  by_cases e0 : E (40 + 5 * c) = 0
  · have f0 : ¬ nI 0 < nI 0 := nI_nlt (by omega) (by omega)
    rw [e0] at g0
    simp (disch := omega) only [st_166_0, st_166_1, st_166_3, st_166_4, st_166_7, st_166_8, st_166_9, st_166_10, st_166_11, st_166_12, st_166_15, st_166_16, st_166_19, st_166_20, st_166_21, st_166_24, st_166_27, st_166_30, st_166_33, st_166_34, ini_166, fs_cl, fs_len, fs_rf, fs_M, fs_put, fs_cpy, ↓reduceIte, rv_ref, true_or, or_true, true_and, and_true, nI_ltI, ix_nI, nI_clamp, ps_i, ps_n, Option.bind_some, sm_0, sm_1, sm_2, sm_3, sm_4, sto_0, sto_1, sto_2, sto_3, sto_4, sto_5, sto_6, sto_7, sto_8, sto_9, sto_10, sto_11, sto_12, sto_13, sto_14, nlo_n, nlo_i, nlo_r, nlo_0, nlo_l, and_self, or_self, Nat.reduceEqDiff, Nat.reduceLT, Nat.reduceLeDiff, Nat.one_ne_zero, Nat.zero_ne_one, m0, t0, g0, f0, e0]
  · have f0 := p0.mpr e0
    simp (disch := omega) only [st_166_0, st_166_1, st_166_3, st_166_4, st_166_7, st_166_8, st_166_9, st_166_10, st_166_11, st_166_12, st_166_15, st_166_16, st_166_19, st_166_20, st_166_21, st_166_24, st_166_27, st_166_30, st_166_33, st_166_34, ini_166, fs_cl, fs_len, fs_rf, fs_M, fs_put, fs_cpy, ↓reduceIte, rv_ref, true_or, or_true, true_and, and_true, nI_ltI, ix_nI, nI_clamp, ps_i, ps_n, Option.bind_some, sm_0, sm_1, sm_2, sm_3, sm_4, sto_0, sto_1, sto_2, sto_3, sto_4, sto_5, sto_6, sto_7, sto_8, sto_9, sto_10, sto_11, sto_12, sto_13, sto_14, nlo_n, nlo_i, nlo_r, nlo_0, nlo_l, and_self, or_self, Nat.reduceEqDiff, Nat.reduceLT, Nat.reduceLeDiff, Nat.one_ne_zero, Nat.zero_ne_one, m0, t0, g0, f0, e0, u1]
    rw [st_166_2]
    by_cases e1 : E (41 + 5 * c) = 0
    · have f1 : ¬ nI 0 < nI 0 := nI_nlt (by omega) (by omega)
      rw [e1] at g1
      simp (disch := omega) only [st_166_0, st_166_1, st_166_3, st_166_4, st_166_7, st_166_8, st_166_9, st_166_10, st_166_11, st_166_12, st_166_15, st_166_16, st_166_19, st_166_20, st_166_21, st_166_24, st_166_27, st_166_30, st_166_33, st_166_34, ini_166, fs_cl, fs_len, fs_rf, fs_M, fs_put, fs_cpy, ↓reduceIte, rv_ref, true_or, or_true, true_and, and_true, nI_ltI, ix_nI, nI_clamp, ps_i, ps_n, Option.bind_some, sm_0, sm_1, sm_2, sm_3, sm_4, sto_0, sto_1, sto_2, sto_3, sto_4, sto_5, sto_6, sto_7, sto_8, sto_9, sto_10, sto_11, sto_12, sto_13, sto_14, nlo_n, nlo_i, nlo_r, nlo_0, nlo_l, and_self, or_self, Nat.reduceEqDiff, Nat.reduceLT, Nat.reduceLeDiff, Nat.one_ne_zero, Nat.zero_ne_one, m0, t1, g1, f1, e1]
    · have f1 := p1.mpr e1
      simp (disch := omega) only [st_166_0, st_166_1, st_166_3, st_166_4, st_166_7, st_166_8, st_166_9, st_166_10, st_166_11, st_166_12, st_166_15, st_166_16, st_166_19, st_166_20, st_166_21, st_166_24, st_166_27, st_166_30, st_166_33, st_166_34, ini_166, fs_cl, fs_len, fs_rf, fs_M, fs_put, fs_cpy, ↓reduceIte, rv_ref, true_or, or_true, true_and, and_true, nI_ltI, ix_nI, nI_clamp, ps_i, ps_n, Option.bind_some, sm_0, sm_1, sm_2, sm_3, sm_4, sto_0, sto_1, sto_2, sto_3, sto_4, sto_5, sto_6, sto_7, sto_8, sto_9, sto_10, sto_11, sto_12, sto_13, sto_14, nlo_n, nlo_i, nlo_r, nlo_0, nlo_l, and_self, or_self, Nat.reduceEqDiff, Nat.reduceLT, Nat.reduceLeDiff, Nat.one_ne_zero, Nat.zero_ne_one, m0, t1, g1, f1, e1, u2]
      rw [st_166_2]
      by_cases e2 : E (42 + 5 * c) = 0
      · have f2 : ¬ nI 0 < nI 0 := nI_nlt (by omega) (by omega)
        rw [e2] at g2
        simp (disch := omega) only [st_166_0, st_166_1, st_166_3, st_166_4, st_166_7, st_166_8, st_166_9, st_166_10, st_166_11, st_166_12, st_166_15, st_166_16, st_166_19, st_166_20, st_166_21, st_166_24, st_166_27, st_166_30, st_166_33, st_166_34, ini_166, fs_cl, fs_len, fs_rf, fs_M, fs_put, fs_cpy, ↓reduceIte, rv_ref, true_or, or_true, true_and, and_true, nI_ltI, ix_nI, nI_clamp, ps_i, ps_n, Option.bind_some, sm_0, sm_1, sm_2, sm_3, sm_4, sto_0, sto_1, sto_2, sto_3, sto_4, sto_5, sto_6, sto_7, sto_8, sto_9, sto_10, sto_11, sto_12, sto_13, sto_14, nlo_n, nlo_i, nlo_r, nlo_0, nlo_l, and_self, or_self, Nat.reduceEqDiff, Nat.reduceLT, Nat.reduceLeDiff, Nat.one_ne_zero, Nat.zero_ne_one, m0, t2, g2, f2, e2]
      · have f2 := p2.mpr e2
        simp (disch := omega) only [st_166_0, st_166_1, st_166_3, st_166_4, st_166_7, st_166_8, st_166_9, st_166_10, st_166_11, st_166_12, st_166_15, st_166_16, st_166_19, st_166_20, st_166_21, st_166_24, st_166_27, st_166_30, st_166_33, st_166_34, ini_166, fs_cl, fs_len, fs_rf, fs_M, fs_put, fs_cpy, ↓reduceIte, rv_ref, true_or, or_true, true_and, and_true, nI_ltI, ix_nI, nI_clamp, ps_i, ps_n, Option.bind_some, sm_0, sm_1, sm_2, sm_3, sm_4, sto_0, sto_1, sto_2, sto_3, sto_4, sto_5, sto_6, sto_7, sto_8, sto_9, sto_10, sto_11, sto_12, sto_13, sto_14, nlo_n, nlo_i, nlo_r, nlo_0, nlo_l, and_self, or_self, Nat.reduceEqDiff, Nat.reduceLT, Nat.reduceLeDiff, Nat.one_ne_zero, Nat.zero_ne_one, m0, t2, g2, f2, e2, u3]
        rw [st_166_2]
        simp (disch := omega) only [st_166_0, st_166_1, st_166_3, st_166_4, st_166_7, st_166_8, st_166_9, st_166_10, st_166_11, st_166_12, st_166_15, st_166_16, st_166_19, st_166_20, st_166_21, st_166_24, st_166_27, st_166_30, st_166_33, st_166_34, ini_166, fs_cl, fs_len, fs_rf, fs_M, fs_put, fs_cpy, ↓reduceIte, rv_ref, true_or, or_true, true_and, and_true, nI_ltI, ix_nI, nI_clamp, ps_i, ps_n, Option.bind_some, sm_0, sm_1, sm_2, sm_3, sm_4, sto_0, sto_1, sto_2, sto_3, sto_4, sto_5, sto_6, sto_7, sto_8, sto_9, sto_10, sto_11, sto_12, sto_13, sto_14, nlo_n, nlo_i, nlo_r, nlo_0, nlo_l, and_self, or_self, Nat.reduceEqDiff, Nat.reduceLT, Nat.reduceLeDiff, Nat.one_ne_zero, Nat.zero_ne_one, Nat.lt_irrefl]
