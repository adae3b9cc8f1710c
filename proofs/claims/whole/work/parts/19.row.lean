/-! The class's static helpers; rows of smells. -/
variable {σ : j_St} {d : Nat}
theorem nI_m1 (k : Nat) : nI (k + 1) + (-1) = nI k := by
  rw [nI_z, nI_z, show (-1 : Int32) = zI (-1) by decide +kernel, zI_add]
  congr 1; omega
def wi (v lo hi : Int32) : Int32 := if v < lo then nI 0 else if hi < v then nI 0 else nI 1
theorem c122 (v lo hi : Int32) : j_C (d + 1) 122 [.int v, .int lo, .int hi] σ = some (some (.int (wi v lo hi)), σ) := by
  rw [j_C_eq]
  by_cases e1 : v < lo
  · simp only [st_122_0, st_122_1, st_122_2, st_122_5, st_122_6, st_122_7, st_122_10, st_122_11, st_122_14, st_122_15, ini_122, fs_cl, fs_len, fs_rf, fs_M, fs_put, fs_cpy, if_true, if_false, rv_ref, true_or, or_true, true_and, and_true, nI_ltI, ix_nI, nI_clamp, ps_i, ps_n, Option.bind_some, sm_0, sm_1, sm_2, sm_3, sm_4, sto_0, sto_1, sto_2, sto_3, sto_4, sto_5, sto_6, sto_7, sto_8, sto_9, sto_10, sto_11, sto_12, sto_13, sto_14, nlo_n, nlo_i, nlo_r, nlo_0, nlo_l, and_self, or_self, e1, wi]
  · by_cases e2 : hi < v
    · simp only [st_122_0, st_122_1, st_122_2, st_122_5, st_122_6, st_122_7, st_122_10, st_122_11, st_122_14, st_122_15, ini_122, fs_cl, fs_len, fs_rf, fs_M, fs_put, fs_cpy, if_true, if_false, rv_ref, true_or, or_true, true_and, and_true, nI_ltI, ix_nI, nI_clamp, ps_i, ps_n, Option.bind_some, sm_0, sm_1, sm_2, sm_3, sm_4, sto_0, sto_1, sto_2, sto_3, sto_4, sto_5, sto_6, sto_7, sto_8, sto_9, sto_10, sto_11, sto_12, sto_13, sto_14, nlo_n, nlo_i, nlo_r, nlo_0, nlo_l, and_self, or_self, e1, e2, wi]
    · simp only [st_122_0, st_122_1, st_122_2, st_122_5, st_122_6, st_122_7, st_122_10, st_122_11, st_122_14, st_122_15, ini_122, fs_cl, fs_len, fs_rf, fs_M, fs_put, fs_cpy, if_true, if_false, rv_ref, true_or, or_true, true_and, and_true, nI_ltI, ix_nI, nI_clamp, ps_i, ps_n, Option.bind_some, sm_0, sm_1, sm_2, sm_3, sm_4, sto_0, sto_1, sto_2, sto_3, sto_4, sto_5, sto_6, sto_7, sto_8, sto_9, sto_10, sto_11, sto_12, sto_13, sto_14, nlo_n, nlo_i, nlo_r, nlo_0, nlo_l, and_self, or_self, e1, e2, wi]
theorem wi_01 (v lo hi : Int32) : wi v lo hi = nI 0 ∨ wi v lo hi = nI 1 := by
  unfold wi; split
  · exact .inl rfl
  · split
    · exact .inl rfl
    · exact .inr rfl
theorem c123 (v : Int32) : j_C (d + 2) 123 [.int v] σ = some (some (.int (wi v (nI 0) (nI 69))), σ) := by
  rw [j_C_eq]; simp only [st_123_0, st_123_1, st_123_2, st_123_4, st_123_7, ini_123, fs_cl, fs_len, fs_rf, fs_M, fs_put, fs_cpy, if_true, if_false, rv_ref, true_or, or_true, true_and, and_true, nI_ltI, ix_nI, nI_clamp, ps_i, ps_n, Option.bind_some, sm_0, sm_1, sm_2, sm_3, sm_4, sto_0, sto_1, sto_2, sto_3, sto_4, sto_5, sto_6, sto_7, sto_8, sto_9, sto_10, sto_11, sto_12, sto_13, sto_14, nlo_n, nlo_i, nlo_r, nlo_0, nlo_l, and_self, or_self, c122, wi_01]
theorem c124 (v : Int32) : j_C (d + 2) 124 [.int v] σ = some (some (.int (wi v (nI 1) (nI 7))), σ) := by
  rw [j_C_eq]; simp only [st_124_0, st_124_1, st_124_2, st_124_4, st_124_7, ini_124, fs_cl, fs_len, fs_rf, fs_M, fs_put, fs_cpy, if_true, if_false, rv_ref, true_or, or_true, true_and, and_true, nI_ltI, ix_nI, nI_clamp, ps_i, ps_n, Option.bind_some, sm_0, sm_1, sm_2, sm_3, sm_4, sto_0, sto_1, sto_2, sto_3, sto_4, sto_5, sto_6, sto_7, sto_8, sto_9, sto_10, sto_11, sto_12, sto_13, sto_14, nlo_n, nlo_i, nlo_r, nlo_0, nlo_l, and_self, or_self, c122, wi_01]
theorem c125 (v : Int32) : j_C (d + 2) 125 [.int v] σ = some (some (.int (wi v (nI 0) (nI 99))), σ) := by
  rw [j_C_eq]; simp only [st_125_0, st_125_1, st_125_2, st_125_4, st_125_7, ini_125, fs_cl, fs_len, fs_rf, fs_M, fs_put, fs_cpy, if_true, if_false, rv_ref, true_or, or_true, true_and, and_true, nI_ltI, ix_nI, nI_clamp, ps_i, ps_n, Option.bind_some, sm_0, sm_1, sm_2, sm_3, sm_4, sto_0, sto_1, sto_2, sto_3, sto_4, sto_5, sto_6, sto_7, sto_8, sto_9, sto_10, sto_11, sto_12, sto_13, sto_14, nlo_n, nlo_i, nlo_r, nlo_0, nlo_l, and_self, or_self, c122, wi_01]
theorem c128 (v : Int32) : j_C (d + 2) 128 [.int v] σ = some (some (.int (wi v (-1) (nI 2))), σ) := by
  rw [j_C_eq]; simp only [st_128_0, st_128_1, st_128_2, st_128_3, st_128_6, ini_128, fs_cl, fs_len, fs_rf, fs_M, fs_put, fs_cpy, if_true, if_false, rv_ref, true_or, or_true, true_and, and_true, nI_ltI, ix_nI, nI_clamp, ps_i, ps_n, Option.bind_some, sm_0, sm_1, sm_2, sm_3, sm_4, sto_0, sto_1, sto_2, sto_3, sto_4, sto_5, sto_6, sto_7, sto_8, sto_9, sto_10, sto_11, sto_12, sto_13, sto_14, nlo_n, nlo_i, nlo_r, nlo_0, nlo_l, and_self, or_self, c122, wi_01]
/-- wi, by its bounds -/
theorem wi_in {lo hi j : Nat} (h1 : lo ≤ j) (h2 : j ≤ hi) (h3 : hi < 2147483648) : wi (nI j) (nI lo) (nI hi) = nI 1 := by
  unfold wi
  rw [if_neg (nI_nlt h1 (by omega)), if_neg (nI_nlt h2 (by omega))]
theorem wi_out {x : Int32} {lo hi : Nat} (h1 : ¬ ∃ j, lo ≤ j ∧ j ≤ hi ∧ x = nI j) (h2 : lo ≤ hi) (h3 : hi < 2147483648) : wi x (nI lo) (nI hi) = nI 0 := by
  unfold wi
  by_cases e1 : x < nI lo
  · rw [if_pos e1]
  · rw [if_neg e1]
    by_cases e2 : nI hi < x
    · rw [if_pos e2]
    · exfalso
      rw [ltn (by omega)] at e1
      rw [nlt h3] at e2
      refine h1 ⟨x.toInt.toNat, by omega, by omega, ?_⟩
      rw [nI_z, Int.toNat_of_nonneg (by omega)]
      exact zI_of x
/-- how many digits -/
def sz (v : Nat) : Nat := if v = 0 then 0 else if v < 10 then 1 else if v < 100 then 2 else 3
theorem sz_le (v : Nat) : sz v ≤ 3 := by unfold sz; split <;> (try split) <;> (try split) <;> omega
theorem c133 {v : Nat} (hv : v < 2147483648) : j_C (d + 1) 133 [.int (nI v)] σ = some (some (.int (nI (sz v))), σ) := by
  rw [j_C_eq]
  unfold sz
  by_cases e1 : v = 0
  · subst e1
    have f : ¬ nI 0 < nI 0 := nI_nlt (by omega) (by omega)
    simp (disch := omega) only [st_133_0, st_133_1, st_133_4, st_133_5, st_133_6, st_133_7, st_133_9, st_133_12, st_133_13, st_133_14, st_133_15, st_133_17, st_133_20, st_133_21, st_133_24, st_133_25, ini_133, fs_cl, fs_len, fs_rf, fs_M, fs_put, fs_cpy, if_true, if_false, rv_ref, true_or, or_true, true_and, and_true, nI_ltI, ix_nI, nI_clamp, ps_i, ps_n, Option.bind_some, sm_0, sm_1, sm_2, sm_3, sm_4, sto_0, sto_1, sto_2, sto_3, sto_4, sto_5, sto_6, sto_7, sto_8, sto_9, sto_10, sto_11, sto_12, sto_13, sto_14, nlo_n, nlo_i, nlo_r, nlo_0, nlo_l, and_self, or_self, f]
  · have f : nI 0 < nI v := nI_lt (by omega) (by omega)
    by_cases e2 : v < 10
    · simp (disch := omega) only [st_133_0, st_133_1, st_133_4, st_133_5, st_133_6, st_133_7, st_133_9, st_133_12, st_133_13, st_133_14, st_133_15, st_133_17, st_133_20, st_133_21, st_133_24, st_133_25, ini_133, fs_cl, fs_len, fs_rf, fs_M, fs_put, fs_cpy, if_true, if_false, rv_ref, true_or, or_true, true_and, and_true, nI_ltI, ix_nI, nI_clamp, ps_i, ps_n, Option.bind_some, sm_0, sm_1, sm_2, sm_3, sm_4, sto_0, sto_1, sto_2, sto_3, sto_4, sto_5, sto_6, sto_7, sto_8, sto_9, sto_10, sto_11, sto_12, sto_13, sto_14, nlo_n, nlo_i, nlo_r, nlo_0, nlo_l, and_self, or_self, f, e1, e2]
    · by_cases e3 : v < 100
      · simp (disch := omega) only [st_133_0, st_133_1, st_133_4, st_133_5, st_133_6, st_133_7, st_133_9, st_133_12, st_133_13, st_133_14, st_133_15, st_133_17, st_133_20, st_133_21, st_133_24, st_133_25, ini_133, fs_cl, fs_len, fs_rf, fs_M, fs_put, fs_cpy, if_true, if_false, rv_ref, true_or, or_true, true_and, and_true, nI_ltI, ix_nI, nI_clamp, ps_i, ps_n, Option.bind_some, sm_0, sm_1, sm_2, sm_3, sm_4, sto_0, sto_1, sto_2, sto_3, sto_4, sto_5, sto_6, sto_7, sto_8, sto_9, sto_10, sto_11, sto_12, sto_13, sto_14, nlo_n, nlo_i, nlo_r, nlo_0, nlo_l, and_self, or_self, f, e1, e2, e3]
      · simp (disch := omega) only [st_133_0, st_133_1, st_133_4, st_133_5, st_133_6, st_133_7, st_133_9, st_133_12, st_133_13, st_133_14, st_133_15, st_133_17, st_133_20, st_133_21, st_133_24, st_133_25, ini_133, fs_cl, fs_len, fs_rf, fs_M, fs_put, fs_cpy, if_true, if_false, rv_ref, true_or, or_true, true_and, and_true, nI_ltI, ix_nI, nI_clamp, ps_i, ps_n, Option.bind_some, sm_0, sm_1, sm_2, sm_3, sm_4, sto_0, sto_1, sto_2, sto_3, sto_4, sto_5, sto_6, sto_7, sto_8, sto_9, sto_10, sto_11, sto_12, sto_13, sto_14, nlo_n, nlo_i, nlo_r, nlo_0, nlo_l, and_self, or_self, f, e1, e2, e3]
/-- the digit that so many places stand behind -/
def dg (v b e : Nat) : Nat := v / b ^ e % b
theorem c139l {v b s p : Nat} (hb : 0 < b) (hb2 : b < 1000) (hv : v < 2147483648) : ∀ (r k : Nat), r + k + 1 + p = s → s < 2147483648 → j_X d 139 14 [some (.int (nI v)), some (.int (nI b)), some (.int (nI s)), some (.int (nI p)), some (.int (nI (v / b ^ k))), some (.int (nI (r + p)))] [] σ = some (some (.int (nI (dg v b (r + k)))), σ) := by
  have hd : ∀ k, v / b ^ k < 2147483648 := fun k => Nat.lt_of_le_of_lt (Nat.div_le_self _ _) hv
  have e0 : ¬ nI b = nI 0 := nI_ne (by omega) (by omega) (by omega)
  intro r
  induction r with
  | zero =>
    intro k hs hs2
    have e1 : ¬ nI p < nI (0 + p) := nI_nlt (by omega) (by omega)
    have hk := hd k
    rw [st_139_14]
    simp (disch := omega) only [st_139_0, st_139_1, st_139_4, st_139_5, st_139_6, st_139_7, st_139_9, st_139_10, st_139_11, st_139_12, st_139_16, st_139_17, st_139_20, st_139_22, st_139_23, st_139_24, st_139_26, st_139_29, st_139_32, st_139_34, st_139_35, st_139_36, ini_139, fs_cl, fs_len, fs_rf, fs_M, fs_put, fs_cpy, if_true, if_false, rv_ref, true_or, or_true, true_and, and_true, nI_ltI, ix_nI, nI_clamp, ps_i, ps_n, Option.bind_some, sm_0, sm_1, sm_2, sm_3, sm_4, sto_0, sto_1, sto_2, sto_3, sto_4, sto_5, sto_6, sto_7, sto_8, sto_9, sto_10, sto_11, sto_12, sto_13, sto_14, nlo_n, nlo_i, nlo_r, nlo_0, nlo_l, and_self, or_self, e1, e0, nI_rem, Nat.zero_add, dg, Nat.lt_irrefl]
  | succ r ih =>
    intro k hs hs2
    have e1 : nI p < nI (r + 1 + p) := nI_lt (by omega) (by omega)
    have hk := hd k
    have hX := ih (k + 1) (by omega) hs2
    rw [Nat.pow_succ, ← Nat.div_div_eq_div_mul] at hX
    have e3 : r + 1 + p = (r + p) + 1 := by omega
    rw [st_139_14]
    rw [e3] at e1 ⊢
    simp (disch := omega) only [st_139_0, st_139_1, st_139_4, st_139_5, st_139_6, st_139_7, st_139_9, st_139_10, st_139_11, st_139_12, st_139_16, st_139_17, st_139_20, st_139_22, st_139_23, st_139_24, st_139_26, st_139_29, st_139_32, st_139_34, st_139_35, st_139_36, ini_139, fs_cl, fs_len, fs_rf, fs_M, fs_put, fs_cpy, if_true, if_false, rv_ref, true_or, or_true, true_and, and_true, nI_ltI, ix_nI, nI_clamp, ps_i, ps_n, Option.bind_some, sm_0, sm_1, sm_2, sm_3, sm_4, sto_0, sto_1, sto_2, sto_3, sto_4, sto_5, sto_6, sto_7, sto_8, sto_9, sto_10, sto_11, sto_12, sto_13, sto_14, nlo_n, nlo_i, nlo_r, nlo_0, nlo_l, and_self, or_self, e1, e0, nI_div, nI_m1, hX]
    rw [Nat.add_comm k 1, ← Nat.add_assoc]
theorem c139 {v b s p : Nat} (hb : 0 < b) (hb2 : b < 1000) (hv : v < 2147483648) (hs : s < 2147483648) (hp : p < 2147483648) : j_C (d + 1) 139 [.int (nI v), .int (nI b), .int (nI s), .int (nI p)] σ = some (some (.int (nI (dg v b (s - 1 - p)))), σ) := by
  have e0 : nI 0 < nI b := nI_lt hb (by omega)
  have e9 : ¬ nI b = nI 0 := nI_ne (by omega) (by omega) (by omega)
  rw [j_C_eq]
  by_cases h : p + 1 ≤ s
  · have hX := c139l (σ := σ) (d := d) hb hb2 hv (s - 1 - p) 0 (by omega : s - 1 - p + 0 + 1 + p = s) hs
    rw [Nat.pow_zero, Nat.div_one, show s - 1 - p + p = s - 1 by omega] at hX
    simp (disch := omega) only [st_139_0, st_139_1, st_139_4, st_139_5, st_139_6, st_139_7, st_139_9, st_139_10, st_139_11, st_139_12, st_139_16, st_139_17, st_139_20, st_139_22, st_139_23, st_139_24, st_139_26, st_139_29, st_139_32, st_139_34, st_139_35, st_139_36, ini_139, fs_cl, fs_len, fs_rf, fs_M, fs_put, fs_cpy, if_true, if_false, rv_ref, true_or, or_true, true_and, and_true, nI_ltI, ix_nI, nI_clamp, ps_i, ps_n, Option.bind_some, sm_0, sm_1, sm_2, sm_3, sm_4, sto_0, sto_1, sto_2, sto_3, sto_4, sto_5, sto_6, sto_7, sto_8, sto_9, sto_10, sto_11, sto_12, sto_13, sto_14, nlo_n, nlo_i, nlo_r, nlo_0, nlo_l, and_self, or_self, e0, nI_sub, hX, Nat.add_zero]
  · have e1 : s - 1 - p = 0 := by omega
    have e2 : ¬ nI p < nI s - nI 1 := by
      rw [nI_subz, nI_z p, zI_lt (by omega) (by omega) (by omega) (by omega)]; omega
    simp only [st_139_0, st_139_1, st_139_4, st_139_5, st_139_6, st_139_7, st_139_9, st_139_10, st_139_11, st_139_12, st_139_16, st_139_17, st_139_20, st_139_22, st_139_23, st_139_24, st_139_26, st_139_29, st_139_32, st_139_34, st_139_35, st_139_36, ini_139, fs_cl, fs_len, fs_rf, fs_M, fs_put, fs_cpy, if_true, if_false, rv_ref, true_or, or_true, true_and, and_true, nI_ltI, ix_nI, nI_clamp, ps_i, ps_n, Option.bind_some, sm_0, sm_1, sm_2, sm_3, sm_4, sto_0, sto_1, sto_2, sto_3, sto_4, sto_5, sto_6, sto_7, sto_8, sto_9, sto_10, sto_11, sto_12, sto_13, sto_14, nlo_n, nlo_i, nlo_r, nlo_0, nlo_l, and_self, or_self, e0]
    rw [st_139_14]
    simp (disch := omega) only [st_139_0, st_139_1, st_139_4, st_139_5, st_139_6, st_139_7, st_139_9, st_139_10, st_139_11, st_139_12, st_139_16, st_139_17, st_139_20, st_139_22, st_139_23, st_139_24, st_139_26, st_139_29, st_139_32, st_139_34, st_139_35, st_139_36, ini_139, fs_cl, fs_len, fs_rf, fs_M, fs_put, fs_cpy, if_true, if_false, rv_ref, true_or, or_true, true_and, and_true, nI_ltI, ix_nI, nI_clamp, ps_i, ps_n, Option.bind_some, sm_0, sm_1, sm_2, sm_3, sm_4, sto_0, sto_1, sto_2, sto_3, sto_4, sto_5, sto_6, sto_7, sto_8, sto_9, sto_10, sto_11, sto_12, sto_13, sto_14, nlo_n, nlo_i, nlo_r, nlo_0, nlo_l, and_self, or_self, e2, e9, nI_rem, e1, dg, Nat.pow_zero, Nat.div_one]
theorem c140l {b t : Nat} (ht : t < 2147483648) : ∀ r k, r + k = t → j_X d 140 4 [some (.int (nI b)), some (.int (nI t)), some (.int (nI (b ^ k))), some (.int (nI k))] [] σ = some (some (.int (nI (b ^ t))), σ) := by
  intro r
  induction r with
  | zero =>
    intro k hk
    have e : k = t := by omega
    subst e
    have e1 : ¬ nI k < nI k := nI_nlt (by omega) (by omega)
    rw [st_140_4]
    simp only [st_140_0, st_140_1, st_140_2, st_140_3, st_140_5, st_140_6, st_140_9, st_140_10, st_140_11, st_140_12, st_140_13, st_140_16, st_140_19, st_140_20, ini_140, fs_cl, fs_len, fs_rf, fs_M, fs_put, fs_cpy, if_true, if_false, rv_ref, true_or, or_true, true_and, and_true, nI_ltI, ix_nI, nI_clamp, ps_i, ps_n, Option.bind_some, sm_0, sm_1, sm_2, sm_3, sm_4, sto_0, sto_1, sto_2, sto_3, sto_4, sto_5, sto_6, sto_7, sto_8, sto_9, sto_10, sto_11, sto_12, sto_13, sto_14, nlo_n, nlo_i, nlo_r, nlo_0, nlo_l, and_self, or_self, e1]
  | succ r ih =>
    intro k hk
    have e1 : nI k < nI t := nI_lt (by omega) (by omega)
    have hX := ih (k + 1) (by omega)
    rw [Nat.pow_succ] at hX
    rw [st_140_4]
    simp only [st_140_0, st_140_1, st_140_2, st_140_3, st_140_5, st_140_6, st_140_9, st_140_10, st_140_11, st_140_12, st_140_13, st_140_16, st_140_19, st_140_20, ini_140, fs_cl, fs_len, fs_rf, fs_M, fs_put, fs_cpy, if_true, if_false, rv_ref, true_or, or_true, true_and, and_true, nI_ltI, ix_nI, nI_clamp, ps_i, ps_n, Option.bind_some, sm_0, sm_1, sm_2, sm_3, sm_4, sto_0, sto_1, sto_2, sto_3, sto_4, sto_5, sto_6, sto_7, sto_8, sto_9, sto_10, sto_11, sto_12, sto_13, sto_14, nlo_n, nlo_i, nlo_r, nlo_0, nlo_l, and_self, or_self, e1, nI_mul, nI_add, hX]
theorem c140 {b t : Nat} (ht : t < 2147483648) : j_C (d + 1) 140 [.int (nI b), .int (nI t)] σ = some (some (.int (nI (b ^ t))), σ) := by
  have hX := c140l (σ := σ) (d := d) (b := b) ht t 0 (by omega)
  rw [Nat.pow_zero] at hX
  rw [j_C_eq]
  simp only [st_140_0, st_140_1, st_140_2, st_140_3, st_140_5, st_140_6, st_140_9, st_140_10, st_140_11, st_140_12, st_140_13, st_140_16, st_140_19, st_140_20, ini_140, fs_cl, fs_len, fs_rf, fs_M, fs_put, fs_cpy, if_true, if_false, rv_ref, true_or, or_true, true_and, and_true, nI_ltI, ix_nI, nI_clamp, ps_i, ps_n, Option.bind_some, sm_0, sm_1, sm_2, sm_3, sm_4, sto_0, sto_1, sto_2, sto_3, sto_4, sto_5, sto_6, sto_7, sto_8, sto_9, sto_10, sto_11, sto_12, sto_13, sto_14, nlo_n, nlo_i, nlo_r, nlo_0, nlo_l, and_self, or_self, hX]
theorem c134 {v : Nat} (hv : v < 2147483648) : j_C (d + 2) 134 [.int (nI v)] σ = some (some (.int (nI (dg v 10 (sz v - 1)))), σ) := by
  have := sz_le v
  rw [j_C_eq]
  simp (disch := omega) only [st_134_0, st_134_1, st_134_3, st_134_4, st_134_7, st_134_8, st_134_11, ini_134, fs_cl, fs_len, fs_rf, fs_M, fs_put, fs_cpy, if_true, if_false, rv_ref, true_or, or_true, true_and, and_true, nI_ltI, ix_nI, nI_clamp, ps_i, ps_n, Option.bind_some, sm_0, sm_1, sm_2, sm_3, sm_4, sto_0, sto_1, sto_2, sto_3, sto_4, sto_5, sto_6, sto_7, sto_8, sto_9, sto_10, sto_11, sto_12, sto_13, sto_14, nlo_n, nlo_i, nlo_r, nlo_0, nlo_l, and_self, or_self, c133 hv, c139, Nat.sub_zero]
theorem c135 {p : Nat} (hp : p ≤ 3) : j_C (d + 1) 135 [.int (nI p)] σ = some (some (.int (nI (3 - p))), σ) := by
  rw [j_C_eq]
  simp (disch := omega) only [st_135_0, st_135_1, st_135_2, st_135_3, ini_135, fs_cl, fs_len, fs_rf, fs_M, fs_put, fs_cpy, if_true, if_false, rv_ref, true_or, or_true, true_and, and_true, nI_ltI, ix_nI, nI_clamp, ps_i, ps_n, Option.bind_some, sm_0, sm_1, sm_2, sm_3, sm_4, sto_0, sto_1, sto_2, sto_3, sto_4, sto_5, sto_6, sto_7, sto_8, sto_9, sto_10, sto_11, sto_12, sto_13, sto_14, nlo_n, nlo_i, nlo_r, nlo_0, nlo_l, and_self, or_self, nI_sub]
def wl (v w : Nat) : Nat := w * 10 ^ sz (if sz v < 3 then v else v / 10) + (if sz v < 3 then v else v / 10)
theorem c136 {v w : Nat} (hv : v < 2147483648) : j_C (d + 2) 136 [.int (nI v), .int (nI w)] σ = some (some (.int (nI (wl v w))), σ) := by
  have h3 := sz_le v
  have h4 : v / 10 < 2147483648 := Nat.lt_of_le_of_lt (Nat.div_le_self _ _) hv
  rw [j_C_eq]
  unfold wl
  by_cases e1 : sz v < 3
  · have := sz_le v
    simp (disch := omega) only [st_136_0, st_136_1, st_136_4, st_136_5, st_136_8, st_136_9, st_136_12, st_136_13, st_136_15, st_136_16, st_136_17, st_136_18, st_136_20, st_136_21, st_136_24, st_136_27, st_136_28, st_136_29, st_136_30, ini_136, fs_cl, fs_len, fs_rf, fs_M, fs_put, fs_cpy, if_true, if_false, rv_ref, true_or, or_true, true_and, and_true, nI_ltI, ix_nI, nI_clamp, ps_i, ps_n, Option.bind_some, sm_0, sm_1, sm_2, sm_3, sm_4, sto_0, sto_1, sto_2, sto_3, sto_4, sto_5, sto_6, sto_7, sto_8, sto_9, sto_10, sto_11, sto_12, sto_13, sto_14, nlo_n, nlo_i, nlo_r, nlo_0, nlo_l, and_self, or_self, c133 hv, e1, c140, nI_mul, nI_add]
  · have := sz_le (v / 10)
    have e0 : ¬ nI 10 = nI 0 := nI_ne (by omega) (by omega) (by omega)
    simp (disch := omega) only [st_136_0, st_136_1, st_136_4, st_136_5, st_136_8, st_136_9, st_136_12, st_136_13, st_136_15, st_136_16, st_136_17, st_136_18, st_136_20, st_136_21, st_136_24, st_136_27, st_136_28, st_136_29, st_136_30, ini_136, fs_cl, fs_len, fs_rf, fs_M, fs_put, fs_cpy, if_true, if_false, rv_ref, true_or, or_true, true_and, and_true, nI_ltI, ix_nI, nI_clamp, ps_i, ps_n, Option.bind_some, sm_0, sm_1, sm_2, sm_3, sm_4, sto_0, sto_1, sto_2, sto_3, sto_4, sto_5, sto_6, sto_7, sto_8, sto_9, sto_10, sto_11, sto_12, sto_13, sto_14, nlo_n, nlo_i, nlo_r, nlo_0, nlo_l, and_self, or_self, c133 hv, e1, nI_div, c133 h4, c140, nI_mul, nI_add, e0]
def wo_ (v w : Nat) : Nat := if sz v < 3 then v * 10 + w else v
theorem c137 {v w : Nat} (hv : v < 2147483648) : j_C (d + 2) 137 [.int (nI v), .int (nI w)] σ = some (some (.int (nI (wo_ v w))), σ) := by
  have h3 := sz_le v
  rw [j_C_eq]
  unfold wo_
  by_cases e1 : sz v < 3
  · simp (disch := omega) only [st_137_0, st_137_1, st_137_4, st_137_5, st_137_8, st_137_9, st_137_11, st_137_12, st_137_13, st_137_14, st_137_17, st_137_18, ini_137, fs_cl, fs_len, fs_rf, fs_M, fs_put, fs_cpy, if_true, if_false, rv_ref, true_or, or_true, true_and, and_true, nI_ltI, ix_nI, nI_clamp, ps_i, ps_n, Option.bind_some, sm_0, sm_1, sm_2, sm_3, sm_4, sto_0, sto_1, sto_2, sto_3, sto_4, sto_5, sto_6, sto_7, sto_8, sto_9, sto_10, sto_11, sto_12, sto_13, sto_14, nlo_n, nlo_i, nlo_r, nlo_0, nlo_l, and_self, or_self, c133 hv, e1, nI_mul, nI_add]
  · simp (disch := omega) only [st_137_0, st_137_1, st_137_4, st_137_5, st_137_8, st_137_9, st_137_11, st_137_12, st_137_13, st_137_14, st_137_17, st_137_18, ini_137, fs_cl, fs_len, fs_rf, fs_M, fs_put, fs_cpy, if_true, if_false, rv_ref, true_or, or_true, true_and, and_true, nI_ltI, ix_nI, nI_clamp, ps_i, ps_n, Option.bind_some, sm_0, sm_1, sm_2, sm_3, sm_4, sto_0, sto_1, sto_2, sto_3, sto_4, sto_5, sto_6, sto_7, sto_8, sto_9, sto_10, sto_11, sto_12, sto_13, sto_14, nlo_n, nlo_i, nlo_r, nlo_0, nlo_l, and_self, or_self, c133 hv, e1]

/-- the bit of a set at a smell -/
abbrev bt (s : Int32) (k : Nat) : Int32 := s >>> (nI k &&& 31) &&& nI 1
/-- the strength of the first places -/
def str (v : Nat) (s : Int32) : Nat → Nat
  | 0 => 0
  | i + 1 => str v s i + if i < sz v then (if bt s (dg v 10 (sz v - 1 - i)) = nI 0 then 0 else 3 - i) else 0
theorem c138l {v p : Nat} {s : Int32} (hv : v < 2147483648) (hp : p ≤ 3) : ∀ r i, r + i = 3 → i ≤ p → i ≤ sz v → j_X (d + 1) 138 11 [some (.int (nI v)), some (.int s), some (.int (nI p)), some (.int (nI (sz v))), some (.int (nI (str v s i))), some (.int (nI i))] [] σ = some (some (.int (nI (str v s p))), σ) := by
  have h3 := sz_le v
  have hq : ∀ p i, sz v ≤ i → i ≤ p → str v s p = str v s i := by
    intro p i hi
    induction p with
    | zero => intro hip; rw [show i = 0 by omega]
    | succ p ih =>
      intro hip
      by_cases e : i = p + 1
      · rw [e]
      · rw [str, if_neg (by omega), ih (by omega)]; rfl
  intro r
  induction r with
  | zero =>
    intro i hi hip his
    have e1 : ¬ i < sz v := by omega
    rw [st_138_11]
    simp (disch := omega) only [st_138_0, st_138_1, st_138_4, st_138_5, st_138_6, st_138_8, st_138_9, st_138_13, st_138_14, st_138_17, st_138_19, st_138_20, st_138_23, st_138_24, st_138_25, st_138_27, st_138_28, st_138_30, st_138_33, st_138_34, st_138_35, st_138_36, st_138_39, st_138_41, st_138_43, st_138_46, st_138_47, st_138_49, st_138_52, st_138_55, st_138_57, ini_138, fs_cl, fs_len, fs_rf, fs_M, fs_put, fs_cpy, if_true, if_false, rv_ref, true_or, or_true, true_and, and_true, nI_ltI, ix_nI, nI_clamp, ps_i, ps_n, Option.bind_some, sm_0, sm_1, sm_2, sm_3, sm_4, sto_0, sto_1, sto_2, sto_3, sto_4, sto_5, sto_6, sto_7, sto_8, sto_9, sto_10, sto_11, sto_12, sto_13, sto_14, nlo_n, nlo_i, nlo_r, nlo_0, nlo_l, and_self, or_self, e1]
    rw [hq p i (by omega) hip]
  | succ r ih =>
    intro i hi hip his
    rw [st_138_11]
    by_cases e1 : i < sz v
    · by_cases e2 : i < p
      · have hX := ih (i + 1) (by omega) (by omega) (by omega)
        rw [str, if_pos e1] at hX
        by_cases e3 : bt s (dg v 10 (sz v - 1 - i)) = nI 0
        · rw [if_pos e3] at hX
          simp (disch := omega) only [st_138_0, st_138_1, st_138_4, st_138_5, st_138_6, st_138_8, st_138_9, st_138_13, st_138_14, st_138_17, st_138_19, st_138_20, st_138_23, st_138_24, st_138_25, st_138_27, st_138_28, st_138_30, st_138_33, st_138_34, st_138_35, st_138_36, st_138_39, st_138_41, st_138_43, st_138_46, st_138_47, st_138_49, st_138_52, st_138_55, st_138_57, ini_138, fs_cl, fs_len, fs_rf, fs_M, fs_put, fs_cpy, if_true, if_false, rv_ref, true_or, or_true, true_and, and_true, nI_ltI, ix_nI, nI_clamp, ps_i, ps_n, Option.bind_some, sm_0, sm_1, sm_2, sm_3, sm_4, sto_0, sto_1, sto_2, sto_3, sto_4, sto_5, sto_6, sto_7, sto_8, sto_9, sto_10, sto_11, sto_12, sto_13, sto_14, nlo_n, nlo_i, nlo_r, nlo_0, nlo_l, and_self, or_self, e1, e2, c139, e3, nI_add]
          exact hX
        · rw [if_neg e3] at hX
          simp (disch := omega) only [st_138_0, st_138_1, st_138_4, st_138_5, st_138_6, st_138_8, st_138_9, st_138_13, st_138_14, st_138_17, st_138_19, st_138_20, st_138_23, st_138_24, st_138_25, st_138_27, st_138_28, st_138_30, st_138_33, st_138_34, st_138_35, st_138_36, st_138_39, st_138_41, st_138_43, st_138_46, st_138_47, st_138_49, st_138_52, st_138_55, st_138_57, ini_138, fs_cl, fs_len, fs_rf, fs_M, fs_put, fs_cpy, if_true, if_false, rv_ref, true_or, or_true, true_and, and_true, nI_ltI, ix_nI, nI_clamp, ps_i, ps_n, Option.bind_some, sm_0, sm_1, sm_2, sm_3, sm_4, sto_0, sto_1, sto_2, sto_3, sto_4, sto_5, sto_6, sto_7, sto_8, sto_9, sto_10, sto_11, sto_12, sto_13, sto_14, nlo_n, nlo_i, nlo_r, nlo_0, nlo_l, and_self, or_self, e1, e2, c139, e3, c135, nI_add, hX]
      · have e : i = p := by omega
        subst e
        simp (disch := omega) only [st_138_0, st_138_1, st_138_4, st_138_5, st_138_6, st_138_8, st_138_9, st_138_13, st_138_14, st_138_17, st_138_19, st_138_20, st_138_23, st_138_24, st_138_25, st_138_27, st_138_28, st_138_30, st_138_33, st_138_34, st_138_35, st_138_36, st_138_39, st_138_41, st_138_43, st_138_46, st_138_47, st_138_49, st_138_52, st_138_55, st_138_57, ini_138, fs_cl, fs_len, fs_rf, fs_M, fs_put, fs_cpy, if_true, if_false, rv_ref, true_or, or_true, true_and, and_true, nI_ltI, ix_nI, nI_clamp, ps_i, ps_n, Option.bind_some, sm_0, sm_1, sm_2, sm_3, sm_4, sto_0, sto_1, sto_2, sto_3, sto_4, sto_5, sto_6, sto_7, sto_8, sto_9, sto_10, sto_11, sto_12, sto_13, sto_14, nlo_n, nlo_i, nlo_r, nlo_0, nlo_l, and_self, or_self, e1, Nat.lt_irrefl]
    · simp (disch := omega) only [st_138_0, st_138_1, st_138_4, st_138_5, st_138_6, st_138_8, st_138_9, st_138_13, st_138_14, st_138_17, st_138_19, st_138_20, st_138_23, st_138_24, st_138_25, st_138_27, st_138_28, st_138_30, st_138_33, st_138_34, st_138_35, st_138_36, st_138_39, st_138_41, st_138_43, st_138_46, st_138_47, st_138_49, st_138_52, st_138_55, st_138_57, ini_138, fs_cl, fs_len, fs_rf, fs_M, fs_put, fs_cpy, if_true, if_false, rv_ref, true_or, or_true, true_and, and_true, nI_ltI, ix_nI, nI_clamp, ps_i, ps_n, Option.bind_some, sm_0, sm_1, sm_2, sm_3, sm_4, sto_0, sto_1, sto_2, sto_3, sto_4, sto_5, sto_6, sto_7, sto_8, sto_9, sto_10, sto_11, sto_12, sto_13, sto_14, nlo_n, nlo_i, nlo_r, nlo_0, nlo_l, and_self, or_self, e1]
      rw [hq p i (by omega) hip]
theorem c138 {v p : Nat} (s : Int32) (hv : v < 2147483648) (hp : p ≤ 3) : j_C (d + 2) 138 [.int (nI v), .int s, .int (nI p)] σ = some (some (.int (nI (str v s p))), σ) := by
  have hX := c138l (σ := σ) (d := d) (s := s) hv hp 3 0 (by omega) (by omega) (by omega)
  rw [str] at hX
  rw [j_C_eq]
  simp only [st_138_0, st_138_1, st_138_4, st_138_5, st_138_6, st_138_8, st_138_9, st_138_13, st_138_14, st_138_17, st_138_19, st_138_20, st_138_23, st_138_24, st_138_25, st_138_27, st_138_28, st_138_30, st_138_33, st_138_34, st_138_35, st_138_36, st_138_39, st_138_41, st_138_43, st_138_46, st_138_47, st_138_49, st_138_52, st_138_55, st_138_57, ini_138, fs_cl, fs_len, fs_rf, fs_M, fs_put, fs_cpy, if_true, if_false, rv_ref, true_or, or_true, true_and, and_true, nI_ltI, ix_nI, nI_clamp, ps_i, ps_n, Option.bind_some, sm_0, sm_1, sm_2, sm_3, sm_4, sto_0, sto_1, sto_2, sto_3, sto_4, sto_5, sto_6, sto_7, sto_8, sto_9, sto_10, sto_11, sto_12, sto_13, sto_14, nlo_n, nlo_i, nlo_r, nlo_0, nlo_l, and_self, or_self, c133 hv, hX]
-- rows as three digits
def rn (x y z : Nat) : Nat := if y = 0 then x else if z = 0 then 10 * x + y else 100 * x + 10 * y + z
def rs (x y z : Nat) : Nat := if x = 0 then 0 else if y = 0 then 1 else if z = 0 then 2 else 3
def Rw (x y z : Nat) : Prop := x ≤ 7 ∧ y ≤ 7 ∧ z ≤ 7 ∧ (x = 0 → y = 0) ∧ (y = 0 → z = 0)
variable {x y z w : Nat}
theorem rs_le : rs x y z ≤ 3 := by unfold rs; split <;> (try split) <;> (try split) <;> omega
theorem rn_lt (hr : Rw x y z) : rn x y z < 1000 := by
  unfold rn; obtain ⟨h1, h2, h3, h4, h5⟩ := hr; split <;> (try split) <;> omega
theorem sz_rn (hr : Rw x y z) : sz (rn x y z) = rs x y z := by
  obtain ⟨h1, h2, h3, h4, h5⟩ := hr
  unfold rn rs sz
  by_cases e1 : x = 0
  · have := h4 e1; have := h5 this; subst_vars; rfl
  · by_cases e2 : y = 0
    · have := h5 e2; subst_vars
      rw [if_pos rfl, if_neg e1, if_pos (by omega), if_neg e1, if_pos rfl]
    · rw [if_neg e2, if_neg e1, if_neg e2]
      by_cases e3 : z = 0
      · rw [if_pos e3, if_neg (by omega), if_neg (by omega), if_pos (by omega), if_pos e3]
      · rw [if_neg e3, if_neg (by omega), if_neg (by omega), if_neg (by omega), if_neg e3]
theorem dg_0 (hr : Rw x y z) : dg (rn x y z) 10 (rs x y z - 1) = x := by
  obtain ⟨h1, h2, h3, h4, h5⟩ := hr
  unfold rn rs dg
  by_cases e1 : x = 0
  · have := h4 e1; have := h5 this; subst_vars; rfl
  · by_cases e2 : y = 0
    · have := h5 e2; subst_vars
      rw [if_pos rfl, if_neg e1, if_pos rfl]; omega
    · rw [if_neg e2, if_neg e1, if_neg e2]
      by_cases e3 : z = 0
      · rw [if_pos e3, if_pos e3]; omega
      · rw [if_neg e3, if_neg e3]; omega
theorem dg_1 (hr : Rw x y z) (h : 1 < rs x y z) : dg (rn x y z) 10 (rs x y z - 1 - 1) = y := by
  obtain ⟨h1, h2, h3, h4, h5⟩ := hr
  revert h
  unfold rn rs dg
  by_cases e1 : x = 0
  · rw [if_pos e1]; omega
  · by_cases e2 : y = 0
    · rw [if_neg e1, if_pos e2]; omega
    · rw [if_neg e2, if_neg e1, if_neg e2]
      by_cases e3 : z = 0
      · rw [if_pos e3, if_pos e3]; omega
      · rw [if_neg e3, if_neg e3]; omega
theorem dg_2 (hr : Rw x y z) (h : 2 < rs x y z) : dg (rn x y z) 10 (rs x y z - 1 - 2) = z := by
  obtain ⟨h1, h2, h3, h4, h5⟩ := hr
  revert h
  unfold rn rs dg
  by_cases e1 : x = 0
  · rw [if_pos e1]; omega
  · by_cases e2 : y = 0
    · rw [if_neg e1, if_pos e2]; omega
    · rw [if_neg e2, if_neg e1, if_neg e2]
      by_cases e3 : z = 0
      · rw [if_pos e3, if_pos e3]; omega
      · rw [if_neg e3, if_neg e3]; omega
theorem wl_rn (hr : Rw x y z) (w : Nat) (hw : 1 ≤ w) (hw2 : w ≤ 7) : wl (rn x y z) w = rn w x y := by
  have hs := sz_rn hr
  obtain ⟨h1, h2, h3, h4, h5⟩ := hr
  unfold wl
  rw [hs]
  by_cases e1 : x = 0
  · have := h4 e1; have := h5 this; subst_vars; simp [rs, rn, sz]
  · by_cases e2 : y = 0
    · have := h5 e2; subst_vars
      simp [rs, rn, sz, e1, show x < 10 by omega]; omega
    · by_cases e3 : z = 0
      · simp [rs, rn, sz, e1, e2, e3, show 10 * x + y < 100 by omega, show ¬ 10 * x + y < 10 by omega]; omega
      · have e : (100 * x + 10 * y + z) / 10 = 10 * x + y := by omega
        simp [rs, rn, sz, e1, e2, e3, e, show 10 * x + y < 100 by omega, show ¬ 10 * x + y < 10 by omega]; omega
theorem wo_rn (hr : Rw x y z) (w : Nat) (hw : 1 ≤ w) : wo_ (rn x y z) w = if rs x y z = 0 then rn w 0 0 else if rs x y z = 1 then rn x w 0 else if rs x y z = 2 then rn x y w else rn x y z := by
  have hs := sz_rn hr
  obtain ⟨h1, h2, h3, h4, h5⟩ := hr
  have hw0 : ¬ w = 0 := by omega
  unfold wo_
  rw [hs]
  by_cases e1 : x = 0
  · have := h4 e1; have := h5 this; subst_vars; simp [rs, rn]
  · by_cases e2 : y = 0
    · have := h5 e2; subst_vars
      simp [rs, rn, e1, hw0]; omega
    · by_cases e3 : z = 0
      · simp [rs, rn, e1, e2, e3, hw0]; omega
      · simp [rs, rn, e1, e2, e3]
theorem fd_rn (hr : Rw x y z) : rn x y z / 10 = if rs x y z = 3 then rn x y 0 else if rs x y z = 2 then rn x 0 0 else 0 := by
  obtain ⟨h1, h2, h3, h4, h5⟩ := hr
  unfold rn rs
  by_cases e1 : x = 0
  · have := h4 e1; have := h5 this; subst_vars; rfl
  · by_cases e2 : y = 0
    · have := h5 e2; subst_vars
      simp [e1]; omega
    · by_cases e3 : z = 0
      · simp [e1, e2, e3]; omega
      · simp [e1, e2, e3]; omega

/-- isRow -/
theorem c132l {v : Nat} (hv : v ≤ 777) : ∀ r i, r + i = sz v → (∀ k, k < i → 1 ≤ dg v 10 (sz v - 1 - k) ∧ dg v 10 (sz v - 1 - k) ≤ 7) → j_X (d + 2) 132 20 [some (.int (nI v)), some (.int (nI (sz v))), some (.int (nI i))] [] σ = some (some (.int (if ∀ k, k < sz v → 1 ≤ dg v 10 (sz v - 1 - k) ∧ dg v 10 (sz v - 1 - k) ≤ 7 then nI 1 else nI 0)), σ) := by
  have h3 := sz_le v
  intro r
  induction r with
  | zero =>
    intro i hi hk
    have e : i = sz v := by omega
    subst e
    rw [st_132_20]
    simp (disch := omega) only [st_132_0, st_132_1, st_132_2, st_132_5, st_132_8, st_132_11, st_132_12, st_132_13, st_132_14, st_132_17, st_132_18, st_132_19, st_132_21, st_132_22, st_132_25, st_132_26, st_132_28, st_132_29, st_132_30, st_132_33, st_132_36, st_132_39, st_132_40, st_132_41, st_132_44, st_132_47, st_132_48, ini_132, fs_cl, fs_len, fs_rf, fs_M, fs_put, fs_cpy, if_true, if_false, rv_ref, true_or, or_true, true_and, and_true, nI_ltI, ix_nI, nI_clamp, ps_i, ps_n, Option.bind_some, sm_0, sm_1, sm_2, sm_3, sm_4, sto_0, sto_1, sto_2, sto_3, sto_4, sto_5, sto_6, sto_7, sto_8, sto_9, sto_10, sto_11, sto_12, sto_13, sto_14, nlo_n, nlo_i, nlo_r, nlo_0, nlo_l, and_self, or_self, Nat.lt_irrefl]
    rw [if_pos hk]
  | succ r ih =>
    intro i hi hk
    have e1 : i < sz v := by omega
    rw [st_132_20]
    by_cases e2 : 1 ≤ dg v 10 (sz v - 1 - i) ∧ dg v 10 (sz v - 1 - i) ≤ 7
    · have hX := ih (i + 1) (by omega) (fun k hk' => by
        by_cases hki : k = i
        · subst hki; exact e2
        · exact hk k (by omega))
      have e3 := wi_in e2.1 e2.2 (by omega)
      have e4 : ¬ nI 1 = nI 0 := by decide +kernel
      simp (disch := omega) only [st_132_0, st_132_1, st_132_2, st_132_5, st_132_8, st_132_11, st_132_12, st_132_13, st_132_14, st_132_17, st_132_18, st_132_19, st_132_21, st_132_22, st_132_25, st_132_26, st_132_28, st_132_29, st_132_30, st_132_33, st_132_36, st_132_39, st_132_40, st_132_41, st_132_44, st_132_47, st_132_48, ini_132, fs_cl, fs_len, fs_rf, fs_M, fs_put, fs_cpy, if_true, if_false, rv_ref, true_or, or_true, true_and, and_true, nI_ltI, ix_nI, nI_clamp, ps_i, ps_n, Option.bind_some, sm_0, sm_1, sm_2, sm_3, sm_4, sto_0, sto_1, sto_2, sto_3, sto_4, sto_5, sto_6, sto_7, sto_8, sto_9, sto_10, sto_11, sto_12, sto_13, sto_14, nlo_n, nlo_i, nlo_r, nlo_0, nlo_l, and_self, or_self, e1, c139, c124, e3, nI_add, hX, e4]
    · have e3 : wi (nI (dg v 10 (sz v - 1 - i))) (nI 1) (nI 7) = nI 0 := by
        have hd : dg v 10 (sz v - 1 - i) < 10 := Nat.mod_lt _ (by omega)
        refine wi_out (fun ⟨j, g1, g2, g3⟩ => ?_) (by omega) (by omega)
        rw [nI_eq (by omega) (by omega)] at g3
        exact e2 (by omega)
      simp (disch := omega) only [st_132_0, st_132_1, st_132_2, st_132_5, st_132_8, st_132_11, st_132_12, st_132_13, st_132_14, st_132_17, st_132_18, st_132_19, st_132_21, st_132_22, st_132_25, st_132_26, st_132_28, st_132_29, st_132_30, st_132_33, st_132_36, st_132_39, st_132_40, st_132_41, st_132_44, st_132_47, st_132_48, ini_132, fs_cl, fs_len, fs_rf, fs_M, fs_put, fs_cpy, if_true, if_false, rv_ref, true_or, or_true, true_and, and_true, nI_ltI, ix_nI, nI_clamp, ps_i, ps_n, Option.bind_some, sm_0, sm_1, sm_2, sm_3, sm_4, sto_0, sto_1, sto_2, sto_3, sto_4, sto_5, sto_6, sto_7, sto_8, sto_9, sto_10, sto_11, sto_12, sto_13, sto_14, nlo_n, nlo_i, nlo_r, nlo_0, nlo_l, and_self, or_self, e1, c139, c124, e3]
      rw [if_neg (fun hh => e2 (hh i e1))]
/-- the rows are the numbers of their digits -/
theorem rw_ex : ∀ v, v ≤ 777 → (∀ k, k < sz v → 1 ≤ dg v 10 (sz v - 1 - k) ∧ dg v 10 (sz v - 1 - k) ≤ 7) → ∃ x y z, Rw x y z ∧ v = rn x y z := by
  intro v hv hk
  by_cases e1 : v = 0
  · exact ⟨0, 0, 0, by simp [Rw], by subst e1; rfl⟩
  · by_cases e2 : v < 10
    · have e : sz v = 1 := by simp [sz, e1, e2]
      have k0 := hk 0 (by omega)
      rw [e] at k0
      simp only [dg, Nat.sub_self, Nat.zero_sub, Nat.pow_zero, Nat.div_one] at k0
      exact ⟨v, 0, 0, by simp [Rw]; omega, by simp [rn]⟩
    · by_cases e3 : v < 100
      · have e : sz v = 2 := by simp [sz, e1, e2, e3]
        have k0 := hk 0 (by omega)
        have k1 := hk 1 (by omega)
        rw [e] at k0 k1
        simp only [dg, Nat.reduceSub, Nat.pow_zero, Nat.div_one, Nat.pow_one] at k0 k1
        refine ⟨v / 10, v % 10, 0, by simp only [Rw]; omega, ?_⟩
        unfold rn
        rw [if_neg (by omega), if_pos rfl]; omega
      · have e : sz v = 3 := by simp [sz, e1, e2, e3]
        have k0 := hk 0 (by omega)
        have k1 := hk 1 (by omega)
        have k2 := hk 2 (by omega)
        rw [e] at k0 k1 k2
        simp only [dg, Nat.reduceSub, Nat.pow_zero, Nat.div_one, Nat.pow_one, show 10 ^ 2 = 100 by rfl] at k0 k1 k2
        refine ⟨v / 100, v / 10 % 10, v % 10, by simp only [Rw]; omega, ?_⟩
        unfold rn
        rw [if_neg (by omega), if_neg (by omega)]; omega
theorem rw_dg (hr : Rw x y z) : ∀ k, k < sz (rn x y z) → 1 ≤ dg (rn x y z) 10 (sz (rn x y z) - 1 - k) ∧ dg (rn x y z) 10 (sz (rn x y z) - 1 - k) ≤ 7 := by
  rw [sz_rn hr]
  have h3 := rs_le (x := x) (y := y) (z := z)
  have d0 := dg_0 hr
  have d1 := dg_1 hr
  have d2 := dg_2 hr
  obtain ⟨h1, h2, h3, h4, h5⟩ := hr
  intro k hk
  have hx : x ≠ 0 := by intro e; rw [rs, if_pos e] at hk; omega
  match k with
  | 0 => rw [Nat.sub_zero, d0]; omega
  | 1 =>
    rw [d1 hk]
    have hy : y ≠ 0 := by intro e; rw [rs, if_neg hx, if_pos e] at hk; omega
    omega
  | 2 =>
    rw [d2 hk]
    have hy : y ≠ 0 := by intro e; rw [rs, if_neg hx, if_pos e] at hk; omega
    have hz : z ≠ 0 := by intro e; rw [rs, if_neg hx, if_neg hy, if_pos e] at hk; omega
    omega
  | k + 3 => omega
theorem rn_le (hr : Rw x y z) : rn x y z ≤ 777 := by
  unfold rn; obtain ⟨h1, h2, h3, h4, h5⟩ := hr; split <;> (try split) <;> omega
theorem c132y (hr : Rw x y z) : j_C (d + 3) 132 [.int (nI (rn x y z))] σ = some (some (.int (nI 1)), σ) := by
  have hv := rn_le hr
  have hX := c132l (σ := σ) (d := d) hv (sz (rn x y z)) 0 (by omega) (fun k hk => by omega)
  rw [if_pos (rw_dg hr)] at hX
  have e4 : ¬ nI 1 = nI 0 := by decide +kernel
  rw [j_C_eq]
  simp (disch := omega) only [st_132_0, st_132_1, st_132_2, st_132_5, st_132_8, st_132_11, st_132_12, st_132_13, st_132_14, st_132_17, st_132_18, st_132_19, st_132_21, st_132_22, st_132_25, st_132_26, st_132_28, st_132_29, st_132_30, st_132_33, st_132_36, st_132_39, st_132_40, st_132_41, st_132_44, st_132_47, st_132_48, ini_132, fs_cl, fs_len, fs_rf, fs_M, fs_put, fs_cpy, if_true, if_false, rv_ref, true_or, or_true, true_and, and_true, nI_ltI, ix_nI, nI_clamp, ps_i, ps_n, Option.bind_some, sm_0, sm_1, sm_2, sm_3, sm_4, sto_0, sto_1, sto_2, sto_3, sto_4, sto_5, sto_6, sto_7, sto_8, sto_9, sto_10, sto_11, sto_12, sto_13, sto_14, nlo_n, nlo_i, nlo_r, nlo_0, nlo_l, and_self, or_self, c122, wi_in (Nat.zero_le (rn x y z)) hv, c133, e4, hX]
theorem c132n {v : Int32} (hn : ¬ ∃ x y z, Rw x y z ∧ v = nI (rn x y z)) : j_C (d + 3) 132 [.int v] σ = some (some (.int (nI 0)), σ) := by
  have e4 : ¬ nI 1 = nI 0 := by decide +kernel
  rw [j_C_eq]
  by_cases hv : ∃ j, 0 ≤ j ∧ j ≤ 777 ∧ v = nI j
  · obtain ⟨j, _, hj, rfl⟩ := hv
    have hX := c132l (σ := σ) (d := d) hj (sz j) 0 (by omega) (fun k hk => by omega)
    rw [if_neg (fun hk => hn (by
      obtain ⟨x, y, z, h1, h2⟩ := rw_ex j hj hk
      exact ⟨x, y, z, h1, by rw [← h2]⟩))] at hX
    simp (disch := omega) only [st_132_0, st_132_1, st_132_2, st_132_5, st_132_8, st_132_11, st_132_12, st_132_13, st_132_14, st_132_17, st_132_18, st_132_19, st_132_21, st_132_22, st_132_25, st_132_26, st_132_28, st_132_29, st_132_30, st_132_33, st_132_36, st_132_39, st_132_40, st_132_41, st_132_44, st_132_47, st_132_48, ini_132, fs_cl, fs_len, fs_rf, fs_M, fs_put, fs_cpy, if_true, if_false, rv_ref, true_or, or_true, true_and, and_true, nI_ltI, ix_nI, nI_clamp, ps_i, ps_n, Option.bind_some, sm_0, sm_1, sm_2, sm_3, sm_4, sto_0, sto_1, sto_2, sto_3, sto_4, sto_5, sto_6, sto_7, sto_8, sto_9, sto_10, sto_11, sto_12, sto_13, sto_14, nlo_n, nlo_i, nlo_r, nlo_0, nlo_l, and_self, or_self, c122, wi_in (Nat.zero_le j) hj, c133, e4, hX]
  · simp (disch := omega) only [st_132_0, st_132_1, st_132_2, st_132_5, st_132_8, st_132_11, st_132_12, st_132_13, st_132_14, st_132_17, st_132_18, st_132_19, st_132_21, st_132_22, st_132_25, st_132_26, st_132_28, st_132_29, st_132_30, st_132_33, st_132_36, st_132_39, st_132_40, st_132_41, st_132_44, st_132_47, st_132_48, ini_132, fs_cl, fs_len, fs_rf, fs_M, fs_put, fs_cpy, if_true, if_false, rv_ref, true_or, or_true, true_and, and_true, nI_ltI, ix_nI, nI_clamp, ps_i, ps_n, Option.bind_some, sm_0, sm_1, sm_2, sm_3, sm_4, sto_0, sto_1, sto_2, sto_3, sto_4, sto_5, sto_6, sto_7, sto_8, sto_9, sto_10, sto_11, sto_12, sto_13, sto_14, nlo_n, nlo_i, nlo_r, nlo_0, nlo_l, and_self, or_self, c122, wi_out hv (Nat.zero_le 777)]
