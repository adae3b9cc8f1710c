/-! The class's Market: what it is asked. The picture: E, ints in the reference's places (0 traders, 1 coins, 2 day, 3 sales, 4 fade; a trader's five from 8 + 5 t; a coin's five from 38 + 5 c), z, the two codes. -/
variable {h : j_Hd} {M : Nat → Nat → Int32} {σ : j_St} {d b : Nat} {E : Nat → Nat} {z : Int32} {K0 K1 : List Int32}
def Mk (h : j_Hd) (b : Nat) : Prop := hC h b = 1 ∧ (hR h b 0 = b + 1 ∧ Nb h (b + 1) (b + 2) 6) ∧ (hR h b 1 = b + 3 ∧ Nb h (b + 3) (b + 4) 6) ∧ (hR h b 2 = b + 5 ∧ Nb h (b + 5) (b + 6) 6) ∧ (hR h b 3 = b + 7 ∧ Nb h (b + 7) (b + 8) 6) ∧ (hR h b 4 = b + 9 ∧ Nb h (b + 9) (b + 10) 6) ∧ (hR h b 5 = b + 11 ∧ Nb h (b + 11) (b + 12) 8) ∧ (hR h b 6 = b + 13 ∧ Nb h (b + 13) (b + 14) 8) ∧ (hR h b 7 = b + 15 ∧ Nb h (b + 15) (b + 16) 8) ∧ (hR h b 8 = b + 17 ∧ Lw h (b + 17)) ∧ (hR h b 9 = b + 22 ∧ Lw h (b + 22))
def CS (M : Nat → Nat → Int32) (b : Nat) (E : Nat → Nat) : Prop := M (b + 1) 1 = nI (E 0) ∧ M (b + 3) 1 = nI (E 0) ∧ M (b + 5) 1 = nI (E 0) ∧ M (b + 7) 1 = nI (E 0) ∧ M (b + 9) 1 = nI (E 0) ∧ M (b + 11) 1 = nI (E 1) ∧ M (b + 13) 1 = nI (E 1) ∧ M (b + 15) 1 = nI (E 1)
def CT (M : Nat → Nat → Int32) (b : Nat) (E : Nat → Nat) (t : Nat) : Prop := M (b + 2) t = nI (E (8 + 5 * t)) ∧ M (b + 4) t = nI (E (9 + 5 * t)) ∧ M (b + 6) t = nI (E (10 + 5 * t)) ∧ M (b + 8) t = nI (E (11 + 5 * t)) ∧ M (b + 10) t = nI (E (12 + 5 * t))
def rE (E : Nat → Nat) (c : Nat) : Nat := rn (E (40 + 5 * c)) (E (41 + 5 * c)) (E (42 + 5 * c))
def nE (E : Nat → Nat) (c : Nat) : Nat := rs (E (40 + 5 * c)) (E (41 + 5 * c)) (E (42 + 5 * c))
def CC (M : Nat → Nat → Int32) (b : Nat) (E : Nat → Nat) (c : Nat) : Prop := M (b + 12) c = nI (E (38 + 5 * c)) ∧ M (b + 14) c = nI (E (39 + 5 * c)) ∧ M (b + 16) c = nI (rE E c)
def CM (M : Nat → Nat → Int32) (b : Nat) (E : Nat → Nat) (z : Int32) (K0 K1 : List Int32) : Prop := CS M b E ∧ (∀ t, t < E 0 → CT M b E t) ∧ (∀ c, c < E 1 → CC M b E c) ∧ (∀ c, c < 8 → ∃ v, v < 1000 ∧ M (b + 16) c = nI v) ∧ (M b 10 = nI (E 2) ∧ M b 11 = nI (E 4) ∧ M b 12 = nI (E 3) ∧ M b 13 = z) ∧ Cd M (b + 17) K0 ∧ Cd M (b + 22) K1
def Tv (E : Nat → Nat) (t : Nat) : Prop := E (8 + 5 * t) < 7 ∧ E (9 + 5 * t) < 10 ∧ 1 ≤ E (10 + 5 * t) ∧ E (10 + 5 * t) ≤ 7 ∧ E (11 + 5 * t) ≤ 99 ∧ E (12 + 5 * t) < 256
def Cv (E : Nat → Nat) (c : Nat) : Prop := 1 ≤ E (38 + 5 * c) ∧ E (38 + 5 * c) ≤ 9 ∧ E (39 + 5 * c) < E 0 ∧ Rw (E (40 + 5 * c)) (E (41 + 5 * c)) (E (42 + 5 * c))
/-- a picture that can be -/
def WE (E : Nat → Nat) : Prop := E 0 ≤ 6 ∧ E 1 ≤ 8 ∧ E 2 < 100000 ∧ E 3 ≤ 9999 ∧ 1 ≤ E 4 ∧ E 4 ≤ 9 ∧ (∀ t, t < E 0 → Tv E t) ∧ ∀ c, c < E 1 → Cv E c
/-- but for the stacks of a market's laws -/
def sg (b : Nat) (M M' : Nat → Nat → Int32) : Prop := ∀ x, x ≠ b + 20 → x ≠ b + 21 → x ≠ b + 25 → x ≠ b + 26 → M' x = M x
theorem sg_r : sg b M M := fun _ _ _ _ _ => rfl
theorem sg_t {M1 M2 M3 : Nat → Nat → Int32} (h1 : sg b M1 M2) (h2 : sg b M2 M3) : sg b M1 M3 := fun x a1 a2 a3 a4 => by rw [h2 x a1 a2 a3 a4, h1 x a1 a2 a3 a4]
/-- all that a market's picture speaks of -/
theorem CM_cg {M' : Nat → Nat → Int32} (hg : ∀ x, b ≤ x → x < b + 25 → x ≠ b + 20 → x ≠ b + 21 → M' x = M x) (hm : CM M b E z K0 K1) : CM M' b E z K0 K1 := by
  obtain ⟨a1, a2, a3, a4, a5, a6, a7⟩ := hm
  have e0 : M' b = M b := hg b (by omega) (by omega) (by omega) (by omega)
  have e1 : ∀ k, k < 20 → M' (b + k) = M (b + k) := fun k hk => hg (b + k) (by omega) (by omega) (by omega) (by omega)
  refine ⟨?_, fun t ht => ?_, fun c hc => ?_, fun c hc => ?_, ?_, ?_, ?_⟩
  · unfold CS at a1 ⊢
    simpa only [e1 1 (by omega), e1 3 (by omega), e1 5 (by omega), e1 7 (by omega), e1 9 (by omega), e1 11 (by omega), e1 13 (by omega), e1 15 (by omega)] using a1
  · have := a2 t ht
    unfold CT at this ⊢
    simpa only [e1 2 (by omega), e1 4 (by omega), e1 6 (by omega), e1 8 (by omega), e1 10 (by omega)] using this
  · have := a3 c hc
    unfold CC at this ⊢
    simpa only [e1 12 (by omega), e1 14 (by omega), e1 16 (by omega)] using this
  · rw [e1 16 (by omega)]; exact a4 c hc
  · rw [e0]; exact a5
  · unfold Cd at a6 ⊢
    rw [show b + 17 + 1 = b + 18 by omega, show b + 17 + 2 = b + 19 by omega] at a6 ⊢
    rw [e1 18 (by omega), e1 19 (by omega)]; exact a6
  · unfold Cd at a7 ⊢
    rw [show b + 22 + 1 = b + 23 by omega, show b + 22 + 2 = b + 24 by omega] at a7 ⊢
    rw [hg (b + 23) (by omega) (by omega) (by omega) (by omega), hg (b + 24) (by omega) (by omega) (by omega) (by omega)]; exact a7
theorem CM_sg {M' : Nat → Nat → Int32} (hg : sg b M M') (hm : CM M b E z K0 K1) : CM M' b E z K0 K1 :=
  CM_cg (fun x h1 h2 h3 h4 => hg x h3 h4 (by omega) (by omega)) hm
theorem c6 (hk : Mk h b) : j_C (d + 2) 6 [.ref b] (FS h M) = some (some (.int (M (b + 1) 1)), FS h M) := by
  rw [j_C_eq]
  simp (disch := omega) only [st_6_0, st_6_1, st_6_4, st_6_7, ini_6, fs_cl, fs_len, fs_rf, fs_M, fs_put, fs_cpy, if_true, if_false, rv_ref, true_or, or_true, true_and, and_true, nI_ltI, ix_nI, nI_clamp, ps_i, ps_n, Option.bind_some, sm_0, sm_1, sm_2, sm_3, sm_4, sto_0, sto_1, sto_2, sto_3, sto_4, sto_5, sto_6, sto_7, sto_8, sto_9, sto_10, sto_11, sto_12, sto_13, sto_14, nlo_n, nlo_i, nlo_r, nlo_0, nlo_l, and_self, or_self, hk.1, hk.2.1.1, hk.2.1.2.1, n32 hk.2.1.2.1]
theorem c7 (hk : Mk h b) : j_C (d + 2) 7 [.ref b] (FS h M) = some (some (.int (M (b + 11) 1)), FS h M) := by
  obtain ⟨m0, _, _, _, _, _, ⟨r5, n5⟩, _⟩ := hk
  rw [j_C_eq]
  simp (disch := omega) only [st_7_0, st_7_1, st_7_4, st_7_7, ini_7, fs_cl, fs_len, fs_rf, fs_M, fs_put, fs_cpy, if_true, if_false, rv_ref, true_or, or_true, true_and, and_true, nI_ltI, ix_nI, nI_clamp, ps_i, ps_n, Option.bind_some, sm_0, sm_1, sm_2, sm_3, sm_4, sto_0, sto_1, sto_2, sto_3, sto_4, sto_5, sto_6, sto_7, sto_8, sto_9, sto_10, sto_11, sto_12, sto_13, sto_14, nlo_n, nlo_i, nlo_r, nlo_0, nlo_l, and_self, or_self, m0, r5, n5.1, n32 n5.1]
/-- hasTrader, hasCoin -/
theorem c8y (hk : Mk h b) (hs : CS M b E) (h6 : E 0 ≤ 6) {t : Nat} (ht : t < E 0) : j_C (d + 3) 8 [.ref b, .int (nI t)] (FS h M) = some (some (.int (nI 1)), FS h M) := by
  have e1 : ¬ nI t < nI 0 := nI_nlt (Nat.zero_le _) (by omega)
  rw [j_C_eq]
  simp (disch := omega) only [st_8_0, st_8_1, st_8_4, st_8_5, st_8_6, st_8_9, st_8_12, st_8_13, st_8_16, st_8_17, ini_8, fs_cl, fs_len, fs_rf, fs_M, fs_put, fs_cpy, if_true, if_false, rv_ref, true_or, or_true, true_and, and_true, nI_ltI, ix_nI, nI_clamp, ps_i, ps_n, Option.bind_some, sm_0, sm_1, sm_2, sm_3, sm_4, sto_0, sto_1, sto_2, sto_3, sto_4, sto_5, sto_6, sto_7, sto_8, sto_9, sto_10, sto_11, sto_12, sto_13, sto_14, nlo_n, nlo_i, nlo_r, nlo_0, nlo_l, and_self, or_self, hk.1, e1, c6 hk, hs.1, ht]
theorem c8n (hk : Mk h b) (hs : CS M b E) (h6 : E 0 ≤ 6) {t : Int32} (ht : ¬ ∃ j, j < E 0 ∧ t = nI j) : j_C (d + 3) 8 [.ref b, .int t] (FS h M) = some (some (.int (nI 0)), FS h M) := by
  rw [j_C_eq]
  by_cases e1 : t < nI 0
  · simp only [st_8_0, st_8_1, st_8_4, st_8_5, st_8_6, st_8_9, st_8_12, st_8_13, st_8_16, st_8_17, ini_8, fs_cl, fs_len, fs_rf, fs_M, fs_put, fs_cpy, if_true, if_false, rv_ref, true_or, or_true, true_and, and_true, nI_ltI, ix_nI, nI_clamp, ps_i, ps_n, Option.bind_some, sm_0, sm_1, sm_2, sm_3, sm_4, sto_0, sto_1, sto_2, sto_3, sto_4, sto_5, sto_6, sto_7, sto_8, sto_9, sto_10, sto_11, sto_12, sto_13, sto_14, nlo_n, nlo_i, nlo_r, nlo_0, nlo_l, and_self, or_self, e1]
  · have e2 : ¬ t < nI (E 0) := by
      intro e
      rw [ltn (by omega)] at e
      rw [lt0] at e1
      exact ht ⟨t.toInt.toNat, by omega, by rw [nI_z, Int.toNat_of_nonneg (by omega)]; exact zI_of t⟩
    simp only [st_8_0, st_8_1, st_8_4, st_8_5, st_8_6, st_8_9, st_8_12, st_8_13, st_8_16, st_8_17, ini_8, fs_cl, fs_len, fs_rf, fs_M, fs_put, fs_cpy, if_true, if_false, rv_ref, true_or, or_true, true_and, and_true, nI_ltI, ix_nI, nI_clamp, ps_i, ps_n, Option.bind_some, sm_0, sm_1, sm_2, sm_3, sm_4, sto_0, sto_1, sto_2, sto_3, sto_4, sto_5, sto_6, sto_7, sto_8, sto_9, sto_10, sto_11, sto_12, sto_13, sto_14, nlo_n, nlo_i, nlo_r, nlo_0, nlo_l, and_self, or_self, hk.1, e1, e2, c6 hk, hs.1]
theorem c9y (hk : Mk h b) (hs : CS M b E) (h6 : E 1 ≤ 8) {t : Nat} (ht : t < E 1) : j_C (d + 3) 9 [.ref b, .int (nI t)] (FS h M) = some (some (.int (nI 1)), FS h M) := by
  have e1 : ¬ nI t < nI 0 := nI_nlt (Nat.zero_le _) (by omega)
  rw [j_C_eq]
  simp (disch := omega) only [st_9_0, st_9_1, st_9_4, st_9_5, st_9_6, st_9_9, st_9_12, st_9_13, st_9_16, st_9_17, ini_9, fs_cl, fs_len, fs_rf, fs_M, fs_put, fs_cpy, if_true, if_false, rv_ref, true_or, or_true, true_and, and_true, nI_ltI, ix_nI, nI_clamp, ps_i, ps_n, Option.bind_some, sm_0, sm_1, sm_2, sm_3, sm_4, sto_0, sto_1, sto_2, sto_3, sto_4, sto_5, sto_6, sto_7, sto_8, sto_9, sto_10, sto_11, sto_12, sto_13, sto_14, nlo_n, nlo_i, nlo_r, nlo_0, nlo_l, and_self, or_self, hk.1, e1, c7 hk, hs.2.2.2.2.2.1, ht]
theorem c9n (hk : Mk h b) (hs : CS M b E) (h6 : E 1 ≤ 8) {t : Int32} (ht : ¬ ∃ j, j < E 1 ∧ t = nI j) : j_C (d + 3) 9 [.ref b, .int t] (FS h M) = some (some (.int (nI 0)), FS h M) := by
  rw [j_C_eq]
  by_cases e1 : t < nI 0
  · simp only [st_9_0, st_9_1, st_9_4, st_9_5, st_9_6, st_9_9, st_9_12, st_9_13, st_9_16, st_9_17, ini_9, fs_cl, fs_len, fs_rf, fs_M, fs_put, fs_cpy, if_true, if_false, rv_ref, true_or, or_true, true_and, and_true, nI_ltI, ix_nI, nI_clamp, ps_i, ps_n, Option.bind_some, sm_0, sm_1, sm_2, sm_3, sm_4, sto_0, sto_1, sto_2, sto_3, sto_4, sto_5, sto_6, sto_7, sto_8, sto_9, sto_10, sto_11, sto_12, sto_13, sto_14, nlo_n, nlo_i, nlo_r, nlo_0, nlo_l, and_self, or_self, e1]
  · have e2 : ¬ t < nI (E 1) := by
      intro e
      rw [ltn (by omega)] at e
      rw [lt0] at e1
      exact ht ⟨t.toInt.toNat, by omega, by rw [nI_z, Int.toNat_of_nonneg (by omega)]; exact zI_of t⟩
    simp only [st_9_0, st_9_1, st_9_4, st_9_5, st_9_6, st_9_9, st_9_12, st_9_13, st_9_16, st_9_17, ini_9, fs_cl, fs_len, fs_rf, fs_M, fs_put, fs_cpy, if_true, if_false, rv_ref, true_or, or_true, true_and, and_true, nI_ltI, ix_nI, nI_clamp, ps_i, ps_n, Option.bind_some, sm_0, sm_1, sm_2, sm_3, sm_4, sto_0, sto_1, sto_2, sto_3, sto_4, sto_5, sto_6, sto_7, sto_8, sto_9, sto_10, sto_11, sto_12, sto_13, sto_14, nlo_n, nlo_i, nlo_r, nlo_0, nlo_l, and_self, or_self, hk.1, e1, e2, c7 hk, hs.2.2.2.2.2.1]
/-- holds: a coin that is there -/
theorem c12 (hk : Mk h b) (hm : CM M b E z K0 K1) (hw : WE E) {t c : Nat} (ht : t < 10) (hc : c < E 1) : j_C (d + 2) 12 [.ref b, .int (nI t), .int (nI c)] (FS h M) = some (some (.int (if E (39 + 5 * c) = t then nI 1 else nI 0)), FS h M) := by
  obtain ⟨m0, _, _, _, _, _, ⟨r5, n5⟩, ⟨r6, n6⟩, _⟩ := hk
  have h8 := hw.2.1
  have h6 := hw.1
  have hcc := hm.2.2.1 c hc
  have hcv := (hw.2.2.2.2.2.2.2 c hc).2.2.1
  have hs := hm.1.2.2.2.2.2.1
  have e1 : ¬ nI c < nI 0 := nI_nlt (Nat.zero_le _) (by omega)
  have hg := n33i (d := d) (M := M) n6 (by omega : c < 8)
  rw [hcc.2.1] at hg
  rw [j_C_eq]
  by_cases e2 : E (39 + 5 * c) = t
  · simp (disch := omega) only [st_12_0, st_12_1, st_12_4, st_12_5, st_12_6, st_12_9, st_12_12, st_12_15, st_12_16, st_12_19, st_12_20, st_12_23, st_12_24, st_12_27, st_12_28, st_12_31, st_12_32, ini_12, fs_cl, fs_len, fs_rf, fs_M, fs_put, fs_cpy, if_true, if_false, rv_ref, true_or, or_true, true_and, and_true, nI_ltI, ix_nI, nI_clamp, ps_i, ps_n, Option.bind_some, sm_0, sm_1, sm_2, sm_3, sm_4, sto_0, sto_1, sto_2, sto_3, sto_4, sto_5, sto_6, sto_7, sto_8, sto_9, sto_10, sto_11, sto_12, sto_13, sto_14, nlo_n, nlo_i, nlo_r, nlo_0, nlo_l, and_self, or_self, m0, r5, r6, n5.1, n6.1, n32 n5.1, hs, e1, hc, hg, e2]
  · simp (disch := omega) only [st_12_0, st_12_1, st_12_4, st_12_5, st_12_6, st_12_9, st_12_12, st_12_15, st_12_16, st_12_19, st_12_20, st_12_23, st_12_24, st_12_27, st_12_28, st_12_31, st_12_32, ini_12, fs_cl, fs_len, fs_rf, fs_M, fs_put, fs_cpy, if_true, if_false, rv_ref, true_or, or_true, true_and, and_true, nI_ltI, ix_nI, nI_clamp, ps_i, ps_n, Option.bind_some, sm_0, sm_1, sm_2, sm_3, sm_4, sto_0, sto_1, sto_2, sto_3, sto_4, sto_5, sto_6, sto_7, sto_8, sto_9, sto_10, sto_11, sto_12, sto_13, sto_14, nlo_n, nlo_i, nlo_r, nlo_0, nlo_l, and_self, or_self, m0, r5, r6, n5.1, n6.1, n32 n5.1, hs, e1, hc, hg, e2, nI_eq]
/-- the law of a use -/
theorem c15a (hk : Mk h b) : j_C (d + 1) 15 [.ref b, .int (nI 0)] (FS h M) = some (some (.ref (b + 17)), FS h M) := by
  obtain ⟨m0, _, _, _, _, _, _, _, _, ⟨r8, _⟩, _⟩ := hk
  rw [j_C_eq]
  simp (disch := omega) only [st_15_0, st_15_1, st_15_4, st_15_5, st_15_8, st_15_11, st_15_12, st_15_15, st_15_15N, ini_15, fs_cl, fs_len, fs_rf, fs_M, fs_put, fs_cpy, if_true, if_false, rv_ref, true_or, or_true, true_and, and_true, nI_ltI, ix_nI, nI_clamp, ps_i, ps_n, Option.bind_some, sm_0, sm_1, sm_2, sm_3, sm_4, sto_0, sto_1, sto_2, sto_3, sto_4, sto_5, sto_6, sto_7, sto_8, sto_9, sto_10, sto_11, sto_12, sto_13, sto_14, nlo_n, nlo_i, nlo_r, nlo_0, nlo_l, and_self, or_self, m0, r8]
theorem c15b (hk : Mk h b) : j_C (d + 1) 15 [.ref b, .int (nI 1)] (FS h M) = some (some (.ref (b + 22)), FS h M) := by
  obtain ⟨m0, _, _, _, _, _, _, _, _, _, ⟨r9, _⟩⟩ := hk
  have e : ¬ nI 1 = nI 0 := by decide +kernel
  rw [j_C_eq]
  simp (disch := omega) only [st_15_0, st_15_1, st_15_4, st_15_5, st_15_8, st_15_11, st_15_12, st_15_15, st_15_15N, ini_15, fs_cl, fs_len, fs_rf, fs_M, fs_put, fs_cpy, if_true, if_false, rv_ref, true_or, or_true, true_and, and_true, nI_ltI, ix_nI, nI_clamp, ps_i, ps_n, Option.bind_some, sm_0, sm_1, sm_2, sm_3, sm_4, sto_0, sto_1, sto_2, sto_3, sto_4, sto_5, sto_6, sto_7, sto_8, sto_9, sto_10, sto_11, sto_12, sto_13, sto_14, nlo_n, nlo_i, nlo_r, nlo_0, nlo_l, and_self, or_self, m0, r9, e]
theorem c1 {u : Nat} (hl : Lw h u) {K : List Int32} (hk : Cd M u K) : j_C (d + 2) 1 [.ref u] (FS h M) = some (some (.int (if K.length = 0 then nI 0 else nI 1)), FS h M) := by
  obtain ⟨g1, g2, g3, _⟩ := hl
  have hk2 := hk.2.1
  rw [j_C_eq]
  by_cases e : K.length = 0
  · have e2 : ¬ nI 0 < nI 0 := nI_nlt (Nat.le_refl _) (by omega)
    simp (disch := omega) only [st_1_0, st_1_1, st_1_4, st_1_7, st_1_10, st_1_11, st_1_14, st_1_15, ini_1, fs_cl, fs_len, fs_rf, fs_M, fs_put, fs_cpy, if_true, if_false, rv_ref, true_or, or_true, true_and, and_true, nI_ltI, ix_nI, nI_clamp, ps_i, ps_n, Option.bind_some, sm_0, sm_1, sm_2, sm_3, sm_4, sto_0, sto_1, sto_2, sto_3, sto_4, sto_5, sto_6, sto_7, sto_8, sto_9, sto_10, sto_11, sto_12, sto_13, sto_14, nlo_n, nlo_i, nlo_r, nlo_0, nlo_l, and_self, or_self, g1, g2, g3.1, n32 g3.1, hk.1, e, e2]
  · have e2 : nI 0 < nI K.length := nI_lt (by omega) (by omega)
    simp (disch := omega) only [st_1_0, st_1_1, st_1_4, st_1_7, st_1_10, st_1_11, st_1_14, st_1_15, ini_1, fs_cl, fs_len, fs_rf, fs_M, fs_put, fs_cpy, if_true, if_false, rv_ref, true_or, or_true, true_and, and_true, nI_ltI, ix_nI, nI_clamp, ps_i, ps_n, Option.bind_some, sm_0, sm_1, sm_2, sm_3, sm_4, sto_0, sto_1, sto_2, sto_3, sto_4, sto_5, sto_6, sto_7, sto_8, sto_9, sto_10, sto_11, sto_12, sto_13, sto_14, nlo_n, nlo_i, nlo_r, nlo_0, nlo_l, and_self, or_self, g1, g2, g3.1, n32 g3.1, hk.1, e, e2]
def mm (lo v : Int32) : Int32 := if lo < (if v < nI 99 then v else nI 99) then (if v < nI 99 then v else nI 99) else lo
def gv0 (K : List Int32) (x y w : Int32) : Int32 := mm (-99) (if K.length = 0 then x * nI 10 + y * nI 2 - w else wko K x y w)
def gv1 (K : List Int32) (x y w : Int32) : Int32 := mm (nI 0) (if K.length = 0 then y else wko K x y w)
theorem c16a (hk : Mk h b) (hc : Cd M (b + 17) K0) (x y w : Int32) : ∃ M', j_C (d + 3) 16 [.ref b, .int (nI 0), .int x, .int y, .int w] (FS h M) = some (some (.int (gv0 K0 x y w)), FS h M') ∧ sg b M M' := by
  have hk' := hk
  obtain ⟨m0, _, _, _, _, _, _, _, _, ⟨r8, l8⟩, _⟩ := hk'
  have e1 : ¬ nI 1 = nI 0 := by decide +kernel
  unfold gv0 mm
  by_cases e : K0.length = 0
  · refine ⟨M, ?_, sg_r⟩
    rw [j_C_eq]
    simp (disch := omega) only [st_16_0, st_16_1, st_16_2, st_16_5, st_16_5N, st_16_7, st_16_8, st_16_11, st_16_13, st_16_16, st_16_17, st_16_19, st_16_19N, st_16_21, st_16_24, st_16_27, st_16_27N, st_16_29, st_16_30, st_16_31, st_16_33, st_16_36, st_16_38, st_16_41, st_16_42, st_16_45, st_16_46, st_16_48, st_16_49, st_16_50, st_16_51, st_16_52, st_16_53, st_16_55, st_16_56, st_16_59, st_16_60, st_16_62, st_16_64, st_16_66, st_16_68, st_16_71, st_16_74, ini_16, fs_cl, fs_len, fs_rf, fs_M, fs_put, fs_cpy, if_true, if_false, rv_ref, true_or, or_true, true_and, and_true, nI_ltI, ix_nI, nI_clamp, ps_i, ps_n, Option.bind_some, sm_0, sm_1, sm_2, sm_3, sm_4, sto_0, sto_1, sto_2, sto_3, sto_4, sto_5, sto_6, sto_7, sto_8, sto_9, sto_10, sto_11, sto_12, sto_13, sto_14, nlo_n, nlo_i, nlo_r, nlo_0, nlo_l, and_self, or_self, m0, l8.1, c15a hk, c1 l8 hc, e]
  · obtain ⟨M', p1, p2⟩ := c2 (d := d) l8 hc x y w
    refine ⟨M', ?_, fun y h1 h2 _ _ => p2 y (by omega) (by omega)⟩
    rw [j_C_eq]
    simp (disch := omega) only [st_16_0, st_16_1, st_16_2, st_16_5, st_16_5N, st_16_7, st_16_8, st_16_11, st_16_13, st_16_16, st_16_17, st_16_19, st_16_19N, st_16_21, st_16_24, st_16_27, st_16_27N, st_16_29, st_16_30, st_16_31, st_16_33, st_16_36, st_16_38, st_16_41, st_16_42, st_16_45, st_16_46, st_16_48, st_16_49, st_16_50, st_16_51, st_16_52, st_16_53, st_16_55, st_16_56, st_16_59, st_16_60, st_16_62, st_16_64, st_16_66, st_16_68, st_16_71, st_16_74, ini_16, fs_cl, fs_len, fs_rf, fs_M, fs_put, fs_cpy, if_true, if_false, rv_ref, true_or, or_true, true_and, and_true, nI_ltI, ix_nI, nI_clamp, ps_i, ps_n, Option.bind_some, sm_0, sm_1, sm_2, sm_3, sm_4, sto_0, sto_1, sto_2, sto_3, sto_4, sto_5, sto_6, sto_7, sto_8, sto_9, sto_10, sto_11, sto_12, sto_13, sto_14, nlo_n, nlo_i, nlo_r, nlo_0, nlo_l, and_self, or_self, m0, l8.1, c15a hk, c1 l8 hc, e, e1, p1]
theorem c16b (hk : Mk h b) (hc : Cd M (b + 22) K1) (x y w : Int32) : ∃ M', j_C (d + 3) 16 [.ref b, .int (nI 1), .int x, .int y, .int w] (FS h M) = some (some (.int (gv1 K1 x y w)), FS h M') ∧ sg b M M' := by
  have hk' := hk
  obtain ⟨m0, _, _, _, _, _, _, _, _, _, ⟨r9, l9⟩⟩ := hk'
  have e1 : ¬ nI 1 = nI 0 := by decide +kernel
  unfold gv1 mm
  by_cases e : K1.length = 0
  · refine ⟨M, ?_, sg_r⟩
    rw [j_C_eq]
    simp (disch := omega) only [st_16_0, st_16_1, st_16_2, st_16_5, st_16_5N, st_16_7, st_16_8, st_16_11, st_16_13, st_16_16, st_16_17, st_16_19, st_16_19N, st_16_21, st_16_24, st_16_27, st_16_27N, st_16_29, st_16_30, st_16_31, st_16_33, st_16_36, st_16_38, st_16_41, st_16_42, st_16_45, st_16_46, st_16_48, st_16_49, st_16_50, st_16_51, st_16_52, st_16_53, st_16_55, st_16_56, st_16_59, st_16_60, st_16_62, st_16_64, st_16_66, st_16_68, st_16_71, st_16_74, ini_16, fs_cl, fs_len, fs_rf, fs_M, fs_put, fs_cpy, if_true, if_false, rv_ref, true_or, or_true, true_and, and_true, nI_ltI, ix_nI, nI_clamp, ps_i, ps_n, Option.bind_some, sm_0, sm_1, sm_2, sm_3, sm_4, sto_0, sto_1, sto_2, sto_3, sto_4, sto_5, sto_6, sto_7, sto_8, sto_9, sto_10, sto_11, sto_12, sto_13, sto_14, nlo_n, nlo_i, nlo_r, nlo_0, nlo_l, and_self, or_self, m0, l9.1, c15b hk, c1 l9 hc, e, e1]
  · obtain ⟨M', p1, p2⟩ := c2 (d := d) l9 hc x y w
    refine ⟨M', ?_, fun y _ _ h1 h2 => p2 y (by omega) (by omega)⟩
    rw [j_C_eq]
    simp (disch := omega) only [st_16_0, st_16_1, st_16_2, st_16_5, st_16_5N, st_16_7, st_16_8, st_16_11, st_16_13, st_16_16, st_16_17, st_16_19, st_16_19N, st_16_21, st_16_24, st_16_27, st_16_27N, st_16_29, st_16_30, st_16_31, st_16_33, st_16_36, st_16_38, st_16_41, st_16_42, st_16_45, st_16_46, st_16_48, st_16_49, st_16_50, st_16_51, st_16_52, st_16_53, st_16_55, st_16_56, st_16_59, st_16_60, st_16_62, st_16_64, st_16_66, st_16_68, st_16_71, st_16_74, ini_16, fs_cl, fs_len, fs_rf, fs_M, fs_put, fs_cpy, if_true, if_false, rv_ref, true_or, or_true, true_and, and_true, nI_ltI, ix_nI, nI_clamp, ps_i, ps_n, Option.bind_some, sm_0, sm_1, sm_2, sm_3, sm_4, sto_0, sto_1, sto_2, sto_3, sto_4, sto_5, sto_6, sto_7, sto_8, sto_9, sto_10, sto_11, sto_12, sto_13, sto_14, nlo_n, nlo_i, nlo_r, nlo_0, nlo_l, and_self, or_self, m0, l9.1, c15b hk, c1 l9 hc, e, e1, p1]
