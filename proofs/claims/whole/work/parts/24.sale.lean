/-! The class's Market: a sale. -/
variable {h : j_Hd} {M : Nat → Nat → Int32} {σ : j_St} {d b : Nat} {E : Nat → Nat} {z : Int32} {K0 K1 : List Int32}
theorem c18 (hk : Mk h b) (hm : CM M b E z K0 K1) (hw : WE E) {c t : Nat} (ht : t < E 0) (hc : c < E 1) : ∃ M', j_C (d + 5) 18 [.ref b, .int (nI t), .int (nI c)] (FS h M) = some (some (.int (if wth E K0 c t < nI (E (11 + 5 * t)) then nI 0 else nI 1)), FS h M') ∧ sg b M M' := by
  obtain ⟨M', p1, p2⟩ := c17 (d := d) hk hm hw ht hc
  have h6 := hw.1
  obtain ⟨m0, _, _, _, ⟨r3, n3⟩, _⟩ := hk
  have q : M' (b + 8) t = nI (E (11 + 5 * t)) := by rw [p2 (b + 8) (by omega) (by omega) (by omega) (by omega)]; exact (hm.2.1 t ht).2.2.2.1
  have g := n33i (d := d + 3) (M := M') n3 (by omega : t < 6)
  refine ⟨M', ?_, p2⟩
  rw [j_C_eq]
  by_cases e : wth E K0 c t < nI (E (11 + 5 * t))
  · simp (disch := omega) only [st_18_0, st_18_1, st_18_2, st_18_3, st_18_6, st_18_7, st_18_10, st_18_11, st_18_14, st_18_17, st_18_18, st_18_21, st_18_22, ini_18, fs_cl, fs_len, fs_rf, fs_M, fs_put, fs_cpy, ↓reduceIte, rv_ref, true_or, or_true, true_and, and_true, nI_ltI, ix_nI, nI_clamp, ps_i, ps_n, Option.bind_some, sm_0, sm_1, sm_2, sm_3, sm_4, sto_0, sto_1, sto_2, sto_3, sto_4, sto_5, sto_6, sto_7, sto_8, sto_9, sto_10, sto_11, sto_12, sto_13, sto_14, nlo_n, nlo_i, nlo_r, nlo_0, nlo_l, and_self, or_self, Nat.reduceEqDiff, Nat.reduceLT, Nat.reduceLeDiff, Nat.one_ne_zero, Nat.zero_ne_one, m0, r3, n3.1, p1, g, q, e]
  · simp (disch := omega) only [st_18_0, st_18_1, st_18_2, st_18_3, st_18_6, st_18_7, st_18_10, st_18_11, st_18_14, st_18_17, st_18_18, st_18_21, st_18_22, ini_18, fs_cl, fs_len, fs_rf, fs_M, fs_put, fs_cpy, ↓reduceIte, rv_ref, true_or, or_true, true_and, and_true, nI_ltI, ix_nI, nI_clamp, ps_i, ps_n, Option.bind_some, sm_0, sm_1, sm_2, sm_3, sm_4, sto_0, sto_1, sto_2, sto_3, sto_4, sto_5, sto_6, sto_7, sto_8, sto_9, sto_10, sto_11, sto_12, sto_13, sto_14, nlo_n, nlo_i, nlo_r, nlo_0, nlo_l, and_self, or_self, Nat.reduceEqDiff, Nat.reduceLT, Nat.reduceLeDiff, Nat.one_ne_zero, Nat.zero_ne_one, m0, r3, n3.1, p1, g, q, e]
theorem c20 (hk : Mk h b) {k w v t : Nat} (ht : t < 6) (h1 : M (b + 2) t = nI k) (hk7 : k < 7) (h2 : M (b + 6) t = nI w) (hv : v < 1000) : j_C (d + 3) 20 [.ref b, .int (nI v), .int (nI t)] (FS h M) = some (some (.int (nI (if k = 2 then w else if k = 5 then 0 else wl v w))), FS h M) := by
  obtain ⟨m0, ⟨r0, n0⟩, _, ⟨r2, n2⟩, _⟩ := hk
  have g0 := n33i (d := d + 1) (M := M) n0 ht
  have g2 := n33i (d := d + 1) (M := M) n2 ht
  have g3 := c136 (σ := FS h M) (d := d) (v := v) (w := w) (by omega)
  rw [j_C_eq]
  by_cases e2 : k = 2
  · simp (disch := omega) only [st_20_0, st_20_1, st_20_4, st_20_5, st_20_8, st_20_36, st_20_37, st_20_40, st_20_41, st_20_44, st_20_45, st_20_46, st_20_47, st_20_48, st_20_49, st_20_52, st_20_53, st_20_56, st_20_59, ini_20, fs_cl, fs_len, fs_rf, fs_M, fs_put, fs_cpy, ↓reduceIte, rv_ref, true_or, or_true, true_and, and_true, nI_ltI, ix_nI, nI_clamp, ps_i, ps_n, Option.bind_some, sm_0, sm_1, sm_2, sm_3, sm_4, sto_0, sto_1, sto_2, sto_3, sto_4, sto_5, sto_6, sto_7, sto_8, sto_9, sto_10, sto_11, sto_12, sto_13, sto_14, nlo_n, nlo_i, nlo_r, nlo_0, nlo_l, and_self, or_self, Nat.reduceEqDiff, Nat.reduceLT, Nat.reduceLeDiff, Nat.one_ne_zero, Nat.zero_ne_one, m0, r0, r2, n0.1, n2.1, g0, g2, h1, h2, e2, nI_eq]
  · by_cases e5 : k = 5
    · simp (disch := omega) only [st_20_0, st_20_1, st_20_4, st_20_5, st_20_8, st_20_36, st_20_37, st_20_40, st_20_41, st_20_44, st_20_45, st_20_46, st_20_47, st_20_48, st_20_49, st_20_52, st_20_53, st_20_56, st_20_59, ini_20, fs_cl, fs_len, fs_rf, fs_M, fs_put, fs_cpy, ↓reduceIte, rv_ref, true_or, or_true, true_and, and_true, nI_ltI, ix_nI, nI_clamp, ps_i, ps_n, Option.bind_some, sm_0, sm_1, sm_2, sm_3, sm_4, sto_0, sto_1, sto_2, sto_3, sto_4, sto_5, sto_6, sto_7, sto_8, sto_9, sto_10, sto_11, sto_12, sto_13, sto_14, nlo_n, nlo_i, nlo_r, nlo_0, nlo_l, and_self, or_self, Nat.reduceEqDiff, Nat.reduceLT, Nat.reduceLeDiff, Nat.one_ne_zero, Nat.zero_ne_one, m0, r0, r2, n0.1, n2.1, g0, g2, h1, h2, e5, nI_eq]
    · simp (disch := omega) only [st_20_0, st_20_1, st_20_4, st_20_5, st_20_8, st_20_36, st_20_37, st_20_40, st_20_41, st_20_44, st_20_45, st_20_46, st_20_47, st_20_48, st_20_49, st_20_52, st_20_53, st_20_56, st_20_59, ini_20, fs_cl, fs_len, fs_rf, fs_M, fs_put, fs_cpy, ↓reduceIte, rv_ref, true_or, or_true, true_and, and_true, nI_ltI, ix_nI, nI_clamp, ps_i, ps_n, Option.bind_some, sm_0, sm_1, sm_2, sm_3, sm_4, sto_0, sto_1, sto_2, sto_3, sto_4, sto_5, sto_6, sto_7, sto_8, sto_9, sto_10, sto_11, sto_12, sto_13, sto_14, nlo_n, nlo_i, nlo_r, nlo_0, nlo_l, and_self, or_self, Nat.reduceEqDiff, Nat.reduceLT, Nat.reduceLeDiff, Nat.one_ne_zero, Nat.zero_ne_one, m0, r0, r2, n0.1, n2.1, g0, g2, h1, h2, e2, e5, nI_eq, g3]
def selR (E : Nat → Nat) (c t : Nat) : Nat → Nat := if E (8 + 5 * t) = 2 then upR (upE E (39 + 5 * c) t) c (E (10 + 5 * t)) 0 0 else if E (8 + 5 * t) = 5 then upR (upE E (39 + 5 * c) t) c 0 0 0 else upR (upE E (39 + 5 * c) t) c (E (10 + 5 * t)) (E (40 + 5 * c)) (E (41 + 5 * c))
/-- a sale -/
def sel (E : Nat → Nat) (c t : Nat) : Nat → Nat := upE (selR E c t) 3 (if E 3 + 1 < 9999 then E 3 + 1 else 9999)
theorem selR_o {c t j : Nat} (h1 : j < 39 + 5 * c ∨ 42 + 5 * c < j) : selR E c t j = E j := by
  unfold selR upR
  split
  · simp (disch := omega) only [upE_o]
  · split
    · simp (disch := omega) only [upE_o]
    · simp (disch := omega) only [upE_o]
theorem sel_o {c t j : Nat} (h1 : j < 39 + 5 * c ∨ 42 + 5 * c < j) (h3 : j ≠ 3) : sel E c t j = E j := by
  unfold sel; rw [upE_o _ h3, selR_o h1]
theorem selR_h {c t : Nat} : selR E c t (39 + 5 * c) = t := by
  unfold selR upR
  split
  · simp (disch := omega) only [upE_o, upE_s]
  · split
    · simp (disch := omega) only [upE_o, upE_s]
    · simp (disch := omega) only [upE_o, upE_s]
theorem selR_rw {c t : Nat} (hr : Rw (E (40 + 5 * c)) (E (41 + 5 * c)) (E (42 + 5 * c))) (w1 : 1 ≤ E (10 + 5 * t)) (w7 : E (10 + 5 * t) ≤ 7) : Rw (selR E c t (40 + 5 * c)) (selR E c t (41 + 5 * c)) (selR E c t (42 + 5 * c)) := by
  unfold selR upR
  unfold Rw at hr ⊢
  split
  · simp (disch := omega) only [upE_o, upE_s]; exact ⟨w7, by omega, by omega, fun _ => trivial, fun _ => trivial⟩
  · split
    · simp (disch := omega) only [upE_o, upE_s]; exact ⟨by omega, by omega, by omega, fun _ => trivial, fun _ => trivial⟩
    · simp (disch := omega) only [upE_o, upE_s]; omega
theorem WE_sel (hw : WE E) {c t : Nat} (ht : t < E 0) (hc : c < E 1) : WE (sel E c t) := by
  obtain ⟨h1, h2, h3, h4, h5, h6, h7, h8⟩ := hw
  have tv := h7 t ht
  have cv := h8 c hc
  have o : ∀ j, j < 38 → j ≠ 3 → sel E c t j = E j := fun j hj h3 => sel_o (by omega) h3
  refine ⟨by rw [o 0 (by omega) (by omega)]; exact h1, by rw [o 1 (by omega) (by omega)]; exact h2, by rw [o 2 (by omega) (by omega)]; exact h3, ?_, by rw [o 4 (by omega) (by omega)]; exact h5, by rw [o 4 (by omega) (by omega)]; exact h6, fun t' ht' => ?_, fun c' hc' => ?_⟩
  · unfold sel; rw [upE_s]; split <;> omega
  · rw [o 0 (by omega) (by omega)] at ht'
    have p := h7 t' ht'
    unfold Tv at p ⊢
    rw [o _ (by omega) (by omega), o _ (by omega) (by omega), o _ (by omega) (by omega), o _ (by omega) (by omega), o _ (by omega) (by omega)]; exact p
  · rw [o 1 (by omega) (by omega)] at hc'
    have p := h8 c' hc'
    unfold Cv at p ⊢
    rw [o 0 (by omega) (by omega)]
    by_cases e : c' = c
    · subst e
      have rr := selR_rw (t := t) cv.2.2.2 tv.2.2.1 tv.2.2.2.1
      have o2 : ∀ j, j ≠ 3 → sel E c' t j = selR E c' t j := fun j hj => by unfold sel; rw [upE_o _ hj]
      rw [o2 _ (by omega), o2 (39 + 5 * c') (by omega), o2 (40 + 5 * c') (by omega), o2 (41 + 5 * c') (by omega), o2 (42 + 5 * c') (by omega), selR_h, selR_o (by omega)]
      exact ⟨p.1, p.2.1, ht, rr⟩
    · have o3 : ∀ k, k < 5 → sel E c t (38 + k + 5 * c') = E (38 + k + 5 * c') := fun k hk => sel_o (by omega) (by omega)
      rw [o3 0 (by omega), o3 1 (by omega), o3 2 (by omega), o3 3 (by omega), o3 4 (by omega)]; exact p
theorem c19n (hk : Mk h b) (hm : CM M b E z K0 K1) (hw : WE E) {c t : Nat} (ht : t < E 0) (hc : c < E 1) (hr : wth E K0 c t < nI (E (11 + 5 * t))) : ∃ M', j_C (d + 5) 19 [.ref b, .int (nI c), .int (nI t)] (FS h M) = some (some (.int (nI 0)), FS h M') ∧ sg b M M' := by
  obtain ⟨M', p1, p2⟩ := c17 (d := d) hk hm hw ht hc
  have h6 := hw.1
  obtain ⟨m0, _, _, _, ⟨r3, n3⟩, _⟩ := hk
  have q : M' (b + 8) t = nI (E (11 + 5 * t)) := by rw [p2 (b + 8) (by omega) (by omega) (by omega) (by omega)]; exact (hm.2.1 t ht).2.2.2.1
  have g := n33i (d := d + 3) (M := M') n3 (by omega : t < 6)
  refine ⟨M', ?_, p2⟩
  rw [j_C_eq]
  simp (disch := omega) only [st_19_0, st_19_1, st_19_2, st_19_3, st_19_6, st_19_7, st_19_10, st_19_11, st_19_14, st_19_17, st_19_18, st_19_19, st_19_20, st_19_23, st_19_24, st_19_25, st_19_28, st_19_29, st_19_32, st_19_33, st_19_34, st_19_35, st_19_38, st_19_39, st_19_42, st_19_43, st_19_46, st_19_49, st_19_50, st_19_53, st_19_54, st_19_57, st_19_58, st_19_59, st_19_62, st_19_65, st_19_66, ini_19, fs_cl, fs_len, fs_rf, fs_M, fs_put, fs_cpy, ↓reduceIte, rv_ref, true_or, or_true, true_and, and_true, nI_ltI, ix_nI, nI_clamp, ps_i, ps_n, Option.bind_some, sm_0, sm_1, sm_2, sm_3, sm_4, sto_0, sto_1, sto_2, sto_3, sto_4, sto_5, sto_6, sto_7, sto_8, sto_9, sto_10, sto_11, sto_12, sto_13, sto_14, nlo_n, nlo_i, nlo_r, nlo_0, nlo_l, and_self, or_self, Nat.reduceEqDiff, Nat.reduceLT, Nat.reduceLeDiff, Nat.one_ne_zero, Nat.zero_ne_one, m0, r3, n3.1, p1, g, q, hr]
theorem c19y (hk : Mk h b) (hm : CM M b E z K0 K1) (hw : WE E) {c t : Nat} (ht : t < E 0) (hc : c < E 1) (hr : ¬ wth E K0 c t < nI (E (11 + 5 * t))) : ∃ M', j_C (d + 5) 19 [.ref b, .int (nI c), .int (nI t)] (FS h M) = some (some (.int (nI 1)), FS h M') ∧ CM M' b (sel E c t) z K0 K1 ∧ mg b M M' := by
  obtain ⟨M1, p1, p2⟩ := c17 (d := d) hk hm hw ht hc
  have hk' := hk
  have h6 := hw.1
  have h8 := hw.2.1
  have hs3 := hw.2.2.2.1
  obtain ⟨m0, ⟨r0, n0⟩, _, ⟨r2, n2⟩, ⟨r3, n3⟩, _, _, ⟨r6, n6⟩, ⟨r7, n7⟩, _⟩ := hk'
  have tv := hw.2.2.2.2.2.2.1 t ht
  have cv := hw.2.2.2.2.2.2.2 c hc
  have hm1 := CM_sg p2 hm
  have q : M1 (b + 8) t = nI (E (11 + 5 * t)) := (hm1.2.1 t ht).2.2.2.1
  have g := n33i (d := d + 3) (M := M1) n3 (by omega : t < 6)
  have hm2 := CM_H hm1 h6 h8 (by omega : c < 8) t
  have w2 := n34 (d := d + 3) (M := M1) n6 (by omega : c < 8) (nI t)
  have g7 := n33i (d := d + 3) (M := j_up M1 (b + 14) c (nI t)) n7 (by omega : c < 8)
  have q7 : j_up M1 (b + 14) c (nI t) (b + 16) c = nI (rE E c) := by
    rw [up_o _ _ _ _ _ (by omega)]; exact (hm1.2.2.1 c hc).2.2
  have hrl : rE E c < 1000 := rn_lt cv.2.2.2
  have g20 := c20 (d := d + 1) (M := j_up M1 (b + 14) c (nI t)) (v := rE E c) (t := t) hk (by omega) (by rw [up_o _ _ _ _ _ (by omega)]; exact (hm1.2.1 t ht).1) tv.1 (by rw [up_o _ _ _ _ _ (by omega)]; exact (hm1.2.1 t ht).2.2.1) hrl
  have fin : ∀ x y w : Nat, rn x y w < 1000 → (if E (8 + 5 * t) = 2 then E (10 + 5 * t) else if E (8 + 5 * t) = 5 then 0 else wl (rE E c) (E (10 + 5 * t))) = rn x y w → selR E c t = upR (upE E (39 + 5 * c) t) c x y w → ∃ M', j_C (d + 5) 19 [.ref b, .int (nI c), .int (nI t)] (FS h M) = some (some (.int (nI 1)), FS h M') ∧ CM M' b (sel E c t) z K0 K1 ∧ mg b M M' := by
    intro x y w hx hv he
    have w3 := n34 (d := d + 3) (M := j_up M1 (b + 14) c (nI t)) n7 (by omega : c < 8) (nI (rn x y w))
    have hm3 := CM_R (c0 := c) (x := x) (y := y) (w := w) hm2 (by rw [upE_o _ (by omega)]; exact h6) (by rw [upE_o _ (by omega)]; exact h8) (by omega) hx
    rw [← he] at hm3
    have e0 : selR E c t 0 = E 0 := selR_o (by omega)
    have e1 : selR E c t 1 = E 1 := selR_o (by omega)
    have hm4 := CM_sales hm3 (by rw [e0]; exact h6) (by rw [e1]; exact h8) (if E 3 + 1 < 9999 then E 3 + 1 else 9999)
    have q12 : j_up (j_up M1 (b + 14) c (nI t)) (b + 16) c (nI (rn x y w)) b 12 = nI (E 3) := by
      rw [up_o _ _ _ _ _ (by omega), up_o _ _ _ _ _ (by omega)]; exact hm1.2.2.2.2.1.2.2.1
    refine ⟨_, ?_, hm4, ?_⟩
    · rw [hv] at g20
      rw [j_C_eq]
      by_cases e9 : E 3 + 1 < 9999
      · simp (disch := omega) only [st_19_0, st_19_1, st_19_2, st_19_3, st_19_6, st_19_7, st_19_10, st_19_11, st_19_14, st_19_17, st_19_18, st_19_19, st_19_20, st_19_23, st_19_24, st_19_25, st_19_28, st_19_29, st_19_32, st_19_33, st_19_34, st_19_35, st_19_38, st_19_39, st_19_42, st_19_43, st_19_46, st_19_49, st_19_50, st_19_53, st_19_54, st_19_57, st_19_58, st_19_59, st_19_62, st_19_65, st_19_66, ini_19, fs_cl, fs_len, fs_rf, fs_M, fs_put, fs_cpy, ↓reduceIte, rv_ref, true_or, or_true, true_and, and_true, nI_ltI, ix_nI, nI_clamp, ps_i, ps_n, Option.bind_some, sm_0, sm_1, sm_2, sm_3, sm_4, sto_0, sto_1, sto_2, sto_3, sto_4, sto_5, sto_6, sto_7, sto_8, sto_9, sto_10, sto_11, sto_12, sto_13, sto_14, nlo_n, nlo_i, nlo_r, nlo_0, nlo_l, and_self, or_self, Nat.reduceEqDiff, Nat.reduceLT, Nat.reduceLeDiff, Nat.one_ne_zero, Nat.zero_ne_one, m0, r3, r6, r7, n3.1, n6.1, n7.1, p1, g, q, hr, w2, g7, q7, g20, w3, q12, nI_add, e9]
      · simp (disch := omega) only [st_19_0, st_19_1, st_19_2, st_19_3, st_19_6, st_19_7, st_19_10, st_19_11, st_19_14, st_19_17, st_19_18, st_19_19, st_19_20, st_19_23, st_19_24, st_19_25, st_19_28, st_19_29, st_19_32, st_19_33, st_19_34, st_19_35, st_19_38, st_19_39, st_19_42, st_19_43, st_19_46, st_19_49, st_19_50, st_19_53, st_19_54, st_19_57, st_19_58, st_19_59, st_19_62, st_19_65, st_19_66, ini_19, fs_cl, fs_len, fs_rf, fs_M, fs_put, fs_cpy, ↓reduceIte, rv_ref, true_or, or_true, true_and, and_true, nI_ltI, ix_nI, nI_clamp, ps_i, ps_n, Option.bind_some, sm_0, sm_1, sm_2, sm_3, sm_4, sto_0, sto_1, sto_2, sto_3, sto_4, sto_5, sto_6, sto_7, sto_8, sto_9, sto_10, sto_11, sto_12, sto_13, sto_14, nlo_n, nlo_i, nlo_r, nlo_0, nlo_l, and_self, or_self, Nat.reduceEqDiff, Nat.reduceLT, Nat.reduceLeDiff, Nat.one_ne_zero, Nat.zero_ne_one, m0, r3, r6, r7, n3.1, n6.1, n7.1, p1, g, q, hr, w2, g7, q7, g20, w3, q12, nI_add, e9]
    · exact mg_t (mg_sg p2) (mg_t (mg_up _ (by omega) (by omega)) (mg_t (mg_up _ (by omega) (by omega)) (mg_up _ (by omega) (by omega))))
  by_cases e2 : E (8 + 5 * t) = 2
  · refine fin (E (10 + 5 * t)) 0 0 ?_ ?_ ?_
    · have : rn (E (10 + 5 * t)) 0 0 = E (10 + 5 * t) := by simp [rn]
      rw [this]; have := tv.2.2.2.1; omega
    · rw [if_pos e2]; simp [rn]
    · unfold selR; rw [if_pos e2]
  · by_cases e5 : E (8 + 5 * t) = 5
    · refine fin 0 0 0 (by simp [rn]) ?_ ?_
      · rw [if_neg e2, if_pos e5]; rfl
      · unfold selR; rw [if_neg e2, if_pos e5]
    · have hwl := wl_rn cv.2.2.2 (E (10 + 5 * t)) tv.2.2.1 tv.2.2.2.1
      have rr := selR_rw (t := t) cv.2.2.2 tv.2.2.1 tv.2.2.2.1
      refine fin (E (10 + 5 * t)) (E (40 + 5 * c)) (E (41 + 5 * c)) ?_ ?_ ?_
      · have e : selR E c t = upR (upE E (39 + 5 * c) t) c (E (10 + 5 * t)) (E (40 + 5 * c)) (E (41 + 5 * c)) := by unfold selR; rw [if_neg e2, if_neg e5]
        have := rn_lt rr
        rw [e] at this
        simpa (disch := omega) only [upR, upE_o, upE_s] using this
      · rw [if_neg e2, if_neg e5]; exact hwl
      · unfold selR; rw [if_neg e2, if_neg e5]
