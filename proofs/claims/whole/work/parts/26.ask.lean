/-! The class's Market: its loops. -/
variable {h : j_Hd} {M : Nat → Nat → Int32} {σ : j_St} {d b : Nat} {E : Nat → Nat} {z : Int32} {K0 K1 : List Int32}
/-- the coins of a trader, as a set, among the first -/
def hbS (E : Nat → Nat) (t : Nat) : Nat → Int32
  | 0 => nI 0
  | c + 1 => if E (39 + 5 * c) = t then hbS E t c ||| (nI 1 <<< (nI c &&& 31)) else hbS E t c
def smS (E : Nat → Nat) : Nat → Nat
  | 0 => 0
  | c + 1 => smS E c + nE E c
def tlS (E : Nat → Nat) (K : List Int32) (t : Nat) : Nat → Int32
  | 0 => nI 0
  | c + 1 => if E (39 + 5 * c) = t then tlS E K t c + gv1 K (nI (E (38 + 5 * c))) (nI (nE E c)) (nI (E 2)) else tlS E K t c
def tkS (E : Nat → Nat) (K : List Int32) (c : Nat) : Nat → Int32
  | 0 => nI 0
  | t + 1 => if E (39 + 5 * c) = t then tkS E K c t else if wth E K c t < nI (E (11 + 5 * t)) then tkS E K c t else tkS E K c t ||| (nI 1 <<< (nI t &&& 31))
def utS (E : Nat → Nat) (K : List Int32) : Nat → Int32
  | 0 => nI 0
  | c + 1 => if tkS E K c (E 0) = nI 0 then utS E K c ||| (nI 1 <<< (nI c &&& 31)) else utS E K c
def one (s k : Nat) : Nat := if k = s then 1 else 0
def siS (E : Nat → Nat) (s : Nat) : Nat → Nat
  | 0 => 0
  | c + 1 => siS E s c + st3 (one s) (E (40 + 5 * c)) (E (41 + 5 * c)) (E (42 + 5 * c))
theorem nE_le (c : Nat) : nE E c ≤ 3 := rs_le
theorem c13 (hk : Mk h b) (hm : CM M b E z K0 K1) (hw : WE E) {t : Nat} (ht : t < 10) : j_C (d + 3) 13 [.ref b, .int (nI t)] (FS h M) = some (some (.int (hbS E t (E 1))), FS h M) := by
  have h8 := hw.2.1
  have L : ∀ r c, r + c = E 1 → j_X (d + 2) 13 4 [some (.ref b), some (.int (nI t)), some (.int (hbS E t c)), some (.int (nI c))] [] (FS h M) = some (some (.int (hbS E t (E 1))), FS h M) := by
    intro r
    induction r with
    | zero =>
      intro c hc
      have e : c = E 1 := by omega
      have e1 : ¬ c < E 1 := by omega
      rw [st_13_4]
      simp (disch := omega) only [st_13_0, st_13_1, st_13_2, st_13_3, st_13_5, st_13_6, st_13_9, st_13_12, st_13_13, st_13_14, st_13_15, st_13_18, st_13_21, st_13_22, st_13_23, st_13_24, st_13_25, st_13_26, st_13_27, st_13_30, st_13_33, st_13_34, ini_13, fs_cl, fs_len, fs_rf, fs_M, fs_put, fs_cpy, ↓reduceIte, rv_ref, true_or, or_true, true_and, and_true, nI_ltI, ix_nI, nI_clamp, ps_i, ps_n, Option.bind_some, sm_0, sm_1, sm_2, sm_3, sm_4, sto_0, sto_1, sto_2, sto_3, sto_4, sto_5, sto_6, sto_7, sto_8, sto_9, sto_10, sto_11, sto_12, sto_13, sto_14, nlo_n, nlo_i, nlo_r, nlo_0, nlo_l, and_self, or_self, Nat.reduceEqDiff, Nat.reduceLT, Nat.reduceLeDiff, Nat.one_ne_zero, Nat.zero_ne_one, hk.1, c7 hk, hm.1.2.2.2.2.2.1, e1]
      rw [e]
    | succ r ih =>
      intro c hc
      have e1 : c < E 1 := by omega
      have g := c12 (d := d) hk hm hw ht e1
      have hX := ih (c + 1) (by omega)
      rw [hbS] at hX
      rw [st_13_4]
      by_cases e : E (39 + 5 * c) = t
      · rw [if_pos e] at hX
        simp (disch := omega) only [st_13_0, st_13_1, st_13_2, st_13_3, st_13_5, st_13_6, st_13_9, st_13_12, st_13_13, st_13_14, st_13_15, st_13_18, st_13_21, st_13_22, st_13_23, st_13_24, st_13_25, st_13_26, st_13_27, st_13_30, st_13_33, st_13_34, ini_13, fs_cl, fs_len, fs_rf, fs_M, fs_put, fs_cpy, ↓reduceIte, rv_ref, true_or, or_true, true_and, and_true, nI_ltI, ix_nI, nI_clamp, ps_i, ps_n, Option.bind_some, sm_0, sm_1, sm_2, sm_3, sm_4, sto_0, sto_1, sto_2, sto_3, sto_4, sto_5, sto_6, sto_7, sto_8, sto_9, sto_10, sto_11, sto_12, sto_13, sto_14, nlo_n, nlo_i, nlo_r, nlo_0, nlo_l, and_self, or_self, Nat.reduceEqDiff, Nat.reduceLT, Nat.reduceLeDiff, Nat.one_ne_zero, Nat.zero_ne_one, hk.1, c7 hk, hm.1.2.2.2.2.2.1, e1, g, eq_true e, nI_eq, nI_add, hX]
      · rw [if_neg e] at hX
        simp (disch := omega) only [st_13_0, st_13_1, st_13_2, st_13_3, st_13_5, st_13_6, st_13_9, st_13_12, st_13_13, st_13_14, st_13_15, st_13_18, st_13_21, st_13_22, st_13_23, st_13_24, st_13_25, st_13_26, st_13_27, st_13_30, st_13_33, st_13_34, ini_13, fs_cl, fs_len, fs_rf, fs_M, fs_put, fs_cpy, ↓reduceIte, rv_ref, true_or, or_true, true_and, and_true, nI_ltI, ix_nI, nI_clamp, ps_i, ps_n, Option.bind_some, sm_0, sm_1, sm_2, sm_3, sm_4, sto_0, sto_1, sto_2, sto_3, sto_4, sto_5, sto_6, sto_7, sto_8, sto_9, sto_10, sto_11, sto_12, sto_13, sto_14, nlo_n, nlo_i, nlo_r, nlo_0, nlo_l, and_self, or_self, Nat.reduceEqDiff, Nat.reduceLT, Nat.reduceLeDiff, Nat.one_ne_zero, Nat.zero_ne_one, hk.1, c7 hk, hm.1.2.2.2.2.2.1, e1, g, e, nI_eq, nI_add, hX]
  rw [j_C_eq]
  have hX := L (E 1) 0 (by omega)
  simp only [st_13_0, st_13_1, st_13_2, st_13_3, st_13_5, st_13_6, st_13_9, st_13_12, st_13_13, st_13_14, st_13_15, st_13_18, st_13_21, st_13_22, st_13_23, st_13_24, st_13_25, st_13_26, st_13_27, st_13_30, st_13_33, st_13_34, ini_13, fs_cl, fs_len, fs_rf, fs_M, fs_put, fs_cpy, ↓reduceIte, rv_ref, true_or, or_true, true_and, and_true, nI_ltI, ix_nI, nI_clamp, ps_i, ps_n, Option.bind_some, sm_0, sm_1, sm_2, sm_3, sm_4, sto_0, sto_1, sto_2, sto_3, sto_4, sto_5, sto_6, sto_7, sto_8, sto_9, sto_10, sto_11, sto_12, sto_13, sto_14, nlo_n, nlo_i, nlo_r, nlo_0, nlo_l, and_self, or_self, Nat.reduceEqDiff, Nat.reduceLT, Nat.reduceLeDiff, Nat.one_ne_zero, Nat.zero_ne_one]
  exact hX
theorem c14 (hk : Mk h b) (hm : CM M b E z K0 K1) (hw : WE E) : j_C (d + 3) 14 [.ref b] (FS h M) = some (some (.int (nI (smS E (E 1)))), FS h M) := by
  have h8 := hw.2.1
  obtain ⟨m0, _, _, _, _, _, _, _, ⟨r7, n7⟩, _⟩ := id hk
  have L : ∀ r c, r + c = E 1 → j_X (d + 2) 14 4 [some (.ref b), some (.int (nI (smS E c))), some (.int (nI c))] [] (FS h M) = some (some (.int (nI (smS E (E 1)))), FS h M) := by
    intro r
    induction r with
    | zero =>
      intro c hc
      have e : c = E 1 := by omega
      have e1 : ¬ c < E 1 := by omega
      rw [st_14_4]
      simp (disch := omega) only [st_14_0, st_14_1, st_14_2, st_14_3, st_14_5, st_14_6, st_14_9, st_14_12, st_14_13, st_14_14, st_14_17, st_14_18, st_14_21, st_14_24, st_14_25, st_14_26, st_14_29, st_14_32, st_14_33, ini_14, fs_cl, fs_len, fs_rf, fs_M, fs_put, fs_cpy, ↓reduceIte, rv_ref, true_or, or_true, true_and, and_true, nI_ltI, ix_nI, nI_clamp, ps_i, ps_n, Option.bind_some, sm_0, sm_1, sm_2, sm_3, sm_4, sto_0, sto_1, sto_2, sto_3, sto_4, sto_5, sto_6, sto_7, sto_8, sto_9, sto_10, sto_11, sto_12, sto_13, sto_14, nlo_n, nlo_i, nlo_r, nlo_0, nlo_l, and_self, or_self, Nat.reduceEqDiff, Nat.reduceLT, Nat.reduceLeDiff, Nat.one_ne_zero, Nat.zero_ne_one, hk.1, c7 hk, hm.1.2.2.2.2.2.1, e1]
      rw [e]
    | succ r ih =>
      intro c hc
      have e1 : c < E 1 := by omega
      have cv := hw.2.2.2.2.2.2.2 c e1
      have g7 := n33i (d := d + 1) (M := M) n7 (by omega : c < 8)
      have gc := (hm.2.2.1 c e1).2.2
      have gs := c133 (σ := FS h M) (d := d + 1) (v := rE E c) (by have := rn_lt cv.2.2.2; unfold rE; omega)
      have es : sz (rE E c) = nE E c := sz_rn cv.2.2.2
      rw [es] at gs
      have hX := ih (c + 1) (by omega)
      rw [smS] at hX
      rw [st_14_4]
      simp (disch := omega) only [st_14_0, st_14_1, st_14_2, st_14_3, st_14_5, st_14_6, st_14_9, st_14_12, st_14_13, st_14_14, st_14_17, st_14_18, st_14_21, st_14_24, st_14_25, st_14_26, st_14_29, st_14_32, st_14_33, ini_14, fs_cl, fs_len, fs_rf, fs_M, fs_put, fs_cpy, ↓reduceIte, rv_ref, true_or, or_true, true_and, and_true, nI_ltI, ix_nI, nI_clamp, ps_i, ps_n, Option.bind_some, sm_0, sm_1, sm_2, sm_3, sm_4, sto_0, sto_1, sto_2, sto_3, sto_4, sto_5, sto_6, sto_7, sto_8, sto_9, sto_10, sto_11, sto_12, sto_13, sto_14, nlo_n, nlo_i, nlo_r, nlo_0, nlo_l, and_self, or_self, Nat.reduceEqDiff, Nat.reduceLT, Nat.reduceLeDiff, Nat.one_ne_zero, Nat.zero_ne_one, m0, c7 hk, hm.1.2.2.2.2.2.1, e1, r7, n7.1, g7, gc, gs, nI_add, hX]
  rw [j_C_eq]
  have hX := L (E 1) 0 (by omega)
  simp only [st_14_0, st_14_1, st_14_2, st_14_3, st_14_5, st_14_6, st_14_9, st_14_12, st_14_13, st_14_14, st_14_17, st_14_18, st_14_21, st_14_24, st_14_25, st_14_26, st_14_29, st_14_32, st_14_33, ini_14, fs_cl, fs_len, fs_rf, fs_M, fs_put, fs_cpy, ↓reduceIte, rv_ref, true_or, or_true, true_and, and_true, nI_ltI, ix_nI, nI_clamp, ps_i, ps_n, Option.bind_some, sm_0, sm_1, sm_2, sm_3, sm_4, sto_0, sto_1, sto_2, sto_3, sto_4, sto_5, sto_6, sto_7, sto_8, sto_9, sto_10, sto_11, sto_12, sto_13, sto_14, nlo_n, nlo_i, nlo_r, nlo_0, nlo_l, and_self, or_self, Nat.reduceEqDiff, Nat.reduceLT, Nat.reduceLeDiff, Nat.one_ne_zero, Nat.zero_ne_one]
  exact hX
theorem c26 (hk : Mk h b) (hm : CM M b E z K0 K1) (hw : WE E) {t : Nat} (ht : t < 10) : ∃ M', j_C (d + 4) 26 [.ref b, .int (nI t)] (FS h M) = some (some (.int (tlS E K1 t (E 1))), FS h M') ∧ sg b M M' := by
  have h8 := hw.2.1
  obtain ⟨m0, _, _, _, _, _, ⟨r5, n5⟩, _, ⟨r7, n7⟩, _⟩ := id hk
  have L : ∀ r c (M : Nat → Nat → Int32), CM M b E z K0 K1 → r + c = E 1 → ∃ M', j_X (d + 3) 26 4 [some (.ref b), some (.int (nI t)), some (.int (tlS E K1 t c)), some (.int (nI c))] [] (FS h M) = some (some (.int (tlS E K1 t (E 1))), FS h M') ∧ sg b M M' := by
    intro r
    induction r with
    | zero =>
      intro c M hm hc
      have e : c = E 1 := by omega
      have e1 : ¬ c < E 1 := by omega
      refine ⟨M, ?_, sg_r⟩
      rw [st_26_4]
      simp (disch := omega) only [st_26_0, st_26_1, st_26_2, st_26_3, st_26_5, st_26_6, st_26_9, st_26_12, st_26_13, st_26_14, st_26_15, st_26_18, st_26_21, st_26_22, st_26_23, st_26_24, st_26_25, st_26_28, st_26_29, st_26_32, st_26_33, st_26_36, st_26_37, st_26_40, st_26_43, st_26_44, st_26_47, st_26_50, st_26_51, st_26_52, st_26_55, st_26_58, st_26_59, ini_26, fs_cl, fs_len, fs_rf, fs_M, fs_put, fs_cpy, ↓reduceIte, rv_ref, true_or, or_true, true_and, and_true, nI_ltI, ix_nI, nI_clamp, ps_i, ps_n, Option.bind_some, sm_0, sm_1, sm_2, sm_3, sm_4, sto_0, sto_1, sto_2, sto_3, sto_4, sto_5, sto_6, sto_7, sto_8, sto_9, sto_10, sto_11, sto_12, sto_13, sto_14, nlo_n, nlo_i, nlo_r, nlo_0, nlo_l, and_self, or_self, Nat.reduceEqDiff, Nat.reduceLT, Nat.reduceLeDiff, Nat.one_ne_zero, Nat.zero_ne_one, hk.1, c7 hk, hm.1.2.2.2.2.2.1, e1]
      rw [e]
    | succ r ih =>
      intro c M hm hc
      have e1 : c < E 1 := by omega
      have cv := hw.2.2.2.2.2.2.2 c e1
      have g := c12 (d := d + 1) hk hm hw ht e1
      have g5 := n33i (d := d + 2) (M := M) n5 (by omega : c < 8)
      have g7 := n33i (d := d + 2) (M := M) n7 (by omega : c < 8)
      have gc := (hm.2.2.1 c e1).2.2
      have gv := (hm.2.2.1 c e1).1
      have gd := hm.2.2.2.2.1.1
      have gs := c133 (σ := FS h M) (d := d + 2) (v := rE E c) (by have := rn_lt cv.2.2.2; unfold rE; omega)
      have es : sz (rE E c) = nE E c := sz_rn cv.2.2.2
      rw [es] at gs
      by_cases e : E (39 + 5 * c) = t
      · obtain ⟨M1, p1, p2⟩ := c16b (d := d) hk hm.2.2.2.2.2.2 (nI (E (38 + 5 * c))) (nI (nE E c)) (nI (E 2))
        obtain ⟨M', hX, q2⟩ := ih (c + 1) M1 (CM_sg p2 hm) (by omega)
        rw [tlS, if_pos e] at hX
        refine ⟨M', ?_, sg_t p2 q2⟩
        rw [st_26_4]
        simp (disch := omega) only [st_26_0, st_26_1, st_26_2, st_26_3, st_26_5, st_26_6, st_26_9, st_26_12, st_26_13, st_26_14, st_26_15, st_26_18, st_26_21, st_26_22, st_26_23, st_26_24, st_26_25, st_26_28, st_26_29, st_26_32, st_26_33, st_26_36, st_26_37, st_26_40, st_26_43, st_26_44, st_26_47, st_26_50, st_26_51, st_26_52, st_26_55, st_26_58, st_26_59, ini_26, fs_cl, fs_len, fs_rf, fs_M, fs_put, fs_cpy, ↓reduceIte, rv_ref, true_or, or_true, true_and, and_true, nI_ltI, ix_nI, nI_clamp, ps_i, ps_n, Option.bind_some, sm_0, sm_1, sm_2, sm_3, sm_4, sto_0, sto_1, sto_2, sto_3, sto_4, sto_5, sto_6, sto_7, sto_8, sto_9, sto_10, sto_11, sto_12, sto_13, sto_14, nlo_n, nlo_i, nlo_r, nlo_0, nlo_l, and_self, or_self, Nat.reduceEqDiff, Nat.reduceLT, Nat.reduceLeDiff, Nat.one_ne_zero, Nat.zero_ne_one, m0, c7 hk, hm.1.2.2.2.2.2.1, e1, g, eq_true e, nI_eq, r5, r7, n5.1, n7.1, g5, g7, gv, gc, gs, gd, p1, nI_add, hX]
      · obtain ⟨M', hX, q2⟩ := ih (c + 1) M hm (by omega)
        rw [tlS, if_neg e] at hX
        refine ⟨M', ?_, q2⟩
        rw [st_26_4]
        simp (disch := omega) only [st_26_0, st_26_1, st_26_2, st_26_3, st_26_5, st_26_6, st_26_9, st_26_12, st_26_13, st_26_14, st_26_15, st_26_18, st_26_21, st_26_22, st_26_23, st_26_24, st_26_25, st_26_28, st_26_29, st_26_32, st_26_33, st_26_36, st_26_37, st_26_40, st_26_43, st_26_44, st_26_47, st_26_50, st_26_51, st_26_52, st_26_55, st_26_58, st_26_59, ini_26, fs_cl, fs_len, fs_rf, fs_M, fs_put, fs_cpy, ↓reduceIte, rv_ref, true_or, or_true, true_and, and_true, nI_ltI, ix_nI, nI_clamp, ps_i, ps_n, Option.bind_some, sm_0, sm_1, sm_2, sm_3, sm_4, sto_0, sto_1, sto_2, sto_3, sto_4, sto_5, sto_6, sto_7, sto_8, sto_9, sto_10, sto_11, sto_12, sto_13, sto_14, nlo_n, nlo_i, nlo_r, nlo_0, nlo_l, and_self, or_self, Nat.reduceEqDiff, Nat.reduceLT, Nat.reduceLeDiff, Nat.one_ne_zero, Nat.zero_ne_one, m0, c7 hk, hm.1.2.2.2.2.2.1, e1, g, e, nI_eq, nI_add, hX]
  obtain ⟨M', hX, q⟩ := L (E 1) 0 M hm (by omega)
  refine ⟨M', ?_, q⟩
  rw [j_C_eq]
  simp only [st_26_0, st_26_1, st_26_2, st_26_3, st_26_5, st_26_6, st_26_9, st_26_12, st_26_13, st_26_14, st_26_15, st_26_18, st_26_21, st_26_22, st_26_23, st_26_24, st_26_25, st_26_28, st_26_29, st_26_32, st_26_33, st_26_36, st_26_37, st_26_40, st_26_43, st_26_44, st_26_47, st_26_50, st_26_51, st_26_52, st_26_55, st_26_58, st_26_59, ini_26, fs_cl, fs_len, fs_rf, fs_M, fs_put, fs_cpy, ↓reduceIte, rv_ref, true_or, or_true, true_and, and_true, nI_ltI, ix_nI, nI_clamp, ps_i, ps_n, Option.bind_some, sm_0, sm_1, sm_2, sm_3, sm_4, sto_0, sto_1, sto_2, sto_3, sto_4, sto_5, sto_6, sto_7, sto_8, sto_9, sto_10, sto_11, sto_12, sto_13, sto_14, nlo_n, nlo_i, nlo_r, nlo_0, nlo_l, and_self, or_self, Nat.reduceEqDiff, Nat.reduceLT, Nat.reduceLeDiff, Nat.one_ne_zero, Nat.zero_ne_one]
  exact hX
theorem c27 (hk : Mk h b) (hm : CM M b E z K0 K1) (hw : WE E) {c : Nat} (hc : c < E 1) : ∃ M', j_C (d + 6) 27 [.ref b, .int (nI c)] (FS h M) = some (some (.int (tkS E K0 c (E 0))), FS h M') ∧ sg b M M' := by
  have h6 := hw.1
  have L : ∀ r t (M : Nat → Nat → Int32), CM M b E z K0 K1 → r + t = E 0 → ∃ M', j_X (d + 5) 27 4 [some (.ref b), some (.int (nI c)), some (.int (tkS E K0 c t)), some (.int (nI t))] [] (FS h M) = some (some (.int (tkS E K0 c (E 0))), FS h M') ∧ sg b M M' := by
    intro r
    induction r with
    | zero =>
      intro t M hm ht
      have e : t = E 0 := by omega
      have e1 : ¬ t < E 0 := by omega
      refine ⟨M, ?_, sg_r⟩
      rw [st_27_4]
      simp (disch := omega) only [st_27_0, st_27_1, st_27_2, st_27_3, st_27_5, st_27_6, st_27_9, st_27_12, st_27_13, st_27_14, st_27_15, st_27_18, st_27_21, st_27_22, st_27_23, st_27_24, st_27_27, st_27_30, st_27_31, st_27_32, st_27_33, st_27_34, st_27_35, st_27_36, st_27_39, st_27_42, st_27_43, ini_27, fs_cl, fs_len, fs_rf, fs_M, fs_put, fs_cpy, ↓reduceIte, rv_ref, true_or, or_true, true_and, and_true, nI_ltI, ix_nI, nI_clamp, ps_i, ps_n, Option.bind_some, sm_0, sm_1, sm_2, sm_3, sm_4, sto_0, sto_1, sto_2, sto_3, sto_4, sto_5, sto_6, sto_7, sto_8, sto_9, sto_10, sto_11, sto_12, sto_13, sto_14, nlo_n, nlo_i, nlo_r, nlo_0, nlo_l, and_self, or_self, Nat.reduceEqDiff, Nat.reduceLT, Nat.reduceLeDiff, Nat.one_ne_zero, Nat.zero_ne_one, hk.1, c6 hk, hm.1.1, e1]
      rw [e]
    | succ r ih =>
      intro t M hm ht
      have e1 : t < E 0 := by omega
      have g := c12 (d := d + 3) hk hm hw (by omega : t < 10) hc
      by_cases e : E (39 + 5 * c) = t
      · obtain ⟨M', hX, q2⟩ := ih (t + 1) M hm (by omega)
        rw [tkS, if_pos e] at hX
        refine ⟨M', ?_, q2⟩
        rw [st_27_4]
        simp (disch := omega) only [st_27_0, st_27_1, st_27_2, st_27_3, st_27_5, st_27_6, st_27_9, st_27_12, st_27_13, st_27_14, st_27_15, st_27_18, st_27_21, st_27_22, st_27_23, st_27_24, st_27_27, st_27_30, st_27_31, st_27_32, st_27_33, st_27_34, st_27_35, st_27_36, st_27_39, st_27_42, st_27_43, ini_27, fs_cl, fs_len, fs_rf, fs_M, fs_put, fs_cpy, ↓reduceIte, rv_ref, true_or, or_true, true_and, and_true, nI_ltI, ix_nI, nI_clamp, ps_i, ps_n, Option.bind_some, sm_0, sm_1, sm_2, sm_3, sm_4, sto_0, sto_1, sto_2, sto_3, sto_4, sto_5, sto_6, sto_7, sto_8, sto_9, sto_10, sto_11, sto_12, sto_13, sto_14, nlo_n, nlo_i, nlo_r, nlo_0, nlo_l, and_self, or_self, Nat.reduceEqDiff, Nat.reduceLT, Nat.reduceLeDiff, Nat.one_ne_zero, Nat.zero_ne_one, hk.1, c6 hk, hm.1.1, e1, g, eq_true e, nI_eq, nI_add, hX]
      · obtain ⟨M1, p1, p2⟩ := c18 (d := d) hk hm hw e1 hc
        obtain ⟨M', hX, q2⟩ := ih (t + 1) M1 (CM_sg p2 hm) (by omega)
        rw [tkS, if_neg e] at hX
        refine ⟨M', ?_, sg_t p2 q2⟩
        rw [st_27_4]
        by_cases e2 : wth E K0 c t < nI (E (11 + 5 * t))
        · rw [if_pos e2] at hX p1
          simp (disch := omega) only [st_27_0, st_27_1, st_27_2, st_27_3, st_27_5, st_27_6, st_27_9, st_27_12, st_27_13, st_27_14, st_27_15, st_27_18, st_27_21, st_27_22, st_27_23, st_27_24, st_27_27, st_27_30, st_27_31, st_27_32, st_27_33, st_27_34, st_27_35, st_27_36, st_27_39, st_27_42, st_27_43, ini_27, fs_cl, fs_len, fs_rf, fs_M, fs_put, fs_cpy, ↓reduceIte, rv_ref, true_or, or_true, true_and, and_true, nI_ltI, ix_nI, nI_clamp, ps_i, ps_n, Option.bind_some, sm_0, sm_1, sm_2, sm_3, sm_4, sto_0, sto_1, sto_2, sto_3, sto_4, sto_5, sto_6, sto_7, sto_8, sto_9, sto_10, sto_11, sto_12, sto_13, sto_14, nlo_n, nlo_i, nlo_r, nlo_0, nlo_l, and_self, or_self, Nat.reduceEqDiff, Nat.reduceLT, Nat.reduceLeDiff, Nat.one_ne_zero, Nat.zero_ne_one, hk.1, c6 hk, hm.1.1, e1, g, e, nI_eq, p1, nI_add, hX]
        · rw [if_neg e2] at hX p1
          simp (disch := omega) only [st_27_0, st_27_1, st_27_2, st_27_3, st_27_5, st_27_6, st_27_9, st_27_12, st_27_13, st_27_14, st_27_15, st_27_18, st_27_21, st_27_22, st_27_23, st_27_24, st_27_27, st_27_30, st_27_31, st_27_32, st_27_33, st_27_34, st_27_35, st_27_36, st_27_39, st_27_42, st_27_43, ini_27, fs_cl, fs_len, fs_rf, fs_M, fs_put, fs_cpy, ↓reduceIte, rv_ref, true_or, or_true, true_and, and_true, nI_ltI, ix_nI, nI_clamp, ps_i, ps_n, Option.bind_some, sm_0, sm_1, sm_2, sm_3, sm_4, sto_0, sto_1, sto_2, sto_3, sto_4, sto_5, sto_6, sto_7, sto_8, sto_9, sto_10, sto_11, sto_12, sto_13, sto_14, nlo_n, nlo_i, nlo_r, nlo_0, nlo_l, and_self, or_self, Nat.reduceEqDiff, Nat.reduceLT, Nat.reduceLeDiff, Nat.one_ne_zero, Nat.zero_ne_one, hk.1, c6 hk, hm.1.1, e1, g, e, nI_eq, p1, nI_add, hX]
  obtain ⟨M', hX, q⟩ := L (E 0) 0 M hm (by omega)
  refine ⟨M', ?_, q⟩
  rw [j_C_eq]
  simp only [st_27_0, st_27_1, st_27_2, st_27_3, st_27_5, st_27_6, st_27_9, st_27_12, st_27_13, st_27_14, st_27_15, st_27_18, st_27_21, st_27_22, st_27_23, st_27_24, st_27_27, st_27_30, st_27_31, st_27_32, st_27_33, st_27_34, st_27_35, st_27_36, st_27_39, st_27_42, st_27_43, ini_27, fs_cl, fs_len, fs_rf, fs_M, fs_put, fs_cpy, ↓reduceIte, rv_ref, true_or, or_true, true_and, and_true, nI_ltI, ix_nI, nI_clamp, ps_i, ps_n, Option.bind_some, sm_0, sm_1, sm_2, sm_3, sm_4, sto_0, sto_1, sto_2, sto_3, sto_4, sto_5, sto_6, sto_7, sto_8, sto_9, sto_10, sto_11, sto_12, sto_13, sto_14, nlo_n, nlo_i, nlo_r, nlo_0, nlo_l, and_self, or_self, Nat.reduceEqDiff, Nat.reduceLT, Nat.reduceLeDiff, Nat.one_ne_zero, Nat.zero_ne_one]
  exact hX
theorem c28 (hk : Mk h b) (hm : CM M b E z K0 K1) (hw : WE E) : ∃ M', j_C (d + 7) 28 [.ref b] (FS h M) = some (some (.int (utS E K0 (E 1))), FS h M') ∧ sg b M M' := by
  have h8 := hw.2.1
  have L : ∀ r c (M : Nat → Nat → Int32), CM M b E z K0 K1 → r + c = E 1 → ∃ M', j_X (d + 6) 28 4 [some (.ref b), some (.int (utS E K0 c)), some (.int (nI c))] [] (FS h M) = some (some (.int (utS E K0 (E 1))), FS h M') ∧ sg b M M' := by
    intro r
    induction r with
    | zero =>
      intro c M hm hc
      have e : c = E 1 := by omega
      have e1 : ¬ c < E 1 := by omega
      refine ⟨M, ?_, sg_r⟩
      rw [st_28_4]
      simp (disch := omega) only [st_28_0, st_28_1, st_28_2, st_28_3, st_28_5, st_28_6, st_28_9, st_28_12, st_28_13, st_28_14, st_28_17, st_28_20, st_28_21, st_28_22, st_28_23, st_28_24, st_28_25, st_28_26, st_28_29, st_28_32, st_28_33, ini_28, fs_cl, fs_len, fs_rf, fs_M, fs_put, fs_cpy, ↓reduceIte, rv_ref, true_or, or_true, true_and, and_true, nI_ltI, ix_nI, nI_clamp, ps_i, ps_n, Option.bind_some, sm_0, sm_1, sm_2, sm_3, sm_4, sto_0, sto_1, sto_2, sto_3, sto_4, sto_5, sto_6, sto_7, sto_8, sto_9, sto_10, sto_11, sto_12, sto_13, sto_14, nlo_n, nlo_i, nlo_r, nlo_0, nlo_l, and_self, or_self, Nat.reduceEqDiff, Nat.reduceLT, Nat.reduceLeDiff, Nat.one_ne_zero, Nat.zero_ne_one, hk.1, c7 hk, hm.1.2.2.2.2.2.1, e1]
      rw [e]
    | succ r ih =>
      intro c M hm hc
      have e1 : c < E 1 := by omega
      obtain ⟨M1, p1, p2⟩ := c27 (d := d) hk hm hw e1
      obtain ⟨M', hX, q2⟩ := ih (c + 1) M1 (CM_sg p2 hm) (by omega)
      rw [utS] at hX
      refine ⟨M', ?_, sg_t p2 q2⟩
      rw [st_28_4]
      by_cases e : tkS E K0 c (E 0) = nI 0
      · rw [if_pos e] at hX
        simp (disch := omega) only [st_28_0, st_28_1, st_28_2, st_28_3, st_28_5, st_28_6, st_28_9, st_28_12, st_28_13, st_28_14, st_28_17, st_28_20, st_28_21, st_28_22, st_28_23, st_28_24, st_28_25, st_28_26, st_28_29, st_28_32, st_28_33, ini_28, fs_cl, fs_len, fs_rf, fs_M, fs_put, fs_cpy, ↓reduceIte, rv_ref, true_or, or_true, true_and, and_true, nI_ltI, ix_nI, nI_clamp, ps_i, ps_n, Option.bind_some, sm_0, sm_1, sm_2, sm_3, sm_4, sto_0, sto_1, sto_2, sto_3, sto_4, sto_5, sto_6, sto_7, sto_8, sto_9, sto_10, sto_11, sto_12, sto_13, sto_14, nlo_n, nlo_i, nlo_r, nlo_0, nlo_l, and_self, or_self, Nat.reduceEqDiff, Nat.reduceLT, Nat.reduceLeDiff, Nat.one_ne_zero, Nat.zero_ne_one, hk.1, c7 hk, hm.1.2.2.2.2.2.1, e1, p1, e, nI_add, hX]
      · rw [if_neg e] at hX
        simp (disch := omega) only [st_28_0, st_28_1, st_28_2, st_28_3, st_28_5, st_28_6, st_28_9, st_28_12, st_28_13, st_28_14, st_28_17, st_28_20, st_28_21, st_28_22, st_28_23, st_28_24, st_28_25, st_28_26, st_28_29, st_28_32, st_28_33, ini_28, fs_cl, fs_len, fs_rf, fs_M, fs_put, fs_cpy, ↓reduceIte, rv_ref, true_or, or_true, true_and, and_true, nI_ltI, ix_nI, nI_clamp, ps_i, ps_n, Option.bind_some, sm_0, sm_1, sm_2, sm_3, sm_4, sto_0, sto_1, sto_2, sto_3, sto_4, sto_5, sto_6, sto_7, sto_8, sto_9, sto_10, sto_11, sto_12, sto_13, sto_14, nlo_n, nlo_i, nlo_r, nlo_0, nlo_l, and_self, or_self, Nat.reduceEqDiff, Nat.reduceLT, Nat.reduceLeDiff, Nat.one_ne_zero, Nat.zero_ne_one, hk.1, c7 hk, hm.1.2.2.2.2.2.1, e1, p1, e, nI_add, hX]
  obtain ⟨M', hX, q⟩ := L (E 1) 0 M hm (by omega)
  refine ⟨M', ?_, q⟩
  rw [j_C_eq]
  simp only [st_28_0, st_28_1, st_28_2, st_28_3, st_28_5, st_28_6, st_28_9, st_28_12, st_28_13, st_28_14, st_28_17, st_28_20, st_28_21, st_28_22, st_28_23, st_28_24, st_28_25, st_28_26, st_28_29, st_28_32, st_28_33, ini_28, fs_cl, fs_len, fs_rf, fs_M, fs_put, fs_cpy, ↓reduceIte, rv_ref, true_or, or_true, true_and, and_true, nI_ltI, ix_nI, nI_clamp, ps_i, ps_n, Option.bind_some, sm_0, sm_1, sm_2, sm_3, sm_4, sto_0, sto_1, sto_2, sto_3, sto_4, sto_5, sto_6, sto_7, sto_8, sto_9, sto_10, sto_11, sto_12, sto_13, sto_14, nlo_n, nlo_i, nlo_r, nlo_0, nlo_l, and_self, or_self, Nat.reduceEqDiff, Nat.reduceLT, Nat.reduceLeDiff, Nat.one_ne_zero, Nat.zero_ne_one]
  exact hX
theorem bt_1 : ∀ s, s < 8 → ∀ k, k < 8 → bt (nI 1 <<< (nI s &&& 31)) k = nI (one s k) := by decide +kernel
theorem one_1 (s k : Nat) : one s k ≤ 1 := by unfold one; split <;> omega
theorem c30 (hk : Mk h b) (hm : CM M b E z K0 K1) (hw : WE E) {s : Nat} (hs : s < 8) : j_C (d + 4) 30 [.ref b, .int (nI s)] (FS h M) = some (some (.int (nI (siS E s (E 1)))), FS h M) := by
  have h8 := hw.2.1
  obtain ⟨m0, _, _, _, _, _, _, _, ⟨r7, n7⟩, _⟩ := id hk
  have L : ∀ r c, r + c = E 1 → j_X (d + 3) 30 4 [some (.ref b), some (.int (nI s)), some (.int (nI (siS E s c))), some (.int (nI c))] [] (FS h M) = some (some (.int (nI (siS E s (E 1)))), FS h M) := by
    intro r
    induction r with
    | zero =>
      intro c hc
      have e : c = E 1 := by omega
      have e1 : ¬ c < E 1 := by omega
      rw [st_30_4]
      simp (disch := omega) only [st_30_0, st_30_1, st_30_2, st_30_3, st_30_5, st_30_6, st_30_9, st_30_12, st_30_13, st_30_14, st_30_17, st_30_18, st_30_21, st_30_22, st_30_23, st_30_24, st_30_25, st_30_28, st_30_29, st_30_30, st_30_33, st_30_36, st_30_37, ini_30, fs_cl, fs_len, fs_rf, fs_M, fs_put, fs_cpy, ↓reduceIte, rv_ref, true_or, or_true, true_and, and_true, nI_ltI, ix_nI, nI_clamp, ps_i, ps_n, Option.bind_some, sm_0, sm_1, sm_2, sm_3, sm_4, sto_0, sto_1, sto_2, sto_3, sto_4, sto_5, sto_6, sto_7, sto_8, sto_9, sto_10, sto_11, sto_12, sto_13, sto_14, nlo_n, nlo_i, nlo_r, nlo_0, nlo_l, and_self, or_self, Nat.reduceEqDiff, Nat.reduceLT, Nat.reduceLeDiff, Nat.one_ne_zero, Nat.zero_ne_one, hk.1, c7 hk, hm.1.2.2.2.2.2.1, e1]
      rw [e]
    | succ r ih =>
      intro c hc
      have e1 : c < E 1 := by omega
      have cv := hw.2.2.2.2.2.2.2 c e1
      have g7 := n33i (d := d + 2) (M := M) n7 (by omega : c < 8)
      have gc := (hm.2.2.1 c e1).2.2
      have hrl := rn_lt cv.2.2.2
      have gs := c138 (σ := FS h M) (d := d + 1) (v := rE E c) (p := 3) (nI 1 <<< (nI s &&& 31)) (by unfold rE; omega) (by omega)
      have S := (str_3 cv.2.2.2 (bt_1 s hs) (one_1 s)).1
      rw [show str (rE E c) (nI 1 <<< (nI s &&& 31)) 3 = _ from S] at gs
      have hX := ih (c + 1) (by omega)
      rw [siS] at hX
      rw [st_30_4]
      simp (disch := omega) only [st_30_0, st_30_1, st_30_2, st_30_3, st_30_5, st_30_6, st_30_9, st_30_12, st_30_13, st_30_14, st_30_17, st_30_18, st_30_21, st_30_22, st_30_23, st_30_24, st_30_25, st_30_28, st_30_29, st_30_30, st_30_33, st_30_36, st_30_37, ini_30, fs_cl, fs_len, fs_rf, fs_M, fs_put, fs_cpy, ↓reduceIte, rv_ref, true_or, or_true, true_and, and_true, nI_ltI, ix_nI, nI_clamp, ps_i, ps_n, Option.bind_some, sm_0, sm_1, sm_2, sm_3, sm_4, sto_0, sto_1, sto_2, sto_3, sto_4, sto_5, sto_6, sto_7, sto_8, sto_9, sto_10, sto_11, sto_12, sto_13, sto_14, nlo_n, nlo_i, nlo_r, nlo_0, nlo_l, and_self, or_self, Nat.reduceEqDiff, Nat.reduceLT, Nat.reduceLeDiff, Nat.one_ne_zero, Nat.zero_ne_one, m0, c7 hk, hm.1.2.2.2.2.2.1, e1, r7, n7.1, g7, gc, gs, nI_add, hX]
  rw [j_C_eq]
  have hX := L (E 1) 0 (by omega)
  simp only [st_30_0, st_30_1, st_30_2, st_30_3, st_30_5, st_30_6, st_30_9, st_30_12, st_30_13, st_30_14, st_30_17, st_30_18, st_30_21, st_30_22, st_30_23, st_30_24, st_30_25, st_30_28, st_30_29, st_30_30, st_30_33, st_30_36, st_30_37, ini_30, fs_cl, fs_len, fs_rf, fs_M, fs_put, fs_cpy, ↓reduceIte, rv_ref, true_or, or_true, true_and, and_true, nI_ltI, ix_nI, nI_clamp, ps_i, ps_n, Option.bind_some, sm_0, sm_1, sm_2, sm_3, sm_4, sto_0, sto_1, sto_2, sto_3, sto_4, sto_5, sto_6, sto_7, sto_8, sto_9, sto_10, sto_11, sto_12, sto_13, sto_14, nlo_n, nlo_i, nlo_r, nlo_0, nlo_l, and_self, or_self, Nat.reduceEqDiff, Nat.reduceLT, Nat.reduceLeDiff, Nat.one_ne_zero, Nat.zero_ne_one]
  exact hX
