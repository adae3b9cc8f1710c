/-! The class's Thoughts: days that are only thought of. -/
variable {h : j_Hd} {M : Nat → Nat → Int32} {σ : j_St} {d b w : Nat} {E : Nat → Nat} {z : Int32} {K0 K1 : List Int32}
def Th (h : j_Hd) (w : Nat) : Prop := hC h w = 5 ∧ hR h w 0 = w + 1 ∧ Mk h (w + 1) ∧ hR h w 1 = w + 28 ∧ Nb h (w + 28) (w + 29) 8
/-- rows that stand, whatever they mean -/
def Sd (M : Nat → Nat → Int32) (b : Nat) : Prop := ∀ c, c < 8 → ∃ v, v < 1000 ∧ M (b + 16) c = nI v
theorem dyN_o {j : Nat} (hj : j < 38 ∨ j % 5 = 3 ∨ j % 5 = 4) (h2 : j ≠ 2) : ∀ n (E : Nat → Nat), dyN n E j = E j := by
  intro n
  induction n with
  | zero => intro E; rfl
  | succ n ih => intro E; unfold dyN; rw [ih, dayE_o hj h2]
theorem dyN_2 : ∀ n (E : Nat → Nat), dyN n E 2 = E 2 + n := by
  intro n
  induction n with
  | zero => intro E; rfl
  | succ n ih => intro E; unfold dyN; rw [ih, dayE_2]; omega
theorem dyN_WE : ∀ n (E : Nat → Nat), WE E → E 2 + n < 100000 → WE (dyN n E) := by
  intro n
  induction n with
  | zero => intro E hw _; exact hw
  | succ n ih => intro E hw hd; exact ih _ (dayE_WE hw (by omega)) (by rw [dayE_2]; omega)
theorem c21c (hk : Mk h b) (hm : CM M b E z K0 K1) (hw : WE E) {n : Nat} (hn : n ≤ 1000) (hd : E 2 + n < 100000) : ∃ M', j_C (d + 5) 21 [.ref b, .int (nI n)] (FS h M) = some (none, FS h M') ∧ CM M' b (dyN n E) z K0 K1 ∧ mg b M M' := by
  obtain ⟨M', p1, p2, p3⟩ := c21 (d := d) (K0 := K0) (K1 := K1) (z := z) hk hn n 0 E M hm hw hd (by omega)
  refine ⟨M', ?_, p2, p3⟩
  rw [j_C_eq]
  simp only [st_21_0, st_21_1, st_21_3, st_21_4, st_21_7, st_21_8, st_21_11, st_21_14, st_21_17, ini_21, fs_cl, fs_len, fs_rf, fs_M, fs_put, fs_cpy, ↓reduceIte, rv_ref, true_or, or_true, true_and, and_true, nI_ltI, ix_nI, nI_clamp, ps_i, ps_n, Option.bind_some, sm_0, sm_1, sm_2, sm_3, sm_4, sto_0, sto_1, sto_2, sto_3, sto_4, sto_5, sto_6, sto_7, sto_8, sto_9, sto_10, sto_11, sto_12, sto_13, sto_14, nlo_n, nlo_i, nlo_r, nlo_0, nlo_l, and_self, or_self, Nat.reduceEqDiff, Nat.reduceLT, Nat.reduceLeDiff, Nat.one_ne_zero, Nat.zero_ne_one, p1]
theorem c70 (ht : Th h w) (hk : Mk h b) (hdis : w + 1 + 27 ≤ b ∨ b + 27 ≤ w + 1) (hst : Sd M (w + 1)) (hm : CM M b E z K0 K1) (hw : WE E) {c n : Nat} (hc : c < E 1) (hn : n ≤ 1000) (hd : E 2 + n < 100000) : ∃ M', j_C (d + 7) 70 [.ref w, .ref b, .int (nI c), .int (nI n)] (FS h M) = some (some (.int (tkS (dyN n E) K0 c (dyN n E 0))), FS h M') ∧ Sd M' (w + 1) ∧ mg (w + 1) M M' := by
  obtain ⟨t0, t1, t2, t3, t4⟩ := ht
  obtain ⟨M1, p1, p2, p3⟩ := c5 (d := d + 3) t2 hk (by omega) hst hm hw
  obtain ⟨M2, q1, q2, q3⟩ := c21c (d := d + 1) t2 p2 hw hn hd
  have e1 : dyN n E 1 = E 1 := dyN_o (by omega) (by omega) n E
  obtain ⟨M3, s1, s2⟩ := c27 (d := d) t2 q2 (dyN_WE n E hw hd) (by rw [e1]; exact hc)
  refine ⟨M3, ?_, (CM_sg s2 q2).2.2.2.1, mg_t p3 (mg_t q3 (mg_sg s2))⟩
  rw [j_C_eq]
  simp (disch := omega) only [st_70_0, st_70_1, st_70_4, st_70_5, st_70_8, st_70_9, st_70_12, st_70_13, st_70_16, st_70_17, st_70_20, st_70_21, st_70_24, ini_70, fs_cl, fs_len, fs_rf, fs_M, fs_put, fs_cpy, ↓reduceIte, rv_ref, true_or, or_true, true_and, and_true, nI_ltI, ix_nI, nI_clamp, ps_i, ps_n, Option.bind_some, sm_0, sm_1, sm_2, sm_3, sm_4, sto_0, sto_1, sto_2, sto_3, sto_4, sto_5, sto_6, sto_7, sto_8, sto_9, sto_10, sto_11, sto_12, sto_13, sto_14, nlo_n, nlo_i, nlo_r, nlo_0, nlo_l, and_self, or_self, Nat.reduceEqDiff, Nat.reduceLT, Nat.reduceLeDiff, Nat.one_ne_zero, Nat.zero_ne_one, t0, t1, t2.1, p1, q1, s1]
/-- tolls of days -/
def tyS (K : List Int32) (t : Nat) : Nat → Int32 → (Nat → Nat) → Int32
  | 0, a, _ => a
  | n + 1, a, E => tyS K t n (a + tlS E K t (E 1)) (dayE E)
theorem c71 (ht : Th h w) (hk : Mk h b) (hdis : w + 1 + 27 ≤ b ∨ b + 27 ≤ w + 1) (hst : Sd M (w + 1)) (hm : CM M b E z K0 K1) (hw : WE E) {t n : Nat} (hc : t < 10) (hn : n ≤ 1000) (hd : E 2 + n < 100000) : ∃ M', j_C (d + 5) 71 [.ref w, .ref b, .int (nI t), .int (nI n)] (FS h M) = some (some (.int (tyS K1 t n (nI 0) E)), FS h M') ∧ Sd M' (w + 1) ∧ mg (w + 1) M M' := by
  obtain ⟨t0, t1, t2, t3, t4⟩ := ht
  obtain ⟨M1, p1, p2, p3⟩ := c5 (d := d + 1) t2 hk (by omega) hst hm hw
  have L : ∀ r k (a : Int32) (E : Nat → Nat) (M : Nat → Nat → Int32), CM M (w + 1) E z K0 K1 → WE E → E 2 + r < 100000 → r + k = n → ∃ M', j_X (d + 4) 71 14 [some (.ref w), some (.ref b), some (.int (nI t)), some (.int (nI n)), some (.int a), some (.int (nI k))] [] (FS h M) = some (some (.int (tyS K1 t r a E)), FS h M') ∧ Sd M' (w + 1) ∧ mg (w + 1) M M' := by
    intro r
    induction r with
    | zero =>
      intro k a E M hm hw hd hr
      have e1 : ¬ k < n := by omega
      refine ⟨M, ?_, hm.2.2.2.1, mg_r⟩
      rw [st_71_14]
      simp (disch := omega) only [st_71_0, st_71_1, st_71_4, st_71_5, st_71_8, st_71_9, st_71_11, st_71_12, st_71_16, st_71_17, st_71_20, st_71_22, st_71_23, st_71_26, st_71_27, st_71_30, st_71_31, st_71_33, st_71_34, st_71_37, st_71_40, st_71_43, st_71_46, st_71_48, ini_71, fs_cl, fs_len, fs_rf, fs_M, fs_put, fs_cpy, ↓reduceIte, rv_ref, true_or, or_true, true_and, and_true, nI_ltI, ix_nI, nI_clamp, ps_i, ps_n, Option.bind_some, sm_0, sm_1, sm_2, sm_3, sm_4, sto_0, sto_1, sto_2, sto_3, sto_4, sto_5, sto_6, sto_7, sto_8, sto_9, sto_10, sto_11, sto_12, sto_13, sto_14, nlo_n, nlo_i, nlo_r, nlo_0, nlo_l, and_self, or_self, Nat.reduceEqDiff, Nat.reduceLT, Nat.reduceLeDiff, Nat.one_ne_zero, Nat.zero_ne_one, e1]
      rfl
    | succ r ih =>
      intro k a E M hm hw hd hr
      have e1 : k < n := by omega
      obtain ⟨M1, p1, p2⟩ := c26 (d := d) t2 hm hw hc
      obtain ⟨M2, q1, q2, q3⟩ := c22 (d := d) t2 (CM_sg p2 hm) hw (by omega)
      obtain ⟨M', s1, s2, s3⟩ := ih (k + 1) (a + tlS E K1 t (E 1)) (dayE E) M2 q2 (dayE_WE hw (by omega)) (by rw [dayE_2]; omega) (by omega)
      refine ⟨M', ?_, s2, mg_t (mg_sg p2) (mg_t q3 s3)⟩
      rw [st_71_14]
      simp (disch := omega) only [st_71_0, st_71_1, st_71_4, st_71_5, st_71_8, st_71_9, st_71_11, st_71_12, st_71_16, st_71_17, st_71_20, st_71_22, st_71_23, st_71_26, st_71_27, st_71_30, st_71_31, st_71_33, st_71_34, st_71_37, st_71_40, st_71_43, st_71_46, st_71_48, ini_71, fs_cl, fs_len, fs_rf, fs_M, fs_put, fs_cpy, ↓reduceIte, rv_ref, true_or, or_true, true_and, and_true, nI_ltI, ix_nI, nI_clamp, ps_i, ps_n, Option.bind_some, sm_0, sm_1, sm_2, sm_3, sm_4, sto_0, sto_1, sto_2, sto_3, sto_4, sto_5, sto_6, sto_7, sto_8, sto_9, sto_10, sto_11, sto_12, sto_13, sto_14, nlo_n, nlo_i, nlo_r, nlo_0, nlo_l, and_self, or_self, Nat.reduceEqDiff, Nat.reduceLT, Nat.reduceLeDiff, Nat.one_ne_zero, Nat.zero_ne_one, t0, t1, t2.1, e1, p1, q1, nI_add, s1]
      rfl
  obtain ⟨M', s1, s2, s3⟩ := L n 0 (nI 0) E M1 p2 hw hd (by omega)
  refine ⟨M', ?_, s2, mg_t p3 s3⟩
  rw [j_C_eq]
  simp (disch := omega) only [st_71_0, st_71_1, st_71_4, st_71_5, st_71_8, st_71_9, st_71_11, st_71_12, st_71_16, st_71_17, st_71_20, st_71_22, st_71_23, st_71_26, st_71_27, st_71_30, st_71_31, st_71_33, st_71_34, st_71_37, st_71_40, st_71_43, st_71_46, st_71_48, ini_71, fs_cl, fs_len, fs_rf, fs_M, fs_put, fs_cpy, ↓reduceIte, rv_ref, true_or, or_true, true_and, and_true, nI_ltI, ix_nI, nI_clamp, ps_i, ps_n, Option.bind_some, sm_0, sm_1, sm_2, sm_3, sm_4, sto_0, sto_1, sto_2, sto_3, sto_4, sto_5, sto_6, sto_7, sto_8, sto_9, sto_10, sto_11, sto_12, sto_13, sto_14, nlo_n, nlo_i, nlo_r, nlo_0, nlo_l, and_self, or_self, Nat.reduceEqDiff, Nat.reduceLT, Nat.reduceLeDiff, Nat.one_ne_zero, Nat.zero_ne_one, t0, t1, t2.1, p1, s1]
/-- the first place that is wrong -/
def fwS (W : Nat → Int32) : Nat → Nat → (Nat → Nat) → Int32
  | 0, _, _ => -1
  | r + 1, i, E => if nI (smS (dayE E) (E 1)) = W i then fwS W r (i + 1) (dayE E) else nI i
theorem c72 (ht : Th h w) (hk : Mk h b) (hdis : w + 1 + 27 ≤ b ∨ b + 27 ≤ w + 1) (hst : Sd M (w + 1)) (hm : CM M b E z K0 K1) (hw : WE E) {ow aw cw n : Nat} (hN : Nb h ow aw cw) (ho : ow < w + 1 ∨ w + 1 + 27 ≤ ow) (ha : aw < w + 1 ∨ w + 1 + 27 ≤ aw) (hs : M ow 1 = nI n) (hn : n ≤ cw) (hd : E 2 + n < 100000) : ∃ M', j_C (d + 5) 72 [.ref w, .ref b, .ref ow] (FS h M) = some (some (.int (fwS (M aw) n 0 E)), FS h M') ∧ Sd M' (w + 1) ∧ mg (w + 1) M M' := by
  obtain ⟨t0, t1, t2, t3, t4⟩ := ht
  have hcw := Nb_lt hN
  obtain ⟨M1, p1, p2, p3⟩ := c5 (d := d + 1) t2 hk (by omega) hst hm hw
  have L : ∀ r k (E : Nat → Nat) (M2 : Nat → Nat → Int32), CM M2 (w + 1) E z K0 K1 → WE E → mg (w + 1) M M2 → E 2 + r < 100000 → r + k = n → ∃ M', j_X (d + 4) 72 10 [some (.ref w), some (.ref b), some (.ref ow), some (.int (nI k))] [] (FS h M2) = some (some (.int (fwS (M aw) r k E)), FS h M') ∧ Sd M' (w + 1) ∧ mg (w + 1) M M' := by
    intro r
    induction r with
    | zero =>
      intro k E M2 hm hw hg hd hr
      have e1 : ¬ k < n := by omega
      have g := hg ow ho
      refine ⟨M2, ?_, hm.2.2.2.1, hg⟩
      rw [st_72_10]
      simp (disch := omega) only [st_72_0, st_72_1, st_72_4, st_72_5, st_72_8, st_72_9, st_72_11, st_72_12, st_72_15, st_72_18, st_72_19, st_72_22, st_72_25, st_72_26, st_72_29, st_72_32, st_72_33, st_72_34, st_72_37, st_72_40, st_72_41, st_72_42, st_72_45, st_72_48, st_72_49, ini_72, fs_cl, fs_len, fs_rf, fs_M, fs_put, fs_cpy, ↓reduceIte, rv_ref, true_or, or_true, true_and, and_true, nI_ltI, ix_nI, nI_clamp, ps_i, ps_n, Option.bind_some, sm_0, sm_1, sm_2, sm_3, sm_4, sto_0, sto_1, sto_2, sto_3, sto_4, sto_5, sto_6, sto_7, sto_8, sto_9, sto_10, sto_11, sto_12, sto_13, sto_14, nlo_n, nlo_i, nlo_r, nlo_0, nlo_l, and_self, or_self, Nat.reduceEqDiff, Nat.reduceLT, Nat.reduceLeDiff, Nat.one_ne_zero, Nat.zero_ne_one, n32 hN.1, hN.1, g, hs, e1]
      rfl
    | succ r ih =>
      intro k E M2 hm hw hg hd hr
      have e1 : k < n := by omega
      obtain ⟨M3, q1, q2, q3⟩ := c22 (d := d) t2 hm hw (by omega)
      have hw3 := dayE_WE hw (by omega : E 2 + 1 < 100000)
      have g14 := c14 (d := d + 1) t2 q2 hw3
      rw [show dayE E 1 = E 1 from dayE_o (by omega) (by omega)] at g14
      have g33 := n33i (d := d + 3) (M := M3) hN (by omega : k < cw)
      rw [q3 aw ha, hg aw ha] at g33
      have g := hg ow ho
      have hg3 := mg_t hg q3
      unfold fwS
      by_cases e : nI (smS (dayE E) (E 1)) = M aw k
      · obtain ⟨M', s1, s2, s3⟩ := ih (k + 1) (dayE E) M3 q2 hw3 hg3 (by rw [dayE_2]; omega) (by omega)
        refine ⟨M', ?_, s2, s3⟩
        rw [st_72_10]
        simp (disch := omega) only [st_72_0, st_72_1, st_72_4, st_72_5, st_72_8, st_72_9, st_72_11, st_72_12, st_72_15, st_72_18, st_72_19, st_72_22, st_72_25, st_72_26, st_72_29, st_72_32, st_72_33, st_72_34, st_72_37, st_72_40, st_72_41, st_72_42, st_72_45, st_72_48, st_72_49, ini_72, fs_cl, fs_len, fs_rf, fs_M, fs_put, fs_cpy, ↓reduceIte, rv_ref, true_or, or_true, true_and, and_true, nI_ltI, ix_nI, nI_clamp, ps_i, ps_n, Option.bind_some, sm_0, sm_1, sm_2, sm_3, sm_4, sto_0, sto_1, sto_2, sto_3, sto_4, sto_5, sto_6, sto_7, sto_8, sto_9, sto_10, sto_11, sto_12, sto_13, sto_14, nlo_n, nlo_i, nlo_r, nlo_0, nlo_l, and_self, or_self, Nat.reduceEqDiff, Nat.reduceLT, Nat.reduceLeDiff, Nat.one_ne_zero, Nat.zero_ne_one, t0, t1, t2.1, n32 hN.1, hN.1, g, hs, e1, q1, g14, g33, eq_true e, nI_add, s1]
      · refine ⟨M3, ?_, q2.2.2.2.1, hg3⟩
        rw [st_72_10]
        simp (disch := omega) only [st_72_0, st_72_1, st_72_4, st_72_5, st_72_8, st_72_9, st_72_11, st_72_12, st_72_15, st_72_18, st_72_19, st_72_22, st_72_25, st_72_26, st_72_29, st_72_32, st_72_33, st_72_34, st_72_37, st_72_40, st_72_41, st_72_42, st_72_45, st_72_48, st_72_49, ini_72, fs_cl, fs_len, fs_rf, fs_M, fs_put, fs_cpy, ↓reduceIte, rv_ref, true_or, or_true, true_and, and_true, nI_ltI, ix_nI, nI_clamp, ps_i, ps_n, Option.bind_some, sm_0, sm_1, sm_2, sm_3, sm_4, sto_0, sto_1, sto_2, sto_3, sto_4, sto_5, sto_6, sto_7, sto_8, sto_9, sto_10, sto_11, sto_12, sto_13, sto_14, nlo_n, nlo_i, nlo_r, nlo_0, nlo_l, and_self, or_self, Nat.reduceEqDiff, Nat.reduceLT, Nat.reduceLeDiff, Nat.one_ne_zero, Nat.zero_ne_one, t0, t1, t2.1, n32 hN.1, hN.1, g, hs, e1, q1, g14, g33, e]
  obtain ⟨M', s1, s2, s3⟩ := L n 0 E M1 p2 hw p3 hd (by omega)
  refine ⟨M', ?_, s2, s3⟩
  rw [j_C_eq]
  simp (disch := omega) only [st_72_0, st_72_1, st_72_4, st_72_5, st_72_8, st_72_9, st_72_11, st_72_12, st_72_15, st_72_18, st_72_19, st_72_22, st_72_25, st_72_26, st_72_29, st_72_32, st_72_33, st_72_34, st_72_37, st_72_40, st_72_41, st_72_42, st_72_45, st_72_48, st_72_49, ini_72, fs_cl, fs_len, fs_rf, fs_M, fs_put, fs_cpy, ↓reduceIte, rv_ref, true_or, or_true, true_and, and_true, nI_ltI, ix_nI, nI_clamp, ps_i, ps_n, Option.bind_some, sm_0, sm_1, sm_2, sm_3, sm_4, sto_0, sto_1, sto_2, sto_3, sto_4, sto_5, sto_6, sto_7, sto_8, sto_9, sto_10, sto_11, sto_12, sto_13, sto_14, nlo_n, nlo_i, nlo_r, nlo_0, nlo_l, and_self, or_self, Nat.reduceEqDiff, Nat.reduceLT, Nat.reduceLeDiff, Nat.one_ne_zero, Nat.zero_ne_one, t0, t1, t2.1, p1, s1]
