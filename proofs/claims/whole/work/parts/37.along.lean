/-! The class's Thoughts: a coin along a row of traders. -/
variable {h : j_Hd} {M : Nat → Nat → Int32} {σ : j_St} {d b w : Nat} {E : Nat → Nat} {z : Int32} {K0 K1 : List Int32}
theorem c64 (ht : Th h w) (x y v : Int32) : j_C (d + 1) 64 [.ref w, .int x, .int y, .int v] (FS h M) = some (none, FS h (j_up (j_up (j_up M w 2 x) w 3 y) w 4 v)) := by
  rw [j_C_eq]
  simp only [st_64_0, st_64_1, st_64_2, st_64_5, st_64_6, st_64_7, st_64_10, st_64_11, st_64_12, st_64_15, ini_64, fs_cl, fs_len, fs_rf, fs_M, fs_put, fs_cpy, ↓reduceIte, rv_ref, true_or, or_true, true_and, and_true, nI_ltI, ix_nI, nI_clamp, ps_i, ps_n, Option.bind_some, sm_0, sm_1, sm_2, sm_3, sm_4, sto_0, sto_1, sto_2, sto_3, sto_4, sto_5, sto_6, sto_7, sto_8, sto_9, sto_10, sto_11, sto_12, sto_13, sto_14, nlo_n, nlo_i, nlo_r, nlo_0, nlo_l, and_self, or_self, Nat.reduceEqDiff, Nat.reduceLT, Nat.reduceLeDiff, Nat.one_ne_zero, Nat.zero_ne_one, ht.1]
/-- the row of traders that is found -/
def FdT (M : Nat → Nat → Int32) (w v n s : Nat) : Prop := M w 2 = nI v ∧ M w 3 = nI n ∧ M w 4 = nI s
theorem FdT_cg {M' : Nat → Nat → Int32} {v n s : Nat} (hf : FdT M w v n s) (he : M' w = M w) : FdT M' w v n s := by
  unfold FdT at hf ⊢; rw [he]; exact hf
theorem FdT_up (v n s : Nat) : FdT (j_up (j_up (j_up M w 2 (nI v)) w 3 (nI n)) w 4 (nI s)) w v n s := by
  unfold FdT
  refine ⟨?_, ?_, up_s _ _ _⟩
  · rw [up_k _ _ _ _ (by omega), up_k _ _ _ _ (by omega), up_s]
  · rw [up_k _ _ _ _ (by omega), up_s]
theorem c65 (ht : Th h w) {v n s p : Nat} (hf : FdT M w v n s) (hn : 0 < n) (hn2 : n < 1000) (hv : v < 2147483648) (hs : s < 1000) (hp : p < 1000) : j_C (d + 2) 65 [.ref w, .int (nI p)] (FS h M) = some (some (.int (nI (dg v n (s - 1 - p)))), FS h M) := by
  have g := c139 (σ := FS h M) (d := d) (v := v) (b := n) (s := s) (p := p) hn hn2 hv (by omega) (by omega)
  rw [j_C_eq]
  simp only [st_65_0, st_65_1, st_65_4, st_65_5, st_65_8, st_65_9, st_65_12, st_65_13, st_65_16, ini_65, fs_cl, fs_len, fs_rf, fs_M, fs_put, fs_cpy, ↓reduceIte, rv_ref, true_or, or_true, true_and, and_true, nI_ltI, ix_nI, nI_clamp, ps_i, ps_n, Option.bind_some, sm_0, sm_1, sm_2, sm_3, sm_4, sto_0, sto_1, sto_2, sto_3, sto_4, sto_5, sto_6, sto_7, sto_8, sto_9, sto_10, sto_11, sto_12, sto_13, sto_14, nlo_n, nlo_i, nlo_r, nlo_0, nlo_l, and_self, or_self, Nat.reduceEqDiff, Nat.reduceLT, Nat.reduceLeDiff, Nat.one_ne_zero, Nat.zero_ne_one, ht.1, hf.1, hf.2.1, hf.2.2, g]
def alS (K : List Int32) (c v n s : Nat) : Nat → Nat → (Nat → Nat) → Bool × (Nat → Nat)
  | 0, _, E => (true, E)
  | r + 1, p, E => if E (39 + 5 * c) = dg v n (s - 1 - p) then (false, E) else if wth E K c (dg v n (s - 1 - p)) < nI (E (11 + 5 * dg v n (s - 1 - p))) then (false, E) else alS K c v n s r (p + 1) (sel E c (dg v n (s - 1 - p)))
theorem c63l (ht : Th h w) {c v n s : Nat} (hn : 0 < n) (hn2 : n < 7) (hv : v < 2147483648) (hs : s < 1000) : ∀ r p (E : Nat → Nat) (M : Nat → Nat → Int32) (o3 : Option Value), CM M (w + 1) E z K0 K1 → WE E → c < E 1 → n = E 0 → FdT M w v n s → r + p = s → ∃ M', j_X (d + 5) 63 2 [some (.ref w), some (.int (nI c)), some (.int (nI p)), o3] [] (FS h M) = some (some (.int (if (alS K0 c v n s r p E).1 = true then nI 1 else nI 0)), FS h M') ∧ CM M' (w + 1) (alS K0 c v n s r p E).2 z K0 K1 ∧ mg (w + 1) M M' := by
  obtain ⟨t0, t1, t2, t3, t4⟩ := id ht
  have e10 : ¬ nI 1 = nI 0 := by decide +kernel
  intro r
  induction r with
  | zero =>
    intro p E M o3 hm hw hc hnE hf hr
    have e1 : ¬ p < s := by omega
    have e2 := hf.2.2
    refine ⟨M, ?_, hm, mg_r⟩
    rw [st_63_2]
    simp (disch := omega) only [st_63_0, st_63_1, st_63_3, st_63_4, st_63_7, st_63_10, st_63_11, st_63_12, st_63_15, st_63_16, st_63_17, st_63_20, st_63_21, st_63_22, st_63_25, st_63_28, st_63_29, st_63_32, st_63_33, st_63_34, st_63_37, st_63_40, st_63_41, st_63_42, st_63_45, st_63_48, st_63_49, ini_63, fs_cl, fs_len, fs_rf, fs_M, fs_put, fs_cpy, ↓reduceIte, rv_ref, true_or, or_true, true_and, and_true, nI_ltI, ix_nI, nI_clamp, ps_i, ps_n, Option.bind_some, sm_0, sm_1, sm_2, sm_3, sm_4, sto_0, sto_1, sto_2, sto_3, sto_4, sto_5, sto_6, sto_7, sto_8, sto_9, sto_10, sto_11, sto_12, sto_13, sto_14, nlo_n, nlo_i, nlo_r, nlo_0, nlo_l, and_self, or_self, Nat.reduceEqDiff, Nat.reduceLT, Nat.reduceLeDiff, Nat.one_ne_zero, Nat.zero_ne_one, t0, e2, e1]
    rfl
  | succ r ih =>
    intro p E M o3 hm hw hc hnE hf hr
    have e1 : p < s := by omega
    have e2 := hf.2.2
    have g := c65 (d := d + 3) ht hf hn (by omega) hv hs (by omega : p < 1000)
    have tl : dg v n (s - 1 - p) < n := Nat.mod_lt _ hn
    have g12 := c12 (d := d + 3) t2 hm hw (t := dg v n (s - 1 - p)) (by omega) hc
    have m0 := t2.1
    unfold alS
    by_cases e : E (39 + 5 * c) = dg v n (s - 1 - p)
    · rw [if_pos e] at g12 ⊢
      refine ⟨M, ?_, hm, mg_r⟩
      rw [st_63_2]
      simp (disch := omega) only [st_63_0, st_63_1, st_63_3, st_63_4, st_63_7, st_63_10, st_63_11, st_63_12, st_63_15, st_63_16, st_63_17, st_63_20, st_63_21, st_63_22, st_63_25, st_63_28, st_63_29, st_63_32, st_63_33, st_63_34, st_63_37, st_63_40, st_63_41, st_63_42, st_63_45, st_63_48, st_63_49, ini_63, fs_cl, fs_len, fs_rf, fs_M, fs_put, fs_cpy, ↓reduceIte, rv_ref, true_or, or_true, true_and, and_true, nI_ltI, ix_nI, nI_clamp, ps_i, ps_n, Option.bind_some, sm_0, sm_1, sm_2, sm_3, sm_4, sto_0, sto_1, sto_2, sto_3, sto_4, sto_5, sto_6, sto_7, sto_8, sto_9, sto_10, sto_11, sto_12, sto_13, sto_14, nlo_n, nlo_i, nlo_r, nlo_0, nlo_l, and_self, or_self, Nat.reduceEqDiff, Nat.reduceLT, Nat.reduceLeDiff, Nat.one_ne_zero, Nat.zero_ne_one, t0, t1, m0, e2, e1, g, g12, e10]
      rfl
    · rw [if_neg e] at g12 ⊢
      by_cases e3 : wth E K0 c (dg v n (s - 1 - p)) < nI (E (11 + 5 * dg v n (s - 1 - p)))
      · rw [if_pos e3]
        obtain ⟨M1, p1, p2⟩ := c19n (d := d) t2 hm hw (by omega : dg v n (s - 1 - p) < E 0) hc e3
        refine ⟨M1, ?_, CM_sg p2 hm, mg_sg p2⟩
        rw [st_63_2]
        simp (disch := omega) only [st_63_0, st_63_1, st_63_3, st_63_4, st_63_7, st_63_10, st_63_11, st_63_12, st_63_15, st_63_16, st_63_17, st_63_20, st_63_21, st_63_22, st_63_25, st_63_28, st_63_29, st_63_32, st_63_33, st_63_34, st_63_37, st_63_40, st_63_41, st_63_42, st_63_45, st_63_48, st_63_49, ini_63, fs_cl, fs_len, fs_rf, fs_M, fs_put, fs_cpy, ↓reduceIte, rv_ref, true_or, or_true, true_and, and_true, nI_ltI, ix_nI, nI_clamp, ps_i, ps_n, Option.bind_some, sm_0, sm_1, sm_2, sm_3, sm_4, sto_0, sto_1, sto_2, sto_3, sto_4, sto_5, sto_6, sto_7, sto_8, sto_9, sto_10, sto_11, sto_12, sto_13, sto_14, nlo_n, nlo_i, nlo_r, nlo_0, nlo_l, and_self, or_self, Nat.reduceEqDiff, Nat.reduceLT, Nat.reduceLeDiff, Nat.one_ne_zero, Nat.zero_ne_one, t0, t1, m0, e2, e1, g, g12, p1]
        rfl
      · rw [if_neg e3]
        have tE : dg v n (s - 1 - p) < E 0 := by omega
        obtain ⟨M1, p1, p2, p3⟩ := c19y (d := d) t2 hm hw tE hc e3
        obtain ⟨M', s1, s2, s3⟩ := ih (p + 1) (sel E c (dg v n (s - 1 - p))) M1 (some (.int (nI (dg v n (s - 1 - p))))) p2 (WE_sel hw tE hc) (by rw [sel_o (by omega) (by omega)]; exact hc) (by rw [sel_o (by omega) (by omega)]; exact hnE) (FdT_cg hf (p3 w (by omega))) (by omega)
        refine ⟨M', ?_, s2, mg_t p3 s3⟩
        rw [st_63_2]
        simp (disch := omega) only [st_63_0, st_63_1, st_63_3, st_63_4, st_63_7, st_63_10, st_63_11, st_63_12, st_63_15, st_63_16, st_63_17, st_63_20, st_63_21, st_63_22, st_63_25, st_63_28, st_63_29, st_63_32, st_63_33, st_63_34, st_63_37, st_63_40, st_63_41, st_63_42, st_63_45, st_63_48, st_63_49, ini_63, fs_cl, fs_len, fs_rf, fs_M, fs_put, fs_cpy, ↓reduceIte, rv_ref, true_or, or_true, true_and, and_true, nI_ltI, ix_nI, nI_clamp, ps_i, ps_n, Option.bind_some, sm_0, sm_1, sm_2, sm_3, sm_4, sto_0, sto_1, sto_2, sto_3, sto_4, sto_5, sto_6, sto_7, sto_8, sto_9, sto_10, sto_11, sto_12, sto_13, sto_14, nlo_n, nlo_i, nlo_r, nlo_0, nlo_l, and_self, or_self, Nat.reduceEqDiff, Nat.reduceLT, Nat.reduceLeDiff, Nat.one_ne_zero, Nat.zero_ne_one, t0, t1, m0, e2, e1, g, g12, p1, e10, nI_add, s1]
theorem c63 (ht : Th h w) {c v n s : Nat} (hn : 0 < n) (hn2 : n < 7) (hv : v < 2147483648) (hs : s < 1000) (hm : CM M (w + 1) E z K0 K1) (hw : WE E) (hc : c < E 1) (hnE : n = E 0) (hf : FdT M w v n s) : ∃ M', j_C (d + 6) 63 [.ref w, .int (nI c)] (FS h M) = some (some (.int (if (alS K0 c v n s s 0 E).1 = true then nI 1 else nI 0)), FS h M') ∧ CM M' (w + 1) (alS K0 c v n s s 0 E).2 z K0 K1 ∧ mg (w + 1) M M' := by
  obtain ⟨M', s1, s2, s3⟩ := c63l (d := d) ht hn hn2 hv hs s 0 E M none hm hw hc hnE hf (by omega)
  refine ⟨M', ?_, s2, s3⟩
  rw [j_C_eq]
  simp only [st_63_0, st_63_1, st_63_3, st_63_4, st_63_7, st_63_10, st_63_11, st_63_12, st_63_15, st_63_16, st_63_17, st_63_20, st_63_21, st_63_22, st_63_25, st_63_28, st_63_29, st_63_32, st_63_33, st_63_34, st_63_37, st_63_40, st_63_41, st_63_42, st_63_45, st_63_48, st_63_49, ini_63, fs_cl, fs_len, fs_rf, fs_M, fs_put, fs_cpy, ↓reduceIte, rv_ref, true_or, or_true, true_and, and_true, nI_ltI, ix_nI, nI_clamp, ps_i, ps_n, Option.bind_some, sm_0, sm_1, sm_2, sm_3, sm_4, sto_0, sto_1, sto_2, sto_3, sto_4, sto_5, sto_6, sto_7, sto_8, sto_9, sto_10, sto_11, sto_12, sto_13, sto_14, nlo_n, nlo_i, nlo_r, nlo_0, nlo_l, and_self, or_self, Nat.reduceEqDiff, Nat.reduceLT, Nat.reduceLeDiff, Nat.one_ne_zero, Nat.zero_ne_one, s1]
/-- the sum of a set -/
def wosS (W : Nat → Int32) (S : Int32) : Nat → Int32
  | 0 => nI 0
  | c + 1 => if bt S c = nI 0 then wosS W S c else wosS W S c + W c
theorem c61 (ht : Th h w) {n : Nat} (hn : n ≤ 8) (hs : M (w + 28) 1 = nI n) (S : Int32) : j_C (d + 2) 61 [.ref w, .int S] (FS h M) = some (some (.int (wosS (M (w + 29)) S n)), FS h M) := by
  obtain ⟨t0, t1, t2, t3, t4⟩ := id ht
  have L : ∀ r c, r + c = n → j_X (d + 1) 61 4 [some (.ref w), some (.int S), some (.int (wosS (M (w + 29)) S c)), some (.int (nI c))] [] (FS h M) = some (some (.int (wosS (M (w + 29)) S n)), FS h M) := by
    intro r
    induction r with
    | zero =>
      intro c hc
      have e : c = n := by omega
      subst e
      rw [st_61_4]
      simp (disch := omega) only [st_61_0, st_61_1, st_61_2, st_61_3, st_61_5, st_61_6, st_61_9, st_61_12, st_61_15, st_61_16, st_61_17, st_61_18, st_61_19, st_61_20, st_61_23, st_61_24, st_61_25, st_61_28, st_61_29, st_61_32, st_61_33, st_61_34, st_61_37, st_61_40, st_61_41, ini_61, fs_cl, fs_len, fs_rf, fs_M, fs_put, fs_cpy, ↓reduceIte, rv_ref, true_or, or_true, true_and, and_true, nI_ltI, ix_nI, nI_clamp, ps_i, ps_n, Option.bind_some, sm_0, sm_1, sm_2, sm_3, sm_4, sto_0, sto_1, sto_2, sto_3, sto_4, sto_5, sto_6, sto_7, sto_8, sto_9, sto_10, sto_11, sto_12, sto_13, sto_14, nlo_n, nlo_i, nlo_r, nlo_0, nlo_l, and_self, or_self, Nat.reduceEqDiff, Nat.reduceLT, Nat.reduceLeDiff, Nat.one_ne_zero, Nat.zero_ne_one, t0, t3, t4.1, n32 t4.1, hs, Nat.lt_irrefl]
    | succ r ih =>
      intro c hc
      have e1 : c < n := by omega
      have g := n33i (d := d) (M := M) t4 (by omega : c < 8)
      have hX := ih (c + 1) (by omega)
      rw [wosS] at hX
      rw [st_61_4]
      by_cases e : bt S c = nI 0
      · rw [if_pos e] at hX
        simp (disch := omega) only [st_61_0, st_61_1, st_61_2, st_61_3, st_61_5, st_61_6, st_61_9, st_61_12, st_61_15, st_61_16, st_61_17, st_61_18, st_61_19, st_61_20, st_61_23, st_61_24, st_61_25, st_61_28, st_61_29, st_61_32, st_61_33, st_61_34, st_61_37, st_61_40, st_61_41, ini_61, fs_cl, fs_len, fs_rf, fs_M, fs_put, fs_cpy, ↓reduceIte, rv_ref, true_or, or_true, true_and, and_true, nI_ltI, ix_nI, nI_clamp, ps_i, ps_n, Option.bind_some, sm_0, sm_1, sm_2, sm_3, sm_4, sto_0, sto_1, sto_2, sto_3, sto_4, sto_5, sto_6, sto_7, sto_8, sto_9, sto_10, sto_11, sto_12, sto_13, sto_14, nlo_n, nlo_i, nlo_r, nlo_0, nlo_l, and_self, or_self, Nat.reduceEqDiff, Nat.reduceLT, Nat.reduceLeDiff, Nat.one_ne_zero, Nat.zero_ne_one, t0, t3, t4.1, n32 t4.1, hs, e1, e, nI_add, hX]
      · rw [if_neg e] at hX
        simp (disch := omega) only [st_61_0, st_61_1, st_61_2, st_61_3, st_61_5, st_61_6, st_61_9, st_61_12, st_61_15, st_61_16, st_61_17, st_61_18, st_61_19, st_61_20, st_61_23, st_61_24, st_61_25, st_61_28, st_61_29, st_61_32, st_61_33, st_61_34, st_61_37, st_61_40, st_61_41, ini_61, fs_cl, fs_len, fs_rf, fs_M, fs_put, fs_cpy, ↓reduceIte, rv_ref, true_or, or_true, true_and, and_true, nI_ltI, ix_nI, nI_clamp, ps_i, ps_n, Option.bind_some, sm_0, sm_1, sm_2, sm_3, sm_4, sto_0, sto_1, sto_2, sto_3, sto_4, sto_5, sto_6, sto_7, sto_8, sto_9, sto_10, sto_11, sto_12, sto_13, sto_14, nlo_n, nlo_i, nlo_r, nlo_0, nlo_l, and_self, or_self, Nat.reduceEqDiff, Nat.reduceLT, Nat.reduceLeDiff, Nat.one_ne_zero, Nat.zero_ne_one, t0, t3, t4.1, n32 t4.1, hs, e1, e, g, nI_add, hX]
  rw [j_C_eq]
  have hX := L n 0 (by omega)
  simp only [st_61_0, st_61_1, st_61_2, st_61_3, st_61_5, st_61_6, st_61_9, st_61_12, st_61_15, st_61_16, st_61_17, st_61_18, st_61_19, st_61_20, st_61_23, st_61_24, st_61_25, st_61_28, st_61_29, st_61_32, st_61_33, st_61_34, st_61_37, st_61_40, st_61_41, ini_61, fs_cl, fs_len, fs_rf, fs_M, fs_put, fs_cpy, ↓reduceIte, rv_ref, true_or, or_true, true_and, and_true, nI_ltI, ix_nI, nI_clamp, ps_i, ps_n, Option.bind_some, sm_0, sm_1, sm_2, sm_3, sm_4, sto_0, sto_1, sto_2, sto_3, sto_4, sto_5, sto_6, sto_7, sto_8, sto_9, sto_10, sto_11, sto_12, sto_13, sto_14, nlo_n, nlo_i, nlo_r, nlo_0, nlo_l, and_self, or_self, Nat.reduceEqDiff, Nat.reduceLT, Nat.reduceLeDiff, Nat.one_ne_zero, Nat.zero_ne_one]
  exact hX
