/-! The class's Thoughts: a round. -/
variable {h : j_Hd} {M : Nat → Nat → Int32} {σ : j_St} {d b w : Nat} {E : Nat → Nat} {z : Int32} {K0 K1 : List Int32}
/-- the first that takes a coin, behind its holder -/
def ipS (E : Nat → Nat) (K : List Int32) (c hd : Nat) : Nat → Nat → Option (Nat → Nat)
  | 0, _ => none
  | r + 1, k => if wth E K c ((hd + k) % E 0) < nI (E (11 + 5 * ((hd + k) % E 0))) then ipS E K c hd r (k + 1) else some (sel E c ((hd + k) % E 0))
def rdS (K : List Int32) (c : Nat) : Nat → Nat → (Nat → Nat) → Nat
  | 0, n, _ => n
  | r + 1, n, E => match ipS E K c (E (39 + 5 * c)) (E 0 - 1) 1 with
    | none => n
    | some E' => rdS K c r (n + 1) E'
theorem ipS_WE (hw : WE E) {c hd : Nat} (hc : c < E 1) (h0 : 0 < E 0) : ∀ r k E', ipS E K0 c hd r k = some E' → WE E' ∧ E' 0 = E 0 ∧ E' 1 = E 1 := by
  intro r
  induction r with
  | zero => intro k E' he; cases he
  | succ r ih =>
    intro k E' he
    unfold ipS at he
    split at he
    · exact ih _ _ he
    · cases he
      exact ⟨WE_sel hw (Nat.mod_lt _ h0) hc, sel_o (by omega) (by omega), sel_o (by omega) (by omega)⟩
theorem c69l (ht : Th h w) (hw : WE E) {c hd : Nat} (hc : c < E 1) (hh : hd < 10) : ∀ r k (M : Nat → Nat → Int32), CM M (w + 1) E z K0 K1 → r + k = E 0 → 0 < E 0 → ∃ M', j_X (d + 5) 69 23 [some (.ref w), some (.int (nI c)), some (.int (nI (E 0))), some (.int (nI hd)), some (.int (nI k))] [] (FS h M) = some (some (.int (if (ipS E K0 c hd r k).isSome = true then nI 1 else nI 0)), FS h M') ∧ CM M' (w + 1) ((ipS E K0 c hd r k).getD E) z K0 K1 ∧ mg (w + 1) M M' := by
  obtain ⟨t0, t1, t2, t3, t4⟩ := ht
  have h6 := hw.1
  intro r
  induction r with
  | zero =>
    intro k M hm hr h0
    have e1 : ¬ k < E 0 := by omega
    refine ⟨M, ?_, hm, mg_r⟩
    rw [st_69_23]
    simp (disch := omega) only [st_69_0, st_69_1, st_69_4, st_69_7, st_69_8, st_69_9, st_69_12, st_69_15, st_69_16, st_69_19, st_69_20, st_69_21, st_69_25, st_69_26, st_69_29, st_69_30, st_69_33, st_69_34, st_69_35, st_69_37, st_69_38, st_69_39, st_69_40, st_69_43, st_69_46, st_69_47, st_69_48, st_69_51, st_69_54, st_69_55, ini_69, fs_cl, fs_len, fs_rf, fs_M, fs_put, fs_cpy, ↓reduceIte, rv_ref, true_or, or_true, true_and, and_true, nI_ltI, ix_nI, nI_clamp, ps_i, ps_n, Option.bind_some, sm_0, sm_1, sm_2, sm_3, sm_4, sto_0, sto_1, sto_2, sto_3, sto_4, sto_5, sto_6, sto_7, sto_8, sto_9, sto_10, sto_11, sto_12, sto_13, sto_14, nlo_n, nlo_i, nlo_r, nlo_0, nlo_l, and_self, or_self, Nat.reduceEqDiff, Nat.reduceLT, Nat.reduceLeDiff, Nat.one_ne_zero, Nat.zero_ne_one, e1]
    rfl
  | succ r ih =>
    intro k M hm hr h0
    have e1 : k < E 0 := by omega
    have mt := Nat.mod_lt (hd + k) h0
    have e4 : ¬ nI (E 0) = nI 0 := nI_ne (by omega) (by omega) (by omega)
    have e10 : ¬ nI 1 = nI 0 := by decide +kernel
    unfold ipS
    by_cases e : wth E K0 c ((hd + k) % E 0) < nI (E (11 + 5 * ((hd + k) % E 0)))
    · rw [if_pos e]
      obtain ⟨M1, p1, p2⟩ := c19n (d := d) t2 hm hw mt hc e
      obtain ⟨M', s1, s2, s3⟩ := ih (k + 1) M1 (CM_sg p2 hm) (by omega) h0
      refine ⟨M', ?_, s2, mg_t (mg_sg p2) s3⟩
      rw [st_69_23]
      simp (disch := omega) only [st_69_0, st_69_1, st_69_4, st_69_7, st_69_8, st_69_9, st_69_12, st_69_15, st_69_16, st_69_19, st_69_20, st_69_21, st_69_25, st_69_26, st_69_29, st_69_30, st_69_33, st_69_34, st_69_35, st_69_37, st_69_38, st_69_39, st_69_40, st_69_43, st_69_46, st_69_47, st_69_48, st_69_51, st_69_54, st_69_55, ini_69, fs_cl, fs_len, fs_rf, fs_M, fs_put, fs_cpy, ↓reduceIte, rv_ref, true_or, or_true, true_and, and_true, nI_ltI, ix_nI, nI_clamp, ps_i, ps_n, Option.bind_some, sm_0, sm_1, sm_2, sm_3, sm_4, sto_0, sto_1, sto_2, sto_3, sto_4, sto_5, sto_6, sto_7, sto_8, sto_9, sto_10, sto_11, sto_12, sto_13, sto_14, nlo_n, nlo_i, nlo_r, nlo_0, nlo_l, and_self, or_self, Nat.reduceEqDiff, Nat.reduceLT, Nat.reduceLeDiff, Nat.one_ne_zero, Nat.zero_ne_one, t0, t1, t2.1, e1, e4, nI_add, nI_rem, p1, s1]
    · rw [if_neg e]
      obtain ⟨M1, p1, p2, p3⟩ := c19y (d := d) t2 hm hw mt hc e
      refine ⟨M1, ?_, p2, p3⟩
      rw [st_69_23]
      simp (disch := omega) only [st_69_0, st_69_1, st_69_4, st_69_7, st_69_8, st_69_9, st_69_12, st_69_15, st_69_16, st_69_19, st_69_20, st_69_21, st_69_25, st_69_26, st_69_29, st_69_30, st_69_33, st_69_34, st_69_35, st_69_37, st_69_38, st_69_39, st_69_40, st_69_43, st_69_46, st_69_47, st_69_48, st_69_51, st_69_54, st_69_55, ini_69, fs_cl, fs_len, fs_rf, fs_M, fs_put, fs_cpy, ↓reduceIte, rv_ref, true_or, or_true, true_and, and_true, nI_ltI, ix_nI, nI_clamp, ps_i, ps_n, Option.bind_some, sm_0, sm_1, sm_2, sm_3, sm_4, sto_0, sto_1, sto_2, sto_3, sto_4, sto_5, sto_6, sto_7, sto_8, sto_9, sto_10, sto_11, sto_12, sto_13, sto_14, nlo_n, nlo_i, nlo_r, nlo_0, nlo_l, and_self, or_self, Nat.reduceEqDiff, Nat.reduceLT, Nat.reduceLeDiff, Nat.one_ne_zero, Nat.zero_ne_one, t0, t1, t2.1, e1, e4, e10, nI_add, nI_rem, p1]
      rfl
theorem c69 (ht : Th h w) (hm : CM M (w + 1) E z K0 K1) (hw : WE E) {c : Nat} (hc : c < E 1) : ∃ M', j_C (d + 6) 69 [.ref w, .int (nI c)] (FS h M) = some (some (.int (if (ipS E K0 c (E (39 + 5 * c)) (E 0 - 1) 1).isSome = true then nI 1 else nI 0)), FS h M') ∧ CM M' (w + 1) ((ipS E K0 c (E (39 + 5 * c)) (E 0 - 1) 1).getD E) z K0 K1 ∧ mg (w + 1) M M' := by
  have ch := (hw.2.2.2.2.2.2.2 c hc).2.2.1
  have h6 := hw.1
  have h8 := hw.2.1
  obtain ⟨M', s1, s2, s3⟩ := c69l (d := d) ht hw hc (by omega : E (39 + 5 * c) < 10) (E 0 - 1) 1 M hm (by omega) (by omega)
  obtain ⟨t0, t1, t2, t3, t4⟩ := ht
  have n6 := t2.2.2.2.2.2.2.2.1
  have g6 := n33i (d := d + 4) (M := M) n6.2 (by omega : c < 8)
  rw [(hm.2.2.1 c hc).2.1] at g6
  have m0 := t2.1
  refine ⟨M', ?_, s2, s3⟩
  rw [j_C_eq]
  simp (disch := omega) only [st_69_0, st_69_1, st_69_4, st_69_7, st_69_8, st_69_9, st_69_12, st_69_15, st_69_16, st_69_19, st_69_20, st_69_21, st_69_25, st_69_26, st_69_29, st_69_30, st_69_33, st_69_34, st_69_35, st_69_37, st_69_38, st_69_39, st_69_40, st_69_43, st_69_46, st_69_47, st_69_48, st_69_51, st_69_54, st_69_55, ini_69, fs_cl, fs_len, fs_rf, fs_M, fs_put, fs_cpy, ↓reduceIte, rv_ref, true_or, or_true, true_and, and_true, nI_ltI, ix_nI, nI_clamp, ps_i, ps_n, Option.bind_some, sm_0, sm_1, sm_2, sm_3, sm_4, sto_0, sto_1, sto_2, sto_3, sto_4, sto_5, sto_6, sto_7, sto_8, sto_9, sto_10, sto_11, sto_12, sto_13, sto_14, nlo_n, nlo_i, nlo_r, nlo_0, nlo_l, and_self, or_self, Nat.reduceEqDiff, Nat.reduceLT, Nat.reduceLeDiff, Nat.one_ne_zero, Nat.zero_ne_one, t0, t1, m0, c6 t2, hm.1.1, n6.1, n6.2.1, g6, s1]
theorem c68 (ht : Th h w) (hk : Mk h b) (hdis : w + 1 + 27 ≤ b ∨ b + 27 ≤ w + 1) (hst : Sd M (w + 1)) (hm : CM M b E z K0 K1) (hw : WE E) {c : Nat} (hc : c < E 1) : ∃ M', j_C (d + 7) 68 [.ref w, .ref b, .int (nI c)] (FS h M) = some (some (.int (nI (rdS K0 c 100 0 E))), FS h M') ∧ Sd M' (w + 1) ∧ mg (w + 1) M M' := by
  have ht' := ht
  obtain ⟨t0, t1, t2, t3, t4⟩ := ht'
  obtain ⟨M1, p1, p2, p3⟩ := c5 (d := d + 3) t2 hk (by omega) hst hm hw
  have e10 : ¬ nI 1 = nI 0 := by decide +kernel
  have L : ∀ r n (E : Nat → Nat) (M : Nat → Nat → Int32), CM M (w + 1) E z K0 K1 → WE E → c < E 1 → r + n = 100 → ∃ M', j_X (d + 6) 68 10 [some (.ref w), some (.ref b), some (.int (nI c)), some (.int (nI n))] [] (FS h M) = some (some (.int (nI (rdS K0 c r n E))), FS h M') ∧ Sd M' (w + 1) ∧ mg (w + 1) M M' := by
    intro r
    induction r with
    | zero =>
      intro n E M hm hw hc hr
      have e1 : ¬ n < 100 := by omega
      refine ⟨M, ?_, hm.2.2.2.1, mg_r⟩
      rw [st_68_10]
      simp (disch := omega) only [st_68_0, st_68_1, st_68_4, st_68_5, st_68_8, st_68_9, st_68_11, st_68_13, st_68_16, st_68_17, st_68_18, st_68_21, st_68_24, st_68_27, st_68_30, st_68_31, ini_68, fs_cl, fs_len, fs_rf, fs_M, fs_put, fs_cpy, ↓reduceIte, rv_ref, true_or, or_true, true_and, and_true, nI_ltI, ix_nI, nI_clamp, ps_i, ps_n, Option.bind_some, sm_0, sm_1, sm_2, sm_3, sm_4, sto_0, sto_1, sto_2, sto_3, sto_4, sto_5, sto_6, sto_7, sto_8, sto_9, sto_10, sto_11, sto_12, sto_13, sto_14, nlo_n, nlo_i, nlo_r, nlo_0, nlo_l, and_self, or_self, Nat.reduceEqDiff, Nat.reduceLT, Nat.reduceLeDiff, Nat.one_ne_zero, Nat.zero_ne_one, e1]
      rfl
    | succ r ih =>
      intro n E M hm hw hc hr
      have e1 : n < 100 := by omega
      obtain ⟨M1, p1, p2, p3⟩ := c69 (d := d) ht hm hw hc
      have ch := (hw.2.2.2.2.2.2.2 c hc).2.2.1
      have hwe := ipS_WE (K0 := K0) hw (hd := E (39 + 5 * c)) hc (by omega) (E 0 - 1) 1
      unfold rdS
      cases he : ipS E K0 c (E (39 + 5 * c)) (E 0 - 1) 1 with
      | none =>
        rw [he] at p1 p2
        rw [Option.isSome_none, if_neg (by decide)] at p1
        refine ⟨M1, ?_, p2.2.2.2.1, p3⟩
        rw [st_68_10]
        simp (disch := omega) only [st_68_0, st_68_1, st_68_4, st_68_5, st_68_8, st_68_9, st_68_11, st_68_13, st_68_16, st_68_17, st_68_18, st_68_21, st_68_24, st_68_27, st_68_30, st_68_31, ini_68, fs_cl, fs_len, fs_rf, fs_M, fs_put, fs_cpy, ↓reduceIte, rv_ref, true_or, or_true, true_and, and_true, nI_ltI, ix_nI, nI_clamp, ps_i, ps_n, Option.bind_some, sm_0, sm_1, sm_2, sm_3, sm_4, sto_0, sto_1, sto_2, sto_3, sto_4, sto_5, sto_6, sto_7, sto_8, sto_9, sto_10, sto_11, sto_12, sto_13, sto_14, nlo_n, nlo_i, nlo_r, nlo_0, nlo_l, and_self, or_self, Nat.reduceEqDiff, Nat.reduceLT, Nat.reduceLeDiff, Nat.one_ne_zero, Nat.zero_ne_one, t0, e1, p1]
      | some E' =>
        rw [he] at p1 p2
        rw [Option.isSome_some, if_pos rfl] at p1
        obtain ⟨w1, w2, w3⟩ := hwe E' he
        obtain ⟨M', s1, s2, s3⟩ := ih (n + 1) E' M1 p2 w1 (by rw [w3]; exact hc) (by omega)
        refine ⟨M', ?_, s2, mg_t p3 s3⟩
        rw [st_68_10]
        simp (disch := omega) only [st_68_0, st_68_1, st_68_4, st_68_5, st_68_8, st_68_9, st_68_11, st_68_13, st_68_16, st_68_17, st_68_18, st_68_21, st_68_24, st_68_27, st_68_30, st_68_31, ini_68, fs_cl, fs_len, fs_rf, fs_M, fs_put, fs_cpy, ↓reduceIte, rv_ref, true_or, or_true, true_and, and_true, nI_ltI, ix_nI, nI_clamp, ps_i, ps_n, Option.bind_some, sm_0, sm_1, sm_2, sm_3, sm_4, sto_0, sto_1, sto_2, sto_3, sto_4, sto_5, sto_6, sto_7, sto_8, sto_9, sto_10, sto_11, sto_12, sto_13, sto_14, nlo_n, nlo_i, nlo_r, nlo_0, nlo_l, and_self, or_self, Nat.reduceEqDiff, Nat.reduceLT, Nat.reduceLeDiff, Nat.one_ne_zero, Nat.zero_ne_one, t0, e1, p1, e10, nI_add, s1]
  obtain ⟨M', s1, s2, s3⟩ := L 100 0 E M1 p2 hw hc (by omega)
  refine ⟨M', ?_, s2, mg_t p3 s3⟩
  rw [j_C_eq]
  simp (disch := omega) only [st_68_0, st_68_1, st_68_4, st_68_5, st_68_8, st_68_9, st_68_11, st_68_13, st_68_16, st_68_17, st_68_18, st_68_21, st_68_24, st_68_27, st_68_30, st_68_31, ini_68, fs_cl, fs_len, fs_rf, fs_M, fs_put, fs_cpy, ↓reduceIte, rv_ref, true_or, or_true, true_and, and_true, nI_ltI, ix_nI, nI_clamp, ps_i, ps_n, Option.bind_some, sm_0, sm_1, sm_2, sm_3, sm_4, sto_0, sto_1, sto_2, sto_3, sto_4, sto_5, sto_6, sto_7, sto_8, sto_9, sto_10, sto_11, sto_12, sto_13, sto_14, nlo_n, nlo_i, nlo_r, nlo_0, nlo_l, and_self, or_self, Nat.reduceEqDiff, Nat.reduceLT, Nat.reduceLeDiff, Nat.one_ne_zero, Nat.zero_ne_one, t0, t1, t2.1, p1, s1]
