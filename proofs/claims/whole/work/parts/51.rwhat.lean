/-! The reference: what would be. -/
variable {h : j_Hd} {M : Nat → Nat → Int32} {σ : j_St} {d o : Nat} {E : Nat → Nat} {z : Int32} {K0 K1 : List Int32}
theorem lN_t {n : Nat} (hn : n < 2147483648) : (lN n).toInt = n := by
  have : ∀ n : Nat, (lN n) = Int64.ofNat n := fun n => rfl
  rw [this, Int64.toInt_ofNat_of_lt (by omega)]
theorem lin_in {j lo hi : Nat} (h1 : lo ≤ j) (h2 : j ≤ hi) (h3 : hi < 2147483648) : lin (nI j).toInt64 (lN lo) (lN hi) = nI 1 :=
  lin_y (by rw [lN_t (by omega), i64_nI (by omega)]; omega) (by rw [lN_t h3, i64_nI (by omega)]; omega)
theorem lin_out {x : Int32} {lo hi : Nat} (h1 : ¬ ∃ j, lo ≤ j ∧ j ≤ hi ∧ x = nI j) (h2 : lo ≤ hi) (h3 : hi < 2147483648) : lin x.toInt64 (lN lo) (lN hi) = nI 0 :=
  lin_n (fun ⟨a, b⟩ => by
    rw [lN_t (by omega), Int32.toInt_toInt64] at a
    rw [lN_t h3, Int32.toInt_toInt64] at b
    refine h1 ⟨x.toInt.toNat, by omega, by omega, ?_⟩
    rw [nI_z, Int.toNat_of_nonneg (by omega)]
    exact zI_of x)
/-- what a failure answers -/
def fl (k : Nat) : Int32 := -1000000000 - nI k
/-- the reference notes a failure -/
def fd (o k : Nat) (M : Nat → Nat → Int32) : Nat → Nat → Int32 := j_up M (o + 3) k (M (o + 3) k + nI 1)
theorem r142 (hk : Md h o) {k : Nat} (h6 : k < 6) {e : Nat} (he : 1 ≤ e) : j_C e 142 [.ref o, .int (nI k)] (FS h M) = some (some (.int (fl k)), FS h (fd o k M)) := by
  obtain ⟨d, rfl⟩ := le_ex he
  obtain ⟨m0, _, _, ⟨q3, k1, k2, k3⟩, _⟩ := id hk
  rw [j_C_eq]
  simp (disch := omega) only [st_142_0, st_142_1, st_142_4, st_142_5, st_142_6, st_142_7, st_142_8, st_142_9, st_142_10, st_142_12, st_142_13, st_142_14, ini_142, fs_cl, fs_len, fs_rf, fs_M, fs_put, fs_cpy, ↓reduceIte, rv_ref, true_or, or_true, true_and, and_true, nI_ltI, ix_nI, nI_clamp, ps_i, ps_n, Option.bind_some, sm_0, sm_1, sm_2, sm_3, sm_4, sto_0, sto_1, sto_2, sto_3, sto_4, sto_5, sto_6, sto_7, sto_8, sto_9, sto_10, sto_11, sto_12, sto_13, sto_14, nlo_n, nlo_i, nlo_r, nlo_0, nlo_l, and_self, or_self, Nat.reduceEqDiff, Nat.reduceLT, Nat.reduceLeDiff, Nat.one_ne_zero, Nat.zero_ne_one, m0, q3, k1, k2, h6, fl, fd]
theorem RC_up {E' : Nat → Nat} {z' : Int32} (hR : RC M o E z K0 K1) {M' : Nat → Nat → Int32} (hl : ld o M M') (hm : RLd M' o E' z') : RC M' o E' z' K0 K1 := RC_ld hl hm hR
/-- who takes a coin now -/
theorem r200 (hk : Md h o) (hR : RC M o E z K0 K1) (hw : WE E) {c : Nat} (hc : c < E 1) {e : Nat} (he : 55 ≤ e) : ∃ M', j_C e 200 [.ref o, .int (nI c)] (FS h M) = some (some (.int (tkS E K0 c (E 0))), FS h M') ∧ wf o M M' := by
  obtain ⟨e, rfl⟩ : ∃ d, e = d + 1 := ⟨e - 1, by omega⟩
  have m0 := hk.1
  have q0 := hk.2.1.1
  have a1 := hk.2.1.2.1
  have a2 := hk.2.1.2.2.1
  have h6 := hw.1
  have h8 := hw.2.1
  have ch := (hw.2.2.2.2.2.2.2 c hc).2.2.1
  have e10 : ¬ nI 1 = nI 0 := by decide +kernel
  have L : ∀ r t (M : Nat → Nat → Int32), RC M o E z K0 K1 → r + t = E 0 → ∃ M', j_X e 200 4 [some (.ref o), some (.int (nI c)), some (.int (tkS E K0 c t)), some (.int (nI t))] [] (FS h M) = some (some (.int (tkS E K0 c (E 0))), FS h M') ∧ wf o M M' := by
    intro r
    induction r with
    | zero =>
      intro t M hR hr
      have e1 : ¬ t < E 0 := by omega
      have et : t = E 0 := by omega
      have g0 := hR.1.1 0 (by omega) (by omega)
      refine ⟨M, ?_, wf_r⟩
      rw [st_200_4]
      simp (disch := omega) only [st_200_0, st_200_1, st_200_2, st_200_3, st_200_5, st_200_6, st_200_9, st_200_10, st_200_11, st_200_14, st_200_15, st_200_16, st_200_17, st_200_18, st_200_21, st_200_22, st_200_25, st_200_26, st_200_27, st_200_28, st_200_31, st_200_34, st_200_35, st_200_36, st_200_37, st_200_40, st_200_41, st_200_42, st_200_43, st_200_46, st_200_49, st_200_50, ini_200, fs_cl, fs_len, fs_rf, fs_M, fs_put, fs_cpy, ↓reduceIte, rv_ref, true_or, or_true, true_and, and_true, nI_ltI, ix_nI, nI_clamp, ps_i, ps_n, Option.bind_some, sm_0, sm_1, sm_2, sm_3, sm_4, sto_0, sto_1, sto_2, sto_3, sto_4, sto_5, sto_6, sto_7, sto_8, sto_9, sto_10, sto_11, sto_12, sto_13, sto_14, nlo_n, nlo_i, nlo_r, nlo_0, nlo_l, and_self, or_self, Nat.reduceEqDiff, Nat.reduceLT, Nat.reduceLeDiff, Nat.one_ne_zero, Nat.zero_ne_one, m0, q0, a1, a2, g0, e1]
      rw [et]
    | succ r ih =>
      intro t M hR hr
      have e1 : t < E 0 := by omega
      have g0 := hR.1.1 0 (by omega) (by omega)
      have gh := r148e (M := M) hk (t := c) (k := 1) (by omega) (e := e) (by omega)
      rw [show 38 + 5 * c + 1 = 39 + 5 * c by omega, hR.1.1 _ (by omega) (by omega)] at gh
      by_cases c1 : E (39 + 5 * c) = t
      · obtain ⟨M', p1, p2⟩ := ih (t + 1) M hR (by omega)
        rw [tkS, if_pos c1] at p1
        refine ⟨M', ?_, p2⟩
        rw [st_200_4]
        simp (disch := omega) only [st_200_0, st_200_1, st_200_2, st_200_3, st_200_5, st_200_6, st_200_9, st_200_10, st_200_11, st_200_14, st_200_15, st_200_16, st_200_17, st_200_18, st_200_21, st_200_22, st_200_25, st_200_26, st_200_27, st_200_28, st_200_31, st_200_34, st_200_35, st_200_36, st_200_37, st_200_40, st_200_41, st_200_42, st_200_43, st_200_46, st_200_49, st_200_50, ini_200, fs_cl, fs_len, fs_rf, fs_M, fs_put, fs_cpy, ↓reduceIte, rv_ref, true_or, or_true, true_and, and_true, nI_ltI, ix_nI, nI_clamp, ps_i, ps_n, Option.bind_some, sm_0, sm_1, sm_2, sm_3, sm_4, sto_0, sto_1, sto_2, sto_3, sto_4, sto_5, sto_6, sto_7, sto_8, sto_9, sto_10, sto_11, sto_12, sto_13, sto_14, nlo_n, nlo_i, nlo_r, nlo_0, nlo_l, and_self, or_self, Nat.reduceEqDiff, Nat.reduceLT, Nat.reduceLeDiff, Nat.one_ne_zero, Nat.zero_ne_one, m0, q0, a1, a2, g0, e1, gh, nI_eq, eq_true c1, or_0, nI_add, p1]
      · obtain ⟨M1, q1, q2⟩ := r182 hk hR hw e1 hc (e := e) (by omega)
        obtain ⟨M', p1, p2⟩ := ih (t + 1) M1 (RC_wf q2 hR) (by omega)
        by_cases c2 : wth E K0 c t < nI (E (11 + 5 * t))
        · rw [if_pos c2] at q1
          rw [tkS, if_neg c1, if_pos c2] at p1
          refine ⟨M', ?_, wf_t q2 p2⟩
          rw [st_200_4]
          simp (disch := omega) only [st_200_0, st_200_1, st_200_2, st_200_3, st_200_5, st_200_6, st_200_9, st_200_10, st_200_11, st_200_14, st_200_15, st_200_16, st_200_17, st_200_18, st_200_21, st_200_22, st_200_25, st_200_26, st_200_27, st_200_28, st_200_31, st_200_34, st_200_35, st_200_36, st_200_37, st_200_40, st_200_41, st_200_42, st_200_43, st_200_46, st_200_49, st_200_50, ini_200, fs_cl, fs_len, fs_rf, fs_M, fs_put, fs_cpy, ↓reduceIte, rv_ref, true_or, or_true, true_and, and_true, nI_ltI, ix_nI, nI_clamp, ps_i, ps_n, Option.bind_some, sm_0, sm_1, sm_2, sm_3, sm_4, sto_0, sto_1, sto_2, sto_3, sto_4, sto_5, sto_6, sto_7, sto_8, sto_9, sto_10, sto_11, sto_12, sto_13, sto_14, nlo_n, nlo_i, nlo_r, nlo_0, nlo_l, and_self, or_self, Nat.reduceEqDiff, Nat.reduceLT, Nat.reduceLeDiff, Nat.one_ne_zero, Nat.zero_ne_one, m0, q0, a1, a2, g0, e1, gh, nI_eq, c1, q1, or_0, nI_add, p1]
        · rw [if_neg c2] at q1
          rw [tkS, if_neg c1, if_neg c2] at p1
          refine ⟨M', ?_, wf_t q2 p2⟩
          rw [st_200_4]
          simp (disch := omega) only [st_200_0, st_200_1, st_200_2, st_200_3, st_200_5, st_200_6, st_200_9, st_200_10, st_200_11, st_200_14, st_200_15, st_200_16, st_200_17, st_200_18, st_200_21, st_200_22, st_200_25, st_200_26, st_200_27, st_200_28, st_200_31, st_200_34, st_200_35, st_200_36, st_200_37, st_200_40, st_200_41, st_200_42, st_200_43, st_200_46, st_200_49, st_200_50, ini_200, fs_cl, fs_len, fs_rf, fs_M, fs_put, fs_cpy, ↓reduceIte, rv_ref, true_or, or_true, true_and, and_true, nI_ltI, ix_nI, nI_clamp, ps_i, ps_n, Option.bind_some, sm_0, sm_1, sm_2, sm_3, sm_4, sto_0, sto_1, sto_2, sto_3, sto_4, sto_5, sto_6, sto_7, sto_8, sto_9, sto_10, sto_11, sto_12, sto_13, sto_14, nlo_n, nlo_i, nlo_r, nlo_0, nlo_l, and_self, or_self, Nat.reduceEqDiff, Nat.reduceLT, Nat.reduceLeDiff, Nat.one_ne_zero, Nat.zero_ne_one, m0, q0, a1, a2, g0, e1, gh, nI_eq, c1, q1, e10, nI_add, p1]
  obtain ⟨M', p1, p2⟩ := L (E 0) 0 M hR (by omega)
  refine ⟨M', ?_, p2⟩
  rw [j_C_eq]
  simp only [st_200_0, st_200_1, st_200_2, st_200_3, st_200_5, st_200_6, st_200_9, st_200_10, st_200_11, st_200_14, st_200_15, st_200_16, st_200_17, st_200_18, st_200_21, st_200_22, st_200_25, st_200_26, st_200_27, st_200_28, st_200_31, st_200_34, st_200_35, st_200_36, st_200_37, st_200_40, st_200_41, st_200_42, st_200_43, st_200_46, st_200_49, st_200_50, ini_200, fs_cl, fs_len, fs_rf, fs_M, fs_put, fs_cpy, ↓reduceIte, rv_ref, true_or, or_true, true_and, and_true, nI_ltI, ix_nI, nI_clamp, ps_i, ps_n, Option.bind_some, sm_0, sm_1, sm_2, sm_3, sm_4, sto_0, sto_1, sto_2, sto_3, sto_4, sto_5, sto_6, sto_7, sto_8, sto_9, sto_10, sto_11, sto_12, sto_13, sto_14, nlo_n, nlo_i, nlo_r, nlo_0, nlo_l, and_self, or_self, Nat.reduceEqDiff, Nat.reduceLT, Nat.reduceLeDiff, Nat.one_ne_zero, Nat.zero_ne_one]
  exact p1
theorem r201 (hk : Md h o) (hR : RC M o E z K0 K1) (hw : WE E) {e : Nat} (he : 56 ≤ e) : ∃ M', j_C e 201 [.ref o] (FS h M) = some (some (.int (utS E K0 (E 1))), FS h M') ∧ wf o M M' := by
  obtain ⟨e, rfl⟩ : ∃ d, e = d + 1 := ⟨e - 1, by omega⟩
  have m0 := hk.1
  have q0 := hk.2.1.1
  have a1 := hk.2.1.2.1
  have a2 := hk.2.1.2.2.1
  have h6 := hw.1
  have h8 := hw.2.1
  have L : ∀ r c (M : Nat → Nat → Int32), RC M o E z K0 K1 → r + c = E 1 → ∃ M', j_X e 201 4 [some (.ref o), some (.int (utS E K0 c)), some (.int (nI c))] [] (FS h M) = some (some (.int (utS E K0 (E 1))), FS h M') ∧ wf o M M' := by
    intro r
    induction r with
    | zero =>
      intro c M hR hr
      have e1 : ¬ c < E 1 := by omega
      have et : c = E 1 := by omega
      have g0 := hR.1.1 1 (by omega) (by omega)
      refine ⟨M, ?_, wf_r⟩
      rw [st_201_4]
      simp (disch := omega) only [st_201_0, st_201_1, st_201_2, st_201_3, st_201_5, st_201_6, st_201_9, st_201_10, st_201_11, st_201_14, st_201_15, st_201_16, st_201_17, st_201_20, st_201_23, st_201_24, st_201_25, st_201_26, st_201_29, st_201_30, st_201_31, st_201_32, st_201_35, st_201_38, st_201_39, ini_201, fs_cl, fs_len, fs_rf, fs_M, fs_put, fs_cpy, ↓reduceIte, rv_ref, true_or, or_true, true_and, and_true, nI_ltI, ix_nI, nI_clamp, ps_i, ps_n, Option.bind_some, sm_0, sm_1, sm_2, sm_3, sm_4, sto_0, sto_1, sto_2, sto_3, sto_4, sto_5, sto_6, sto_7, sto_8, sto_9, sto_10, sto_11, sto_12, sto_13, sto_14, nlo_n, nlo_i, nlo_r, nlo_0, nlo_l, and_self, or_self, Nat.reduceEqDiff, Nat.reduceLT, Nat.reduceLeDiff, Nat.one_ne_zero, Nat.zero_ne_one, m0, q0, a1, a2, g0, e1]
      rw [et]
    | succ r ih =>
      intro c M hR hr
      have e1 : c < E 1 := by omega
      have g0 := hR.1.1 1 (by omega) (by omega)
      obtain ⟨M1, q1, q2⟩ := r200 hk hR hw e1 (e := e) (by omega)
      obtain ⟨M', p1, p2⟩ := ih (c + 1) M1 (RC_wf q2 hR) (by omega)
      refine ⟨M', ?_, wf_t q2 p2⟩
      rw [utS] at p1
      by_cases c1 : tkS E K0 c (E 0) = nI 0
      · rw [if_pos c1] at p1
        rw [st_201_4]
        simp (disch := omega) only [st_201_0, st_201_1, st_201_2, st_201_3, st_201_5, st_201_6, st_201_9, st_201_10, st_201_11, st_201_14, st_201_15, st_201_16, st_201_17, st_201_20, st_201_23, st_201_24, st_201_25, st_201_26, st_201_29, st_201_30, st_201_31, st_201_32, st_201_35, st_201_38, st_201_39, ini_201, fs_cl, fs_len, fs_rf, fs_M, fs_put, fs_cpy, ↓reduceIte, rv_ref, true_or, or_true, true_and, and_true, nI_ltI, ix_nI, nI_clamp, ps_i, ps_n, Option.bind_some, sm_0, sm_1, sm_2, sm_3, sm_4, sto_0, sto_1, sto_2, sto_3, sto_4, sto_5, sto_6, sto_7, sto_8, sto_9, sto_10, sto_11, sto_12, sto_13, sto_14, nlo_n, nlo_i, nlo_r, nlo_0, nlo_l, and_self, or_self, Nat.reduceEqDiff, Nat.reduceLT, Nat.reduceLeDiff, Nat.one_ne_zero, Nat.zero_ne_one, m0, q0, a1, a2, g0, e1, q1, eq_true c1, nI_add, p1]
      · rw [if_neg c1] at p1
        rw [st_201_4]
        simp (disch := omega) only [st_201_0, st_201_1, st_201_2, st_201_3, st_201_5, st_201_6, st_201_9, st_201_10, st_201_11, st_201_14, st_201_15, st_201_16, st_201_17, st_201_20, st_201_23, st_201_24, st_201_25, st_201_26, st_201_29, st_201_30, st_201_31, st_201_32, st_201_35, st_201_38, st_201_39, ini_201, fs_cl, fs_len, fs_rf, fs_M, fs_put, fs_cpy, ↓reduceIte, rv_ref, true_or, or_true, true_and, and_true, nI_ltI, ix_nI, nI_clamp, ps_i, ps_n, Option.bind_some, sm_0, sm_1, sm_2, sm_3, sm_4, sto_0, sto_1, sto_2, sto_3, sto_4, sto_5, sto_6, sto_7, sto_8, sto_9, sto_10, sto_11, sto_12, sto_13, sto_14, nlo_n, nlo_i, nlo_r, nlo_0, nlo_l, and_self, or_self, Nat.reduceEqDiff, Nat.reduceLT, Nat.reduceLeDiff, Nat.one_ne_zero, Nat.zero_ne_one, m0, q0, a1, a2, g0, e1, q1, c1, or_0, nI_add, p1]
  obtain ⟨M', p1, p2⟩ := L (E 1) 0 M hR (by omega)
  refine ⟨M', ?_, p2⟩
  rw [j_C_eq]
  simp only [st_201_0, st_201_1, st_201_2, st_201_3, st_201_5, st_201_6, st_201_9, st_201_10, st_201_11, st_201_14, st_201_15, st_201_16, st_201_17, st_201_20, st_201_23, st_201_24, st_201_25, st_201_26, st_201_29, st_201_30, st_201_31, st_201_32, st_201_35, st_201_38, st_201_39, ini_201, fs_cl, fs_len, fs_rf, fs_M, fs_put, fs_cpy, ↓reduceIte, rv_ref, true_or, or_true, true_and, and_true, nI_ltI, ix_nI, nI_clamp, ps_i, ps_n, Option.bind_some, sm_0, sm_1, sm_2, sm_3, sm_4, sto_0, sto_1, sto_2, sto_3, sto_4, sto_5, sto_6, sto_7, sto_8, sto_9, sto_10, sto_11, sto_12, sto_13, sto_14, nlo_n, nlo_i, nlo_r, nlo_0, nlo_l, and_self, or_self, Nat.reduceEqDiff, Nat.reduceLT, Nat.reduceLeDiff, Nat.one_ne_zero, Nat.zero_ne_one]
  exact p1
/-- the worst -/
theorem r192 (hk : Md h o) (hR : RC M o E z K0 K1) (hw : WE E) {t u : Nat} (ht : t < E 0) (hu : u < E 0) (htu : t ≠ u) {e : Nat} (he : 60 ≤ e) : ∃ M', wf o M M' ∧ j_C e 192 [.ref o, .int (nI t), .int (nI u)] (FS h M) = match lwS E K0 t u (E 1) with | none => some (some (.int (fl 2)), FS h (fd o 2 M')) | some v => some (some (.int (nI v)), FS h M') := by
  obtain ⟨e, rfl⟩ : ∃ d, e = d + 1 := ⟨e - 1, by omega⟩
  have m0 := hk.1
  have q0 := hk.2.1.1
  have a1 := hk.2.1.2.1
  have a2 := hk.2.1.2.2.1
  have h6 := hw.1
  have h8 := hw.2.1
  have e10 : ¬ nI 1 = nI 0 := by decide +kernel
  have em : (-1 : Int32) < nI 0 := by decide +kernel
  have L : ∀ r c (M : Nat → Nat → Int32), RC M o E z K0 K1 → r + c = E 1 → ∃ M', wf o M M' ∧ j_X e 192 35 [some (.ref o), some (.int (nI t)), some (.int (nI u)), some (.int (lwV (lwS E K0 t u c))), some (.int (match lwS E K0 t u c with | none => nI 0 | some v => wth E K0 v t)), some (.int (nI c))] [] (FS h M) = match lwS E K0 t u (E 1) with | none => some (some (.int (fl 2)), FS h (fd o 2 M')) | some v => some (some (.int (nI v)), FS h M') := by
    intro r
    induction r with
    | zero =>
      intro c M hR hr
      have e1 : ¬ c < E 1 := by omega
      have et : c = E 1 := by omega
      subst et
      have g0 := hR.1.1 1 (by omega) (by omega)
      refine ⟨M, wf_r, ?_⟩
      have gf := r142 (M := M) hk (k := 2) (by omega) (e := e) (by omega)
      cases hq : lwS E K0 t u (E 1) with
      | none =>
        simp only [lwV]
        rw [st_192_35]
        simp (disch := omega) only [st_192_0, st_192_1, st_192_2, st_192_5, st_192_8, st_192_9, st_192_10, st_192_13, st_192_16, st_192_17, st_192_18, st_192_21, st_192_22, st_192_23, st_192_26, st_192_27, st_192_28, st_192_29, st_192_30, st_192_32, st_192_33, st_192_37, st_192_38, st_192_41, st_192_42, st_192_43, st_192_46, st_192_47, st_192_49, st_192_50, st_192_53, st_192_54, st_192_57, st_192_58, st_192_60, st_192_61, st_192_64, st_192_67, st_192_68, st_192_71, st_192_72, st_192_74, st_192_75, st_192_78, st_192_80, st_192_83, st_192_85, st_192_86, st_192_87, st_192_89, st_192_90, st_192_93, st_192_95, st_192_98, st_192_101, st_192_102, st_192_105, st_192_106, st_192_107, st_192_110, st_192_113, st_192_114, ini_192, fs_cl, fs_len, fs_rf, fs_M, fs_put, fs_cpy, ↓reduceIte, rv_ref, true_or, or_true, true_and, and_true, nI_ltI, ix_nI, nI_clamp, ps_i, ps_n, Option.bind_some, sm_0, sm_1, sm_2, sm_3, sm_4, sto_0, sto_1, sto_2, sto_3, sto_4, sto_5, sto_6, sto_7, sto_8, sto_9, sto_10, sto_11, sto_12, sto_13, sto_14, nlo_n, nlo_i, nlo_r, nlo_0, nlo_l, and_self, or_self, Nat.reduceEqDiff, Nat.reduceLT, Nat.reduceLeDiff, Nat.one_ne_zero, Nat.zero_ne_one, m0, q0, a1, a2, g0, e1, em, gf]
      | some v =>
        have hv := lwS_lt t u _ v hq
        have ev : ¬ nI v < nI 0 := nI_nlt (Nat.zero_le _) (by omega)
        simp only [lwV]
        rw [st_192_35]
        simp (disch := omega) only [st_192_0, st_192_1, st_192_2, st_192_5, st_192_8, st_192_9, st_192_10, st_192_13, st_192_16, st_192_17, st_192_18, st_192_21, st_192_22, st_192_23, st_192_26, st_192_27, st_192_28, st_192_29, st_192_30, st_192_32, st_192_33, st_192_37, st_192_38, st_192_41, st_192_42, st_192_43, st_192_46, st_192_47, st_192_49, st_192_50, st_192_53, st_192_54, st_192_57, st_192_58, st_192_60, st_192_61, st_192_64, st_192_67, st_192_68, st_192_71, st_192_72, st_192_74, st_192_75, st_192_78, st_192_80, st_192_83, st_192_85, st_192_86, st_192_87, st_192_89, st_192_90, st_192_93, st_192_95, st_192_98, st_192_101, st_192_102, st_192_105, st_192_106, st_192_107, st_192_110, st_192_113, st_192_114, ini_192, fs_cl, fs_len, fs_rf, fs_M, fs_put, fs_cpy, ↓reduceIte, rv_ref, true_or, or_true, true_and, and_true, nI_ltI, ix_nI, nI_clamp, ps_i, ps_n, Option.bind_some, sm_0, sm_1, sm_2, sm_3, sm_4, sto_0, sto_1, sto_2, sto_3, sto_4, sto_5, sto_6, sto_7, sto_8, sto_9, sto_10, sto_11, sto_12, sto_13, sto_14, nlo_n, nlo_i, nlo_r, nlo_0, nlo_l, and_self, or_self, Nat.reduceEqDiff, Nat.reduceLT, Nat.reduceLeDiff, Nat.one_ne_zero, Nat.zero_ne_one, m0, q0, a1, a2, g0, e1, ev]
    | succ r ih =>
      intro c M hR hr
      have e1 : c < E 1 := by omega
      have g0 := hR.1.1 1 (by omega) (by omega)
      have cv := (hw.2.2.2.2.2.2.2 c e1).2.2.1
      have gh := r148e (M := M) hk (t := c) (k := 1) (by omega) (e := e) (by omega)
      rw [show 38 + 5 * c + 1 = 39 + 5 * c by omega, hR.1.1 _ (by omega) (by omega)] at gh
      by_cases c1 : E (39 + 5 * c) = t
      · obtain ⟨M1, p1, p2⟩ := r182 hk hR hw hu e1 (e := e) (by omega)
        have hR1 := RC_wf p2 hR
        by_cases c2 : wth E K0 c u < nI (E (11 + 5 * u))
        · obtain ⟨M', s1, s2⟩ := ih (c + 1) M1 hR1 (by omega)
          rw [lwS, if_pos c1, if_pos c2] at s2
          rw [if_pos c2] at p1
          refine ⟨M', wf_t p2 s1, ?_⟩
          rw [← s2, st_192_35]
          simp (disch := omega) only [st_192_0, st_192_1, st_192_2, st_192_5, st_192_8, st_192_9, st_192_10, st_192_13, st_192_16, st_192_17, st_192_18, st_192_21, st_192_22, st_192_23, st_192_26, st_192_27, st_192_28, st_192_29, st_192_30, st_192_32, st_192_33, st_192_37, st_192_38, st_192_41, st_192_42, st_192_43, st_192_46, st_192_47, st_192_49, st_192_50, st_192_53, st_192_54, st_192_57, st_192_58, st_192_60, st_192_61, st_192_64, st_192_67, st_192_68, st_192_71, st_192_72, st_192_74, st_192_75, st_192_78, st_192_80, st_192_83, st_192_85, st_192_86, st_192_87, st_192_89, st_192_90, st_192_93, st_192_95, st_192_98, st_192_101, st_192_102, st_192_105, st_192_106, st_192_107, st_192_110, st_192_113, st_192_114, ini_192, fs_cl, fs_len, fs_rf, fs_M, fs_put, fs_cpy, ↓reduceIte, rv_ref, true_or, or_true, true_and, and_true, nI_ltI, ix_nI, nI_clamp, ps_i, ps_n, Option.bind_some, sm_0, sm_1, sm_2, sm_3, sm_4, sto_0, sto_1, sto_2, sto_3, sto_4, sto_5, sto_6, sto_7, sto_8, sto_9, sto_10, sto_11, sto_12, sto_13, sto_14, nlo_n, nlo_i, nlo_r, nlo_0, nlo_l, and_self, or_self, Nat.reduceEqDiff, Nat.reduceLT, Nat.reduceLeDiff, Nat.one_ne_zero, Nat.zero_ne_one, m0, q0, a1, a2, g0, e1, gh, nI_eq, eq_true c1, p1, nI_add]
        · rw [if_neg c2] at p1
          cases hq : lwS E K0 t u c with
          | none =>
            obtain ⟨M2, y1, y2⟩ := r181 hk hR1 hw ht e1 (e := e) (by omega)
            obtain ⟨M', s1, s2⟩ := ih (c + 1) M2 (RC_wf y2 hR1) (by omega)
            rw [lwS, if_pos c1, if_neg c2, hq] at s2
            simp only [lwV] at s2 ⊢
            refine ⟨M', wf_t p2 (wf_t y2 s1), ?_⟩
            rw [← s2, st_192_35]
            simp (disch := omega) only [st_192_0, st_192_1, st_192_2, st_192_5, st_192_8, st_192_9, st_192_10, st_192_13, st_192_16, st_192_17, st_192_18, st_192_21, st_192_22, st_192_23, st_192_26, st_192_27, st_192_28, st_192_29, st_192_30, st_192_32, st_192_33, st_192_37, st_192_38, st_192_41, st_192_42, st_192_43, st_192_46, st_192_47, st_192_49, st_192_50, st_192_53, st_192_54, st_192_57, st_192_58, st_192_60, st_192_61, st_192_64, st_192_67, st_192_68, st_192_71, st_192_72, st_192_74, st_192_75, st_192_78, st_192_80, st_192_83, st_192_85, st_192_86, st_192_87, st_192_89, st_192_90, st_192_93, st_192_95, st_192_98, st_192_101, st_192_102, st_192_105, st_192_106, st_192_107, st_192_110, st_192_113, st_192_114, ini_192, fs_cl, fs_len, fs_rf, fs_M, fs_put, fs_cpy, ↓reduceIte, rv_ref, true_or, or_true, true_and, and_true, nI_ltI, ix_nI, nI_clamp, ps_i, ps_n, Option.bind_some, sm_0, sm_1, sm_2, sm_3, sm_4, sto_0, sto_1, sto_2, sto_3, sto_4, sto_5, sto_6, sto_7, sto_8, sto_9, sto_10, sto_11, sto_12, sto_13, sto_14, nlo_n, nlo_i, nlo_r, nlo_0, nlo_l, and_self, or_self, Nat.reduceEqDiff, Nat.reduceLT, Nat.reduceLeDiff, Nat.one_ne_zero, Nat.zero_ne_one, m0, q0, a1, a2, g0, e1, gh, nI_eq, eq_true c1, p1, e10, em, y1, nI_add]
          | some v =>
            have hv := lwS_lt t u c v hq
            have ev : ¬ nI v < nI 0 := nI_nlt (Nat.zero_le _) (by omega)
            obtain ⟨M2, y1, y2⟩ := r181 hk hR1 hw ht e1 (e := e) (by omega)
            have hR2 := RC_wf y2 hR1
            by_cases c3 : wth E K0 c t < wth E K0 v t
            · obtain ⟨M3, x1, x2⟩ := r181 hk hR2 hw ht e1 (e := e) (by omega)
              obtain ⟨M', s1, s2⟩ := ih (c + 1) M3 (RC_wf x2 hR2) (by omega)
              rw [lwS, if_pos c1, if_neg c2, hq] at s2
              simp only [if_pos c3, lwV] at s2 ⊢
              refine ⟨M', wf_t p2 (wf_t y2 (wf_t x2 s1)), ?_⟩
              rw [← s2, st_192_35]
              simp (disch := omega) only [st_192_0, st_192_1, st_192_2, st_192_5, st_192_8, st_192_9, st_192_10, st_192_13, st_192_16, st_192_17, st_192_18, st_192_21, st_192_22, st_192_23, st_192_26, st_192_27, st_192_28, st_192_29, st_192_30, st_192_32, st_192_33, st_192_37, st_192_38, st_192_41, st_192_42, st_192_43, st_192_46, st_192_47, st_192_49, st_192_50, st_192_53, st_192_54, st_192_57, st_192_58, st_192_60, st_192_61, st_192_64, st_192_67, st_192_68, st_192_71, st_192_72, st_192_74, st_192_75, st_192_78, st_192_80, st_192_83, st_192_85, st_192_86, st_192_87, st_192_89, st_192_90, st_192_93, st_192_95, st_192_98, st_192_101, st_192_102, st_192_105, st_192_106, st_192_107, st_192_110, st_192_113, st_192_114, ini_192, fs_cl, fs_len, fs_rf, fs_M, fs_put, fs_cpy, ↓reduceIte, rv_ref, true_or, or_true, true_and, and_true, nI_ltI, ix_nI, nI_clamp, ps_i, ps_n, Option.bind_some, sm_0, sm_1, sm_2, sm_3, sm_4, sto_0, sto_1, sto_2, sto_3, sto_4, sto_5, sto_6, sto_7, sto_8, sto_9, sto_10, sto_11, sto_12, sto_13, sto_14, nlo_n, nlo_i, nlo_r, nlo_0, nlo_l, and_self, or_self, Nat.reduceEqDiff, Nat.reduceLT, Nat.reduceLeDiff, Nat.one_ne_zero, Nat.zero_ne_one, m0, q0, a1, a2, g0, e1, gh, nI_eq, eq_true c1, p1, e10, ev, y1, c3, x1, nI_add]
            · obtain ⟨M', s1, s2⟩ := ih (c + 1) M2 hR2 (by omega)
              rw [lwS, if_pos c1, if_neg c2, hq] at s2
              simp only [if_neg c3, lwV] at s2 ⊢
              refine ⟨M', wf_t p2 (wf_t y2 s1), ?_⟩
              rw [← s2, st_192_35]
              simp (disch := omega) only [st_192_0, st_192_1, st_192_2, st_192_5, st_192_8, st_192_9, st_192_10, st_192_13, st_192_16, st_192_17, st_192_18, st_192_21, st_192_22, st_192_23, st_192_26, st_192_27, st_192_28, st_192_29, st_192_30, st_192_32, st_192_33, st_192_37, st_192_38, st_192_41, st_192_42, st_192_43, st_192_46, st_192_47, st_192_49, st_192_50, st_192_53, st_192_54, st_192_57, st_192_58, st_192_60, st_192_61, st_192_64, st_192_67, st_192_68, st_192_71, st_192_72, st_192_74, st_192_75, st_192_78, st_192_80, st_192_83, st_192_85, st_192_86, st_192_87, st_192_89, st_192_90, st_192_93, st_192_95, st_192_98, st_192_101, st_192_102, st_192_105, st_192_106, st_192_107, st_192_110, st_192_113, st_192_114, ini_192, fs_cl, fs_len, fs_rf, fs_M, fs_put, fs_cpy, ↓reduceIte, rv_ref, true_or, or_true, true_and, and_true, nI_ltI, ix_nI, nI_clamp, ps_i, ps_n, Option.bind_some, sm_0, sm_1, sm_2, sm_3, sm_4, sto_0, sto_1, sto_2, sto_3, sto_4, sto_5, sto_6, sto_7, sto_8, sto_9, sto_10, sto_11, sto_12, sto_13, sto_14, nlo_n, nlo_i, nlo_r, nlo_0, nlo_l, and_self, or_self, Nat.reduceEqDiff, Nat.reduceLT, Nat.reduceLeDiff, Nat.one_ne_zero, Nat.zero_ne_one, m0, q0, a1, a2, g0, e1, gh, nI_eq, eq_true c1, p1, e10, ev, y1, c3, nI_add]
      · obtain ⟨M', s1, s2⟩ := ih (c + 1) M hR (by omega)
        rw [lwS, if_neg c1] at s2
        refine ⟨M', s1, ?_⟩
        rw [← s2, st_192_35]
        simp (disch := omega) only [st_192_0, st_192_1, st_192_2, st_192_5, st_192_8, st_192_9, st_192_10, st_192_13, st_192_16, st_192_17, st_192_18, st_192_21, st_192_22, st_192_23, st_192_26, st_192_27, st_192_28, st_192_29, st_192_30, st_192_32, st_192_33, st_192_37, st_192_38, st_192_41, st_192_42, st_192_43, st_192_46, st_192_47, st_192_49, st_192_50, st_192_53, st_192_54, st_192_57, st_192_58, st_192_60, st_192_61, st_192_64, st_192_67, st_192_68, st_192_71, st_192_72, st_192_74, st_192_75, st_192_78, st_192_80, st_192_83, st_192_85, st_192_86, st_192_87, st_192_89, st_192_90, st_192_93, st_192_95, st_192_98, st_192_101, st_192_102, st_192_105, st_192_106, st_192_107, st_192_110, st_192_113, st_192_114, ini_192, fs_cl, fs_len, fs_rf, fs_M, fs_put, fs_cpy, ↓reduceIte, rv_ref, true_or, or_true, true_and, and_true, nI_ltI, ix_nI, nI_clamp, ps_i, ps_n, Option.bind_some, sm_0, sm_1, sm_2, sm_3, sm_4, sto_0, sto_1, sto_2, sto_3, sto_4, sto_5, sto_6, sto_7, sto_8, sto_9, sto_10, sto_11, sto_12, sto_13, sto_14, nlo_n, nlo_i, nlo_r, nlo_0, nlo_l, and_self, or_self, Nat.reduceEqDiff, Nat.reduceLT, Nat.reduceLeDiff, Nat.one_ne_zero, Nat.zero_ne_one, m0, q0, a1, a2, g0, e1, gh, nI_eq, c1, nI_add]
  obtain ⟨M', s1, s2⟩ := L (E 1) 0 M hR (by omega)
  refine ⟨M', s1, ?_⟩
  have gt := r145ye hk hR.1 h6 ht (e := e) (by omega)
  have gu := r145ye hk hR.1 h6 hu (e := e) (by omega)
  rw [← s2, j_C_eq]
  simp (disch := omega) only [st_192_0, st_192_1, st_192_2, st_192_5, st_192_8, st_192_9, st_192_10, st_192_13, st_192_16, st_192_17, st_192_18, st_192_21, st_192_22, st_192_23, st_192_26, st_192_27, st_192_28, st_192_29, st_192_30, st_192_32, st_192_33, st_192_37, st_192_38, st_192_41, st_192_42, st_192_43, st_192_46, st_192_47, st_192_49, st_192_50, st_192_53, st_192_54, st_192_57, st_192_58, st_192_60, st_192_61, st_192_64, st_192_67, st_192_68, st_192_71, st_192_72, st_192_74, st_192_75, st_192_78, st_192_80, st_192_83, st_192_85, st_192_86, st_192_87, st_192_89, st_192_90, st_192_93, st_192_95, st_192_98, st_192_101, st_192_102, st_192_105, st_192_106, st_192_107, st_192_110, st_192_113, st_192_114, ini_192, fs_cl, fs_len, fs_rf, fs_M, fs_put, fs_cpy, ↓reduceIte, rv_ref, true_or, or_true, true_and, and_true, nI_ltI, ix_nI, nI_clamp, ps_i, ps_n, Option.bind_some, sm_0, sm_1, sm_2, sm_3, sm_4, sto_0, sto_1, sto_2, sto_3, sto_4, sto_5, sto_6, sto_7, sto_8, sto_9, sto_10, sto_11, sto_12, sto_13, sto_14, nlo_n, nlo_i, nlo_r, nlo_0, nlo_l, and_self, or_self, Nat.reduceEqDiff, Nat.reduceLT, Nat.reduceLeDiff, Nat.one_ne_zero, Nat.zero_ne_one, m0, gt, gu, e10, nI_eq, htu]
  rfl
/-- days and sales by draws -/
def lsE : Nat → (Nat → Nat) → Int32 → List Int32 → (Nat → Nat) × Int32
  | 0, E, z, _ => (E, z)
  | r + 1, E, z, K => lsE r (dayE (ofE E z K)) (ofZ E z) K
theorem ofE_WE (hw : WE E) : WE (ofE E z K0) ∧ (ofE E z K0) 2 = E 2 ∧ (ofE E z K0) 1 = E 1 ∧ (ofE E z K0) 0 = E 0 := by
  unfold ofE
  by_cases c1 : E 1 = 0
  · rw [if_pos c1]; exact ⟨hw, rfl, rfl, rfl⟩
  · rw [if_neg c1]
    have hc0 := (hw.2.2.2.2.2.2.2 0 (by omega)).2.2.1
    by_cases c2 : E (39 + 5 * (drn z % E 1)) = drn (drz z) % E 0
    · rw [if_pos c2]; exact ⟨hw, rfl, rfl, rfl⟩
    · rw [if_neg c2]
      by_cases c3 : wth E K0 (drn z % E 1) (drn (drz z) % E 0) < nI (E (11 + 5 * (drn (drz z) % E 0)))
      · rw [if_pos c3]; exact ⟨hw, rfl, rfl, rfl⟩
      · rw [if_neg c3]
        exact ⟨WE_sel hw (Nat.mod_lt _ (by omega)) (Nat.mod_lt _ (by omega)), sel_o (by omega) (by omega), sel_o (by omega) (by omega), sel_o (by omega) (by omega)⟩
theorem r191 (hk : Md h o) {n : Nat} (hn1 : 1 ≤ n) (hn : n ≤ 40) (hR : RC M o E z K0 K1) (hw : WE E) (hd : E 2 + n ≤ 9999) {e : Nat} (he : 60 ≤ e) : ∃ M', j_C e 191 [.ref o, .int (nI n)] (FS h M) = some (some (.int (nI (smS (lsE n E z K0).1 ((lsE n E z K0).1 1)))), FS h M') ∧ RC M' o (lsE n E z K0).1 (lsE n E z K0).2 K0 K1 ∧ WE (lsE n E z K0).1 ∧ (lsE n E z K0).1 2 = E 2 + n ∧ rg o M M' := by
  obtain ⟨e, rfl⟩ : ∃ d, e = d + 1 := ⟨e - 1, by omega⟩
  have m0 := hk.1
  have q0 := hk.2.1.1
  have a1 := hk.2.1.2.1
  have a2 := hk.2.1.2.2.1
  have e10 : ¬ nI 1 = nI 0 := by decide +kernel
  have L : ∀ r k (E : Nat → Nat) (z : Int32) (M : Nat → Nat → Int32) (o3 o4 : Option Value), (o3 = none ∧ o4 = none ∨ ∃ x y : Int32, o3 = some (.int x) ∧ o4 = some (.int y)) → RC M o E z K0 K1 → WE E → E 2 + r < 100000 → r + k = n → ∃ M', j_X e 191 40 [some (.ref o), some (.int (nI n)), some (.int (nI k)), o3, o4] [] (FS h M) = some (some (.int (nI (smS (lsE r E z K0).1 ((lsE r E z K0).1 1)))), FS h M') ∧ RC M' o (lsE r E z K0).1 (lsE r E z K0).2 K0 K1 ∧ WE (lsE r E z K0).1 ∧ (lsE r E z K0).1 2 = E 2 + r ∧ rg o M M' := by
    intro r
    induction r with
    | zero =>
      intro k E z M o3 o4 ho hR hw hd hr
      have e1 : ¬ k < n := by omega
      have gs := r167e hk hR.1 hw (e := e) (by omega)
      refine ⟨M, ?_, hR, hw, rfl, rg_r⟩
      rw [st_191_40]
      simp (disch := omega) only [st_191_0, st_191_1, st_191_2, st_191_3, st_191_6, st_191_9, st_191_12, st_191_13, st_191_14, st_191_17, st_191_18, st_191_19, st_191_22, st_191_23, st_191_24, st_191_25, st_191_26, st_191_29, st_191_32, st_191_33, st_191_34, st_191_37, st_191_38, st_191_39, st_191_41, st_191_42, st_191_45, st_191_46, st_191_49, st_191_50, st_191_51, st_191_54, st_191_55, st_191_58, st_191_59, st_191_62, st_191_63, st_191_64, st_191_65, st_191_66, st_191_67, st_191_70, st_191_71, st_191_74, st_191_75, st_191_76, st_191_77, st_191_79, st_191_80, st_191_81, st_191_82, st_191_85, st_191_87, st_191_90, st_191_91, st_191_92, st_191_94, st_191_97, st_191_100, st_191_101, st_191_102, st_191_104, st_191_107, st_191_108, st_191_111, st_191_114, st_191_117, st_191_118, st_191_121, ini_191, fs_cl, fs_len, fs_rf, fs_M, fs_put, fs_cpy, ↓reduceIte, rv_ref, true_or, or_true, true_and, and_true, nI_ltI, ix_nI, nI_clamp, ps_i, ps_n, Option.bind_some, sm_0, sm_1, sm_2, sm_3, sm_4, sto_0, sto_1, sto_2, sto_3, sto_4, sto_5, sto_6, sto_7, sto_8, sto_9, sto_10, sto_11, sto_12, sto_13, sto_14, nlo_n, nlo_i, nlo_r, nlo_0, nlo_l, and_self, or_self, Nat.reduceEqDiff, Nat.reduceLT, Nat.reduceLeDiff, Nat.one_ne_zero, Nat.zero_ne_one, m0, e1, gs]
      rfl
    | succ r ih =>
      intro k E z M o3 o4 ho hR hw hd hr
      have e1 : k < n := by omega
      have h6 := hw.1
      have h8 := hw.2.1
      have g1 := hR.1.1 1 (by omega) (by omega)
      obtain ⟨w1, w2, w3, w4⟩ := ofE_WE (z := z) (K0 := K0) hw
      have fin : ∀ M1 : Nat → Nat → Int32, RC M1 o (ofE E z K0) (ofZ E z) K0 K1 → rg o M M1 → ∃ M2, j_C e 187 [.ref o] (FS h M1) = some (none, FS h M2) ∧ ∀ (o3 o4 : Option Value), (o3 = none ∧ o4 = none ∨ ∃ x y : Int32, o3 = some (.int x) ∧ o4 = some (.int y)) → ∃ M', j_X e 191 40 [some (.ref o), some (.int (nI n)), some (.int (nI (k + 1))), o3, o4] [] (FS h M2) = some (some (.int (nI (smS (lsE (r + 1) E z K0).1 ((lsE (r + 1) E z K0).1 1)))), FS h M') ∧ RC M' o (lsE (r + 1) E z K0).1 (lsE (r + 1) E z K0).2 K0 K1 ∧ WE (lsE (r + 1) E z K0).1 ∧ (lsE (r + 1) E z K0).1 2 = E 2 + (r + 1) ∧ rg o M M' := by
        intro M1 hR1 hg
        obtain ⟨M2, p1, p2, p3⟩ := r187e hk hR1.1 w1 (by omega) (e := e) (by omega)
        refine ⟨M2, p1, fun o3 o4 ho => ?_⟩
        obtain ⟨M', s1, s2, s3, s4, s5⟩ := ih (k + 1) (dayE (ofE E z K0)) (ofZ E z) M2 o3 o4 ho (RC_ld p3 p2 hR1) (dayE_WE w1 (by omega)) (by rw [dayE_2]; omega) (by omega)
        refine ⟨M', s1, s2, s3, ?_, rg_t hg (rg_t (rg_ld p3) s5)⟩
        show (lsE r (dayE (ofE E z K0)) (ofZ E z) K0).1 2 = _
        rw [s4, dayE_2]; omega
      by_cases c0 : E 1 = 0
      · have eE : ofE E z K0 = E := by unfold ofE; rw [if_pos c0]
        have eZ : ofZ E z = z := by unfold ofZ; rw [if_pos c0]
        have f0 : ¬ nI 0 < nI 0 := nI_nlt (by omega) (by omega)
        obtain ⟨M2, p1, hM2⟩ := fin M (by rw [eE, eZ]; exact hR) rg_r
        obtain ⟨M', s1, s2⟩ := hM2 o3 o4 ho
        refine ⟨M', ?_, s2⟩
        rw [c0] at g1
        rw [st_191_40]
        simp (disch := omega) only [st_191_0, st_191_1, st_191_2, st_191_3, st_191_6, st_191_9, st_191_12, st_191_13, st_191_14, st_191_17, st_191_18, st_191_19, st_191_22, st_191_23, st_191_24, st_191_25, st_191_26, st_191_29, st_191_32, st_191_33, st_191_34, st_191_37, st_191_38, st_191_39, st_191_41, st_191_42, st_191_45, st_191_46, st_191_49, st_191_50, st_191_51, st_191_54, st_191_55, st_191_58, st_191_59, st_191_62, st_191_63, st_191_64, st_191_65, st_191_66, st_191_67, st_191_70, st_191_71, st_191_74, st_191_75, st_191_76, st_191_77, st_191_79, st_191_80, st_191_81, st_191_82, st_191_85, st_191_87, st_191_90, st_191_91, st_191_92, st_191_94, st_191_97, st_191_100, st_191_101, st_191_102, st_191_104, st_191_107, st_191_108, st_191_111, st_191_114, st_191_117, st_191_118, st_191_121, ini_191, fs_cl, fs_len, fs_rf, fs_M, fs_put, fs_cpy, ↓reduceIte, rv_ref, true_or, or_true, true_and, and_true, nI_ltI, ix_nI, nI_clamp, ps_i, ps_n, Option.bind_some, sm_0, sm_1, sm_2, sm_3, sm_4, sto_0, sto_1, sto_2, sto_3, sto_4, sto_5, sto_6, sto_7, sto_8, sto_9, sto_10, sto_11, sto_12, sto_13, sto_14, nlo_n, nlo_i, nlo_r, nlo_0, nlo_l, and_self, or_self, Nat.reduceEqDiff, Nat.reduceLT, Nat.reduceLeDiff, Nat.one_ne_zero, Nat.zero_ne_one, m0, q0, a1, a2, e1, g1, f0, p1, nI_add, s1]
      · have hc0 := (hw.2.2.2.2.2.2.2 0 (by omega)).2.2.1
        have f1 : nI 0 < nI (E 1) := nI_lt (by omega) (by omega)
        have f3 : ¬ nI (E 1) = nI 0 := nI_ne (by omega) (by omega) (by omega)
        have f4 : ¬ nI (E 0) = nI 0 := nI_ne (by omega) (by omega) (by omega)
        have l1 := drn_lt z
        have l2 := drn_lt (drz z)
        have mc := Nat.mod_lt (drn z) (by omega : 0 < E 1)
        have mt := Nat.mod_lt (drn (drz z)) (by omega : 0 < E 0)
        have d1 := r190e hk hR.1 (e := e) (by omega)
        have hR1 : RC (j_up M (o + 1) 5 (drz z)) o E (drz z) K0 K1 := RC_ld (ld_up (by omega)) (RLd_z hR.1 _) hR
        have d2 := r190e hk hR1.1 (e := e) (by omega)
        have hR2 : RC (j_up (j_up M (o + 1) 5 (drz z)) (o + 1) 5 (drz (drz z))) o E (drz (drz z)) K0 K1 := RC_ld (ld_up (by omega)) (RLd_z hR1.1 _) hR1
        have g2 := hR1.1.1 1 (by omega) (by omega)
        have g3 := hR2.1.1 0 (by omega) (by omega)
        have eZ : ofZ E z = drz (drz z) := by unfold ofZ; rw [if_neg c0]
        have hg2 : rg o M (j_up (j_up M (o + 1) 5 (drz z)) (o + 1) 5 (drz (drz z))) := rg_t (rg_ld (ld_up (by omega))) (rg_ld (ld_up (by omega)))
        have gh := r148e (M := j_up (j_up M (o + 1) 5 (drz z)) (o + 1) 5 (drz (drz z))) hk (t := drn z % E 1) (k := 1) (by omega) (e := e) (by omega)
        rw [show 38 + 5 * (drn z % E 1) + 1 = 39 + 5 * (drn z % E 1) by omega, hR2.1.1 _ (by omega) (by omega)] at gh
        have ch := (hw.2.2.2.2.2.2.2 (drn z % E 1) mc).2.2.1
        rw [eZ] at fin
        have run : ∀ R, j_X e 191 87 [some (.ref o), some (.int (nI n)), some (.int (nI k)), some (.int (nI (drn z % E 1))), some (.int (nI (drn (drz z) % E 0)))] [.int (nI (drn (drz z) % E 0)), .int (nI (E (39 + 5 * (drn z % E 1))))] (FS h (j_up (j_up M (o + 1) 5 (drz z)) (o + 1) 5 (drz (drz z)))) = R → j_X e 191 40 [some (.ref o), some (.int (nI n)), some (.int (nI k)), o3, o4] [] (FS h M) = R := by
          intro R hR'
          rw [← hR']
          rcases ho with ⟨x3, x4⟩ | ⟨x, y, x3, x4⟩ <;> subst x3 <;> subst x4 <;> rw [st_191_40] <;>
            simp (disch := omega) only [st_191_41, st_191_42, st_191_45, st_191_46, st_191_49, st_191_50, st_191_51, st_191_54, st_191_55, st_191_58, st_191_59, st_191_62, st_191_63, st_191_64, st_191_65, st_191_66, st_191_67, st_191_70, st_191_71, st_191_74, st_191_75, st_191_76, st_191_77, st_191_79, st_191_80, st_191_81, st_191_82, st_191_85, ini_191, fs_cl, fs_len, fs_rf, fs_M, fs_put, fs_cpy, ↓reduceIte, rv_ref, true_or, or_true, true_and, and_true, nI_ltI, ix_nI, nI_clamp, ps_i, ps_n, Option.bind_some, sm_0, sm_1, sm_2, sm_3, sm_4, sto_0, sto_1, sto_2, sto_3, sto_4, sto_5, sto_6, sto_7, sto_8, sto_9, sto_10, sto_11, sto_12, sto_13, sto_14, nlo_n, nlo_i, nlo_r, nlo_0, nlo_l, and_self, or_self, Nat.reduceEqDiff, Nat.reduceLT, Nat.reduceLeDiff, Nat.one_ne_zero, Nat.zero_ne_one, m0, q0, a1, a2, e1, g1, g2, g3, f1, f3, f4, d1, d2, nI_rem, gh]
        by_cases c1 : E (39 + 5 * (drn z % E 1)) = drn (drz z) % E 0
        · have eE : ofE E z K0 = E := by unfold ofE; rw [if_neg c0, if_pos c1]
          rw [eE] at fin
          obtain ⟨M2, p1, hM2⟩ := fin _ hR2 hg2
          obtain ⟨M', s1, s2⟩ := hM2 _ _ (.inr ⟨_, _, rfl, rfl⟩)
          refine ⟨M', run _ ?_, s2⟩
          simp (disch := omega) only [st_191_87, st_191_90, st_191_91, st_191_92, st_191_94, st_191_97, st_191_100, st_191_101, st_191_102, st_191_104, st_191_107, st_191_108, st_191_111, st_191_114, ini_191, fs_cl, fs_len, fs_rf, fs_M, fs_put, fs_cpy, ↓reduceIte, rv_ref, true_or, or_true, true_and, and_true, nI_ltI, ix_nI, nI_clamp, ps_i, ps_n, Option.bind_some, sm_0, sm_1, sm_2, sm_3, sm_4, sto_0, sto_1, sto_2, sto_3, sto_4, sto_5, sto_6, sto_7, sto_8, sto_9, sto_10, sto_11, sto_12, sto_13, sto_14, nlo_n, nlo_i, nlo_r, nlo_0, nlo_l, and_self, or_self, Nat.reduceEqDiff, Nat.reduceLT, Nat.reduceLeDiff, Nat.one_ne_zero, Nat.zero_ne_one, m0, nI_eq, eq_true c1, p1, nI_add]
          exact s1
        · obtain ⟨M3, x1, x2⟩ := r182 hk hR2 hw mt mc (e := e) (by omega)
          have hR3 := RC_wf x2 hR2
          by_cases c2 : wth E K0 (drn z % E 1) (drn (drz z) % E 0) < nI (E (11 + 5 * (drn (drz z) % E 0)))
          · have eE : ofE E z K0 = E := by unfold ofE; rw [if_neg c0, if_neg c1, if_pos c2]
            rw [eE] at fin
            rw [if_pos c2] at x1
            obtain ⟨M2, p1, hM2⟩ := fin _ hR3 (rg_t hg2 (rg_wf x2))
            obtain ⟨M', s1, s2⟩ := hM2 _ _ (.inr ⟨_, _, rfl, rfl⟩)
            refine ⟨M', run _ ?_, s2⟩
            simp (disch := omega) only [st_191_87, st_191_90, st_191_91, st_191_92, st_191_94, st_191_97, st_191_100, st_191_101, st_191_102, st_191_104, st_191_107, st_191_108, st_191_111, st_191_114, ini_191, fs_cl, fs_len, fs_rf, fs_M, fs_put, fs_cpy, ↓reduceIte, rv_ref, true_or, or_true, true_and, and_true, nI_ltI, ix_nI, nI_clamp, ps_i, ps_n, Option.bind_some, sm_0, sm_1, sm_2, sm_3, sm_4, sto_0, sto_1, sto_2, sto_3, sto_4, sto_5, sto_6, sto_7, sto_8, sto_9, sto_10, sto_11, sto_12, sto_13, sto_14, nlo_n, nlo_i, nlo_r, nlo_0, nlo_l, and_self, or_self, Nat.reduceEqDiff, Nat.reduceLT, Nat.reduceLeDiff, Nat.one_ne_zero, Nat.zero_ne_one, m0, nI_eq, c1, x1, p1, nI_add]
            exact s1
          · have eE : ofE E z K0 = sel E (drn z % E 1) (drn (drz z) % E 0) := by unfold ofE; rw [if_neg c0, if_neg c1, if_neg c2]
            rw [eE] at fin
            rw [if_neg c2] at x1
            have kd := (hw.2.2.2.2.2.2.1 _ mt).1
            obtain ⟨M4, y1, y2, y3⟩ := r183e hk hR3.1 (by omega : drn (drz z) % E 0 < 6) (by omega : drn z % E 1 < 8) kd hw.2.2.2.1 (e := e) (by omega)
            obtain ⟨M2, p1, hM2⟩ := fin _ (RC_ld y3 y2 hR3) (rg_t hg2 (rg_t (rg_wf x2) (rg_ld y3)))
            obtain ⟨M', s1, s2⟩ := hM2 _ _ (.inr ⟨_, _, rfl, rfl⟩)
            refine ⟨M', run _ ?_, s2⟩
            simp (disch := omega) only [st_191_87, st_191_90, st_191_91, st_191_92, st_191_94, st_191_97, st_191_100, st_191_101, st_191_102, st_191_104, st_191_107, st_191_108, st_191_111, st_191_114, ini_191, fs_cl, fs_len, fs_rf, fs_M, fs_put, fs_cpy, ↓reduceIte, rv_ref, true_or, or_true, true_and, and_true, nI_ltI, ix_nI, nI_clamp, ps_i, ps_n, Option.bind_some, sm_0, sm_1, sm_2, sm_3, sm_4, sto_0, sto_1, sto_2, sto_3, sto_4, sto_5, sto_6, sto_7, sto_8, sto_9, sto_10, sto_11, sto_12, sto_13, sto_14, nlo_n, nlo_i, nlo_r, nlo_0, nlo_l, and_self, or_self, Nat.reduceEqDiff, Nat.reduceLT, Nat.reduceLeDiff, Nat.one_ne_zero, Nat.zero_ne_one, m0, nI_eq, c1, x1, e10, y1, p1, nI_add]
            exact s1
  obtain ⟨M', s1, s2⟩ := L n 0 E z M none none (.inl ⟨rfl, rfl⟩) hR hw (by omega) (by omega)
  refine ⟨M', ?_, s2⟩
  have g2 := hR.1.1 2 (by omega) (by omega)
  have gl := r143e (σ := FS h M) (nI n).toInt64 (lN 1) (lN 40) (e := e) (by omega)
  rw [lin_in hn1 hn (by omega)] at gl
  have f2 : ¬ 9999 < E 2 + n := by omega
  rw [j_C_eq]
  simp (disch := omega) only [st_191_0, st_191_1, st_191_2, st_191_3, st_191_6, st_191_9, st_191_12, st_191_13, st_191_14, st_191_17, st_191_18, st_191_19, st_191_22, st_191_23, st_191_24, st_191_25, st_191_26, st_191_29, st_191_32, st_191_33, st_191_34, st_191_37, st_191_38, st_191_39, st_191_41, st_191_42, st_191_45, st_191_46, st_191_49, st_191_50, st_191_51, st_191_54, st_191_55, st_191_58, st_191_59, st_191_62, st_191_63, st_191_64, st_191_65, st_191_66, st_191_67, st_191_70, st_191_71, st_191_74, st_191_75, st_191_76, st_191_77, st_191_79, st_191_80, st_191_81, st_191_82, st_191_85, st_191_87, st_191_90, st_191_91, st_191_92, st_191_94, st_191_97, st_191_100, st_191_101, st_191_102, st_191_104, st_191_107, st_191_108, st_191_111, st_191_114, st_191_117, st_191_118, st_191_121, ini_191, fs_cl, fs_len, fs_rf, fs_M, fs_put, fs_cpy, ↓reduceIte, rv_ref, true_or, or_true, true_and, and_true, nI_ltI, ix_nI, nI_clamp, ps_i, ps_n, Option.bind_some, sm_0, sm_1, sm_2, sm_3, sm_4, sto_0, sto_1, sto_2, sto_3, sto_4, sto_5, sto_6, sto_7, sto_8, sto_9, sto_10, sto_11, sto_12, sto_13, sto_14, nlo_n, nlo_i, nlo_r, nlo_0, nlo_l, and_self, or_self, Nat.reduceEqDiff, Nat.reduceLT, Nat.reduceLeDiff, Nat.one_ne_zero, Nat.zero_ne_one, m0, q0, a1, a2, gl, e10, g2, nI_add, f2]
  exact s1
