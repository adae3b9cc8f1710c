/-! Both sides: worth, sales, days. -/
variable {h : j_Hd} {M M1 M2 : Nat → Nat → Int32} {E : Nat → Nat} {z : Int32} {K0 K1 : List Int32} {T : Nat → Nat} {W : Nat → Int32}
theorem go_q (hi : IE M E z K0 K1 T W) {cm rm : Nat} {args : List Value} (H : ∀ e, 100 ≤ e → ∃ v M1 M2, j_C e cm (.ref 1 :: args) (FS h M) = some (some (.int v), FS h M1) ∧ cq M M1 ∧ Sd M1 65 ∧ j_C e rm (.ref 115 :: args) (FS h M1) = some (some (.int v), FS h M2) ∧ rg 115 M1 M2 ∧ RC M2 115 E z K0 K1) : Go h M cm rm args := by
  intro e he
  obtain ⟨v, M1, M2, a, b, c, d, f, g⟩ := H e he
  exact ⟨v, M1, M2, a, d, b 1003 (by omega), E, z, K0, K1, T, W, ie_q hi b c f g⟩
theorem go_f (hi : IE M E z K0 K1 T W) {cm rm k : Nat} {args : List Value} (H : ∀ e, 100 ≤ e → ∃ M1 M2, j_C e cm (.ref 1 :: args) (FS h M) = some (some (.int (fl k)), FS h (fc k M1)) ∧ cq M M1 ∧ Sd M1 65 ∧ j_C e rm (.ref 115 :: args) (FS h (fc k M1)) = some (some (.int (fl k)), FS h (fd 115 k M2)) ∧ rg 115 (fc k M1) M2 ∧ RC M2 115 E z K0 K1) : Go h M cm rm args := by
  intro e he
  obtain ⟨M1, M2, a, b, c, d, f, g⟩ := H e he
  exact ⟨fl k, fc k M1, fd 115 k M2, a, d, by unfold fc; rw [up_r _ _ _ _ (by omega), b 1003 (by omega)], E, z, K0, K1, T, W, ie_f hi b c f g⟩
theorem RC_fc {k : Nat} (hR : RC M 115 E z K0 K1) : RC (fc k M) 115 E z K0 K1 := by
  have e : ∀ x, x ≠ 114 → fc k M x = M x := fun x hx => by unfold fc; exact up_r _ _ _ _ hx
  have g : rg 115 M (fc k M) ∨ True := .inr trivial
  unfold RC RLd Tx at hR ⊢
  rw [e (115 + 1) (by omega)]; exact hR
theorem go_f0 (hi : IE M E z K0 K1 T W) {cm rm k : Nat} {args : List Value} (H : ∀ e, 100 ≤ e → j_C e cm (.ref 1 :: args) (FS h M) = some (some (.int (fl k)), FS h (fc k M)) ∧ ∀ M', RC M' 115 E z K0 K1 → j_C e rm (.ref 115 :: args) (FS h M') = some (some (.int (fl k)), FS h (fd 115 k M'))) : Go h M cm rm args :=
  go_f hi (k := k) (fun e he => ⟨M, fc k M, (H e he).1, cq_r, hi.2.2.2.1, (H e he).2 _ (RC_fc hi.2.2.1.1), rg_r, RC_fc hi.2.2.1.1⟩)
theorem RC_cq (hg : cq M M1) (hR : RC M 115 E z K0 K1) : RC M1 115 E z K0 K1 := by
  unfold RC RLd Tx at hR ⊢
  rw [hg (115 + 1) (by omega)]; exact hR
theorem Sd_sg (hg : sg 2 M M1) (hs : Sd M 65) : Sd M1 65 := Sd_cg (hg 81 (by omega) (by omega) (by omega) (by omega)) hs
/-- a mingled frame of a thought and the market's stacks -/
theorem cq_mg (hg : mg 65 M M1) : cq M M1 := fun x hx => hg x (by omega)
theorem g_worth (hh : Hd h) (hi : IE M E z K0 K1 T W) (x y : Int32) : Go h M 92 184 [.int x, .int y] := by
  have w0 := hh.1.1
  have f0 := hh.1.2.1
  have r7 := hh.1.2.2.2.2.2.2.2.1
  have mk := hh.2.1.1
  have th := hh.2.2.2.1.1
  have md : Md h 115 := hh.2.2.2.2.2.2.2.1
  have m0 := md.1
  have q0 := md.2.1.1
  have a1 := md.2.1.2.1
  have a2 := md.2.1.2.2.1
  have hw := hi.1.1
  have h6 := hw.1
  have h8 := hw.2.1
  have hm := hi.2.1.1
  have hs := hm.1
  have hR : RC M 115 E z K0 K1 := hi.2.2.1.1
  have sd := hi.2.2.2.1
  have e10 : ¬ nI 1 = nI 0 := by decide +kernel
  by_cases hx : ∃ j, j < E 1 ∧ x = nI j
  · obtain ⟨c, hc, rfl⟩ := hx
    by_cases hy : ∃ j, j < E 0 ∧ y = nI j
    · obtain ⟨t, ht, rfl⟩ := hy
      refine go_q hi ?_
      intro e he
      obtain ⟨e, rfl⟩ : ∃ d, e = d + 1 := ⟨e - 1, by omega⟩
      obtain ⟨M1, p1, p2⟩ := c17e mk hm hw ht hc (e := e) (by omega)
      have hR1 := RC_cq (cq_sg p2) hR
      obtain ⟨M2, s1, s2⟩ := r181 md hR1 hw ht hc (e := e) (by omega)
      refine ⟨wth E K0 c t, M1, M2, ?_, cq_sg p2, Sd_sg p2 sd, ?_, rg_wf s2, RC_wf s2 hR1⟩
      · have k8 := c8ye (M := M) mk hs h6 ht (e := e) (by omega)
        have k9 := c9ye (M := M) mk hs h8 hc (e := e) (by omega)
        (rw [j_C_eq]; simp (disch := omega) only [st_92_0, st_92_1, st_92_4, st_92_5, st_92_8, st_92_11, st_92_12, st_92_15, st_92_16, st_92_19, st_92_22, st_92_23, st_92_24, st_92_27, st_92_28, st_92_29, st_92_32, st_92_33, st_92_34, st_92_37, ini_92, fs_cl, fs_len, fs_rf, fs_M, fs_put, fs_cpy, ↓reduceIte, rv_ref, true_or, or_true, true_and, and_true, nI_ltI, ix_nI, nI_clamp, ps_i, ps_n, Option.bind_some, sm_0, sm_1, sm_2, sm_3, sm_4, sto_0, sto_1, sto_2, sto_3, sto_4, sto_5, sto_6, sto_7, sto_8, sto_9, sto_10, sto_11, sto_12, sto_13, sto_14, nlo_n, nlo_i, nlo_r, nlo_0, nlo_l, and_self, or_self, Nat.reduceEqDiff, Nat.reduceLT, Nat.reduceLeDiff, Nat.one_ne_zero, Nat.zero_ne_one, w0, f0, r7, m0, q0, a1, a2, e10, mk.1, k8, k9, p1])
      · have k8 := r145ye md hR1.1 h6 ht (e := e) (by omega)
        have k9 := r146ye md hR1.1 h8 hc (e := e) (by omega)
        (rw [j_C_eq]; simp (disch := omega) only [st_184_0, st_184_1, st_184_2, st_184_5, st_184_8, st_184_9, st_184_10, st_184_13, st_184_16, st_184_17, st_184_18, st_184_19, st_184_22, st_184_25, st_184_26, st_184_27, st_184_30, ini_184, fs_cl, fs_len, fs_rf, fs_M, fs_put, fs_cpy, ↓reduceIte, rv_ref, true_or, or_true, true_and, and_true, nI_ltI, ix_nI, nI_clamp, ps_i, ps_n, Option.bind_some, sm_0, sm_1, sm_2, sm_3, sm_4, sto_0, sto_1, sto_2, sto_3, sto_4, sto_5, sto_6, sto_7, sto_8, sto_9, sto_10, sto_11, sto_12, sto_13, sto_14, nlo_n, nlo_i, nlo_r, nlo_0, nlo_l, and_self, or_self, Nat.reduceEqDiff, Nat.reduceLT, Nat.reduceLeDiff, Nat.one_ne_zero, Nat.zero_ne_one, w0, f0, r7, m0, q0, a1, a2, e10, k8, k9, s1])
    · refine go_f0 hi (k := 1) ?_
      intro e he
      obtain ⟨e, rfl⟩ : ∃ d, e = d + 1 := ⟨e - 1, by omega⟩
      have k8 := c8ne (M := M) mk hs h6 hy (e := e) (by omega)
      have k9 := c9ye (M := M) mk hs h8 hc (e := e) (by omega)
      have kf := c119 (M := M) hh (k := 1) (by omega) (e := e) (by omega)
      refine ⟨by (rw [j_C_eq]; simp (disch := omega) only [st_92_0, st_92_1, st_92_4, st_92_5, st_92_8, st_92_11, st_92_12, st_92_15, st_92_16, st_92_19, st_92_22, st_92_23, st_92_24, st_92_27, st_92_28, st_92_29, st_92_32, st_92_33, st_92_34, st_92_37, ini_92, fs_cl, fs_len, fs_rf, fs_M, fs_put, fs_cpy, ↓reduceIte, rv_ref, true_or, or_true, true_and, and_true, nI_ltI, ix_nI, nI_clamp, ps_i, ps_n, Option.bind_some, sm_0, sm_1, sm_2, sm_3, sm_4, sto_0, sto_1, sto_2, sto_3, sto_4, sto_5, sto_6, sto_7, sto_8, sto_9, sto_10, sto_11, sto_12, sto_13, sto_14, nlo_n, nlo_i, nlo_r, nlo_0, nlo_l, and_self, or_self, Nat.reduceEqDiff, Nat.reduceLT, Nat.reduceLeDiff, Nat.one_ne_zero, Nat.zero_ne_one, w0, f0, r7, m0, q0, a1, a2, e10, mk.1, k8, k9, kf]), fun M' hR' => ?_⟩
      have k8 := r145ne md hR'.1 h6 hy (e := e) (by omega)
      have k9 := r146ye md hR'.1 h8 hc (e := e) (by omega)
      have kf := r142 (M := M') md (k := 1) (by omega) (e := e) (by omega)
      (rw [j_C_eq]; simp (disch := omega) only [st_184_0, st_184_1, st_184_2, st_184_5, st_184_8, st_184_9, st_184_10, st_184_13, st_184_16, st_184_17, st_184_18, st_184_19, st_184_22, st_184_25, st_184_26, st_184_27, st_184_30, ini_184, fs_cl, fs_len, fs_rf, fs_M, fs_put, fs_cpy, ↓reduceIte, rv_ref, true_or, or_true, true_and, and_true, nI_ltI, ix_nI, nI_clamp, ps_i, ps_n, Option.bind_some, sm_0, sm_1, sm_2, sm_3, sm_4, sto_0, sto_1, sto_2, sto_3, sto_4, sto_5, sto_6, sto_7, sto_8, sto_9, sto_10, sto_11, sto_12, sto_13, sto_14, nlo_n, nlo_i, nlo_r, nlo_0, nlo_l, and_self, or_self, Nat.reduceEqDiff, Nat.reduceLT, Nat.reduceLeDiff, Nat.one_ne_zero, Nat.zero_ne_one, w0, f0, r7, m0, q0, a1, a2, e10, k8, k9, kf])
  · refine go_f0 hi (k := 1) ?_
    intro e he
    obtain ⟨e, rfl⟩ : ∃ d, e = d + 1 := ⟨e - 1, by omega⟩
    have k9 := c9ne (M := M) mk hs h8 hx (e := e) (by omega)
    have kf := c119 (M := M) hh (k := 1) (by omega) (e := e) (by omega)
    refine ⟨by (rw [j_C_eq]; simp (disch := omega) only [st_92_0, st_92_1, st_92_4, st_92_5, st_92_8, st_92_11, st_92_12, st_92_15, st_92_16, st_92_19, st_92_22, st_92_23, st_92_24, st_92_27, st_92_28, st_92_29, st_92_32, st_92_33, st_92_34, st_92_37, ini_92, fs_cl, fs_len, fs_rf, fs_M, fs_put, fs_cpy, ↓reduceIte, rv_ref, true_or, or_true, true_and, and_true, nI_ltI, ix_nI, nI_clamp, ps_i, ps_n, Option.bind_some, sm_0, sm_1, sm_2, sm_3, sm_4, sto_0, sto_1, sto_2, sto_3, sto_4, sto_5, sto_6, sto_7, sto_8, sto_9, sto_10, sto_11, sto_12, sto_13, sto_14, nlo_n, nlo_i, nlo_r, nlo_0, nlo_l, and_self, or_self, Nat.reduceEqDiff, Nat.reduceLT, Nat.reduceLeDiff, Nat.one_ne_zero, Nat.zero_ne_one, w0, f0, r7, m0, q0, a1, a2, e10, mk.1, k9, kf]), fun M' hR' => ?_⟩
    have k9 := r146ne md hR'.1 h8 hx (e := e) (by omega)
    have kf := r142 (M := M') md (k := 1) (by omega) (e := e) (by omega)
    (rw [j_C_eq]; simp (disch := omega) only [st_184_0, st_184_1, st_184_2, st_184_5, st_184_8, st_184_9, st_184_10, st_184_13, st_184_16, st_184_17, st_184_18, st_184_19, st_184_22, st_184_25, st_184_26, st_184_27, st_184_30, ini_184, fs_cl, fs_len, fs_rf, fs_M, fs_put, fs_cpy, ↓reduceIte, rv_ref, true_or, or_true, true_and, and_true, nI_ltI, ix_nI, nI_clamp, ps_i, ps_n, Option.bind_some, sm_0, sm_1, sm_2, sm_3, sm_4, sto_0, sto_1, sto_2, sto_3, sto_4, sto_5, sto_6, sto_7, sto_8, sto_9, sto_10, sto_11, sto_12, sto_13, sto_14, nlo_n, nlo_i, nlo_r, nlo_0, nlo_l, and_self, or_self, Nat.reduceEqDiff, Nat.reduceLT, Nat.reduceLeDiff, Nat.one_ne_zero, Nat.zero_ne_one, w0, f0, r7, m0, q0, a1, a2, e10, k9, kf])
/-- the land is new, the rest stays -/
theorem go_c (hi : IE M E z K0 K1 T W) {cm rm : Nat} {args : List Value} (H : ∀ e, 100 ≤ e → ∃ v M1 M2 E' z', j_C e cm (.ref 1 :: args) (FS h M) = some (some (.int v), FS h M1) ∧ CM M1 2 E' z' K0 K1 ∧ mg 2 M M1 ∧ j_C e rm (.ref 115 :: args) (FS h M1) = some (some (.int v), FS h M2) ∧ rg 115 M1 M2 ∧ RC M2 115 E' z' K0 K1 ∧ WX E' ∧ E' 6 = E 6 ∧ E' 7 = E 7) : Go h M cm rm args := by
  intro e he
  obtain ⟨v, M1, M2, E', z', a, b, c, d, f, g, w, i6, i7⟩ := H e he
  refine ⟨v, M1, M2, a, d, c 1003 (by omega), E', z', K0, K1, T, W, ?_⟩
  have hi' := hi
  obtain ⟨x1, x2, x3, x4, x5, x6⟩ := hi'
  refine ie_g hi (fun x hx => c x (by omega)) (Sd_cg (c 81 (by omega)) x4) (fun x hx => f.1 x (by omega) (by omega) (by omega) (by omega) (by omega)) (f.2.1 2 (by omega)) (f.2.1 14 (by omega)) ?_ w ?_ ?_
  · intro k h1 h2
    rw [f.1 114 (by omega) (by omega) (by omega) (by omega) (by omega), f.1 118 (by omega) (by omega) (by omega) (by omega) (by omega), c 114 (by omega), c 118 (by omega)]
    exact x5 k h1 h2
  · refine ⟨b, ?_, ?_⟩
    · rw [c 29 (by omega), c 30 (by omega), i6]; exact x2.2.1
    · rw [c 31 (by omega), c 32 (by omega), i7]; exact x2.2.2
  · refine ⟨g, fun i hi => ?_, fun i hi => ?_⟩
    · rw [show M2 116 (200 + i) = M1 116 (200 + i) from f.2.2 (200 + i) (by omega), c 116 (by omega)]
      exact x3.2.1 i (by rw [← i6]; exact hi)
    · rw [show M2 116 (80 + i) = M1 116 (80 + i) from f.2.2 (80 + i) (by omega), c 116 (by omega)]
      exact x3.2.2 i (by rw [← i7]; exact hi)
theorem RC_mg (hg : mg 2 M M1) (hR : RC M 115 E z K0 K1) : RC M1 115 E z K0 K1 := by
  unfold RC RLd Tx at hR ⊢
  rw [hg (115 + 1) (by omega)]; exact hR
theorem g_sale (hh : Hd h) (hi : IE M E z K0 K1 T W) (x y : Int32) : Go h M 93 185 [.int x, .int y] := by
  have w0 := hh.1.1
  have f0 := hh.1.2.1
  have r7 := hh.1.2.2.2.2.2.2.2.1
  have mk := hh.2.1.1
  have th := hh.2.2.2.1.1
  have md : Md h 115 := hh.2.2.2.2.2.2.2.1
  have m0 := md.1
  have q0 := md.2.1.1
  have a1 := md.2.1.2.1
  have a2 := md.2.1.2.2.1
  have hw := hi.1.1
  have h6 := hw.1
  have h8 := hw.2.1
  have hm := hi.2.1.1
  have hs := hm.1
  have hR : RC M 115 E z K0 K1 := hi.2.2.1.1
  have sd := hi.2.2.2.1
  have e10 : ¬ nI 1 = nI 0 := by decide +kernel
  by_cases hx : ∃ j, j < E 1 ∧ x = nI j
  · obtain ⟨c, hc, rfl⟩ := hx
    by_cases hy : ∃ j, j < E 0 ∧ y = nI j
    · obtain ⟨t, ht, rfl⟩ := hy
      have cv := hw.2.2.2.2.2.2.2 c hc
      have ch := cv.2.2.1
      have x6 := (Mk_6 mk).1
      have y6 := (Mk_6 mk).2
      have gc : ∀ e, 10 ≤ e → j_C e 33 [.ref 15, .int (nI c)] (FS h M) = some (some (.int (nI (E (39 + 5 * c)))), FS h M) := fun e he => by
        have g := n33ie (M := M) y6 (by omega : c < 8) (e := e) (by omega)
        rw [(hm.2.2.1 c hc).2.1] at g
        exact g
      have gr : ∀ M', RC M' 115 E z K0 K1 → ∀ e, 10 ≤ e → j_C e 148 [.ref 115, .int (nI c), .int (nI 1)] (FS h M') = some (some (.int (nI (E (39 + 5 * c)))), FS h M') := fun M' hR' e he => by
        have g := r148e (M := M') md (t := c) (k := 1) (by omega) (e := e) (by omega)
        rw [show 38 + 5 * c + 1 = 39 + 5 * c by omega, hR'.1.1 _ (by omega) (by omega)] at g
        exact g
      by_cases c1 : E (39 + 5 * c) = t
      · refine go_f0 hi (k := 3) ?_
        intro e he
        obtain ⟨e, rfl⟩ : ∃ d, e = d + 1 := ⟨e - 1, by omega⟩
        have k8 := c8ye (M := M) mk hs h6 ht (e := e) (by omega)
        have k9 := c9ye (M := M) mk hs h8 hc (e := e) (by omega)
        have kf := c119 (M := M) hh (k := 3) (by omega) (e := e) (by omega)
        have g := gc e (by omega)
        refine ⟨by (rw [j_C_eq]; simp (disch := omega) only [st_93_0, st_93_1, st_93_4, st_93_5, st_93_8, st_93_11, st_93_12, st_93_15, st_93_16, st_93_19, st_93_22, st_93_23, st_93_24, st_93_27, st_93_28, st_93_29, st_93_32, st_93_35, st_93_36, st_93_39, st_93_40, st_93_43, st_93_44, st_93_45, st_93_48, st_93_49, st_93_50, st_93_53, st_93_54, st_93_55, st_93_58, st_93_61, st_93_62, st_93_65, st_93_66, ini_93, fs_cl, fs_len, fs_rf, fs_M, fs_put, fs_cpy, ↓reduceIte, rv_ref, true_or, or_true, true_and, and_true, nI_ltI, ix_nI, nI_clamp, ps_i, ps_n, Option.bind_some, sm_0, sm_1, sm_2, sm_3, sm_4, sto_0, sto_1, sto_2, sto_3, sto_4, sto_5, sto_6, sto_7, sto_8, sto_9, sto_10, sto_11, sto_12, sto_13, sto_14, nlo_n, nlo_i, nlo_r, nlo_0, nlo_l, and_self, or_self, Nat.reduceEqDiff, Nat.reduceLT, Nat.reduceLeDiff, Nat.one_ne_zero, Nat.zero_ne_one, w0, f0, r7, m0, q0, a1, a2, e10, mk.1, x6, y6.1, k8, k9, g, nI_eq, eq_true c1, kf]), fun M' hR' => ?_⟩
        have k8 := r145ye md hR'.1 h6 ht (e := e) (by omega)
        have k9 := r146ye md hR'.1 h8 hc (e := e) (by omega)
        have kf := r142 (M := M') md (k := 3) (by omega) (e := e) (by omega)
        have g := gr M' hR' e (by omega)
        (rw [j_C_eq]; simp (disch := omega) only [st_185_0, st_185_1, st_185_2, st_185_5, st_185_8, st_185_9, st_185_10, st_185_13, st_185_16, st_185_17, st_185_18, st_185_21, st_185_22, st_185_23, st_185_24, st_185_25, st_185_28, st_185_29, st_185_32, st_185_33, st_185_34, st_185_37, st_185_38, st_185_39, st_185_40, st_185_41, st_185_44, st_185_45, st_185_46, st_185_49, st_185_50, st_185_51, st_185_52, st_185_55, st_185_56, st_185_59, st_185_60, st_185_63, st_185_64, ini_185, fs_cl, fs_len, fs_rf, fs_M, fs_put, fs_cpy, ↓reduceIte, rv_ref, true_or, or_true, true_and, and_true, nI_ltI, ix_nI, nI_clamp, ps_i, ps_n, Option.bind_some, sm_0, sm_1, sm_2, sm_3, sm_4, sto_0, sto_1, sto_2, sto_3, sto_4, sto_5, sto_6, sto_7, sto_8, sto_9, sto_10, sto_11, sto_12, sto_13, sto_14, nlo_n, nlo_i, nlo_r, nlo_0, nlo_l, and_self, or_self, Nat.reduceEqDiff, Nat.reduceLT, Nat.reduceLeDiff, Nat.one_ne_zero, Nat.zero_ne_one, w0, f0, r7, m0, q0, a1, a2, e10, k8, k9, g, nI_eq, eq_true c1, kf])
      · by_cases c2 : wth E K0 c t < nI (E (11 + 5 * t))
        · refine go_q hi ?_
          intro e he
          obtain ⟨e, rfl⟩ : ∃ d, e = d + 1 := ⟨e - 1, by omega⟩
          obtain ⟨M1, p1, p2⟩ := c19ne mk hm hw ht hc c2 (e := e) (by omega)
          have hR1 := RC_cq (cq_sg p2) hR
          obtain ⟨M2, s1, s2⟩ := r182 md hR1 hw ht hc (e := e) (by omega)
          rw [if_pos c2] at s1
          refine ⟨nI 0, M1, M2, ?_, cq_sg p2, Sd_sg p2 sd, ?_, rg_wf s2, RC_wf s2 hR1⟩
          · have k8 := c8ye (M := M) mk hs h6 ht (e := e) (by omega)
            have k9 := c9ye (M := M) mk hs h8 hc (e := e) (by omega)
            have g := gc e (by omega)
            (rw [j_C_eq]; simp (disch := omega) only [st_93_0, st_93_1, st_93_4, st_93_5, st_93_8, st_93_11, st_93_12, st_93_15, st_93_16, st_93_19, st_93_22, st_93_23, st_93_24, st_93_27, st_93_28, st_93_29, st_93_32, st_93_35, st_93_36, st_93_39, st_93_40, st_93_43, st_93_44, st_93_45, st_93_48, st_93_49, st_93_50, st_93_53, st_93_54, st_93_55, st_93_58, st_93_61, st_93_62, st_93_65, st_93_66, ini_93, fs_cl, fs_len, fs_rf, fs_M, fs_put, fs_cpy, ↓reduceIte, rv_ref, true_or, or_true, true_and, and_true, nI_ltI, ix_nI, nI_clamp, ps_i, ps_n, Option.bind_some, sm_0, sm_1, sm_2, sm_3, sm_4, sto_0, sto_1, sto_2, sto_3, sto_4, sto_5, sto_6, sto_7, sto_8, sto_9, sto_10, sto_11, sto_12, sto_13, sto_14, nlo_n, nlo_i, nlo_r, nlo_0, nlo_l, and_self, or_self, Nat.reduceEqDiff, Nat.reduceLT, Nat.reduceLeDiff, Nat.one_ne_zero, Nat.zero_ne_one, w0, f0, r7, m0, q0, a1, a2, e10, mk.1, x6, y6.1, k8, k9, g, nI_eq, c1, p1])
          · have k8 := r145ye md hR1.1 h6 ht (e := e) (by omega)
            have k9 := r146ye md hR1.1 h8 hc (e := e) (by omega)
            have g := gr M1 hR1 e (by omega)
            (rw [j_C_eq]; simp (disch := omega) only [st_185_0, st_185_1, st_185_2, st_185_5, st_185_8, st_185_9, st_185_10, st_185_13, st_185_16, st_185_17, st_185_18, st_185_21, st_185_22, st_185_23, st_185_24, st_185_25, st_185_28, st_185_29, st_185_32, st_185_33, st_185_34, st_185_37, st_185_38, st_185_39, st_185_40, st_185_41, st_185_44, st_185_45, st_185_46, st_185_49, st_185_50, st_185_51, st_185_52, st_185_55, st_185_56, st_185_59, st_185_60, st_185_63, st_185_64, ini_185, fs_cl, fs_len, fs_rf, fs_M, fs_put, fs_cpy, ↓reduceIte, rv_ref, true_or, or_true, true_and, and_true, nI_ltI, ix_nI, nI_clamp, ps_i, ps_n, Option.bind_some, sm_0, sm_1, sm_2, sm_3, sm_4, sto_0, sto_1, sto_2, sto_3, sto_4, sto_5, sto_6, sto_7, sto_8, sto_9, sto_10, sto_11, sto_12, sto_13, sto_14, nlo_n, nlo_i, nlo_r, nlo_0, nlo_l, and_self, or_self, Nat.reduceEqDiff, Nat.reduceLT, Nat.reduceLeDiff, Nat.one_ne_zero, Nat.zero_ne_one, w0, f0, r7, m0, q0, a1, a2, e10, k8, k9, g, nI_eq, c1, s1])
        · refine go_c hi ?_
          intro e he
          obtain ⟨e, rfl⟩ : ∃ d, e = d + 1 := ⟨e - 1, by omega⟩
          obtain ⟨M1, p1, p2, p3⟩ := c19ye mk hm hw ht hc c2 (e := e) (by omega)
          have hR1 := RC_mg p3 hR
          obtain ⟨M2, s1, s2⟩ := r182 md hR1 hw ht hc (e := e) (by omega)
          rw [if_neg c2] at s1
          have hR2 := RC_wf s2 hR1
          have kd := (hw.2.2.2.2.2.2.1 t ht).1
          obtain ⟨M3, y1, y2, y3⟩ := r183e md hR2.1 (by omega : t < 6) (by omega : c < 8) kd hw.2.2.2.1 (e := e) (by omega)
          refine ⟨nI 1, M1, M3, sel E c t, z, ?_, p2, p3, ?_, rg_t (rg_wf s2) (rg_ld y3), RC_ld y3 y2 hR2, ⟨WE_sel hw ht hc, ?_, ?_, ?_⟩, ?_, ?_⟩
          · have k8 := c8ye (M := M) mk hs h6 ht (e := e) (by omega)
            have k9 := c9ye (M := M) mk hs h8 hc (e := e) (by omega)
            have g := gc e (by omega)
            (rw [j_C_eq]; simp (disch := omega) only [st_93_0, st_93_1, st_93_4, st_93_5, st_93_8, st_93_11, st_93_12, st_93_15, st_93_16, st_93_19, st_93_22, st_93_23, st_93_24, st_93_27, st_93_28, st_93_29, st_93_32, st_93_35, st_93_36, st_93_39, st_93_40, st_93_43, st_93_44, st_93_45, st_93_48, st_93_49, st_93_50, st_93_53, st_93_54, st_93_55, st_93_58, st_93_61, st_93_62, st_93_65, st_93_66, ini_93, fs_cl, fs_len, fs_rf, fs_M, fs_put, fs_cpy, ↓reduceIte, rv_ref, true_or, or_true, true_and, and_true, nI_ltI, ix_nI, nI_clamp, ps_i, ps_n, Option.bind_some, sm_0, sm_1, sm_2, sm_3, sm_4, sto_0, sto_1, sto_2, sto_3, sto_4, sto_5, sto_6, sto_7, sto_8, sto_9, sto_10, sto_11, sto_12, sto_13, sto_14, nlo_n, nlo_i, nlo_r, nlo_0, nlo_l, and_self, or_self, Nat.reduceEqDiff, Nat.reduceLT, Nat.reduceLeDiff, Nat.one_ne_zero, Nat.zero_ne_one, w0, f0, r7, m0, q0, a1, a2, e10, mk.1, x6, y6.1, k8, k9, g, nI_eq, c1, p1])
          · have k8 := r145ye md hR1.1 h6 ht (e := e) (by omega)
            have k9 := r146ye md hR1.1 h8 hc (e := e) (by omega)
            have g := gr M1 hR1 e (by omega)
            (rw [j_C_eq]; simp (disch := omega) only [st_185_0, st_185_1, st_185_2, st_185_5, st_185_8, st_185_9, st_185_10, st_185_13, st_185_16, st_185_17, st_185_18, st_185_21, st_185_22, st_185_23, st_185_24, st_185_25, st_185_28, st_185_29, st_185_32, st_185_33, st_185_34, st_185_37, st_185_38, st_185_39, st_185_40, st_185_41, st_185_44, st_185_45, st_185_46, st_185_49, st_185_50, st_185_51, st_185_52, st_185_55, st_185_56, st_185_59, st_185_60, st_185_63, st_185_64, ini_185, fs_cl, fs_len, fs_rf, fs_M, fs_put, fs_cpy, ↓reduceIte, rv_ref, true_or, or_true, true_and, and_true, nI_ltI, ix_nI, nI_clamp, ps_i, ps_n, Option.bind_some, sm_0, sm_1, sm_2, sm_3, sm_4, sto_0, sto_1, sto_2, sto_3, sto_4, sto_5, sto_6, sto_7, sto_8, sto_9, sto_10, sto_11, sto_12, sto_13, sto_14, nlo_n, nlo_i, nlo_r, nlo_0, nlo_l, and_self, or_self, Nat.reduceEqDiff, Nat.reduceLT, Nat.reduceLeDiff, Nat.one_ne_zero, Nat.zero_ne_one, w0, f0, r7, m0, q0, a1, a2, e10, k8, k9, g, nI_eq, c1, s1, y1])
          · rw [sel_o (by omega) (by omega)]; exact hi.1.2.1
          · rw [sel_o (by omega) (by omega)]; exact hi.1.2.2.1
          · rw [sel_o (by omega) (by omega)]; exact hi.1.2.2.2
          · exact sel_o (by omega) (by omega)
          · exact sel_o (by omega) (by omega)
    · refine go_f0 hi (k := 1) ?_
      intro e he
      obtain ⟨e, rfl⟩ : ∃ d, e = d + 1 := ⟨e - 1, by omega⟩
      have k8 := c8ne (M := M) mk hs h6 hy (e := e) (by omega)
      have k9 := c9ye (M := M) mk hs h8 hc (e := e) (by omega)
      have kf := c119 (M := M) hh (k := 1) (by omega) (e := e) (by omega)
      refine ⟨by (rw [j_C_eq]; simp (disch := omega) only [st_93_0, st_93_1, st_93_4, st_93_5, st_93_8, st_93_11, st_93_12, st_93_15, st_93_16, st_93_19, st_93_22, st_93_23, st_93_24, st_93_27, st_93_28, st_93_29, st_93_32, st_93_35, st_93_36, st_93_39, st_93_40, st_93_43, st_93_44, st_93_45, st_93_48, st_93_49, st_93_50, st_93_53, st_93_54, st_93_55, st_93_58, st_93_61, st_93_62, st_93_65, st_93_66, ini_93, fs_cl, fs_len, fs_rf, fs_M, fs_put, fs_cpy, ↓reduceIte, rv_ref, true_or, or_true, true_and, and_true, nI_ltI, ix_nI, nI_clamp, ps_i, ps_n, Option.bind_some, sm_0, sm_1, sm_2, sm_3, sm_4, sto_0, sto_1, sto_2, sto_3, sto_4, sto_5, sto_6, sto_7, sto_8, sto_9, sto_10, sto_11, sto_12, sto_13, sto_14, nlo_n, nlo_i, nlo_r, nlo_0, nlo_l, and_self, or_self, Nat.reduceEqDiff, Nat.reduceLT, Nat.reduceLeDiff, Nat.one_ne_zero, Nat.zero_ne_one, w0, f0, r7, m0, q0, a1, a2, e10, mk.1, k8, k9, kf]), fun M' hR' => ?_⟩
      have k8 := r145ne md hR'.1 h6 hy (e := e) (by omega)
      have k9 := r146ye md hR'.1 h8 hc (e := e) (by omega)
      have kf := r142 (M := M') md (k := 1) (by omega) (e := e) (by omega)
      (rw [j_C_eq]; simp (disch := omega) only [st_185_0, st_185_1, st_185_2, st_185_5, st_185_8, st_185_9, st_185_10, st_185_13, st_185_16, st_185_17, st_185_18, st_185_21, st_185_22, st_185_23, st_185_24, st_185_25, st_185_28, st_185_29, st_185_32, st_185_33, st_185_34, st_185_37, st_185_38, st_185_39, st_185_40, st_185_41, st_185_44, st_185_45, st_185_46, st_185_49, st_185_50, st_185_51, st_185_52, st_185_55, st_185_56, st_185_59, st_185_60, st_185_63, st_185_64, ini_185, fs_cl, fs_len, fs_rf, fs_M, fs_put, fs_cpy, ↓reduceIte, rv_ref, true_or, or_true, true_and, and_true, nI_ltI, ix_nI, nI_clamp, ps_i, ps_n, Option.bind_some, sm_0, sm_1, sm_2, sm_3, sm_4, sto_0, sto_1, sto_2, sto_3, sto_4, sto_5, sto_6, sto_7, sto_8, sto_9, sto_10, sto_11, sto_12, sto_13, sto_14, nlo_n, nlo_i, nlo_r, nlo_0, nlo_l, and_self, or_self, Nat.reduceEqDiff, Nat.reduceLT, Nat.reduceLeDiff, Nat.one_ne_zero, Nat.zero_ne_one, w0, f0, r7, m0, q0, a1, a2, e10, k8, k9, kf])
  · refine go_f0 hi (k := 1) ?_
    intro e he
    obtain ⟨e, rfl⟩ : ∃ d, e = d + 1 := ⟨e - 1, by omega⟩
    have k9 := c9ne (M := M) mk hs h8 hx (e := e) (by omega)
    have kf := c119 (M := M) hh (k := 1) (by omega) (e := e) (by omega)
    refine ⟨by (rw [j_C_eq]; simp (disch := omega) only [st_93_0, st_93_1, st_93_4, st_93_5, st_93_8, st_93_11, st_93_12, st_93_15, st_93_16, st_93_19, st_93_22, st_93_23, st_93_24, st_93_27, st_93_28, st_93_29, st_93_32, st_93_35, st_93_36, st_93_39, st_93_40, st_93_43, st_93_44, st_93_45, st_93_48, st_93_49, st_93_50, st_93_53, st_93_54, st_93_55, st_93_58, st_93_61, st_93_62, st_93_65, st_93_66, ini_93, fs_cl, fs_len, fs_rf, fs_M, fs_put, fs_cpy, ↓reduceIte, rv_ref, true_or, or_true, true_and, and_true, nI_ltI, ix_nI, nI_clamp, ps_i, ps_n, Option.bind_some, sm_0, sm_1, sm_2, sm_3, sm_4, sto_0, sto_1, sto_2, sto_3, sto_4, sto_5, sto_6, sto_7, sto_8, sto_9, sto_10, sto_11, sto_12, sto_13, sto_14, nlo_n, nlo_i, nlo_r, nlo_0, nlo_l, and_self, or_self, Nat.reduceEqDiff, Nat.reduceLT, Nat.reduceLeDiff, Nat.one_ne_zero, Nat.zero_ne_one, w0, f0, r7, m0, q0, a1, a2, e10, mk.1, k9, kf]), fun M' hR' => ?_⟩
    have k9 := r146ne md hR'.1 h8 hx (e := e) (by omega)
    have kf := r142 (M := M') md (k := 1) (by omega) (e := e) (by omega)
    (rw [j_C_eq]; simp (disch := omega) only [st_185_0, st_185_1, st_185_2, st_185_5, st_185_8, st_185_9, st_185_10, st_185_13, st_185_16, st_185_17, st_185_18, st_185_21, st_185_22, st_185_23, st_185_24, st_185_25, st_185_28, st_185_29, st_185_32, st_185_33, st_185_34, st_185_37, st_185_38, st_185_39, st_185_40, st_185_41, st_185_44, st_185_45, st_185_46, st_185_49, st_185_50, st_185_51, st_185_52, st_185_55, st_185_56, st_185_59, st_185_60, st_185_63, st_185_64, ini_185, fs_cl, fs_len, fs_rf, fs_M, fs_put, fs_cpy, ↓reduceIte, rv_ref, true_or, or_true, true_and, and_true, nI_ltI, ix_nI, nI_clamp, ps_i, ps_n, Option.bind_some, sm_0, sm_1, sm_2, sm_3, sm_4, sto_0, sto_1, sto_2, sto_3, sto_4, sto_5, sto_6, sto_7, sto_8, sto_9, sto_10, sto_11, sto_12, sto_13, sto_14, nlo_n, nlo_i, nlo_r, nlo_0, nlo_l, and_self, or_self, Nat.reduceEqDiff, Nat.reduceLT, Nat.reduceLeDiff, Nat.one_ne_zero, Nat.zero_ne_one, w0, f0, r7, m0, q0, a1, a2, e10, k9, kf])
theorem g_days (hh : Hd h) (hi : IE M E z K0 K1 T W) (x : Int32) : Go h M 94 189 [.int x] := by
  have w0 := hh.1.1
  have f0 := hh.1.2.1
  have r7 := hh.1.2.2.2.2.2.2.2.1
  have mk := hh.2.1.1
  have th := hh.2.2.2.1.1
  have md : Md h 115 := hh.2.2.2.2.2.2.2.1
  have m0 := md.1
  have q0 := md.2.1.1
  have a1 := md.2.1.2.1
  have a2 := md.2.1.2.2.1
  have hw := hi.1.1
  have h6 := hw.1
  have h8 := hw.2.1
  have hm := hi.2.1.1
  have hs := hm.1
  have hR : RC M 115 E z K0 K1 := hi.2.2.1.1
  have sd := hi.2.2.2.1
  have e10 : ¬ nI 1 = nI 0 := by decide +kernel
  have E2 := hi.1.2.1
  have gd : M 2 10 = nI (E 2) := hm.2.2.2.2.1.1
  by_cases hx : ∃ j, 1 ≤ j ∧ j ≤ 100 ∧ x = nI j
  · obtain ⟨n, hn1, hn, rfl⟩ := hx
    have wi1 := wi_in hn1 hn (by omega : 100 < 2147483648)
    have li1 := lin_in hn1 hn (by omega : 100 < 2147483648)
    by_cases c1 : E 2 + n ≤ 9999
    · refine go_c hi ?_
      intro e he
      obtain ⟨e, rfl⟩ : ∃ d, e = d + 1 := ⟨e - 1, by omega⟩
      obtain ⟨M1, p1, p2, p3⟩ := c21ce mk hm hw (by omega : n ≤ 1000) (by omega : E 2 + n < 100000) (e := e) (by omega)
      have hw2 := dyN_WE n E hw (by omega)
      have p4 := c14e mk p2 hw2 (e := e) (by omega)
      have hR1 := RC_mg p3 hR
      obtain ⟨M2, s1, s2, s3⟩ := x188 md hR1.1 hw (by omega : n ≤ 1000) (by omega : E 2 + n < 100000) (e := e) (by omega)
      have hR2 := RC_ld s3 s2 hR1
      have s4 := r167e md hR2.1 hw2 (e := e) (by omega)
      refine ⟨nI (smS (dyN n E) (dyN n E 1)), M1, M2, dyN n E, z, ?_, p2, p3, ?_, rg_ld s3, hR2, ⟨hw2, ?_, ?_, ?_⟩, ?_, ?_⟩
      · have cl : ¬ 9999 - n < E 2 := by omega
        have kw := c122e (σ := FS h M) (nI n) (nI 1) (nI 100) (e := e) (by omega)
        rw [wi1] at kw
        (rw [j_C_eq]; simp (disch := omega) only [st_94_0, st_94_1, st_94_2, st_94_4, st_94_7, st_94_10, st_94_11, st_94_12, st_94_15, st_94_16, st_94_17, st_94_20, st_94_23, st_94_26, st_94_27, st_94_28, st_94_31, st_94_32, st_94_33, st_94_36, st_94_37, st_94_38, st_94_41, st_94_42, st_94_45, st_94_46, st_94_49, st_94_52, ini_94, fs_cl, fs_len, fs_rf, fs_M, fs_put, fs_cpy, ↓reduceIte, rv_ref, true_or, or_true, true_and, and_true, nI_ltI, ix_nI, nI_clamp, ps_i, ps_n, Option.bind_some, sm_0, sm_1, sm_2, sm_3, sm_4, sto_0, sto_1, sto_2, sto_3, sto_4, sto_5, sto_6, sto_7, sto_8, sto_9, sto_10, sto_11, sto_12, sto_13, sto_14, nlo_n, nlo_i, nlo_r, nlo_0, nlo_l, and_self, or_self, Nat.reduceEqDiff, Nat.reduceLT, Nat.reduceLeDiff, Nat.one_ne_zero, Nat.zero_ne_one, w0, f0, r7, m0, q0, a1, a2, e10, mk.1, kw, gd, nI_sub, cl, p1, p4])
      · have cl : ¬ 9999 < E 2 + n := by omega
        have kw := r143e (σ := FS h M1) (nI n).toInt64 (lN 1) (lN 100) (e := e) (by omega)
        rw [li1] at kw
        have g2 := hR1.1.1 2 (by omega) (by omega)
        (rw [j_C_eq]; simp (disch := omega) only [st_189_0, st_189_1, st_189_2, st_189_3, st_189_6, st_189_9, st_189_12, st_189_13, st_189_14, st_189_17, st_189_18, st_189_19, st_189_22, st_189_23, st_189_24, st_189_25, st_189_26, st_189_29, st_189_32, st_189_33, st_189_34, st_189_37, st_189_38, st_189_39, st_189_40, st_189_43, st_189_44, st_189_47, ini_189, fs_cl, fs_len, fs_rf, fs_M, fs_put, fs_cpy, ↓reduceIte, rv_ref, true_or, or_true, true_and, and_true, nI_ltI, ix_nI, nI_clamp, ps_i, ps_n, Option.bind_some, sm_0, sm_1, sm_2, sm_3, sm_4, sto_0, sto_1, sto_2, sto_3, sto_4, sto_5, sto_6, sto_7, sto_8, sto_9, sto_10, sto_11, sto_12, sto_13, sto_14, nlo_n, nlo_i, nlo_r, nlo_0, nlo_l, and_self, or_self, Nat.reduceEqDiff, Nat.reduceLT, Nat.reduceLeDiff, Nat.one_ne_zero, Nat.zero_ne_one, w0, f0, r7, m0, q0, a1, a2, e10, kw, g2, nI_add, cl, s1, s4])
      · rw [dyN_2]; exact c1
      · rw [dyN_o (by omega) (by omega)]; exact hi.1.2.2.1
      · rw [dyN_o (by omega) (by omega)]; exact hi.1.2.2.2
      · exact dyN_o (by omega) (by omega) n E
      · exact dyN_o (by omega) (by omega) n E
    · refine go_f0 hi (k := 3) ?_
      intro e he
      obtain ⟨e, rfl⟩ : ∃ d, e = d + 1 := ⟨e - 1, by omega⟩
      have kf := c119 (M := M) hh (k := 3) (by omega) (e := e) (by omega)
      have cl : 9999 - n < E 2 := by omega
      have kw := c122e (σ := FS h M) (nI n) (nI 1) (nI 100) (e := e) (by omega)
      rw [wi1] at kw
      refine ⟨by (rw [j_C_eq]; simp (disch := omega) only [st_94_0, st_94_1, st_94_2, st_94_4, st_94_7, st_94_10, st_94_11, st_94_12, st_94_15, st_94_16, st_94_17, st_94_20, st_94_23, st_94_26, st_94_27, st_94_28, st_94_31, st_94_32, st_94_33, st_94_36, st_94_37, st_94_38, st_94_41, st_94_42, st_94_45, st_94_46, st_94_49, st_94_52, ini_94, fs_cl, fs_len, fs_rf, fs_M, fs_put, fs_cpy, ↓reduceIte, rv_ref, true_or, or_true, true_and, and_true, nI_ltI, ix_nI, nI_clamp, ps_i, ps_n, Option.bind_some, sm_0, sm_1, sm_2, sm_3, sm_4, sto_0, sto_1, sto_2, sto_3, sto_4, sto_5, sto_6, sto_7, sto_8, sto_9, sto_10, sto_11, sto_12, sto_13, sto_14, nlo_n, nlo_i, nlo_r, nlo_0, nlo_l, and_self, or_self, Nat.reduceEqDiff, Nat.reduceLT, Nat.reduceLeDiff, Nat.one_ne_zero, Nat.zero_ne_one, w0, f0, r7, m0, q0, a1, a2, e10, mk.1, kw, gd, nI_sub, cl, kf]), fun M' hR' => ?_⟩
      have kf := r142 (M := M') md (k := 3) (by omega) (e := e) (by omega)
      have cl : 9999 < E 2 + n := by omega
      have kw := r143e (σ := FS h M') (nI n).toInt64 (lN 1) (lN 100) (e := e) (by omega)
      rw [li1] at kw
      have g2 := hR'.1.1 2 (by omega) (by omega)
      (rw [j_C_eq]; simp (disch := omega) only [st_189_0, st_189_1, st_189_2, st_189_3, st_189_6, st_189_9, st_189_12, st_189_13, st_189_14, st_189_17, st_189_18, st_189_19, st_189_22, st_189_23, st_189_24, st_189_25, st_189_26, st_189_29, st_189_32, st_189_33, st_189_34, st_189_37, st_189_38, st_189_39, st_189_40, st_189_43, st_189_44, st_189_47, ini_189, fs_cl, fs_len, fs_rf, fs_M, fs_put, fs_cpy, ↓reduceIte, rv_ref, true_or, or_true, true_and, and_true, nI_ltI, ix_nI, nI_clamp, ps_i, ps_n, Option.bind_some, sm_0, sm_1, sm_2, sm_3, sm_4, sto_0, sto_1, sto_2, sto_3, sto_4, sto_5, sto_6, sto_7, sto_8, sto_9, sto_10, sto_11, sto_12, sto_13, sto_14, nlo_n, nlo_i, nlo_r, nlo_0, nlo_l, and_self, or_self, Nat.reduceEqDiff, Nat.reduceLT, Nat.reduceLeDiff, Nat.one_ne_zero, Nat.zero_ne_one, w0, f0, r7, m0, q0, a1, a2, e10, kw, g2, nI_add, cl, kf])
  · refine go_f0 hi (k := 1) ?_
    intro e he
    obtain ⟨e, rfl⟩ : ∃ d, e = d + 1 := ⟨e - 1, by omega⟩
    have kf := c119 (M := M) hh (k := 1) (by omega) (e := e) (by omega)
    have kw := c122e (σ := FS h M) x (nI 1) (nI 100) (e := e) (by omega)
    rw [wi_out hx (by omega) (by omega)] at kw
    refine ⟨by (rw [j_C_eq]; simp (disch := omega) only [st_94_0, st_94_1, st_94_2, st_94_4, st_94_7, st_94_10, st_94_11, st_94_12, st_94_15, st_94_16, st_94_17, st_94_20, st_94_23, st_94_26, st_94_27, st_94_28, st_94_31, st_94_32, st_94_33, st_94_36, st_94_37, st_94_38, st_94_41, st_94_42, st_94_45, st_94_46, st_94_49, st_94_52, ini_94, fs_cl, fs_len, fs_rf, fs_M, fs_put, fs_cpy, ↓reduceIte, rv_ref, true_or, or_true, true_and, and_true, nI_ltI, ix_nI, nI_clamp, ps_i, ps_n, Option.bind_some, sm_0, sm_1, sm_2, sm_3, sm_4, sto_0, sto_1, sto_2, sto_3, sto_4, sto_5, sto_6, sto_7, sto_8, sto_9, sto_10, sto_11, sto_12, sto_13, sto_14, nlo_n, nlo_i, nlo_r, nlo_0, nlo_l, and_self, or_self, Nat.reduceEqDiff, Nat.reduceLT, Nat.reduceLeDiff, Nat.one_ne_zero, Nat.zero_ne_one, w0, f0, r7, m0, q0, a1, a2, e10, kw, kf]), fun M' hR' => ?_⟩
    have kf := r142 (M := M') md (k := 1) (by omega) (e := e) (by omega)
    have kw := r143e (σ := FS h M') x.toInt64 (lN 1) (lN 100) (e := e) (by omega)
    rw [lin_out hx (by omega) (by omega)] at kw
    (rw [j_C_eq]; simp (disch := omega) only [st_189_0, st_189_1, st_189_2, st_189_3, st_189_6, st_189_9, st_189_12, st_189_13, st_189_14, st_189_17, st_189_18, st_189_19, st_189_22, st_189_23, st_189_24, st_189_25, st_189_26, st_189_29, st_189_32, st_189_33, st_189_34, st_189_37, st_189_38, st_189_39, st_189_40, st_189_43, st_189_44, st_189_47, ini_189, fs_cl, fs_len, fs_rf, fs_M, fs_put, fs_cpy, ↓reduceIte, rv_ref, true_or, or_true, true_and, and_true, nI_ltI, ix_nI, nI_clamp, ps_i, ps_n, Option.bind_some, sm_0, sm_1, sm_2, sm_3, sm_4, sto_0, sto_1, sto_2, sto_3, sto_4, sto_5, sto_6, sto_7, sto_8, sto_9, sto_10, sto_11, sto_12, sto_13, sto_14, nlo_n, nlo_i, nlo_r, nlo_0, nlo_l, and_self, or_self, Nat.reduceEqDiff, Nat.reduceLT, Nat.reduceLeDiff, Nat.one_ne_zero, Nat.zero_ne_one, w0, f0, r7, m0, q0, a1, a2, e10, kw, kf])
theorem lsE_p {j : Nat} (hj : j = 6 ∨ j = 7) : ∀ n (E : Nat → Nat) (z : Int32), (lsE n E z K0).1 j = E j := by
  intro n
  induction n with
  | zero => intro E z; rfl
  | succ n ih =>
    intro E z
    unfold lsE
    rw [ih, dayE_o (by omega) (by omega)]
    unfold ofE
    split
    · rfl
    · split
      · rfl
      · split
        · rfl
        · exact sel_o (by omega) (by omega)
theorem g_loose (hh : Hd h) (hi : IE M E z K0 K1 T W) (x : Int32) : Go h M 95 191 [.int x] := by
  have w0 := hh.1.1
  have f0 := hh.1.2.1
  have r7 := hh.1.2.2.2.2.2.2.2.1
  have mk := hh.2.1.1
  have th := hh.2.2.2.1.1
  have md : Md h 115 := hh.2.2.2.2.2.2.2.1
  have m0 := md.1
  have q0 := md.2.1.1
  have a1 := md.2.1.2.1
  have a2 := md.2.1.2.2.1
  have hw := hi.1.1
  have h6 := hw.1
  have h8 := hw.2.1
  have hm := hi.2.1.1
  have hs := hm.1
  have hR : RC M 115 E z K0 K1 := hi.2.2.1.1
  have sd := hi.2.2.2.1
  have e10 : ¬ nI 1 = nI 0 := by decide +kernel
  have E2 := hi.1.2.1
  have gd : M 2 10 = nI (E 2) := hm.2.2.2.2.1.1
  by_cases hx : ∃ j, 1 ≤ j ∧ j ≤ 40 ∧ x = nI j
  · obtain ⟨n, hn1, hn, rfl⟩ := hx
    have wi1 := wi_in hn1 hn (by omega : 40 < 2147483648)
    have li1 := lin_in hn1 hn (by omega : 40 < 2147483648)
    by_cases c1 : E 2 + n ≤ 9999
    · refine go_c hi ?_
      intro e he
      obtain ⟨e, rfl⟩ : ∃ d, e = d + 1 := ⟨e - 1, by omega⟩
      have L : ∀ r k (E : Nat → Nat) (z : Int32) (M : Nat → Nat → Int32), CM M 2 E z K0 K1 → WE E → E 2 + r < 100000 → r + k = n → ∃ M', j_X e 95 39 [some (.ref 1), some (.int (nI n)), some (.int (nI k))] [] (FS h M) = some (some (.int (nI (smS (lsE r E z K0).1 ((lsE r E z K0).1 1)))), FS h M') ∧ CM M' 2 (lsE r E z K0).1 (lsE r E z K0).2 K0 K1 ∧ mg 2 M M' := by
        intro r
        induction r with
        | zero =>
          intro k E z M hm hw hd hr
          have e1 : ¬ k < n := by omega
          have p4 := c14e mk hm hw (e := e) (by omega)
          refine ⟨M, ?_, hm, mg_r⟩
          rw [st_95_39]
          simp (disch := omega) only [st_95_0, st_95_1, st_95_2, st_95_4, st_95_7, st_95_10, st_95_11, st_95_12, st_95_15, st_95_16, st_95_17, st_95_20, st_95_23, st_95_26, st_95_27, st_95_28, st_95_31, st_95_32, st_95_33, st_95_36, st_95_37, st_95_38, st_95_40, st_95_41, st_95_44, st_95_45, st_95_48, st_95_51, st_95_52, st_95_55, st_95_58, st_95_61, st_95_64, st_95_65, st_95_68, st_95_71, ini_95, fs_cl, fs_len, fs_rf, fs_M, fs_put, fs_cpy, ↓reduceIte, rv_ref, true_or, or_true, true_and, and_true, nI_ltI, ix_nI, nI_clamp, ps_i, ps_n, Option.bind_some, sm_0, sm_1, sm_2, sm_3, sm_4, sto_0, sto_1, sto_2, sto_3, sto_4, sto_5, sto_6, sto_7, sto_8, sto_9, sto_10, sto_11, sto_12, sto_13, sto_14, nlo_n, nlo_i, nlo_r, nlo_0, nlo_l, and_self, or_self, Nat.reduceEqDiff, Nat.reduceLT, Nat.reduceLeDiff, Nat.one_ne_zero, Nat.zero_ne_one, w0, f0, mk.1, e1, p4]
          rfl
        | succ r ih =>
          intro k E z M hm hw hd hr
          have e1 : k < n := by omega
          obtain ⟨w1, w2, w3, w4⟩ := ofE_WE (z := z) (K0 := K0) hw
          obtain ⟨M1, p1, p2, p3⟩ := c24e mk hm hw (e := e) (by omega)
          obtain ⟨M2, y1, y2, y3⟩ := c22e mk p2 w1 (by omega) (e := e) (by omega)
          obtain ⟨M', s1, s2, s3⟩ := ih (k + 1) _ _ M2 y2 (dayE_WE w1 (by omega)) (by rw [dayE_2]; omega) (by omega)
          refine ⟨M', ?_, s2, mg_t p3 (mg_t y3 s3)⟩
          rw [st_95_39]
          simp (disch := omega) only [st_95_0, st_95_1, st_95_2, st_95_4, st_95_7, st_95_10, st_95_11, st_95_12, st_95_15, st_95_16, st_95_17, st_95_20, st_95_23, st_95_26, st_95_27, st_95_28, st_95_31, st_95_32, st_95_33, st_95_36, st_95_37, st_95_38, st_95_40, st_95_41, st_95_44, st_95_45, st_95_48, st_95_51, st_95_52, st_95_55, st_95_58, st_95_61, st_95_64, st_95_65, st_95_68, st_95_71, ini_95, fs_cl, fs_len, fs_rf, fs_M, fs_put, fs_cpy, ↓reduceIte, rv_ref, true_or, or_true, true_and, and_true, nI_ltI, ix_nI, nI_clamp, ps_i, ps_n, Option.bind_some, sm_0, sm_1, sm_2, sm_3, sm_4, sto_0, sto_1, sto_2, sto_3, sto_4, sto_5, sto_6, sto_7, sto_8, sto_9, sto_10, sto_11, sto_12, sto_13, sto_14, nlo_n, nlo_i, nlo_r, nlo_0, nlo_l, and_self, or_self, Nat.reduceEqDiff, Nat.reduceLT, Nat.reduceLeDiff, Nat.one_ne_zero, Nat.zero_ne_one, w0, f0, mk.1, e1, p1, y1, nI_add]
          exact s1
      obtain ⟨M1, p1, p2, p3⟩ := L n 0 E z M hm hw (by omega) (by omega)
      have hR1 := RC_mg p3 hR
      obtain ⟨M2, s1, s2, s3, s4, s5⟩ := r191 md hn1 hn hR1 hw c1 (e := e + 1) (by omega)
      refine ⟨_, M1, M2, _, _, ?_, p2, p3, s1, s5, s2, ⟨s3, ?_, ?_, ?_⟩, ?_, ?_⟩
      · have cl : ¬ 9999 - n < E 2 := by omega
        have kw := c122e (σ := FS h M) (nI n) (nI 1) (nI 40) (e := e) (by omega)
        rw [wi1] at kw
        (rw [j_C_eq]; simp (disch := omega) only [st_95_0, st_95_1, st_95_2, st_95_4, st_95_7, st_95_10, st_95_11, st_95_12, st_95_15, st_95_16, st_95_17, st_95_20, st_95_23, st_95_26, st_95_27, st_95_28, st_95_31, st_95_32, st_95_33, st_95_36, st_95_37, st_95_38, st_95_40, st_95_41, st_95_44, st_95_45, st_95_48, st_95_51, st_95_52, st_95_55, st_95_58, st_95_61, st_95_64, st_95_65, st_95_68, st_95_71, ini_95, fs_cl, fs_len, fs_rf, fs_M, fs_put, fs_cpy, ↓reduceIte, rv_ref, true_or, or_true, true_and, and_true, nI_ltI, ix_nI, nI_clamp, ps_i, ps_n, Option.bind_some, sm_0, sm_1, sm_2, sm_3, sm_4, sto_0, sto_1, sto_2, sto_3, sto_4, sto_5, sto_6, sto_7, sto_8, sto_9, sto_10, sto_11, sto_12, sto_13, sto_14, nlo_n, nlo_i, nlo_r, nlo_0, nlo_l, and_self, or_self, Nat.reduceEqDiff, Nat.reduceLT, Nat.reduceLeDiff, Nat.one_ne_zero, Nat.zero_ne_one, w0, f0, r7, m0, q0, a1, a2, e10, mk.1, kw, gd, nI_sub, cl])
        exact p1
      · rw [s4]; exact c1
      · rw [lsE_p (.inl rfl)]; exact hi.1.2.2.1
      · rw [lsE_p (.inr rfl)]; exact hi.1.2.2.2
      · exact lsE_p (.inl rfl) n E z
      · exact lsE_p (.inr rfl) n E z
    · refine go_f0 hi (k := 3) ?_
      intro e he
      obtain ⟨e, rfl⟩ : ∃ d, e = d + 1 := ⟨e - 1, by omega⟩
      have kf := c119 (M := M) hh (k := 3) (by omega) (e := e) (by omega)
      have cl : 9999 - n < E 2 := by omega
      have kw := c122e (σ := FS h M) (nI n) (nI 1) (nI 40) (e := e) (by omega)
      rw [wi1] at kw
      refine ⟨by (rw [j_C_eq]; simp (disch := omega) only [st_95_0, st_95_1, st_95_2, st_95_4, st_95_7, st_95_10, st_95_11, st_95_12, st_95_15, st_95_16, st_95_17, st_95_20, st_95_23, st_95_26, st_95_27, st_95_28, st_95_31, st_95_32, st_95_33, st_95_36, st_95_37, st_95_38, st_95_40, st_95_41, st_95_44, st_95_45, st_95_48, st_95_51, st_95_52, st_95_55, st_95_58, st_95_61, st_95_64, st_95_65, st_95_68, st_95_71, ini_95, fs_cl, fs_len, fs_rf, fs_M, fs_put, fs_cpy, ↓reduceIte, rv_ref, true_or, or_true, true_and, and_true, nI_ltI, ix_nI, nI_clamp, ps_i, ps_n, Option.bind_some, sm_0, sm_1, sm_2, sm_3, sm_4, sto_0, sto_1, sto_2, sto_3, sto_4, sto_5, sto_6, sto_7, sto_8, sto_9, sto_10, sto_11, sto_12, sto_13, sto_14, nlo_n, nlo_i, nlo_r, nlo_0, nlo_l, and_self, or_self, Nat.reduceEqDiff, Nat.reduceLT, Nat.reduceLeDiff, Nat.one_ne_zero, Nat.zero_ne_one, w0, f0, r7, m0, q0, a1, a2, e10, mk.1, kw, gd, nI_sub, cl, kf]), fun M' hR' => ?_⟩
      have kf := r142 (M := M') md (k := 3) (by omega) (e := e) (by omega)
      have cl : 9999 < E 2 + n := by omega
      have kw := r143e (σ := FS h M') (nI n).toInt64 (lN 1) (lN 40) (e := e) (by omega)
      rw [li1] at kw
      have g2 := hR'.1.1 2 (by omega) (by omega)
      (rw [j_C_eq]; simp (disch := omega) only [st_191_0, st_191_1, st_191_2, st_191_3, st_191_6, st_191_9, st_191_12, st_191_13, st_191_14, st_191_17, st_191_18, st_191_19, st_191_22, st_191_23, st_191_24, st_191_25, st_191_26, st_191_29, st_191_32, st_191_33, st_191_34, st_191_37, st_191_38, st_191_39, st_191_41, st_191_42, st_191_45, st_191_46, st_191_49, st_191_50, st_191_51, st_191_54, st_191_55, st_191_58, st_191_59, st_191_62, st_191_63, st_191_64, st_191_65, st_191_66, st_191_67, st_191_70, st_191_71, st_191_74, st_191_75, st_191_76, st_191_77, st_191_79, st_191_80, st_191_81, st_191_82, st_191_85, st_191_87, st_191_90, st_191_91, st_191_92, st_191_94, st_191_97, st_191_100, st_191_101, st_191_102, st_191_104, st_191_107, st_191_108, st_191_111, st_191_114, st_191_117, st_191_118, st_191_121, ini_191, fs_cl, fs_len, fs_rf, fs_M, fs_put, fs_cpy, ↓reduceIte, rv_ref, true_or, or_true, true_and, and_true, nI_ltI, ix_nI, nI_clamp, ps_i, ps_n, Option.bind_some, sm_0, sm_1, sm_2, sm_3, sm_4, sto_0, sto_1, sto_2, sto_3, sto_4, sto_5, sto_6, sto_7, sto_8, sto_9, sto_10, sto_11, sto_12, sto_13, sto_14, nlo_n, nlo_i, nlo_r, nlo_0, nlo_l, and_self, or_self, Nat.reduceEqDiff, Nat.reduceLT, Nat.reduceLeDiff, Nat.one_ne_zero, Nat.zero_ne_one, w0, f0, r7, m0, q0, a1, a2, e10, kw, g2, nI_add, cl, kf])
  · refine go_f0 hi (k := 1) ?_
    intro e he
    obtain ⟨e, rfl⟩ : ∃ d, e = d + 1 := ⟨e - 1, by omega⟩
    have kf := c119 (M := M) hh (k := 1) (by omega) (e := e) (by omega)
    have kw := c122e (σ := FS h M) x (nI 1) (nI 40) (e := e) (by omega)
    rw [wi_out hx (by omega) (by omega)] at kw
    refine ⟨by (rw [j_C_eq]; simp (disch := omega) only [st_95_0, st_95_1, st_95_2, st_95_4, st_95_7, st_95_10, st_95_11, st_95_12, st_95_15, st_95_16, st_95_17, st_95_20, st_95_23, st_95_26, st_95_27, st_95_28, st_95_31, st_95_32, st_95_33, st_95_36, st_95_37, st_95_38, st_95_40, st_95_41, st_95_44, st_95_45, st_95_48, st_95_51, st_95_52, st_95_55, st_95_58, st_95_61, st_95_64, st_95_65, st_95_68, st_95_71, ini_95, fs_cl, fs_len, fs_rf, fs_M, fs_put, fs_cpy, ↓reduceIte, rv_ref, true_or, or_true, true_and, and_true, nI_ltI, ix_nI, nI_clamp, ps_i, ps_n, Option.bind_some, sm_0, sm_1, sm_2, sm_3, sm_4, sto_0, sto_1, sto_2, sto_3, sto_4, sto_5, sto_6, sto_7, sto_8, sto_9, sto_10, sto_11, sto_12, sto_13, sto_14, nlo_n, nlo_i, nlo_r, nlo_0, nlo_l, and_self, or_self, Nat.reduceEqDiff, Nat.reduceLT, Nat.reduceLeDiff, Nat.one_ne_zero, Nat.zero_ne_one, w0, f0, r7, m0, q0, a1, a2, e10, kw, kf]), fun M' hR' => ?_⟩
    have kf := r142 (M := M') md (k := 1) (by omega) (e := e) (by omega)
    have kw := r143e (σ := FS h M') x.toInt64 (lN 1) (lN 40) (e := e) (by omega)
    rw [lin_out hx (by omega) (by omega)] at kw
    (rw [j_C_eq]; simp (disch := omega) only [st_191_0, st_191_1, st_191_2, st_191_3, st_191_6, st_191_9, st_191_12, st_191_13, st_191_14, st_191_17, st_191_18, st_191_19, st_191_22, st_191_23, st_191_24, st_191_25, st_191_26, st_191_29, st_191_32, st_191_33, st_191_34, st_191_37, st_191_38, st_191_39, st_191_41, st_191_42, st_191_45, st_191_46, st_191_49, st_191_50, st_191_51, st_191_54, st_191_55, st_191_58, st_191_59, st_191_62, st_191_63, st_191_64, st_191_65, st_191_66, st_191_67, st_191_70, st_191_71, st_191_74, st_191_75, st_191_76, st_191_77, st_191_79, st_191_80, st_191_81, st_191_82, st_191_85, st_191_87, st_191_90, st_191_91, st_191_92, st_191_94, st_191_97, st_191_100, st_191_101, st_191_102, st_191_104, st_191_107, st_191_108, st_191_111, st_191_114, st_191_117, st_191_118, st_191_121, ini_191, fs_cl, fs_len, fs_rf, fs_M, fs_put, fs_cpy, ↓reduceIte, rv_ref, true_or, or_true, true_and, and_true, nI_ltI, ix_nI, nI_clamp, ps_i, ps_n, Option.bind_some, sm_0, sm_1, sm_2, sm_3, sm_4, sto_0, sto_1, sto_2, sto_3, sto_4, sto_5, sto_6, sto_7, sto_8, sto_9, sto_10, sto_11, sto_12, sto_13, sto_14, nlo_n, nlo_i, nlo_r, nlo_0, nlo_l, and_self, or_self, Nat.reduceEqDiff, Nat.reduceLT, Nat.reduceLeDiff, Nat.one_ne_zero, Nat.zero_ne_one, w0, f0, r7, m0, q0, a1, a2, e10, kw, kf])
