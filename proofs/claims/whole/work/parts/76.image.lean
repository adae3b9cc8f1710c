/-! Both sides: check, image, restore. -/
variable {h : j_Hd} {M M1 M2 M3 : Nat → Nat → Int32} {o b s n : Nat} {E E' : Nat → Nat} {z : Int32} {K0 K1 K : List Int32} {T : Nat → Nat} {W : Nat → Int32} {X Y : Nat → Int32}
theorem fwS_cg {X Y : Nat → Int32} : ∀ r i (E : Nat → Nat), (∀ j, i ≤ j → j < r + i → X j = Y j) → fwS X r i E = fwS Y r i E := by
  intro r
  induction r with
  | zero => intro i E _; rfl
  | succ r ih =>
    intro i E he
    unfold fwS
    rw [he i (by omega) (by omega), ih (i + 1) (dayE E) (fun j h1 h2 => he j (by omega) (by omega))]
theorem g_check (hh : Hd h) (hi : IE M E z K0 K1 T W) : Go h M 116 221 [] := by
  have w0 := hh.1.1
  have f0 := hh.1.2.1
  have r7 := hh.1.2.2.2.2.2.2.2.1
  have mk := hh.2.1.1
  have th := hh.2.2.2.1.1
  have md : Md h 115 := hh.2.2.2.2.2.2.2.1
  have m0 := md.1
  have q0 := md.2.1.1
  have a1 := md.2.1.2.1
  have a2 := md.2.1.2.2.1
  have hw := hi.1.1
  have h6 := hw.1
  have h8 := hw.2.1
  have hm := hi.2.1.1
  have hs := hm.1
  have hR : RC M 115 E z K0 K1 := hi.2.2.1.1
  have sd := hi.2.2.2.1
  have e10 : ¬ nI 1 = nI 0 := by decide +kernel
  have f2 := hh.1.2.2.2.1
  have nw := hh.2.2.1.2.1
  have wM := hi.2.1.2.2.1
  have wW := hi.2.1.2.2.2
  have E7 := hi.1.2.2.2
  have E2 := hi.1.2.1
  have i7 : 7 < 250 := by omega
  have em : ¬ (-1 : Int32) = nI 0 := by decide +kernel
  have heE : ∀ j, j ≠ 6 → j ≠ 7 → upE E 7 0 j = E j := fun j _ h2 => upE_o _ h2
  have hmU : CM M 2 (upE E 7 0) z K0 K1 := CM_E heE hm
  have hwU : WE (upE E 7 0) := WE_E heE hw
  have e2U : upE E 7 0 2 = E 2 := upE_o _ (by omega)
  intro e he
  obtain ⟨e, rfl⟩ : ∃ d, e = d + 1 := ⟨e - 1, by omega⟩
  obtain ⟨M1, p1, p2, p3⟩ := c72e th mk (by omega) sd hmU hwU nw (by omega) (by omega) wM (by omega) (by rw [e2U]; omega) (e := e) (by omega)
  have kcl := n38e (M := M1) nw.1 (e := e) (by omega)
  have f31 : ∀ y, y ≠ 31 → j_up M1 31 1 (nI 0) y = M1 y := fun y hy => up_r _ _ _ _ hy
  have fm : ∀ y, y ≠ 31 → y < 65 ∨ 92 ≤ y → j_up M1 31 1 (nI 0) y = M y := fun y h1 h2 => by rw [f31 y h1, p3 y (by omega)]
  have hR1 : RC (j_up M1 31 1 (nI 0)) 115 E z K0 K1 := by
    unfold RC RLd Tx at hR ⊢
    rw [fm (115 + 1) (by omega) (by omega)]; exact hR
  have hRa : RC (j_up (j_up M1 31 1 (nI 0)) 116 7 (nI 0)) 115 (upE E 7 0) z K0 K1 := RC_ld (o := 115) (ld_up (by omega)) (RLd_up (o := 115) hR1.1 (by omega)) hR1
  obtain ⟨M3, k1, k2, k3⟩ := r149e (M := j_up (j_up M1 31 1 (nI 0)) 116 7 (nI 0)) md (e := e) (by omega)
  -- the reference's loop
  have wv : ∀ M' : Nat → Nat → Int32, rh 115 M3 M' → ∀ i, i < E 7 → M' 116 (80 + i) = W i := fun M' hr i hi' => by
    rw [show M' 116 (80 + i) = M3 116 (80 + i) from hr.2.2 (80 + i) (by omega), k3 116 (by omega), up_k _ _ _ _ (by omega), fm 116 (by omega) (by omega)]
    exact hi.2.2.1.2.2 i hi'
  have fin : ∀ (k : Nat) (v : Int32) (M' : Nat → Nat → Int32), k < 1000 → rh 115 M3 M' → (k = E 7 ∨ ¬ v = nI 0) → ∃ M4, j_X e 221 24 [some (.ref 115), some (.int (nI (E 7))), some (.int v), some (.int (nI k))] [] (FS h M') = some (some (.int v), FS h M4) ∧ RC M4 115 (upE E 7 0) z K0 K1 ∧ rg 115 (j_up (j_up M1 31 1 (nI 0)) 116 7 (nI 0)) M4 := by
    intro k v M' hk1 hr hv
    obtain ⟨M4, l1, l2, l3, l4⟩ := r150e (M := M') md (e := e) (by omega)
    obtain ⟨b1, b2⟩ := put_bk hRa k2 k3 hr l2 l3 l4
    refine ⟨M4, ?_, b1, b2⟩
    rw [st_221_24]
    by_cases c : k < E 7
    · have v0 := hv.resolve_left (by omega)
      simp (disch := omega) only [st_221_25, st_221_26, st_221_29, st_221_30, st_221_33, st_221_34, st_221_37, st_221_38, st_221_41, st_221_43, st_221_44, st_221_45, st_221_46, st_221_47, st_221_50, st_221_53, st_221_54, st_221_57, st_221_58, st_221_59, st_221_60, st_221_61, st_221_64, st_221_67, st_221_68, st_221_71, st_221_72, ini_221, fs_cl, fs_len, fs_rf, fs_M, fs_put, fs_cpy, ↓reduceIte, rv_ref, true_or, or_true, true_and, and_true, nI_ltI, ix_nI, nI_clamp, ps_i, ps_n, Option.bind_some, sm_0, sm_1, sm_2, sm_3, sm_4, sto_0, sto_1, sto_2, sto_3, sto_4, sto_5, sto_6, sto_7, sto_8, sto_9, sto_10, sto_11, sto_12, sto_13, sto_14, nlo_n, nlo_i, nlo_r, nlo_0, nlo_l, and_self, or_self, Nat.reduceEqDiff, Nat.reduceLT, Nat.reduceLeDiff, Nat.one_ne_zero, Nat.zero_ne_one, m0, c, v0, l1]
    · simp (disch := omega) only [st_221_25, st_221_26, st_221_29, st_221_30, st_221_33, st_221_34, st_221_37, st_221_38, st_221_41, st_221_43, st_221_44, st_221_45, st_221_46, st_221_47, st_221_50, st_221_53, st_221_54, st_221_57, st_221_58, st_221_59, st_221_60, st_221_61, st_221_64, st_221_67, st_221_68, st_221_71, st_221_72, ini_221, fs_cl, fs_len, fs_rf, fs_M, fs_put, fs_cpy, ↓reduceIte, rv_ref, true_or, or_true, true_and, and_true, nI_ltI, ix_nI, nI_clamp, ps_i, ps_n, Option.bind_some, sm_0, sm_1, sm_2, sm_3, sm_4, sto_0, sto_1, sto_2, sto_3, sto_4, sto_5, sto_6, sto_7, sto_8, sto_9, sto_10, sto_11, sto_12, sto_13, sto_14, nlo_n, nlo_i, nlo_r, nlo_0, nlo_l, and_self, or_self, Nat.reduceEqDiff, Nat.reduceLT, Nat.reduceLeDiff, Nat.one_ne_zero, Nat.zero_ne_one, m0, c, l1]
  have L : ∀ r k (E' : Nat → Nat) (M' : Nat → Nat → Int32), RC M' 115 E' z K0 K1 → WE E' → rh 115 M3 M' → E' 2 + r < 100000 → r + k = E 7 → ∃ M4, j_X e 221 24 [some (.ref 115), some (.int (nI (E 7))), some (.int (nI 0)), some (.int (nI k))] [] (FS h M') = some (some (.int (fwS W r k E' + nI 1)), FS h M4) ∧ RC M4 115 (upE E 7 0) z K0 K1 ∧ rg 115 (j_up (j_up M1 31 1 (nI 0)) 116 7 (nI 0)) M4 := by
    intro r
    induction r with
    | zero =>
      intro k E' M' hR' hw' hr hd hk1
      obtain ⟨M4, l1, l2⟩ := fin k (nI 0) M' (by omega) hr (.inl (by omega))
      refine ⟨M4, ?_, l2⟩
      rw [l1]
      have : fwS W 0 k E' + nI 1 = nI 0 := by show (-1 : Int32) + nI 1 = nI 0; decide +kernel
      rw [this]
    | succ r ih =>
      intro k E' M' hR' hw' hr hd hk1
      have c : k < E 7 := by omega
      obtain ⟨M5, y1, y2, y3⟩ := r187e md hR'.1 hw' (by omega) (e := e) (by omega)
      have hR5 := RC_ld y3 y2 hR'
      have hw5 := dayE_WE hw' (by omega)
      have y4 := r167e md hR5.1 hw5 (e := e) (by omega)
      have hr5 : rh 115 M3 M5 := rh_t hr (rh_ld y3)
      have wk : M5 (115 + 1) (80 + k) = W k := wv M5 hr5 k c
      have iw : 80 + k < 250 := by omega
      have d1 : dayE E' 1 = E' 1 := dayE_o (by omega) (by omega)
      rw [d1] at y4
      unfold fwS
      by_cases c2 : nI (smS (dayE E') (E' 1)) = W k
      · rw [if_pos c2]
        obtain ⟨M4, l1, l2⟩ := ih (k + 1) (dayE E') M5 hR5 hw5 hr5 (by rw [dayE_2]; omega) (by omega)
        refine ⟨M4, ?_, l2⟩
        rw [← l1, st_221_24]
        simp (disch := omega) only [st_221_25, st_221_26, st_221_29, st_221_30, st_221_33, st_221_34, st_221_37, st_221_38, st_221_41, st_221_43, st_221_44, st_221_45, st_221_46, st_221_47, st_221_50, st_221_53, st_221_54, st_221_57, st_221_58, st_221_59, st_221_60, st_221_61, st_221_64, ini_221, fs_cl, fs_len, fs_rf, fs_M, fs_put, fs_cpy, ↓reduceIte, rv_ref, true_or, or_true, true_and, and_true, nI_ltI, ix_nI, nI_clamp, ps_i, ps_n, Option.bind_some, sm_0, sm_1, sm_2, sm_3, sm_4, sto_0, sto_1, sto_2, sto_3, sto_4, sto_5, sto_6, sto_7, sto_8, sto_9, sto_10, sto_11, sto_12, sto_13, sto_14, nlo_n, nlo_i, nlo_r, nlo_0, nlo_l, and_self, or_self, Nat.reduceEqDiff, Nat.reduceLT, Nat.reduceLeDiff, Nat.one_ne_zero, Nat.zero_ne_one, m0, q0, a1, a2, c, y1, nI_add, iw, wk, y4, eq_true c2.symm]
      · rw [if_neg c2]
        have v0 : ¬ nI (1 + k) = nI 0 := nI_ne (by omega) (by omega) (by omega)
        obtain ⟨M4, l1, l2⟩ := fin (k + 1) (nI (1 + k)) M5 (by omega) hr5 (.inr v0)
        refine ⟨M4, ?_, l2⟩
        have c3 : ¬ W k = nI (smS (dayE E') (E' 1)) := fun hh => c2 hh.symm
        rw [show nI k + nI 1 = nI (1 + k) by rw [nI_add, Nat.add_comm], ← l1, st_221_24]
        simp (disch := omega) only [st_221_25, st_221_26, st_221_29, st_221_30, st_221_33, st_221_34, st_221_37, st_221_38, st_221_41, st_221_43, st_221_44, st_221_45, st_221_46, st_221_47, st_221_50, st_221_53, st_221_54, st_221_57, st_221_58, st_221_59, st_221_60, st_221_61, st_221_64, ini_221, fs_cl, fs_len, fs_rf, fs_M, fs_put, fs_cpy, ↓reduceIte, rv_ref, true_or, or_true, true_and, and_true, nI_ltI, ix_nI, nI_clamp, ps_i, ps_n, Option.bind_some, sm_0, sm_1, sm_2, sm_3, sm_4, sto_0, sto_1, sto_2, sto_3, sto_4, sto_5, sto_6, sto_7, sto_8, sto_9, sto_10, sto_11, sto_12, sto_13, sto_14, nlo_n, nlo_i, nlo_r, nlo_0, nlo_l, and_self, or_self, Nat.reduceEqDiff, Nat.reduceLT, Nat.reduceLeDiff, Nat.one_ne_zero, Nat.zero_ne_one, m0, q0, a1, a2, c, y1, nI_add, iw, wk, y4, c3]
  have hRk : RC M3 115 (upE E 7 0) z K0 K1 := RC_as hRa k3
  obtain ⟨M4, l1, l2, l3⟩ := L (E 7) 0 (upE E 7 0) M3 hRk hwU rh_r (by rw [e2U]; omega) (by omega)
  have g7 : j_up M1 31 1 (nI 0) (115 + 1) 7 = nI (E 7) := hR1.1.1 7 (by omega) (by omega)
  have ev : fwS (M 32) (E 7) 0 (upE E 7 0) = fwS W (E 7) 0 (upE E 7 0) := fwS_cg (E 7) 0 _ (fun j _ hj => wW j (by omega))
  refine ⟨fwS W (E 7) 0 (upE E 7 0) + nI 1, j_up M1 31 1 (nI 0), M4, ?_, ?_, fm 1003 (by omega) (by omega), upE E 7 0, z, K0, K1, T, W, ?_⟩
  · rw [← ev]
    (rw [j_C_eq]; simp (disch := omega) only [st_116_0, st_116_1, st_116_4, st_116_5, st_116_8, st_116_9, st_116_12, st_116_15, st_116_16, st_116_17, st_116_20, st_116_23, st_116_24, st_116_25, st_116_26, ini_116, fs_cl, fs_len, fs_rf, fs_M, fs_put, fs_cpy, ↓reduceIte, rv_ref, true_or, or_true, true_and, and_true, nI_ltI, ix_nI, nI_clamp, ps_i, ps_n, Option.bind_some, sm_0, sm_1, sm_2, sm_3, sm_4, sto_0, sto_1, sto_2, sto_3, sto_4, sto_5, sto_6, sto_7, sto_8, sto_9, sto_10, sto_11, sto_12, sto_13, sto_14, nlo_n, nlo_i, nlo_r, nlo_0, nlo_l, and_self, or_self, Nat.reduceEqDiff, Nat.reduceLT, Nat.reduceLeDiff, Nat.one_ne_zero, Nat.zero_ne_one, w0, f0, r7, m0, q0, a1, a2, e10, th.1, f2, nw.1, p1, kcl])
  · rw [j_C_eq]
    simp (disch := omega) only [st_221_0, st_221_1, st_221_4, st_221_6, st_221_7, st_221_8, st_221_9, st_221_12, st_221_14, st_221_15, st_221_16, st_221_17, st_221_20, st_221_21, st_221_22, st_221_23, ini_221, fs_cl, fs_len, fs_rf, fs_M, fs_put, fs_cpy, ↓reduceIte, rv_ref, true_or, or_true, true_and, and_true, nI_ltI, ix_nI, nI_clamp, ps_i, ps_n, Option.bind_some, sm_0, sm_1, sm_2, sm_3, sm_4, sto_0, sto_1, sto_2, sto_3, sto_4, sto_5, sto_6, sto_7, sto_8, sto_9, sto_10, sto_11, sto_12, sto_13, sto_14, nlo_n, nlo_i, nlo_r, nlo_0, nlo_l, and_self, or_self, Nat.reduceEqDiff, Nat.reduceLT, Nat.reduceLeDiff, Nat.one_ne_zero, Nat.zero_ne_one, m0, q0, a1, a2, i7, g7, k1]
    exact l1
  · have rgx : ∀ y, y ≠ 115 → y ≠ 116 → y ≠ 119 → y ≠ 120 → y ≠ 121 → M4 y = j_up M1 31 1 (nI 0) y := fun y h1 h2 h3 h4 h5 => by
      rw [l3.1 y h1 h2 h3 h4 h5, up_r _ _ _ _ h2]
    refine ie_w hi (by omega) (fun y hy => fm y (by omega) (by omega)) (fm 114 (by omega) (by omega)) (Sd_cg (f31 81 (by omega)) p2) (up_s _ _ _) (fun i hi' => by omega) (fun y hy => rgx y (by omega) (by omega) (by omega) (by omega) (by omega)) ?_ ?_ l2 (fun k hk1 => ?_) (fun i hi' => by omega)
    · rw [l3.2.1 2 (by omega), up_o _ _ _ _ _ (by omega)]
    · rw [l3.2.1 14 (by omega), up_o _ _ _ _ _ (by omega)]
    · rw [show M4 116 k = j_up (j_up M1 31 1 (nI 0)) 116 7 (nI 0) 116 k from l3.2.2 k (by omega), up_k _ _ _ _ (by omega), fm 116 (by omega) (by omega)]
theorem RPi_cg {A B : Nat → Int32} (hw : WX E) (he : ∀ k, k < 250 → B k = A k) (hr : RPi A E z K0 K1 T W) : RPi B E z K0 K1 T W := by
  obtain ⟨⟨⟨a1, a2⟩, a3, a4⟩, a5, a6⟩ := hr
  have e6 := hw.2.2.1
  have e7 := hw.2.2.2
  have hT : ∀ u K, u < 2 → Tx (fun _ => A) 0 u K → Tx (fun _ => B) 0 u K := by
    intro u K hu hT
    unfold Tx at hT ⊢
    show (K = [] ∧ B (78 + u) = nI 0) ∨ ∃ B' n, 1 ≤ n ∧ n ≤ 50 ∧ B (78 + u) = nI n ∧ (∀ i, i < n → B (100 + 50 * u + i) = nI (B' i) ∧ B' i < 256) ∧ txR B' n u = (true, n, K)
    rw [he _ (by omega)]
    rcases hT with q | ⟨B', m, q1, q2, q3, q4, q5⟩
    · exact .inl q
    · exact .inr ⟨B', m, q1, q2, q3, fun i hi' => by rw [he _ (by omega)]; exact q4 i hi', q5⟩
  refine ⟨⟨⟨fun k h1 h5 => ?_, ?_⟩, hT 0 K0 (by omega) a3, hT 1 K1 (by omega) a4⟩, fun i hi => by rw [he _ (by omega)]; exact a5 i hi, fun i hi => by rw [he _ (by omega)]; exact a6 i hi⟩
  · show B k = nI (E k)
    rw [he k (by omega)]; exact a1 k h1 h5
  · show B 5 = z
    rw [he 5 (by omega)]; exact a2
theorem r218l (hk : Md h o) {e : Nat} : ∀ r k (M : Nat → Nat → Int32), r + k = 250 → ∃ M', j_X e 218 2 [some (.ref o), some (.int (nI k))] [] (FS h M) = j_X e 218 27 [some (.ref o), some (.int (nI 250))] [] (FS h M') ∧ (∀ j, k ≤ j → j < 250 → M' (o + 2) j = M (o + 1) j) ∧ (∀ j, j < k → M' (o + 2) j = M (o + 2) j) ∧ ∀ x, x ≠ o + 2 → M' x = M x := by
  obtain ⟨m0, ⟨q0, a1, a2, a3⟩, ⟨q1, b1, b2, b3⟩, _⟩ := id hk
  intro r
  induction r with
  | zero =>
    intro k M hr
    have ek : k = 250 := by omega
    subst ek
    have e1 : ¬ 250 < 250 := by omega
    refine ⟨M, ?_, fun j h1 h2 => by omega, fun _ _ => rfl, fun _ _ => rfl⟩
    rw [st_218_2]
    simp (disch := omega) only [st_218_3, st_218_6, st_218_9, st_218_10, st_218_13, st_218_14, st_218_15, st_218_18, st_218_19, st_218_20, st_218_21, st_218_24, ini_218, fs_cl, fs_len, fs_rf, fs_M, fs_put, fs_cpy, ↓reduceIte, rv_ref, true_or, or_true, true_and, and_true, nI_ltI, ix_nI, nI_clamp, ps_i, ps_n, Option.bind_some, sm_0, sm_1, sm_2, sm_3, sm_4, sto_0, sto_1, sto_2, sto_3, sto_4, sto_5, sto_6, sto_7, sto_8, sto_9, sto_10, sto_11, sto_12, sto_13, sto_14, nlo_n, nlo_i, nlo_r, nlo_0, nlo_l, and_self, or_self, Nat.reduceEqDiff, Nat.reduceLT, Nat.reduceLeDiff, Nat.one_ne_zero, Nat.zero_ne_one, e1]
  | succ r ih =>
    intro k M hr
    have e1 : k < 250 := by omega
    obtain ⟨M', p1, p2, p3, p4⟩ := ih (k + 1) (j_up M (o + 2) k (M (o + 1) k)) (by omega)
    refine ⟨M', ?_, fun j h1 h2 => ?_, fun j hj => by rw [p3 j (by omega), up_k _ _ _ _ (by omega)], fun x hx => by rw [p4 x hx, up_r _ _ _ _ hx]⟩
    · rw [← p1, st_218_2]
      simp (disch := omega) only [st_218_3, st_218_6, st_218_9, st_218_10, st_218_13, st_218_14, st_218_15, st_218_18, st_218_19, st_218_20, st_218_21, st_218_24, ini_218, fs_cl, fs_len, fs_rf, fs_M, fs_put, fs_cpy, ↓reduceIte, rv_ref, true_or, or_true, true_and, and_true, nI_ltI, ix_nI, nI_clamp, ps_i, ps_n, Option.bind_some, sm_0, sm_1, sm_2, sm_3, sm_4, sto_0, sto_1, sto_2, sto_3, sto_4, sto_5, sto_6, sto_7, sto_8, sto_9, sto_10, sto_11, sto_12, sto_13, sto_14, nlo_n, nlo_i, nlo_r, nlo_0, nlo_l, and_self, or_self, Nat.reduceEqDiff, Nat.reduceLT, Nat.reduceLeDiff, Nat.one_ne_zero, Nat.zero_ne_one, m0, q0, q1, a1, a2, b1, b2, e1, nI_add]
    · by_cases ej : j = k
      · rw [ej, p3 k (by omega), up_s]
      · rw [p2 j (by omega) h2, up_o _ _ _ _ _ (by omega)]
theorem r219l (hk : Md h o) {e : Nat} : ∀ r k (M : Nat → Nat → Int32), r + k = 250 → ∃ M', j_X e 219 15 [some (.ref o), some (.int (nI k))] [] (FS h M) = j_X e 219 40 [some (.ref o), some (.int (nI 250))] [] (FS h M') ∧ (∀ j, k ≤ j → j < 250 → M' (o + 1) j = M (o + 2) j) ∧ (∀ j, j < k → M' (o + 1) j = M (o + 1) j) ∧ ∀ x, x ≠ o + 1 → M' x = M x := by
  obtain ⟨m0, ⟨q0, a1, a2, a3⟩, ⟨q1, b1, b2, b3⟩, _⟩ := id hk
  intro r
  induction r with
  | zero =>
    intro k M hr
    have ek : k = 250 := by omega
    subst ek
    have e1 : ¬ 250 < 250 := by omega
    refine ⟨M, ?_, fun j h1 h2 => by omega, fun _ _ => rfl, fun _ _ => rfl⟩
    rw [st_219_15]
    simp (disch := omega) only [st_219_16, st_219_19, st_219_22, st_219_23, st_219_26, st_219_27, st_219_28, st_219_31, st_219_32, st_219_33, st_219_34, st_219_37, ini_219, fs_cl, fs_len, fs_rf, fs_M, fs_put, fs_cpy, ↓reduceIte, rv_ref, true_or, or_true, true_and, and_true, nI_ltI, ix_nI, nI_clamp, ps_i, ps_n, Option.bind_some, sm_0, sm_1, sm_2, sm_3, sm_4, sto_0, sto_1, sto_2, sto_3, sto_4, sto_5, sto_6, sto_7, sto_8, sto_9, sto_10, sto_11, sto_12, sto_13, sto_14, nlo_n, nlo_i, nlo_r, nlo_0, nlo_l, and_self, or_self, Nat.reduceEqDiff, Nat.reduceLT, Nat.reduceLeDiff, Nat.one_ne_zero, Nat.zero_ne_one, e1]
  | succ r ih =>
    intro k M hr
    have e1 : k < 250 := by omega
    obtain ⟨M', p1, p2, p3, p4⟩ := ih (k + 1) (j_up M (o + 1) k (M (o + 2) k)) (by omega)
    refine ⟨M', ?_, fun j h1 h2 => ?_, fun j hj => by rw [p3 j (by omega), up_k _ _ _ _ (by omega)], fun x hx => by rw [p4 x hx, up_r _ _ _ _ hx]⟩
    · rw [← p1, st_219_15]
      simp (disch := omega) only [st_219_16, st_219_19, st_219_22, st_219_23, st_219_26, st_219_27, st_219_28, st_219_31, st_219_32, st_219_33, st_219_34, st_219_37, ini_219, fs_cl, fs_len, fs_rf, fs_M, fs_put, fs_cpy, ↓reduceIte, rv_ref, true_or, or_true, true_and, and_true, nI_ltI, ix_nI, nI_clamp, ps_i, ps_n, Option.bind_some, sm_0, sm_1, sm_2, sm_3, sm_4, sto_0, sto_1, sto_2, sto_3, sto_4, sto_5, sto_6, sto_7, sto_8, sto_9, sto_10, sto_11, sto_12, sto_13, sto_14, nlo_n, nlo_i, nlo_r, nlo_0, nlo_l, and_self, or_self, Nat.reduceEqDiff, Nat.reduceLT, Nat.reduceLeDiff, Nat.one_ne_zero, Nat.zero_ne_one, m0, q0, q1, a1, a2, b1, b2, e1, nI_add]
    · by_cases ej : j = k
      · rw [ej, p3 k (by omega), up_s]
      · rw [p2 j (by omega) h2, up_o _ _ _ _ _ (by omega)]
/-- the copy of all three -/
theorem cpy3 {b b2 tp tp2 wt wt2 : Nat} (hk : Mk h b) (hk2 : Mk h b2) (n1 : Nb h tp (tp + 1) 50) (n2 : Nb h tp2 (tp2 + 1) 50) (n3 : Nb h wt (wt + 1) 20) (n4 : Nb h wt2 (wt2 + 1) 20) (hd : b + 27 = tp ∧ tp + 2 = wt ∧ b2 + 27 = tp2 ∧ tp2 + 2 = wt2) (hdis : wt + 2 ≤ b2 ∨ wt2 + 2 ≤ b) (hst : Sd M b) (hc : CPi M b2 tp2 wt2 E z K0 K1 T W) (hw : WX E) {e : Nat} (he : 3 ≤ e) : ∃ M1 M2 M3, j_C e 5 [.ref b, .ref b2] (FS h M) = some (none, FS h M1) ∧ j_C e 41 [.ref tp, .ref tp2] (FS h M1) = some (none, FS h M2) ∧ j_C e 41 [.ref wt, .ref wt2] (FS h M2) = some (none, FS h M3) ∧ CPi M3 b tp wt E z K0 K1 T W ∧ ∀ x, x < b ∨ wt + 2 ≤ x → M3 x = M x := by
  obtain ⟨M1, p1, p2, p3⟩ := c5e hk hk2 (by omega) hst hc.1 hw.1 (e := e) (by omega)
  have t1 : M1 tp2 = M tp2 := p3 tp2 (by omega)
  have t2 : M1 (tp2 + 1) = M (tp2 + 1) := p3 (tp2 + 1) (by omega)
  obtain ⟨M2, q1, q2, q3, q4, q5⟩ := n41xe (M := M1) n1 n2 (by omega) (by omega) (by omega) (k := E 6) (by rw [t1]; exact hc.2.1.1) hw.2.2.1 hw.2.2.1 (e := e) (by omega)
  have w1 : M2 wt2 = M wt2 := by rw [q5 wt2 (by omega) (by omega), p3 wt2 (by omega)]
  have w2 : M2 (wt2 + 1) = M (wt2 + 1) := by rw [q5 (wt2 + 1) (by omega) (by omega), p3 (wt2 + 1) (by omega)]
  obtain ⟨M3, r1, r2, r3, r4, r5⟩ := n41xe (M := M2) n3 n4 (by omega) (by omega) (by omega) (k := E 7) (by rw [w1]; exact hc.2.2.1) hw.2.2.2 hw.2.2.2 (e := e) (by omega)
  refine ⟨M1, M2, M3, p1, q1, r1, ⟨CM_cg (fun x h1 h2 _ _ => by rw [r5 x (by omega) (by omega), q5 x (by omega) (by omega)]) p2, ⟨?_, fun i hi => ?_⟩, r2, fun i hi => ?_⟩, fun x hx => ?_⟩
  · rw [r5 tp (by omega) (by omega)]; exact q2
  · rw [r5 (tp + 1) (by omega) (by omega), q3 i hi, t2]; exact hc.2.1.2 i hi
  · rw [r3 i hi, w2]; exact hc.2.2.2 i hi
  · rw [r5 x (by omega) (by omega), q5 x (by omega) (by omega), p3 x (by omega)]
theorem g_image (hh : Hd h) (hi : IE M E z K0 K1 T W) : Go h M 113 218 [] := by
  have w0 := hh.1.1
  have f0 := hh.1.2.1
  have r7 := hh.1.2.2.2.2.2.2.2.1
  have mk := hh.2.1.1
  have th := hh.2.2.2.1.1
  have md : Md h 115 := hh.2.2.2.2.2.2.2.1
  have m0 := md.1
  have q0 := md.2.1.1
  have a1 := md.2.1.2.1
  have a2 := md.2.1.2.2.1
  have hw := hi.1.1
  have h6 := hw.1
  have h8 := hw.2.1
  have hm := hi.2.1.1
  have hs := hm.1
  have hR : RC M 115 E z K0 K1 := hi.2.2.1.1
  have sd := hi.2.2.2.1
  have e10 : ¬ nI 1 = nI 0 := by decide +kernel
  have f1 := hh.1.2.2.1
  have f2 := hh.1.2.2.2.1
  have f3 := hh.1.2.2.2.2.1
  have f4 := hh.1.2.2.2.2.2.1
  have f5 := hh.1.2.2.2.2.2.2.1
  have mk2 := hh.2.1.2
  obtain ⟨n1, n2, n3, n4⟩ := hh.2.2.1
  have q1 := md.2.2.1.1
  obtain ⟨x1, x2, x3, x4, x5, y1, y2, y3, y4, y5⟩ := id hi
  intro e he
  obtain ⟨e, rfl⟩ : ∃ d, e = d + 1 := ⟨e - 1, by omega⟩
  obtain ⟨M1, M2, M3, p1, p2, p3, p4, p5⟩ := cpy3 mk2 mk n3 n1 n4 n2 (by omega) (by omega) y1 hi.2.1 hi.1 (e := e) (by omega)
  obtain ⟨M4, s1, s2, s3, s4⟩ := r218l md (e := e) 250 0 (j_up M3 1 6 (M3 1 6 + nI 1)) (by omega)
  have fr : ∀ x, x ≠ 1 → x ≠ 115 → x ≠ 117 → x < 33 ∨ 64 ≤ x → j_up M4 115 2 (M4 115 2 + nI 1) x = M x := fun x h1 h2 h3 h4 => by
    rw [up_r _ _ _ _ h2, s4 x h3, up_r _ _ _ _ h1, p5 x (by omega)]
  have fr2 : ∀ x, 33 ≤ x → x < 64 → j_up M4 115 2 (M4 115 2 + nI 1) x = M3 x := fun x h1 h2 => by
    rw [up_r _ _ _ _ (by omega), s4 x (by omega), up_r _ _ _ _ (by omega)]
  have e115 : ∀ k, k ≠ 2 → j_up M4 115 2 (M4 115 2 + nI 1) 115 k = M 115 k := fun k hk => by
    rw [up_k _ _ _ _ hk, s4 115 (by omega), up_o _ _ _ _ _ (by omega), p5 115 (by omega)]
  have im3 : M3 1 6 = M 1 6 := by rw [p5 1 (by omega)]
  have im4 : M4 115 2 = M 115 2 := by rw [s4 115 (by omega), up_o _ _ _ _ _ (by omega), p5 115 (by omega)]
  refine ⟨M 1 6 + nI 1, j_up M3 1 6 (M3 1 6 + nI 1), j_up M4 115 2 (M4 115 2 + nI 1), ?_, ?_, by rw [up_r _ _ _ _ (by omega), p5 1003 (by omega)], E, z, K0, K1, T, W, x1, ?_, ?_, ?_, ?_, ?_, ?_, ?_, ?_, ?_⟩
  · (rw [j_C_eq]; simp (disch := omega) only [st_113_0, st_113_1, st_113_4, st_113_5, st_113_8, st_113_11, st_113_12, st_113_15, st_113_16, st_113_19, st_113_22, st_113_23, st_113_26, st_113_27, st_113_30, st_113_33, st_113_34, st_113_34r, st_113_35, st_113_38, st_113_39, st_113_40, st_113_43, st_113_44, st_113_47, ini_113, fs_cl, fs_len, fs_rf, fs_M, fs_put, fs_cpy, ↓reduceIte, rv_ref, true_or, or_true, true_and, and_true, nI_ltI, ix_nI, nI_clamp, ps_i, ps_n, Option.bind_some, sm_0, sm_1, sm_2, sm_3, sm_4, sto_0, sto_1, sto_2, sto_3, sto_4, sto_5, sto_6, sto_7, sto_8, sto_9, sto_10, sto_11, sto_12, sto_13, sto_14, nlo_n, nlo_i, nlo_r, nlo_0, nlo_l, and_self, or_self, Nat.reduceEqDiff, Nat.reduceLT, Nat.reduceLeDiff, Nat.one_ne_zero, Nat.zero_ne_one, w0, f0, r7, m0, q0, a1, a2, e10, f1, f2, f3, f4, f5, mk2.1, n3.1, n4.1, p1, p2, p3, up_s, im3])
  · rw [j_C_eq]
    simp (disch := omega) only [st_218_0, st_218_1, ini_218, fs_cl, fs_len, fs_rf, fs_M, fs_put, fs_cpy, ↓reduceIte, rv_ref, true_or, or_true, true_and, and_true, nI_ltI, ix_nI, nI_clamp, ps_i, ps_n, Option.bind_some, sm_0, sm_1, sm_2, sm_3, sm_4, sto_0, sto_1, sto_2, sto_3, sto_4, sto_5, sto_6, sto_7, sto_8, sto_9, sto_10, sto_11, sto_12, sto_13, sto_14, nlo_n, nlo_i, nlo_r, nlo_0, nlo_l, and_self, or_self, Nat.reduceEqDiff, Nat.reduceLT, Nat.reduceLeDiff, Nat.one_ne_zero, Nat.zero_ne_one]
    rw [s1]
    simp (disch := omega) only [st_218_27, st_218_28, st_218_28r, st_218_29, st_218_32, st_218_33, st_218_34, st_218_37, st_218_38, st_218_41, ini_218, fs_cl, fs_len, fs_rf, fs_M, fs_put, fs_cpy, ↓reduceIte, rv_ref, true_or, or_true, true_and, and_true, nI_ltI, ix_nI, nI_clamp, ps_i, ps_n, Option.bind_some, sm_0, sm_1, sm_2, sm_3, sm_4, sto_0, sto_1, sto_2, sto_3, sto_4, sto_5, sto_6, sto_7, sto_8, sto_9, sto_10, sto_11, sto_12, sto_13, sto_14, nlo_n, nlo_i, nlo_r, nlo_0, nlo_l, and_self, or_self, Nat.reduceEqDiff, Nat.reduceLT, Nat.reduceLeDiff, Nat.one_ne_zero, Nat.zero_ne_one, m0, up_s, im4, y2.1]
  · exact CPi_cg (fun x h1 h2 _ _ => fr x (by omega) (by omega) (by omega) (by omega)) (fr 29 (by omega) (by omega) (by omega) (by omega)) (fr 30 (by omega) (by omega) (by omega) (by omega)) (fr 31 (by omega) (by omega) (by omega) (by omega)) (fr 32 (by omega) (by omega) (by omega) (by omega)) x2
  · rw [fr 116 (by omega) (by omega) (by omega) (by omega)]; exact x3
  · exact Sd_cg (fr 81 (by omega) (by omega) (by omega) (by omega)) x4
  · intro k h1 h2
    rw [fr 114 (by omega) (by omega) (by omega) (by omega), fr 118 (by omega) (by omega) (by omega) (by omega)]
    exact x5 k h1 h2
  · exact Sd_cg (M := M3) (fr2 49 (by omega) (by omega)) p4.1.2.2.2.1
  · refine ⟨?_, .inr ⟨E, z, K0, K1, T, W, x1, CPi_cg (M := M3) (fun x h1 h2 _ _ => fr2 x (by omega) (by omega)) (fr2 60 (by omega) (by omega)) (fr2 61 (by omega) (by omega)) (fr2 62 (by omega) (by omega)) (fr2 63 (by omega) (by omega)) p4, RPi_cg x1 (fun k hk1 => ?_) x3⟩⟩
    · rw [up_s, up_o _ _ _ _ _ (by omega), s4 1 (by omega), up_s, im3, im4, y2.1]
    · rw [up_r _ _ _ _ (by omega), show M4 117 k = j_up M3 1 6 (M3 1 6 + nI 1) 116 k from s2 k (by omega) hk1, up_o _ _ _ _ _ (by omega), p5 116 (by omega)]
  · unfold VP at y3 ⊢
    rw [e115 14 (by omega), fr 98 (by omega) (by omega) (by omega) (by omega), fr 99 (by omega) (by omega) (by omega) (by omega), fr 122 (by omega) (by omega) (by omega) (by omega)]; exact y3
  · intro s hs
    rw [fr (101 + 3 * s) (by omega) (by omega) (by omega) (by omega), fr (102 + 3 * s) (by omega) (by omega) (by omega) (by omega), fr (103 + 3 * s) (by omega) (by omega) (by omega) (by omega), fr 123 (by omega) (by omega) (by omega) (by omega), fr 124 (by omega) (by omega) (by omega) (by omega), fr 125 (by omega) (by omega) (by omega) (by omega)]
    exact y4 s hs
  · unfold ST at y5 ⊢
    rw [fr 1001 (by omega) (by omega) (by omega) (by omega), fr 1002 (by omega) (by omega) (by omega) (by omega)]; exact y5
theorem g_restore (hh : Hd h) (hi : IE M E z K0 K1 T W) : Go h M 114 219 [] := by
  have w0 := hh.1.1
  have f0 := hh.1.2.1
  have r7 := hh.1.2.2.2.2.2.2.2.1
  have mk := hh.2.1.1
  have th := hh.2.2.2.1.1
  have md : Md h 115 := hh.2.2.2.2.2.2.2.1
  have m0 := md.1
  have q0 := md.2.1.1
  have a1 := md.2.1.2.1
  have a2 := md.2.1.2.2.1
  have hw := hi.1.1
  have h6 := hw.1
  have h8 := hw.2.1
  have hm := hi.2.1.1
  have hs := hm.1
  have hR : RC M 115 E z K0 K1 := hi.2.2.1.1
  have sd := hi.2.2.2.1
  have e10 : ¬ nI 1 = nI 0 := by decide +kernel
  have f1 := hh.1.2.2.1
  have f2 := hh.1.2.2.2.1
  have f3 := hh.1.2.2.2.2.1
  have f4 := hh.1.2.2.2.2.2.1
  have f5 := hh.1.2.2.2.2.2.2.1
  have mk2 := hh.2.1.2
  obtain ⟨n1, n2, n3, n4⟩ := hh.2.2.1
  have q1 := md.2.2.1.1
  obtain ⟨x1, x2, x3, x4, x5, y1, y2, y3, y4, y5⟩ := id hi
  by_cases c0 : M 1 6 = nI 0
  · refine go_f hi (k := 2) ?_
    intro e he
    obtain ⟨e, rfl⟩ : ∃ d, e = d + 1 := ⟨e - 1, by omega⟩
    have kf := c119 (M := M) hh (k := 2) (by omega) (e := e) (by omega)
    have kf2 := r142 (M := fc 2 M) md (k := 2) (by omega) (e := e) (by omega)
    have i2 : fc 2 M 115 2 = nI 0 := by unfold fc; rw [up_o _ _ _ _ _ (by omega), y2.1]; exact c0
    refine ⟨M, fc 2 M, ?_, cq_r, sd, ?_, rg_r, RC_fc hR⟩
    · (rw [j_C_eq]; simp (disch := omega) only [st_114_0, st_114_1, st_114_4, st_114_7, st_114_8, st_114_9, st_114_12, st_114_13, st_114_14, st_114_17, st_114_18, st_114_21, st_114_24, st_114_25, st_114_28, st_114_29, st_114_32, st_114_35, st_114_36, st_114_39, st_114_40, st_114_43, st_114_46, st_114_47, st_114_50, st_114_53, ini_114, fs_cl, fs_len, fs_rf, fs_M, fs_put, fs_cpy, ↓reduceIte, rv_ref, true_or, or_true, true_and, and_true, nI_ltI, ix_nI, nI_clamp, ps_i, ps_n, Option.bind_some, sm_0, sm_1, sm_2, sm_3, sm_4, sto_0, sto_1, sto_2, sto_3, sto_4, sto_5, sto_6, sto_7, sto_8, sto_9, sto_10, sto_11, sto_12, sto_13, sto_14, nlo_n, nlo_i, nlo_r, nlo_0, nlo_l, and_self, or_self, Nat.reduceEqDiff, Nat.reduceLT, Nat.reduceLeDiff, Nat.one_ne_zero, Nat.zero_ne_one, w0, f0, r7, m0, q0, a1, a2, e10, eq_true c0, kf])
    · (rw [j_C_eq]; simp (disch := omega) only [st_219_0, st_219_1, st_219_4, st_219_7, st_219_8, st_219_9, st_219_12, st_219_13, st_219_14, st_219_16, st_219_19, st_219_22, st_219_23, st_219_26, st_219_27, st_219_28, st_219_31, st_219_32, st_219_33, st_219_34, st_219_37, st_219_40, st_219_41, st_219_44, st_219_45, st_219_46, ini_219, fs_cl, fs_len, fs_rf, fs_M, fs_put, fs_cpy, ↓reduceIte, rv_ref, true_or, or_true, true_and, and_true, nI_ltI, ix_nI, nI_clamp, ps_i, ps_n, Option.bind_some, sm_0, sm_1, sm_2, sm_3, sm_4, sto_0, sto_1, sto_2, sto_3, sto_4, sto_5, sto_6, sto_7, sto_8, sto_9, sto_10, sto_11, sto_12, sto_13, sto_14, nlo_n, nlo_i, nlo_r, nlo_0, nlo_l, and_self, or_self, Nat.reduceEqDiff, Nat.reduceLT, Nat.reduceLeDiff, Nat.one_ne_zero, Nat.zero_ne_one, w0, f0, r7, m0, q0, a1, a2, e10, i2, kf2])
  · obtain ⟨E', z', L0, L1, T', W', w1, w2, w3⟩ := y2.2.resolve_left c0
    intro e he
    obtain ⟨e, rfl⟩ : ∃ d, e = d + 1 := ⟨e - 1, by omega⟩
    obtain ⟨M1, M2, M3, p1, p2, p3, p4, p5⟩ := cpy3 mk mk2 n1 n3 n2 n4 (by omega) (by omega) hm.2.2.2.1 w2 w1 (e := e) (by omega)
    obtain ⟨M4, s1, s2, s3, s4⟩ := r219l md (e := e) 250 0 M3 (by omega)
    have fr : ∀ x, x ≠ 116 → x < 2 ∨ 33 ≤ x → M4 x = M x := fun x h1 h2 => by rw [s4 x h1, p5 x (by omega)]
    have m4k : ∀ k, k < 250 → M4 116 k = M 117 k := fun k hk1 => by
      rw [show M4 116 k = M3 117 k from s2 k (by omega) hk1, p5 117 (by omega)]
    have hr4 : RPi (M4 116) E' z' L0 L1 T' W' := RPi_cg w1 m4k w3
    have d2 : M3 2 10 = nI (E' 2) := p4.1.2.2.2.2.1.1
    have i2 : 2 < 250 := by omega
    have g2 : M4 (115 + 1) 2 = nI (E' 2) := hr4.1.1.1 2 (by omega) (by omega)
    have im3 : M3 115 2 = M 1 6 := by rw [p5 115 (by omega), y2.1]
    refine ⟨nI (E' 2), M3, M4, ?_, ?_, p5 1003 (by omega), E', z', L0, L1, T', W', ?_⟩
    · (rw [j_C_eq]; simp (disch := omega) only [st_114_0, st_114_1, st_114_4, st_114_7, st_114_8, st_114_9, st_114_12, st_114_13, st_114_14, st_114_17, st_114_18, st_114_21, st_114_24, st_114_25, st_114_28, st_114_29, st_114_32, st_114_35, st_114_36, st_114_39, st_114_40, st_114_43, st_114_46, st_114_47, st_114_50, st_114_53, ini_114, fs_cl, fs_len, fs_rf, fs_M, fs_put, fs_cpy, ↓reduceIte, rv_ref, true_or, or_true, true_and, and_true, nI_ltI, ix_nI, nI_clamp, ps_i, ps_n, Option.bind_some, sm_0, sm_1, sm_2, sm_3, sm_4, sto_0, sto_1, sto_2, sto_3, sto_4, sto_5, sto_6, sto_7, sto_8, sto_9, sto_10, sto_11, sto_12, sto_13, sto_14, nlo_n, nlo_i, nlo_r, nlo_0, nlo_l, and_self, or_self, Nat.reduceEqDiff, Nat.reduceLT, Nat.reduceLeDiff, Nat.one_ne_zero, Nat.zero_ne_one, w0, f0, r7, m0, q0, a1, a2, e10, f1, f2, f3, f4, f5, mk.1, n1.1, n2.1, c0, p1, p2, p3, d2])
    · rw [j_C_eq]
      simp (disch := omega) only [st_219_0, st_219_1, st_219_4, st_219_7, st_219_8, st_219_9, st_219_12, st_219_13, st_219_14, ini_219, fs_cl, fs_len, fs_rf, fs_M, fs_put, fs_cpy, ↓reduceIte, rv_ref, true_or, or_true, true_and, and_true, nI_ltI, ix_nI, nI_clamp, ps_i, ps_n, Option.bind_some, sm_0, sm_1, sm_2, sm_3, sm_4, sto_0, sto_1, sto_2, sto_3, sto_4, sto_5, sto_6, sto_7, sto_8, sto_9, sto_10, sto_11, sto_12, sto_13, sto_14, nlo_n, nlo_i, nlo_r, nlo_0, nlo_l, and_self, or_self, Nat.reduceEqDiff, Nat.reduceLT, Nat.reduceLeDiff, Nat.one_ne_zero, Nat.zero_ne_one, m0, im3, c0]
      rw [s1]
      simp (disch := omega) only [st_219_40, st_219_41, st_219_44, st_219_45, st_219_46, ini_219, fs_cl, fs_len, fs_rf, fs_M, fs_put, fs_cpy, ↓reduceIte, rv_ref, true_or, or_true, true_and, and_true, nI_ltI, ix_nI, nI_clamp, ps_i, ps_n, Option.bind_some, sm_0, sm_1, sm_2, sm_3, sm_4, sto_0, sto_1, sto_2, sto_3, sto_4, sto_5, sto_6, sto_7, sto_8, sto_9, sto_10, sto_11, sto_12, sto_13, sto_14, nlo_n, nlo_i, nlo_r, nlo_0, nlo_l, and_self, or_self, Nat.reduceEqDiff, Nat.reduceLT, Nat.reduceLeDiff, Nat.one_ne_zero, Nat.zero_ne_one, m0, q0, a1, a2, i2, g2]
    · refine ie_g hi (fun y hy => p5 y (by omega)) (Sd_cg (p5 81 (by omega)) sd) (fun y hy => s4 y (by omega)) (by rw [s4 115 (by omega)]) (by rw [s4 115 (by omega)]) ?_ w1 p4 hr4
      intro k h1 h2
      rw [fr 114 (by omega) (by omega), fr 118 (by omega) (by omega)]
      exact x5 k h1 h2
