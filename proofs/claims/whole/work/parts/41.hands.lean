/-! The class's Thoughts: hands. -/
variable {h : j_Hd} {M : Nat → Nat → Int32} {σ : j_St} {d b w : Nat} {E T : Nat → Nat} {z : Int32} {K0 K1 : List Int32}
def haS (E : Nat → Nat) (rv v n s : Nat) : Nat → Nat → Int32 → Bool
  | 0, _, _ => true
  | r + 1, p, x => if nI (dg v n (s - 1 - p)) = x then false else if E (10 + 5 * dg v n (s - 1 - p)) = dg rv 10 (s - 1 - p) then haS E rv v n s r (p + 1) (nI (dg v n (s - 1 - p))) else false
theorem c67 (ht : Th h w) (hk : Mk h b) (hm : CM M b E z K0 K1) (hw : WE E) {rv v n s : Nat} (hrv : rv < 1000) (hn : 0 < n) (hnE : n = E 0) (hv : v < 1000) (hs : s ≤ 3) (hf : FdT M w v n s) : j_C (d + 3) 67 [.ref w, .ref b, .int (nI rv)] (FS h M) = some (some (.int (if haS E rv v n s s 0 (-1) = true then nI 1 else nI 0)), FS h M) := by
  obtain ⟨t0, t1, t2, t3, t4⟩ := id ht
  have h6 := hw.1
  have m0 := hk.1
  obtain ⟨_, _, _, ⟨x2, y2⟩, _⟩ := id hk
  have e4 := hf.2.2
  have L : ∀ r p (x : Int32) (o5 : Option Value), r + p = s → j_X (d + 2) 67 5 [some (.ref w), some (.ref b), some (.int (nI rv)), some (.int x), some (.int (nI p)), o5] [] (FS h M) = some (some (.int (if haS E rv v n s r p x = true then nI 1 else nI 0)), FS h M) := by
    intro r
    induction r with
    | zero =>
      intro p x o5 hr
      have e1 : ¬ p < s := by omega
      rw [st_67_5]
      simp (disch := omega) only [st_67_0, st_67_1, st_67_2, st_67_3, st_67_7, st_67_8, st_67_11, st_67_14, st_67_15, st_67_17, st_67_20, st_67_22, st_67_24, st_67_25, st_67_28, st_67_29, st_67_32, st_67_34, st_67_37, st_67_38, st_67_40, st_67_41, st_67_44, st_67_46, st_67_49, st_67_52, st_67_53, st_67_54, st_67_56, st_67_57, st_67_60, st_67_63, st_67_64, ini_67, fs_cl, fs_len, fs_rf, fs_M, fs_put, fs_cpy, ↓reduceIte, rv_ref, true_or, or_true, true_and, and_true, nI_ltI, ix_nI, nI_clamp, ps_i, ps_n, Option.bind_some, sm_0, sm_1, sm_2, sm_3, sm_4, sto_0, sto_1, sto_2, sto_3, sto_4, sto_5, sto_6, sto_7, sto_8, sto_9, sto_10, sto_11, sto_12, sto_13, sto_14, nlo_n, nlo_i, nlo_r, nlo_0, nlo_l, and_self, or_self, Nat.reduceEqDiff, Nat.reduceLT, Nat.reduceLeDiff, Nat.one_ne_zero, Nat.zero_ne_one, t0, e4, e1]
      rfl
    | succ r ih =>
      intro p x o5 hr
      have e1 : p < s := by omega
      have g := c65 (d := d) ht hf hn (by omega) (by omega) (by omega) (by omega : p < 1000)
      have tl : dg v n (s - 1 - p) < n := Nat.mod_lt _ hn
      have wv := hw.2.2.2.2.2.2.1 (dg v n (s - 1 - p)) (by omega)
      have wv2 := wv.2.2.2.1
      have gw := n33i (d := d + 1) (M := M) y2 (by omega : dg v n (s - 1 - p) < 6)
      rw [(hm.2.1 _ (by omega)).2.2.1] at gw
      have gd := c139 (σ := FS h M) (d := d + 1) (v := rv) (b := 10) (s := s) (p := p) (by omega) (by omega) (by omega) (by omega) (by omega)
      have dl : dg rv 10 (s - 1 - p) < 10 := Nat.mod_lt _ (by omega)
      unfold haS
      rw [st_67_5]
      by_cases e2 : nI (dg v n (s - 1 - p)) = x
      · rw [if_pos e2]
        simp (disch := omega) only [st_67_0, st_67_1, st_67_2, st_67_3, st_67_7, st_67_8, st_67_11, st_67_14, st_67_15, st_67_17, st_67_20, st_67_22, st_67_24, st_67_25, st_67_28, st_67_29, st_67_32, st_67_34, st_67_37, st_67_38, st_67_40, st_67_41, st_67_44, st_67_46, st_67_49, st_67_52, st_67_53, st_67_54, st_67_56, st_67_57, st_67_60, st_67_63, st_67_64, ini_67, fs_cl, fs_len, fs_rf, fs_M, fs_put, fs_cpy, ↓reduceIte, rv_ref, true_or, or_true, true_and, and_true, nI_ltI, ix_nI, nI_clamp, ps_i, ps_n, Option.bind_some, sm_0, sm_1, sm_2, sm_3, sm_4, sto_0, sto_1, sto_2, sto_3, sto_4, sto_5, sto_6, sto_7, sto_8, sto_9, sto_10, sto_11, sto_12, sto_13, sto_14, nlo_n, nlo_i, nlo_r, nlo_0, nlo_l, and_self, or_self, Nat.reduceEqDiff, Nat.reduceLT, Nat.reduceLeDiff, Nat.one_ne_zero, Nat.zero_ne_one, t0, e4, e1, g, eq_true e2]
        rfl
      · rw [if_neg e2]
        by_cases e3 : E (10 + 5 * dg v n (s - 1 - p)) = dg rv 10 (s - 1 - p)
        · have hX := ih (p + 1) (nI (dg v n (s - 1 - p))) (some (.int (nI (dg v n (s - 1 - p))))) (by omega)
          rw [if_pos e3]
          simp (disch := omega) only [st_67_0, st_67_1, st_67_2, st_67_3, st_67_7, st_67_8, st_67_11, st_67_14, st_67_15, st_67_17, st_67_20, st_67_22, st_67_24, st_67_25, st_67_28, st_67_29, st_67_32, st_67_34, st_67_37, st_67_38, st_67_40, st_67_41, st_67_44, st_67_46, st_67_49, st_67_52, st_67_53, st_67_54, st_67_56, st_67_57, st_67_60, st_67_63, st_67_64, ini_67, fs_cl, fs_len, fs_rf, fs_M, fs_put, fs_cpy, ↓reduceIte, rv_ref, true_or, or_true, true_and, and_true, nI_ltI, ix_nI, nI_clamp, ps_i, ps_n, Option.bind_some, sm_0, sm_1, sm_2, sm_3, sm_4, sto_0, sto_1, sto_2, sto_3, sto_4, sto_5, sto_6, sto_7, sto_8, sto_9, sto_10, sto_11, sto_12, sto_13, sto_14, nlo_n, nlo_i, nlo_r, nlo_0, nlo_l, and_self, or_self, Nat.reduceEqDiff, Nat.reduceLT, Nat.reduceLeDiff, Nat.one_ne_zero, Nat.zero_ne_one, t0, m0, x2, y2.1, e4, e1, g, e2, gw, gd, nI_eq, eq_true e3, nI_add, hX]
        · rw [if_neg e3]
          simp (disch := omega) only [st_67_0, st_67_1, st_67_2, st_67_3, st_67_7, st_67_8, st_67_11, st_67_14, st_67_15, st_67_17, st_67_20, st_67_22, st_67_24, st_67_25, st_67_28, st_67_29, st_67_32, st_67_34, st_67_37, st_67_38, st_67_40, st_67_41, st_67_44, st_67_46, st_67_49, st_67_52, st_67_53, st_67_54, st_67_56, st_67_57, st_67_60, st_67_63, st_67_64, ini_67, fs_cl, fs_len, fs_rf, fs_M, fs_put, fs_cpy, ↓reduceIte, rv_ref, true_or, or_true, true_and, and_true, nI_ltI, ix_nI, nI_clamp, ps_i, ps_n, Option.bind_some, sm_0, sm_1, sm_2, sm_3, sm_4, sto_0, sto_1, sto_2, sto_3, sto_4, sto_5, sto_6, sto_7, sto_8, sto_9, sto_10, sto_11, sto_12, sto_13, sto_14, nlo_n, nlo_i, nlo_r, nlo_0, nlo_l, and_self, or_self, Nat.reduceEqDiff, Nat.reduceLT, Nat.reduceLeDiff, Nat.one_ne_zero, Nat.zero_ne_one, t0, m0, x2, y2.1, e4, e1, g, e2, gw, gd, nI_eq, e3]
          rfl
  have hX := L s 0 (-1) none (by omega)
  rw [j_C_eq]
  simp only [st_67_0, st_67_1, st_67_2, st_67_3, st_67_7, st_67_8, st_67_11, st_67_14, st_67_15, st_67_17, st_67_20, st_67_22, st_67_24, st_67_25, st_67_28, st_67_29, st_67_32, st_67_34, st_67_37, st_67_38, st_67_40, st_67_41, st_67_44, st_67_46, st_67_49, st_67_52, st_67_53, st_67_54, st_67_56, st_67_57, st_67_60, st_67_63, st_67_64, ini_67, fs_cl, fs_len, fs_rf, fs_M, fs_put, fs_cpy, ↓reduceIte, rv_ref, true_or, or_true, true_and, and_true, nI_ltI, ix_nI, nI_clamp, ps_i, ps_n, Option.bind_some, sm_0, sm_1, sm_2, sm_3, sm_4, sto_0, sto_1, sto_2, sto_3, sto_4, sto_5, sto_6, sto_7, sto_8, sto_9, sto_10, sto_11, sto_12, sto_13, sto_14, nlo_n, nlo_i, nlo_r, nlo_0, nlo_l, and_self, or_self, Nat.reduceEqDiff, Nat.reduceLT, Nat.reduceLeDiff, Nat.one_ne_zero, Nat.zero_ne_one]
  exact hX
/-- the ways: the first and how many -/
def hwS (E : Nat → Nat) (rv n s : Nat) : Nat → Nat → Nat → Nat → Nat × Nat
  | 0, _, f, k => (f, k)
  | r + 1, v, f, k => if haS E rv v n s s 0 (-1) = true then hwS E rv n s r (v + 1) (if k = 0 then v else f) (k + 1) else hwS E rv n s r (v + 1) f k
theorem c66 (ht : Th h w) (hk : Mk h b) (hdis : b + 27 ≤ w) (hm : CM M b E z K0 K1) (hw : WE E) {c : Nat} (hc : c < E 1) : ∃ M', j_C (d + 4) 66 [.ref w, .ref b, .int (nI c)] (FS h M) = some (some (.int (nI (hwS E (rE E c) (E 0) (nE E c) (E 0 ^ nE E c) 0 0 0).2)), FS h M') ∧ FdT M' w (hwS E (rE E c) (E 0) (nE E c) (E 0 ^ nE E c) 0 0 0).1 (E 0) (nE E c) ∧ ∀ x, x ≠ w → M' x = M x := by
  obtain ⟨t0, t1, t2, t3, t4⟩ := id ht
  have h8 := hw.2.1
  have h6 := hw.1
  have m0 := hk.1
  have cv := hw.2.2.2.2.2.2.2 c hc
  have ch := cv.2.2.1
  have n0 : 0 < E 0 := by omega
  have n3 := nE_le (E := E) c
  have rl : rE E c < 1000 := rn_lt cv.2.2.2
  have pw3 : E 0 ^ nE E c ≤ 216 := by
    have e1 := Nat.pow_le_pow_left h6 (nE E c)
    have e2 := Nat.pow_le_pow_right (show 0 < 6 by omega) n3
    omega
  obtain ⟨_, _, _, _, _, _, _, _, ⟨x7, y7⟩, _⟩ := id hk
  have F2 : ∀ σ d, j_C (d + 1) 133 [.int (nI (rE E c))] σ = some (some (.int (nI (nE E c))), σ) := fun σ d => by
    have := c133 (σ := σ) (d := d) (v := rE E c) (by omega)
    rw [this]; unfold rE nE; rw [sz_rn cv.2.2.2]
  have e10 : ¬ nI 1 = nI 0 := by decide +kernel
  have L : ∀ r v f k (M : Nat → Nat → Int32), CM M b E z K0 K1 → r + v = E 0 ^ nE E c → k ≤ v → f ≤ v → ∃ M', j_X (d + 3) 66 31 [some (.ref w), some (.ref b), some (.int (nI c)), some (.int (nI (rE E c))), some (.int (nI (E 0 ^ nE E c))), some (.int (nI f)), some (.int (nI k)), some (.int (nI v))] [] (FS h M) = some (some (.int (nI (hwS E (rE E c) (E 0) (nE E c) r v f k).2)), FS h M') ∧ FdT M' w (hwS E (rE E c) (E 0) (nE E c) r v f k).1 (E 0) (nE E c) ∧ ∀ x, x ≠ w → M' x = M x := by
    intro r
    induction r with
    | zero =>
      intro v f k M hm hr hkv hfv
      have e1 : ¬ v < E 0 ^ nE E c := by omega
      have g6 := c6 (d := d + 1) (M := M) hk
      rw [hm.1.1] at g6
      refine ⟨_, ?_, FdT_up f (E 0) (nE E c), fun x hx => by rw [up_r _ _ _ _ hx, up_r _ _ _ _ hx, up_r _ _ _ _ hx]⟩
      rw [st_66_31]
      simp (disch := omega) only [st_66_0, st_66_1, st_66_4, st_66_5, st_66_8, st_66_9, st_66_10, st_66_13, st_66_14, st_66_17, st_66_20, st_66_22, st_66_23, st_66_25, st_66_26, st_66_28, st_66_29, st_66_33, st_66_35, st_66_38, st_66_39, st_66_41, st_66_42, st_66_45, st_66_46, st_66_49, st_66_52, st_66_53, st_66_54, st_66_55, st_66_58, st_66_61, st_66_63, st_66_66, st_66_68, st_66_71, st_66_73, st_66_75, st_66_78, st_66_81, st_66_84, st_66_85, st_66_87, st_66_88, st_66_91, st_66_92, st_66_95, st_66_98, st_66_100, ini_66, fs_cl, fs_len, fs_rf, fs_M, fs_put, fs_cpy, ↓reduceIte, rv_ref, true_or, or_true, true_and, and_true, nI_ltI, ix_nI, nI_clamp, ps_i, ps_n, Option.bind_some, sm_0, sm_1, sm_2, sm_3, sm_4, sto_0, sto_1, sto_2, sto_3, sto_4, sto_5, sto_6, sto_7, sto_8, sto_9, sto_10, sto_11, sto_12, sto_13, sto_14, nlo_n, nlo_i, nlo_r, nlo_0, nlo_l, and_self, or_self, Nat.reduceEqDiff, Nat.reduceLT, Nat.reduceLeDiff, Nat.one_ne_zero, Nat.zero_ne_one, t0, m0, e1, g6, F2, c64 ht]
      rfl
    | succ r ih =>
      intro v f k M hm hr hkv hfv
      have e1 : v < E 0 ^ nE E c := by omega
      have g6 := c6 (d := d + 1) (M := M) hk
      rw [hm.1.1] at g6
      have hmb : CM (j_up (j_up (j_up M w 2 (nI v)) w 3 (nI (E 0))) w 4 (nI (nE E c))) b E z K0 K1 := CM_cg (fun x h1 h2 _ _ => by rw [up_r _ _ _ _ (by omega), up_r _ _ _ _ (by omega), up_r _ _ _ _ (by omega)]) hm
      have fB := FdT_up (M := M) (w := w) v (E 0) (nE E c)
      have g67 := c67 (d := d) ht hk hmb hw rl n0 rfl (by omega) n3 fB
      have fr : ∀ x, x ≠ w → j_up (j_up (j_up M w 2 (nI v)) w 3 (nI (E 0))) w 4 (nI (nE E c)) x = M x := fun x hx => by rw [up_r _ _ _ _ hx, up_r _ _ _ _ hx, up_r _ _ _ _ hx]
      unfold hwS
      by_cases ca : haS E (rE E c) v (E 0) (nE E c) (nE E c) 0 (-1) = true
      · rw [if_pos ca] at g67
        rw [if_pos ca]
        by_cases ck : k = 0
        · subst ck
          rw [if_pos rfl]
          obtain ⟨M', p1, p2, p3⟩ := ih (v + 1) v (0 + 1) _ hmb (by omega) (by omega) (by omega)
          refine ⟨M', ?_, p2, fun x hx => by rw [p3 x hx, fr x hx]⟩
          rw [st_66_31]
          simp (disch := omega) only [st_66_0, st_66_1, st_66_4, st_66_5, st_66_8, st_66_9, st_66_10, st_66_13, st_66_14, st_66_17, st_66_20, st_66_22, st_66_23, st_66_25, st_66_26, st_66_28, st_66_29, st_66_33, st_66_35, st_66_38, st_66_39, st_66_41, st_66_42, st_66_45, st_66_46, st_66_49, st_66_52, st_66_53, st_66_54, st_66_55, st_66_58, st_66_61, st_66_63, st_66_66, st_66_68, st_66_71, st_66_73, st_66_75, st_66_78, st_66_81, st_66_84, st_66_85, st_66_87, st_66_88, st_66_91, st_66_92, st_66_95, st_66_98, st_66_100, ini_66, fs_cl, fs_len, fs_rf, fs_M, fs_put, fs_cpy, ↓reduceIte, rv_ref, true_or, or_true, true_and, and_true, nI_ltI, ix_nI, nI_clamp, ps_i, ps_n, Option.bind_some, sm_0, sm_1, sm_2, sm_3, sm_4, sto_0, sto_1, sto_2, sto_3, sto_4, sto_5, sto_6, sto_7, sto_8, sto_9, sto_10, sto_11, sto_12, sto_13, sto_14, nlo_n, nlo_i, nlo_r, nlo_0, nlo_l, and_self, or_self, Nat.reduceEqDiff, Nat.reduceLT, Nat.reduceLeDiff, Nat.one_ne_zero, Nat.zero_ne_one, t0, m0, e1, g6, F2, c64 ht, g67, e10, nI_add, p1]
        · rw [if_neg ck]
          have ck' : ¬ nI k = nI 0 := nI_ne ck (by omega) (by omega)
          obtain ⟨M', p1, p2, p3⟩ := ih (v + 1) f (k + 1) _ hmb (by omega) (by omega) (by omega)
          refine ⟨M', ?_, p2, fun x hx => by rw [p3 x hx, fr x hx]⟩
          rw [st_66_31]
          simp (disch := omega) only [st_66_0, st_66_1, st_66_4, st_66_5, st_66_8, st_66_9, st_66_10, st_66_13, st_66_14, st_66_17, st_66_20, st_66_22, st_66_23, st_66_25, st_66_26, st_66_28, st_66_29, st_66_33, st_66_35, st_66_38, st_66_39, st_66_41, st_66_42, st_66_45, st_66_46, st_66_49, st_66_52, st_66_53, st_66_54, st_66_55, st_66_58, st_66_61, st_66_63, st_66_66, st_66_68, st_66_71, st_66_73, st_66_75, st_66_78, st_66_81, st_66_84, st_66_85, st_66_87, st_66_88, st_66_91, st_66_92, st_66_95, st_66_98, st_66_100, ini_66, fs_cl, fs_len, fs_rf, fs_M, fs_put, fs_cpy, ↓reduceIte, rv_ref, true_or, or_true, true_and, and_true, nI_ltI, ix_nI, nI_clamp, ps_i, ps_n, Option.bind_some, sm_0, sm_1, sm_2, sm_3, sm_4, sto_0, sto_1, sto_2, sto_3, sto_4, sto_5, sto_6, sto_7, sto_8, sto_9, sto_10, sto_11, sto_12, sto_13, sto_14, nlo_n, nlo_i, nlo_r, nlo_0, nlo_l, and_self, or_self, Nat.reduceEqDiff, Nat.reduceLT, Nat.reduceLeDiff, Nat.one_ne_zero, Nat.zero_ne_one, t0, m0, e1, g6, F2, c64 ht, g67, e10, ck', nI_add, p1]
      · rw [if_neg ca] at g67
        rw [if_neg ca]
        obtain ⟨M', p1, p2, p3⟩ := ih (v + 1) f k _ hmb (by omega) (by omega) (by omega)
        refine ⟨M', ?_, p2, fun x hx => by rw [p3 x hx, fr x hx]⟩
        rw [st_66_31]
        simp (disch := omega) only [st_66_0, st_66_1, st_66_4, st_66_5, st_66_8, st_66_9, st_66_10, st_66_13, st_66_14, st_66_17, st_66_20, st_66_22, st_66_23, st_66_25, st_66_26, st_66_28, st_66_29, st_66_33, st_66_35, st_66_38, st_66_39, st_66_41, st_66_42, st_66_45, st_66_46, st_66_49, st_66_52, st_66_53, st_66_54, st_66_55, st_66_58, st_66_61, st_66_63, st_66_66, st_66_68, st_66_71, st_66_73, st_66_75, st_66_78, st_66_81, st_66_84, st_66_85, st_66_87, st_66_88, st_66_91, st_66_92, st_66_95, st_66_98, st_66_100, ini_66, fs_cl, fs_len, fs_rf, fs_M, fs_put, fs_cpy, ↓reduceIte, rv_ref, true_or, or_true, true_and, and_true, nI_ltI, ix_nI, nI_clamp, ps_i, ps_n, Option.bind_some, sm_0, sm_1, sm_2, sm_3, sm_4, sto_0, sto_1, sto_2, sto_3, sto_4, sto_5, sto_6, sto_7, sto_8, sto_9, sto_10, sto_11, sto_12, sto_13, sto_14, nlo_n, nlo_i, nlo_r, nlo_0, nlo_l, and_self, or_self, Nat.reduceEqDiff, Nat.reduceLT, Nat.reduceLeDiff, Nat.one_ne_zero, Nat.zero_ne_one, t0, m0, e1, g6, F2, c64 ht, g67, nI_add, p1]
  obtain ⟨M', p1, p2, p3⟩ := L (E 0 ^ nE E c) 0 0 0 M hm (by omega) (Nat.le_refl _) (Nat.le_refl _)
  have g6 := c6 (d := d + 1) (M := M) hk
  rw [hm.1.1] at g6
  have gr := n33i (d := d + 2) (M := M) y7 (by omega : c < 8)
  rw [(hm.2.2.1 c hc).2.2] at gr
  have g140 := c140 (σ := FS h M) (d := d + 2) (b := E 0) (t := nE E c) (by omega)
  refine ⟨M', ?_, p2, p3⟩
  rw [j_C_eq]
  simp (disch := omega) only [st_66_0, st_66_1, st_66_4, st_66_5, st_66_8, st_66_9, st_66_10, st_66_13, st_66_14, st_66_17, st_66_20, st_66_22, st_66_23, st_66_25, st_66_26, st_66_28, st_66_29, st_66_33, st_66_35, st_66_38, st_66_39, st_66_41, st_66_42, st_66_45, st_66_46, st_66_49, st_66_52, st_66_53, st_66_54, st_66_55, st_66_58, st_66_61, st_66_63, st_66_66, st_66_68, st_66_71, st_66_73, st_66_75, st_66_78, st_66_81, st_66_84, st_66_85, st_66_87, st_66_88, st_66_91, st_66_92, st_66_95, st_66_98, st_66_100, ini_66, fs_cl, fs_len, fs_rf, fs_M, fs_put, fs_cpy, ↓reduceIte, rv_ref, true_or, or_true, true_and, and_true, nI_ltI, ix_nI, nI_clamp, ps_i, ps_n, Option.bind_some, sm_0, sm_1, sm_2, sm_3, sm_4, sto_0, sto_1, sto_2, sto_3, sto_4, sto_5, sto_6, sto_7, sto_8, sto_9, sto_10, sto_11, sto_12, sto_13, sto_14, nlo_n, nlo_i, nlo_r, nlo_0, nlo_l, and_self, or_self, Nat.reduceEqDiff, Nat.reduceLT, Nat.reduceLeDiff, Nat.one_ne_zero, Nat.zero_ne_one, t0, m0, x7, y7.1, gr, g6, F2, g140, p1]
theorem hwS_lt {rv n s : Nat} : ∀ r v f k, f ≤ v → k ≤ v → (hwS E rv n s r v f k).1 ≤ r + v ∧ (hwS E rv n s r v f k).2 ≤ r + v := by
  intro r
  induction r with
  | zero => intro v f k h1 h2; exact ⟨by unfold hwS; omega, by unfold hwS; omega⟩
  | succ r ih =>
    intro v f k h1 h2
    unfold hwS
    split
    · have := ih (v + 1) (if k = 0 then v else f) (k + 1) (by split <;> omega) (by omega)
      omega
    · have := ih (v + 1) f k (by omega) (by omega)
      omega
