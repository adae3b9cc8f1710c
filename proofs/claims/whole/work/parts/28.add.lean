/-! The class's Market: a trader, a coin more. -/
variable {h : j_Hd} {M : Nat → Nat → Int32} {σ : j_St} {d b : Nat} {E : Nat → Nat} {z : Int32} {K0 K1 : List Int32}
theorem n36x {o a c : Nat} (hb : Nb h o a c) {k : Nat} (hk : M o 1 = nI k) (hc : k < c) (v : Int32) : ∃ M', j_C (d + 1) 36 [.ref o, .int v] (FS h M) = some (some (.int (nI 1)), FS h M') ∧ M' o 1 = nI (k + 1) ∧ M' a k = v ∧ (∀ i, i ≠ k → M' a i = M a i) ∧ ∀ x, x ≠ o → x ≠ a → M' x = M x := by
  have hoa := hb.2.2.2.2.2.2
  refine ⟨_, n36 hb hk hc v, up_s _ _ _, ?_, fun i hi => ?_, fun x hx hxa => ?_⟩
  · rw [up_o _ _ _ _ _ (Ne.symm hoa)]; exact up_s _ _ _
  · rw [up_o _ _ _ _ _ (Ne.symm hoa)]; exact up_k _ _ _ _ hi
  · rw [up_r _ _ _ _ hx, up_r _ _ _ _ hxa]
def addT (E : Nat → Nat) (km w : Nat) : Nat → Nat := upE (upE (upE (upE (upE (upE E 0 (E 0 + 1)) (8 + 5 * E 0) (km / 10)) (9 + 5 * E 0) (km % 10)) (10 + 5 * E 0) w) (11 + 5 * E 0) 10) (12 + 5 * E 0) (2 ^ w)
def addC (E : Nat → Nat) (v t : Nat) : Nat → Nat := upR (upE (upE (upE E 1 (E 1 + 1)) (38 + 5 * E 1) v) (39 + 5 * E 1) t) (E 1) 0 0 0
theorem addT_o {km w j : Nat} (h0 : j ≠ 0) (h1 : j < 8 + 5 * E 0 ∨ 12 + 5 * E 0 < j) : addT E km w j = E j := by
  unfold addT; simp (disch := omega) only [upE_o]
theorem addC_o {v t j : Nat} (h0 : j ≠ 1) (h1 : j < 38 + 5 * E 1 ∨ 42 + 5 * E 1 < j) : addC E v t j = E j := by
  unfold addC upR; simp (disch := omega) only [upE_o]
theorem addT_0 {km w : Nat} : addT E km w 0 = E 0 + 1 := by
  unfold addT; simp (disch := omega) only [upE_o, upE_s]
theorem addC_1 {v t : Nat} : addC E v t 1 = E 1 + 1 := by
  unfold addC upR; simp (disch := omega) only [upE_o, upE_s]
theorem pow_w : ∀ w, w < 8 → nI 1 <<< (nI w &&& 31) = nI (2 ^ w) := by decide +kernel
theorem pow_l : ∀ w, w < 8 → 2 ^ w < 256 := by decide +kernel
theorem addT_WE (hw : WE E) {km w : Nat} (hk : km ≤ 69) (hw1 : 1 ≤ w) (hw7 : w ≤ 7) (h6 : E 0 < 6) : WE (addT E km w) := by
  obtain ⟨g1, g2, g3, g4, g5, g6, g7, g8⟩ := hw
  have o : ∀ j, j ≠ 0 → j < 8 → addT E km w j = E j := fun j h1 h2 => addT_o h1 (by omega)
  refine ⟨by rw [addT_0]; omega, by rw [o 1 (by omega) (by omega)]; exact g2, by rw [o 2 (by omega) (by omega)]; exact g3, by rw [o 3 (by omega) (by omega)]; exact g4, by rw [o 4 (by omega) (by omega)]; exact g5, by rw [o 4 (by omega) (by omega)]; exact g6, fun t ht => ?_, fun c hc => ?_⟩
  · rw [addT_0] at ht
    unfold Tv
    by_cases e : t = E 0
    · subst e
      unfold addT
      simp (disch := omega) only [upE_o, upE_s]
      exact ⟨by omega, by omega, hw1, hw7, by omega, pow_l w (by omega)⟩
    · have p := g7 t (by omega)
      unfold Tv at p
      rw [addT_o (by omega) (by omega), addT_o (by omega) (by omega), addT_o (by omega) (by omega), addT_o (by omega) (by omega), addT_o (by omega) (by omega)]; exact p
  · rw [o 1 (by omega) (by omega)] at hc
    have p := g8 c hc
    unfold Cv at p ⊢
    rw [addT_0, addT_o (by omega) (by omega), addT_o (j := 39 + 5 * c) (by omega) (by omega), addT_o (j := 40 + 5 * c) (by omega) (by omega), addT_o (j := 41 + 5 * c) (by omega) (by omega), addT_o (j := 42 + 5 * c) (by omega) (by omega)]
    exact ⟨p.1, p.2.1, by omega, p.2.2.2⟩
theorem addC_WE (hw : WE E) {v t : Nat} (hv1 : 1 ≤ v) (hv9 : v ≤ 9) (ht : t < E 0) (h8 : E 1 < 8) : WE (addC E v t) := by
  obtain ⟨g1, g2, g3, g4, g5, g6, g7, g8⟩ := hw
  have o : ∀ j, j ≠ 1 → j < 38 → addC E v t j = E j := fun j h1 h2 => addC_o h1 (by omega)
  refine ⟨by rw [o 0 (by omega) (by omega)]; exact g1, by rw [addC_1]; omega, by rw [o 2 (by omega) (by omega)]; exact g3, by rw [o 3 (by omega) (by omega)]; exact g4, by rw [o 4 (by omega) (by omega)]; exact g5, by rw [o 4 (by omega) (by omega)]; exact g6, fun t' ht' => ?_, fun c hc => ?_⟩
  · rw [o 0 (by omega) (by omega)] at ht'
    have p := g7 t' ht'
    unfold Tv at p ⊢
    rw [o _ (by omega) (by omega), o _ (by omega) (by omega), o _ (by omega) (by omega), o _ (by omega) (by omega), o _ (by omega) (by omega)]; exact p
  · rw [addC_1] at hc
    unfold Cv
    rw [o 0 (by omega) (by omega)]
    by_cases e : c = E 1
    · subst e
      unfold addC upR
      simp (disch := omega) only [upE_o, upE_s]
      exact ⟨hv1, hv9, ht, by unfold Rw; exact ⟨by omega, by omega, by omega, fun _ => rfl, fun _ => rfl⟩⟩
    · have p := g8 c (by omega)
      unfold Cv at p
      rw [addC_o (by omega) (by omega), addC_o (j := 39 + 5 * c) (by omega) (by omega), addC_o (j := 40 + 5 * c) (by omega) (by omega), addC_o (j := 41 + 5 * c) (by omega) (by omega), addC_o (j := 42 + 5 * c) (by omega) (by omega)]
      exact p
theorem c10 (hk : Mk h b) (hm : CM M b E z K0 K1) (hw : WE E) {km w : Nat} (hkm : km ≤ 69) (hw7 : w ≤ 7) (h6 : E 0 < 6) : ∃ M', j_C (d + 3) 10 [.ref b, .int (nI km), .int (nI w)] (FS h M) = some (some (.int (nI (E 0))), FS h M') ∧ CM M' b (addT E km w) z K0 K1 ∧ mg b M M' := by
  have n0 := hk.2.1.2
  have n1 := hk.2.2.1.2
  have n2 := hk.2.2.2.1.2
  have n3 := hk.2.2.2.2.1.2
  have n4 := hk.2.2.2.2.2.1.2
  obtain ⟨⟨a0, a1, a2, a3, a4, a5, a6, a7⟩, at_, ac_, ast, af_, cd0, cd1⟩ := hm
  have h8 := hw.2.1
  obtain ⟨M1, p1, s1, v1, i1, f1⟩ := n36x (d := d + 1) (M := M) n0 a0 h6 (nI (km / 10))
  obtain ⟨M2, p2, s2, v2, i2, f2⟩ := n36x (d := d + 1) (M := M1) n1 (by rw [f1 _ (by omega) (by omega)]; exact a1) h6 (nI (km % 10))
  obtain ⟨M3, p3, s3, v3, i3, f3⟩ := n36x (d := d + 1) (M := M2) n2 (by rw [f2 _ (by omega) (by omega), f1 _ (by omega) (by omega)]; exact a2) h6 (nI w)
  obtain ⟨M4, p4, s4, v4, i4, f4⟩ := n36x (d := d + 1) (M := M3) n3 (by rw [f3 _ (by omega) (by omega), f2 _ (by omega) (by omega), f1 _ (by omega) (by omega)]; exact a3) h6 (nI 10)
  obtain ⟨M5, p5, s5, v5, i5, f5⟩ := n36x (d := d + 1) (M := M4) n4 (by rw [f4 _ (by omega) (by omega), f3 _ (by omega) (by omega), f2 _ (by omega) (by omega), f1 _ (by omega) (by omega)]; exact a4) h6 (nI (2 ^ w))
  have e1 : addT E km w 1 = E 1 := addT_o (by omega) (by omega)
  have pw := pow_w w (by omega)
  have sz0 : M5 (b + 1) 1 = nI (E 0 + 1) := by
    simp (disch := omega) only [f5, f4, f3, f2, s1]
  refine ⟨M5, ?_, ⟨?_, fun t ht => ?_, fun c hc => ?_, fun c hc => ?_, ?_, ?_, ?_⟩, fun x hx => ?_⟩
  · have g6 := c6 (d := d) (M := M5) hk
    rw [sz0] at g6
    obtain ⟨m0, ⟨r0, _⟩, ⟨r1, _⟩, ⟨r2, _⟩, ⟨r3, _⟩, ⟨r4, _⟩, _⟩ := hk
    have t1 : nI km / nI 10 = nI (km / 10) := nI_div (by omega) (by omega)
    have t2 : nI km - nI km / nI 10 * nI 10 = nI (km % 10) := nI_rem (by omega) (by omega)
    rw [t1] at t2
    have t9 : ¬ nI 10 = nI 0 := by decide +kernel
    have t3 : nI (E 0 + 1) - nI 1 = nI (E 0) := nI_sub (by omega)
    rw [j_C_eq]
    simp only [st_10_0, st_10_1, st_10_4, st_10_5, st_10_7, st_10_8, st_10_11, st_10_11r, st_10_12, st_10_13, st_10_16, st_10_17, st_10_19, st_10_20, st_10_23, st_10_23r, st_10_24, st_10_25, st_10_28, st_10_29, st_10_32, st_10_32r, st_10_33, st_10_34, st_10_37, st_10_39, st_10_42, st_10_42r, st_10_43, st_10_44, st_10_47, st_10_48, st_10_49, st_10_50, st_10_53, st_10_53r, st_10_54, st_10_55, st_10_58, st_10_59, st_10_60, ini_10, fs_cl, fs_len, fs_rf, fs_M, fs_put, fs_cpy, ↓reduceIte, rv_add, true_or, or_true, true_and, and_true, nI_ltI, ix_nI, nI_clamp, ps_i, ps_n, Option.bind_some, sm_0, sm_1, sm_2, sm_3, sm_4, sto_0, sto_1, sto_2, sto_3, sto_4, sto_5, sto_6, sto_7, sto_8, sto_9, sto_10, sto_11, sto_12, sto_13, sto_14, nlo_n, nlo_i, nlo_r, nlo_0, nlo_l, and_self, or_self, Nat.reduceEqDiff, Nat.reduceLT, Nat.reduceLeDiff, Nat.one_ne_zero, Nat.zero_ne_one, m0, r0, r1, r2, r3, r4, n0.1, n1.1, n2.1, n3.1, n4.1, t1, t2, t9, p1, p2, p3, p4, pw, p5, g6, t3]
  · unfold CS
    rw [addT_0, e1]
    simp (disch := omega) only [f5, f4, f3, f2, f1, s1, s2, s3, s4, s5, a5, a6, a7, and_self]
  · rw [addT_0] at ht
    unfold CT
    by_cases e : t = E 0
    · subst e
      unfold addT
      simp (disch := omega) only [upE_o, upE_s, f5, f4, f3, f2, f1, v1, v2, v3, v4, v5, and_self]
    · have p := at_ t (by omega)
      unfold CT at p
      rw [addT_o (by omega) (by omega), addT_o (by omega) (by omega), addT_o (by omega) (by omega), addT_o (by omega) (by omega), addT_o (by omega) (by omega)]
      simp (disch := omega) only [f5, f4, f3, f2, f1, i1, i2, i3, i4, i5]
      exact p
  · rw [e1] at hc
    have p := ac_ c hc
    unfold CC rE at p ⊢
    rw [addT_o (by omega) (by omega), addT_o (j := 39 + 5 * c) (by omega) (by omega), addT_o (j := 40 + 5 * c) (by omega) (by omega), addT_o (j := 41 + 5 * c) (by omega) (by omega), addT_o (j := 42 + 5 * c) (by omega) (by omega)]
    simp (disch := omega) only [f5, f4, f3, f2, f1]
    exact p
  · simp (disch := omega) only [f5, f4, f3, f2, f1]
    exact ast c hc
  · rw [addT_o (by omega) (by omega), addT_o (j := 4) (by omega) (by omega), addT_o (j := 3) (by omega) (by omega)]
    simp (disch := omega) only [f5, f4, f3, f2, f1]
    exact af_
  · unfold Cd at cd0 ⊢
    simp (disch := omega) only [f5, f4, f3, f2, f1]
    exact cd0
  · unfold Cd at cd1 ⊢
    simp (disch := omega) only [f5, f4, f3, f2, f1]
    exact cd1
  · rw [f5 _ (by omega) (by omega), f4 _ (by omega) (by omega), f3 _ (by omega) (by omega), f2 _ (by omega) (by omega), f1 _ (by omega) (by omega)]
theorem c11 (hk : Mk h b) (hm : CM M b E z K0 K1) (hw : WE E) {v t : Nat} (h8 : E 1 < 8) : ∃ M', j_C (d + 3) 11 [.ref b, .int (nI v), .int (nI t)] (FS h M) = some (some (.int (nI (E 1))), FS h M') ∧ CM M' b (addC E v t) z K0 K1 ∧ mg b M M' := by
  have n5 := hk.2.2.2.2.2.2.1.2
  have n6 := hk.2.2.2.2.2.2.2.1.2
  have n7 := hk.2.2.2.2.2.2.2.2.1.2
  obtain ⟨⟨a0, a1, a2, a3, a4, a5, a6, a7⟩, at_, ac_, ast, af_, cd0, cd1⟩ := hm
  have h6 := hw.1
  obtain ⟨M1, p1, s1, v1, i1, f1⟩ := n36x (d := d + 1) (M := M) n5 a5 h8 (nI v)
  obtain ⟨M2, p2, s2, v2, i2, f2⟩ := n36x (d := d + 1) (M := M1) n6 (by rw [f1 _ (by omega) (by omega)]; exact a6) h8 (nI t)
  obtain ⟨M3, p3, s3, v3, i3, f3⟩ := n36x (d := d + 1) (M := M2) n7 (by rw [f2 _ (by omega) (by omega), f1 _ (by omega) (by omega)]; exact a7) h8 (nI 0)
  have e0 : addC E v t 0 = E 0 := addC_o (by omega) (by omega)
  have sz0 : M3 (b + 11) 1 = nI (E 1 + 1) := by
    simp (disch := omega) only [f3, f2, s1]
  refine ⟨M3, ?_, ⟨?_, fun t' ht => ?_, fun c hc => ?_, fun c hc => ?_, ?_, ?_, ?_⟩, fun x hx => ?_⟩
  · have g7 := c7 (d := d) (M := M3) hk
    rw [sz0] at g7
    obtain ⟨m0, _, _, _, _, _, ⟨r5, _⟩, ⟨r6, _⟩, ⟨r7, _⟩, _⟩ := hk
    have t3 : nI (E 1 + 1) - nI 1 = nI (E 1) := nI_sub (by omega)
    rw [j_C_eq]
    simp only [st_11_0, st_11_1, st_11_4, st_11_5, st_11_8, st_11_8r, st_11_9, st_11_10, st_11_13, st_11_14, st_11_17, st_11_17r, st_11_18, st_11_19, st_11_22, st_11_23, st_11_26, st_11_26r, st_11_27, st_11_28, st_11_31, st_11_32, st_11_33, ini_11, fs_cl, fs_len, fs_rf, fs_M, fs_put, fs_cpy, ↓reduceIte, rv_add, true_or, or_true, true_and, and_true, nI_ltI, ix_nI, nI_clamp, ps_i, ps_n, Option.bind_some, sm_0, sm_1, sm_2, sm_3, sm_4, sto_0, sto_1, sto_2, sto_3, sto_4, sto_5, sto_6, sto_7, sto_8, sto_9, sto_10, sto_11, sto_12, sto_13, sto_14, nlo_n, nlo_i, nlo_r, nlo_0, nlo_l, and_self, or_self, Nat.reduceEqDiff, Nat.reduceLT, Nat.reduceLeDiff, Nat.one_ne_zero, Nat.zero_ne_one, m0, r5, r6, r7, n5.1, n6.1, n7.1, p1, p2, p3, g7, t3]
  · unfold CS
    rw [addC_1, e0]
    simp (disch := omega) only [f3, f2, f1, s1, s2, s3, a0, a1, a2, a3, a4, and_self]
  · rw [e0] at ht
    have p := at_ t' ht
    unfold CT at p ⊢
    rw [addC_o (by omega) (by omega), addC_o (j := 9 + 5 * t') (by omega) (by omega), addC_o (j := 10 + 5 * t') (by omega) (by omega), addC_o (j := 11 + 5 * t') (by omega) (by omega), addC_o (j := 12 + 5 * t') (by omega) (by omega)]
    simp (disch := omega) only [f3, f2, f1]
    exact p
  · rw [addC_1] at hc
    unfold CC rE
    by_cases e : c = E 1
    · subst e
      unfold addC upR
      simp (disch := omega) only [upE_o, upE_s, f3, f2, f1, v1, v2, v3, true_and]
      rfl
    · have p := ac_ c (by omega)
      unfold CC rE at p
      rw [addC_o (by omega) (by omega), addC_o (j := 39 + 5 * c) (by omega) (by omega), addC_o (j := 40 + 5 * c) (by omega) (by omega), addC_o (j := 41 + 5 * c) (by omega) (by omega), addC_o (j := 42 + 5 * c) (by omega) (by omega)]
      simp (disch := omega) only [f3, f2, f1, i1, i2, i3]
      exact p
  · by_cases e : c = E 1
    · subst e; exact ⟨0, by omega, v3⟩
    · simp (disch := omega) only [i3, f2, f1]
      exact ast c hc
  · rw [addC_o (by omega) (by omega), addC_o (j := 4) (by omega) (by omega), addC_o (j := 3) (by omega) (by omega)]
    simp (disch := omega) only [f3, f2, f1]
    exact af_
  · unfold Cd at cd0 ⊢
    simp (disch := omega) only [f3, f2, f1]
    exact cd0
  · unfold Cd at cd1 ⊢
    simp (disch := omega) only [f3, f2, f1]
    exact cd1
  · rw [f3 _ (by omega) (by omega), f2 _ (by omega) (by omega), f1 _ (by omega) (by omega)]
