/-! Both sides: text. -/
variable {h : j_Hd} {M M1 M2 : Nat → Nat → Int32} {o b : Nat} {E E' : Nat → Nat} {z : Int32} {K0 K1 K : List Int32} {T : Nat → Nat} {W : Nat → Int32}
theorem c127 {u : Int32} {σ : j_St} {e : Nat} (he : 1 ≤ e) : j_C e 127 [.int u] σ = some (some (.int (if u = nI 0 ∨ u = nI 1 then nI 1 else nI 0)), σ) := by
  obtain ⟨e, rfl⟩ : ∃ d, e = d + 1 := ⟨e - 1, by omega⟩
  rw [j_C_eq]
  by_cases c0 : u = nI 0
  · rw [if_pos (.inl c0)]
    simp (disch := omega) only [st_127_0, st_127_1, st_127_4, st_127_5, st_127_6, st_127_9, st_127_10, st_127_13, st_127_14, ini_127, fs_cl, fs_len, fs_rf, fs_M, fs_put, fs_cpy, ↓reduceIte, rv_ref, true_or, or_true, true_and, and_true, nI_ltI, ix_nI, nI_clamp, ps_i, ps_n, Option.bind_some, sm_0, sm_1, sm_2, sm_3, sm_4, sto_0, sto_1, sto_2, sto_3, sto_4, sto_5, sto_6, sto_7, sto_8, sto_9, sto_10, sto_11, sto_12, sto_13, sto_14, nlo_n, nlo_i, nlo_r, nlo_0, nlo_l, and_self, or_self, Nat.reduceEqDiff, Nat.reduceLT, Nat.reduceLeDiff, Nat.one_ne_zero, Nat.zero_ne_one, eq_true c0]
  · by_cases c1 : u = nI 1
    · rw [if_pos (.inr c1)]
      simp (disch := omega) only [st_127_0, st_127_1, st_127_4, st_127_5, st_127_6, st_127_9, st_127_10, st_127_13, st_127_14, ini_127, fs_cl, fs_len, fs_rf, fs_M, fs_put, fs_cpy, ↓reduceIte, rv_ref, true_or, or_true, true_and, and_true, nI_ltI, ix_nI, nI_clamp, ps_i, ps_n, Option.bind_some, sm_0, sm_1, sm_2, sm_3, sm_4, sto_0, sto_1, sto_2, sto_3, sto_4, sto_5, sto_6, sto_7, sto_8, sto_9, sto_10, sto_11, sto_12, sto_13, sto_14, nlo_n, nlo_i, nlo_r, nlo_0, nlo_l, and_self, or_self, Nat.reduceEqDiff, Nat.reduceLT, Nat.reduceLeDiff, Nat.one_ne_zero, Nat.zero_ne_one, c0, eq_true c1]
    · rw [if_neg (fun hh => hh.elim c0 c1)]
      simp (disch := omega) only [st_127_0, st_127_1, st_127_4, st_127_5, st_127_6, st_127_9, st_127_10, st_127_13, st_127_14, ini_127, fs_cl, fs_len, fs_rf, fs_M, fs_put, fs_cpy, ↓reduceIte, rv_ref, true_or, or_true, true_and, and_true, nI_ltI, ix_nI, nI_clamp, ps_i, ps_n, Option.bind_some, sm_0, sm_1, sm_2, sm_3, sm_4, sto_0, sto_1, sto_2, sto_3, sto_4, sto_5, sto_6, sto_7, sto_8, sto_9, sto_10, sto_11, sto_12, sto_13, sto_14, nlo_n, nlo_i, nlo_r, nlo_0, nlo_l, and_self, or_self, Nat.reduceEqDiff, Nat.reduceLT, Nat.reduceLeDiff, Nat.one_ne_zero, Nat.zero_ne_one, c0, c1]
theorem CM_l0 (hg : ∀ x, b ≤ x → x < b + 18 → M1 x = M x) (h1 : M1 (b + 23) = M (b + 23)) (h2 : M1 (b + 24) = M (b + 24)) (hc : Cd M1 (b + 17) K) (hm : CM M b E z K0 K1) : CM M1 b E z K K1 := by
  obtain ⟨a1, a2, a3, a4, a5, a6, a7⟩ := hm
  have e0 : M1 b = M b := hg b (by omega) (by omega)
  have e1 : ∀ k, k < 18 → M1 (b + k) = M (b + k) := fun k hk => hg (b + k) (by omega) (by omega)
  refine ⟨?_, fun t ht => ?_, fun c hc => ?_, fun c hc => ?_, ?_, hc, ?_⟩
  · unfold CS at a1 ⊢
    simpa only [e1 1 (by omega), e1 3 (by omega), e1 5 (by omega), e1 7 (by omega), e1 9 (by omega), e1 11 (by omega), e1 13 (by omega), e1 15 (by omega)] using a1
  · have := a2 t ht
    unfold CT at this ⊢
    simpa only [e1 2 (by omega), e1 4 (by omega), e1 6 (by omega), e1 8 (by omega), e1 10 (by omega)] using this
  · have := a3 c hc
    unfold CC at this ⊢
    simpa only [e1 12 (by omega), e1 14 (by omega), e1 16 (by omega)] using this
  · rw [e1 16 (by omega)]; exact a4 c hc
  · rw [e0]; exact a5
  · unfold Cd at a7 ⊢
    rw [show b + 22 + 1 = b + 23 by omega, show b + 22 + 2 = b + 24 by omega] at a7 ⊢
    rw [h1, h2]; exact a7
theorem CM_l1 (hg : ∀ x, b ≤ x → x < b + 20 → M1 x = M x) (hc : Cd M1 (b + 22) K) (hm : CM M b E z K0 K1) : CM M1 b E z K0 K := by
  obtain ⟨a1, a2, a3, a4, a5, a6, a7⟩ := hm
  have e0 : M1 b = M b := hg b (by omega) (by omega)
  have e1 : ∀ k, k < 20 → M1 (b + k) = M (b + k) := fun k hk => hg (b + k) (by omega) (by omega)
  refine ⟨?_, fun t ht => ?_, fun c hc => ?_, fun c hc => ?_, ?_, ?_, hc⟩
  · unfold CS at a1 ⊢
    simpa only [e1 1 (by omega), e1 3 (by omega), e1 5 (by omega), e1 7 (by omega), e1 9 (by omega), e1 11 (by omega), e1 13 (by omega), e1 15 (by omega)] using a1
  · have := a2 t ht
    unfold CT at this ⊢
    simpa only [e1 2 (by omega), e1 4 (by omega), e1 6 (by omega), e1 8 (by omega), e1 10 (by omega)] using this
  · have := a3 c hc
    unfold CC at this ⊢
    simpa only [e1 12 (by omega), e1 14 (by omega), e1 16 (by omega)] using this
  · rw [e1 16 (by omega)]; exact a4 c hc
  · rw [e0]; exact a5
  · unfold Cd at a6 ⊢
    rw [show b + 17 + 1 = b + 18 by omega, show b + 17 + 2 = b + 19 by omega] at a6 ⊢
    rw [e1 18 (by omega), e1 19 (by omega)]; exact a6
/-- the reference lays a text by -/
theorem r163l (hk : Md h o) {n u : Nat} (hn : n ≤ 50) (hu : u < 2) {x3 : Int32} {e : Nat} : ∀ r k (M : Nat → Nat → Int32), r + k = n → ∃ M', j_X e 163 70 [some (.ref o), some (.int (nI u)), some (.int (nI n)), some (.int x3), some (.int (nI k))] [] (FS h M) = some (some (.int (nI 1)), FS h M') ∧ (∀ j, k ≤ j → j < n → M' (o + 1) (100 + 50 * u + j) = M (o + 1) (200 + j)) ∧ (∀ j, j < 100 + 50 * u + k ∨ 100 + 50 * u + n ≤ j → M' (o + 1) j = M (o + 1) j) ∧ ∀ x, x ≠ o + 1 → M' x = M x := by
  have m0 := hk.1
  have q0 := hk.2.1.1
  have a1 := hk.2.1.2.1
  have a2 := hk.2.1.2.2.1
  intro r
  induction r with
  | zero =>
    intro k M hr
    have ek : k = n := by omega
    subst ek
    have e1 : ¬ k < k := by omega
    refine ⟨M, ?_, fun j h1 h2 => by omega, fun _ _ => rfl, fun _ _ => rfl⟩
    rw [st_163_70]
    simp (disch := omega) only [st_163_0, st_163_1, st_163_2, st_163_3, st_163_4, st_163_7, st_163_10, st_163_11, st_163_12, st_163_15, st_163_16, st_163_17, st_163_20, st_163_22, st_163_23, st_163_24, st_163_25, st_163_28, st_163_30, st_163_31, st_163_32, st_163_33, st_163_36, st_163_37, st_163_38, st_163_41, st_163_42, st_163_43, st_163_46, st_163_49, st_163_51, st_163_52, st_163_55, st_163_56, st_163_57, st_163_58, st_163_61, st_163_63, st_163_64, st_163_65, st_163_66, st_163_67, st_163_68, st_163_72, st_163_73, st_163_76, st_163_77, st_163_80, st_163_82, st_163_84, st_163_85, st_163_86, st_163_87, st_163_89, st_163_90, st_163_91, st_163_94, st_163_97, st_163_99, st_163_100, st_163_101, st_163_102, st_163_105, st_163_108, st_163_109, ini_163, fs_cl, fs_len, fs_rf, fs_M, fs_put, fs_cpy, ↓reduceIte, rv_ref, true_or, or_true, true_and, and_true, nI_ltI, ix_nI, nI_clamp, ps_i, ps_n, Option.bind_some, sm_0, sm_1, sm_2, sm_3, sm_4, sto_0, sto_1, sto_2, sto_3, sto_4, sto_5, sto_6, sto_7, sto_8, sto_9, sto_10, sto_11, sto_12, sto_13, sto_14, nlo_n, nlo_i, nlo_r, nlo_0, nlo_l, and_self, or_self, Nat.reduceEqDiff, Nat.reduceLT, Nat.reduceLeDiff, Nat.one_ne_zero, Nat.zero_ne_one, e1]
  | succ r ih =>
    intro k M hr
    have e1 : k < n := by omega
    have i1 : 100 + 50 * u + k < 250 := by omega
    have i2 : 200 + k < 250 := by omega
    obtain ⟨M', s1, s2, s3, s4⟩ := ih (k + 1) (j_up M (o + 1) (100 + 50 * u + k) (M (o + 1) (200 + k))) (by omega)
    refine ⟨M', ?_, fun j h1 h2 => ?_, fun j hj => ?_, fun x hx => by rw [s4 x hx, up_r _ _ _ _ hx]⟩
    · rw [← s1, st_163_70]
      simp (disch := omega) only [st_163_0, st_163_1, st_163_2, st_163_3, st_163_4, st_163_7, st_163_10, st_163_11, st_163_12, st_163_15, st_163_16, st_163_17, st_163_20, st_163_22, st_163_23, st_163_24, st_163_25, st_163_28, st_163_30, st_163_31, st_163_32, st_163_33, st_163_36, st_163_37, st_163_38, st_163_41, st_163_42, st_163_43, st_163_46, st_163_49, st_163_51, st_163_52, st_163_55, st_163_56, st_163_57, st_163_58, st_163_61, st_163_63, st_163_64, st_163_65, st_163_66, st_163_67, st_163_68, st_163_72, st_163_73, st_163_76, st_163_77, st_163_80, st_163_82, st_163_84, st_163_85, st_163_86, st_163_87, st_163_89, st_163_90, st_163_91, st_163_94, st_163_97, st_163_99, st_163_100, st_163_101, st_163_102, st_163_105, st_163_108, st_163_109, ini_163, fs_cl, fs_len, fs_rf, fs_M, fs_put, fs_cpy, ↓reduceIte, rv_ref, true_or, or_true, true_and, and_true, nI_ltI, ix_nI, nI_clamp, ps_i, ps_n, Option.bind_some, sm_0, sm_1, sm_2, sm_3, sm_4, sto_0, sto_1, sto_2, sto_3, sto_4, sto_5, sto_6, sto_7, sto_8, sto_9, sto_10, sto_11, sto_12, sto_13, sto_14, nlo_n, nlo_i, nlo_r, nlo_0, nlo_l, and_self, or_self, Nat.reduceEqDiff, Nat.reduceLT, Nat.reduceLeDiff, Nat.one_ne_zero, Nat.zero_ne_one, m0, q0, a1, a2, e1, i1, i2, nI_mul, nI_add]
    · by_cases ej : j = k
      · rw [ej, s3 _ (by omega), up_s]
      · rw [s2 j (by omega) h2, up_k _ _ _ _ (by omega)]
    · rw [s3 j (by omega), up_k _ _ _ _ (by omega)]
theorem tx_pos {B : Nat → Nat} {n u : Nat} (h1 : (txR B n u).1 = true) : 1 ≤ (txR B n u).2.1 ∧ (txR B n u).2.2.length ≤ (txR B n u).2.1 ∧ (txR B n u).2.1 ≤ n := by
  have g := ch_gd (B := B) (pt_gd (B := B) (n := n) (u := u) 5) 5 0 (Nat.zero_le n)
  obtain ⟨g1, g2, g3⟩ := g
  obtain ⟨g4, g5⟩ := g3 h1
  exact ⟨by show 1 ≤ (chR B n (ptR B n u 5) 5 0).2.1; omega, by show (chR B n (ptR B n u 5) 5 0).2.2.length ≤ (chR B n (ptR B n u 5) 5 0).2.1; omega, g2⟩
theorem tx_le {B : Nat → Nat} {n u : Nat} : (txR B n u).2.1 ≤ n := (ch_gd (B := B) (pt_gd (B := B) (n := n) (u := u) 5) 5 0 (Nat.zero_le n)).2.1
theorem g_text (hh : Hd h) (hi : IE M E z K0 K1 T W) (x : Int32) : Go h M 90 163 [.int x] := by
  have w0 := hh.1.1
  have f0 := hh.1.2.1
  have r7 := hh.1.2.2.2.2.2.2.2.1
  have mk := hh.2.1.1
  have th := hh.2.2.2.1.1
  have md : Md h 115 := hh.2.2.2.2.2.2.2.1
  have m0 := md.1
  have q0 := md.2.1.1
  have a1 := md.2.1.2.1
  have a2 := md.2.1.2.2.1
  have hw := hi.1.1
  have h6 := hw.1
  have h8 := hw.2.1
  have hm := hi.2.1.1
  have hs := hm.1
  have hR : RC M 115 E z K0 K1 := hi.2.2.1.1
  have sd := hi.2.2.2.1
  have e10 : ¬ nI 1 = nI 0 := by decide +kernel
  have f1 := hh.1.2.2.1
  have f8 := hh.1.2.2.2.2.2.2.2.2.1
  have nb := hh.2.2.1.1
  have rd := hh.2.2.2.1.2
  have tM := hi.2.1.2.1
  have E6 := hi.1.2.2.1
  by_cases hx : x = nI 0 ∨ x = nI 1
  · obtain ⟨u, hu, rfl⟩ : ∃ u, u < 2 ∧ x = nI u := by
      rcases hx with e | e
      · exact ⟨0, by omega, e⟩
      · exact ⟨1, by omega, e⟩
    intro e he
    obtain ⟨e, rfl⟩ : ∃ d, e = d + 1 := ⟨e - 1, by omega⟩
    have k127 := fun σ => c127 (u := nI u) (σ := σ) (e := e) (by omega)
    rw [if_pos hx] at k127
    -- the class reads
    obtain ⟨M1, p1, p2, p3⟩ := c44 rd nb (by omega) (by omega) (by omega) E6 hu tM.1 tM.2 (e := e) (by omega)
    have kcl := n38e (M := M1) nb.1 (e := e) (by omega)
    have f29 : ∀ y, y ≠ 29 → j_up M1 29 1 (nI 0) y = M1 y := fun y hy => up_r _ _ _ _ hy
    have li1 : lin (nI u).toInt64 (lN 0) (lN 1) = nI 1 := lin_in (Nat.zero_le _) (by omega : u ≤ 1) (by omega)
    have heE : ∀ j, j ≠ 6 → j ≠ 7 → upE E 6 0 j = E j := fun j h1 _ => upE_o _ h1
    have wx : WX (upE E 6 0) := ⟨WE_E heE hw, by rw [upE_o _ (by omega)]; exact hi.1.2.1, by rw [upE_s]; omega, by rw [upE_o _ (by omega)]; exact hi.1.2.2.2⟩
    -- the reference works
    have ref : ∀ M' : Nat → Nat → Int32, M' 116 = M 116 → ∃ v M2, j_C e 161 [.ref 115, .int (nI 200), .int (nI (E 6)), .int (nI u)] (FS h (j_up M' 116 6 (nI 0))) = some (some (.int v), FS h M2) ∧ (∀ x, x ≠ 115 → M2 x = j_up M' 116 6 (nI 0) x) ∧ (∀ k, (k < 5 ∨ 10 < k) → M2 115 k = M' 115 k) ∧ ((txR T (E 6) u).1 = true ∧ (txR T (E 6) u).2.1 = E 6 → M2 115 8 = -1) ∧ (¬ ((txR T (E 6) u).1 = true ∧ (txR T (E 6) u).2.1 = E 6) → M2 115 8 = nI (txR T (E 6) u).2.1) := by
      intro M' hM'
      obtain ⟨v, M2, a1, a2, a3, a4, a5⟩ := r161 (M := j_up M' 116 6 (nI 0)) (B := T) (n := E 6) (u := u) (bs := 200) md hu E6 (by omega) rfl rfl rfl (fun i hi' => by
        show j_up M' 116 6 (nI 0) 116 (200 + i) = nI (T i) ∧ T i < 256
        rw [up_k _ _ _ _ (by omega), hM']
        exact ⟨hi.2.2.1.2.1 i hi', (tM.2 i hi').2⟩) (e := e) (by omega)
      exact ⟨v, M2, a1, a2, fun k hk => by rw [a3 k hk, up_o _ _ _ _ _ (by omega)], fun hh => (a4 hh).1, a5⟩
    by_cases ok : (txR T (E 6) u).1 = true ∧ (txR T (E 6) u).2.1 = E 6
    · rw [if_pos ok] at p1
      have em : (-1 : Int32) < nI 0 := by decide +kernel
      obtain ⟨tp1, tp2, tp3⟩ := tx_pos ok.1
      have Kd1 := p2 ok.1
      have n95 := rd.2.2
      have kl : (txR T (E 6) u).2.2.length ≤ 50 := by omega
      -- the code's copy
      have cop : ∃ M3, j_C e 41 [.ref (2 + (if u = 0 then 18 else 23)), .ref 95] (FS h (j_up M1 29 1 (nI 0))) = some (none, FS h M3) ∧ Cd M3 (2 + (if u = 0 then 17 else 22)) (txR T (E 6) u).2.2 ∧ ∀ y, y ≠ 2 + (if u = 0 then 18 else 23) → y ≠ 2 + (if u = 0 then 19 else 24) → M3 y = j_up M1 29 1 (nI 0) y := by
        obtain ⟨d, hd⟩ := le_ex (show 2 ≤ e by omega)
        by_cases u0 : u = 0
        · rw [if_pos u0, if_pos u0, if_pos u0]
          obtain ⟨M3, y1, y2, y3, y4⟩ := n41x (d := d) (M := j_up M1 29 1 (nI 0)) mk.2.2.2.2.2.2.2.2.2.1.2.2.2.1 n95 (by omega) (by omega) (by omega) (k := (txR T (E 6) u).2.2.length) (by rw [f29 95 (by omega)]; exact Kd1.1) (by omega) (by omega)
          rw [← hd] at y1
          refine ⟨M3, y1, ⟨y2, kl, ?_⟩, y4.2⟩
          refine Seg_cg (f := j_up M1 29 1 (nI 0) 96) (fun j hj => y3 j hj) ?_
          rw [f29 96 (by omega)]; exact Kd1.2
        · rw [if_neg u0, if_neg u0, if_neg u0]
          obtain ⟨M3, y1, y2, y3, y4⟩ := n41x (d := d) (M := j_up M1 29 1 (nI 0)) mk.2.2.2.2.2.2.2.2.2.2.2.2.2.1 n95 (by omega) (by omega) (by omega) (k := (txR T (E 6) u).2.2.length) (by rw [f29 95 (by omega)]; exact Kd1.1) (by omega) (by omega)
          rw [← hd] at y1
          refine ⟨M3, y1, ⟨y2, kl, ?_⟩, y4.2⟩
          refine Seg_cg (f := j_up M1 29 1 (nI 0) 96) (fun j hj => y3 j hj) ?_
          rw [f29 96 (by omega)]; exact Kd1.2
      obtain ⟨M3, y1, y2, y3⟩ := cop
      have fr3 : ∀ y, y ≠ 29 → y ≠ 94 → y ≠ 95 → y ≠ 96 → y ≠ 2 + (if u = 0 then 18 else 23) → y ≠ 2 + (if u = 0 then 19 else 24) → M3 y = M y := fun y h1 h2 h3 h4 h5 h6 => by
        rw [y3 y h5 h6, f29 y h1, p3 y h2 h3 h4]
      have fr3b : ∀ y, y ≠ 29 → y ≠ 94 → y ≠ 95 → y ≠ 96 → y < 20 ∨ 26 < y → M3 y = M y := fun y h1 h2 h3 h4 h5 => fr3 y h1 h2 h3 h4 (by split <;> omega) (by split <;> omega)
      have M3116 := fr3b 116 (by omega) (by omega) (by omega) (by omega) (by omega)
      obtain ⟨v, M4, r1, r2, r3, r4, _⟩ := ref M3 M3116
      have r4 := r4 ok
      obtain ⟨M5, s1, s2, s3, s4⟩ := r163l md (n := E 6) (u := u) E6 hu (x3 := v) (e := e) (E 6) 0 (j_up M4 116 (78 + u) (nI (E 6))) (by omega)
      have hR3 : RC M3 115 E z K0 K1 := by
        unfold RC RLd Tx at hR ⊢
        rw [show M3 (115 + 1) = M (115 + 1) from M3116]; exact hR
      refine ⟨nI 1, M3, M5, ?_, ?_, fr3b 1003 (by omega) (by omega) (by omega) (by omega) (by omega), upE E 6 0, z, (if u = 0 then (txR T (E 6) u).2.2 else K0), (if u = 0 then K1 else (txR T (E 6) u).2.2), T, W, ?_⟩
      · have k1 := k127 (FS h M)
        by_cases u0 : u = 0
        · subst u0
          rw [if_pos rfl] at y1
          have k15 := c15ae (M := j_up M1 29 1 (nI 0)) mk (e := e) (by omega)
          have l8 := mk.2.2.2.2.2.2.2.2.2.1.2
          (rw [j_C_eq]; simp (disch := omega) only [st_90_0, st_90_1, st_90_4, st_90_7, st_90_8, st_90_9, st_90_12, st_90_13, st_90_14, st_90_17, st_90_18, st_90_21, st_90_22, st_90_25, st_90_26, st_90_27, st_90_30, st_90_33, st_90_34, st_90_37, st_90_39, st_90_40, st_90_41, st_90_42, st_90_43, st_90_46, st_90_47, st_90_50, st_90_53, st_90_54, st_90_57, st_90_60, st_90_63, st_90_64, ini_90, fs_cl, fs_len, fs_rf, fs_M, fs_put, fs_cpy, ↓reduceIte, rv_ref, true_or, or_true, true_and, and_true, nI_ltI, ix_nI, nI_clamp, ps_i, ps_n, Option.bind_some, sm_0, sm_1, sm_2, sm_3, sm_4, sto_0, sto_1, sto_2, sto_3, sto_4, sto_5, sto_6, sto_7, sto_8, sto_9, sto_10, sto_11, sto_12, sto_13, sto_14, nlo_n, nlo_i, nlo_r, nlo_0, nlo_l, and_self, or_self, Nat.reduceEqDiff, Nat.reduceLT, Nat.reduceLeDiff, Nat.one_ne_zero, Nat.zero_ne_one, w0, f0, r7, m0, q0, a1, a2, e10, f1, f8, k1, p1, kcl, nb.1, rd.1, rd.2.1, em, mk.1, k15, l8.1, l8.2.1, l8.2.2.1.1, y1])
        · have u1 : u = 1 := by omega
          subst u1
          rw [if_neg u0] at y1
          have k15 := c15be (M := j_up M1 29 1 (nI 0)) mk (e := e) (by omega)
          have l9 := mk.2.2.2.2.2.2.2.2.2.2.2
          (rw [j_C_eq]; simp (disch := omega) only [st_90_0, st_90_1, st_90_4, st_90_7, st_90_8, st_90_9, st_90_12, st_90_13, st_90_14, st_90_17, st_90_18, st_90_21, st_90_22, st_90_25, st_90_26, st_90_27, st_90_30, st_90_33, st_90_34, st_90_37, st_90_39, st_90_40, st_90_41, st_90_42, st_90_43, st_90_46, st_90_47, st_90_50, st_90_53, st_90_54, st_90_57, st_90_60, st_90_63, st_90_64, ini_90, fs_cl, fs_len, fs_rf, fs_M, fs_put, fs_cpy, ↓reduceIte, rv_ref, true_or, or_true, true_and, and_true, nI_ltI, ix_nI, nI_clamp, ps_i, ps_n, Option.bind_some, sm_0, sm_1, sm_2, sm_3, sm_4, sto_0, sto_1, sto_2, sto_3, sto_4, sto_5, sto_6, sto_7, sto_8, sto_9, sto_10, sto_11, sto_12, sto_13, sto_14, nlo_n, nlo_i, nlo_r, nlo_0, nlo_l, and_self, or_self, Nat.reduceEqDiff, Nat.reduceLT, Nat.reduceLeDiff, Nat.one_ne_zero, Nat.zero_ne_one, w0, f0, r7, m0, q0, a1, a2, e10, f1, f8, k1, p1, kcl, nb.1, rd.1, rd.2.1, em, mk.1, k15, l9.1, l9.2.1, l9.2.2.1.1, y1])
      · have kl2 := r143e (σ := FS h M3) (nI u).toInt64 (lN 0) (lN 1) (e := e) (by omega)
        rw [li1] at kl2
        have g6 : M3 (115 + 1) 6 = nI (E 6) := hR3.1.1 6 (by omega) (by omega)
        have i6 : 6 < 250 := by omega
        have iu : 78 + u < 250 := by omega
        (rw [j_C_eq]; simp (disch := omega) only [st_163_0, st_163_1, st_163_2, st_163_3, st_163_4, st_163_7, st_163_10, st_163_11, st_163_12, st_163_15, st_163_16, st_163_17, st_163_20, st_163_22, st_163_23, st_163_24, st_163_25, st_163_28, st_163_30, st_163_31, st_163_32, st_163_33, st_163_36, st_163_37, st_163_38, st_163_41, st_163_42, st_163_43, st_163_46, st_163_49, st_163_51, st_163_52, st_163_55, st_163_56, st_163_57, st_163_58, st_163_61, st_163_63, st_163_64, st_163_65, st_163_66, st_163_67, st_163_68, st_163_72, st_163_73, st_163_76, st_163_77, st_163_80, st_163_82, st_163_84, st_163_85, st_163_86, st_163_87, st_163_89, st_163_90, st_163_91, st_163_94, st_163_97, st_163_99, st_163_100, st_163_101, st_163_102, st_163_105, st_163_108, st_163_109, ini_163, fs_cl, fs_len, fs_rf, fs_M, fs_put, fs_cpy, ↓reduceIte, rv_ref, true_or, or_true, true_and, and_true, nI_ltI, ix_nI, nI_clamp, ps_i, ps_n, Option.bind_some, sm_0, sm_1, sm_2, sm_3, sm_4, sto_0, sto_1, sto_2, sto_3, sto_4, sto_5, sto_6, sto_7, sto_8, sto_9, sto_10, sto_11, sto_12, sto_13, sto_14, nlo_n, nlo_i, nlo_r, nlo_0, nlo_l, and_self, or_self, Nat.reduceEqDiff, Nat.reduceLT, Nat.reduceLeDiff, Nat.one_ne_zero, Nat.zero_ne_one, w0, f0, r7, m0, q0, a1, a2, e10, kl2, g6, i6, r1, r4, em, nI_add, iu])
        exact s1
      · have mem5 : ∀ j, j < 78 → M5 116 j = j_up M 116 6 (nI 0) 116 j := by
          intro j hj
          rw [s3 j (by omega), up_k _ _ _ _ (by omega), r2 116 (by omega)]
          unfold j_up
          by_cases e6 : j = 6
          · simp [e6]
          · simp [e6, M3116]
        have mem5b : ∀ j, 80 ≤ j → (j < 100 + 50 * u ∨ 100 + 50 * u + 50 ≤ j) → M5 116 j = M 116 j := by
          intro j h1 h2
          rw [s3 j (by omega), up_k _ _ _ _ (by omega), r2 116 (by omega), up_k _ _ _ _ (by omega), M3116]
        have mem5c : ∀ u', u' < 2 → u' ≠ u → M5 116 (78 + u') = M 116 (78 + u') := by
          intro u' h1 h2
          rw [s3 _ (by omega), up_k _ _ _ _ (by omega), r2 116 (by omega), up_k _ _ _ _ (by omega), M3116]
        have T5 : Tx (fun _ => M5 116) 0 u (txR T (E 6) u).2.2 := by
          refine .inr ⟨T, E 6, by omega, E6, ?_, fun i hi' => ?_, ?_⟩
          · show M5 116 (78 + u) = nI (E 6)
            rw [s3 _ (by omega), up_s]
          · show M5 116 (100 + 50 * u + i) = nI (T i) ∧ T i < 256
            rw [s2 i (by omega) hi', up_k _ _ _ _ (by omega), r2 (115 + 1) (by omega), up_k _ _ _ _ (by omega), show M3 (115 + 1) = M 116 from M3116]
            exact ⟨hi.2.2.1.2.1 i hi', (tM.2 i hi').2⟩
          · rw [← ok.2, ← ok.1]
            have : (txR T (txR T (E 6) u).2.1 u) = txR T (E 6) u := by rw [ok.2]
            rw [this]
        have To : ∀ u' K', u' < 2 → u' ≠ u → Tx M 115 u' K' → Tx (fun _ => M5 116) 0 u' K' := by
          intro u' K' h1 h2 hT
          unfold Tx at hT ⊢
          show (K' = [] ∧ M5 116 (78 + u') = nI 0) ∨ ∃ B n, 1 ≤ n ∧ n ≤ 50 ∧ M5 116 (78 + u') = nI n ∧ (∀ i, i < n → M5 116 (100 + 50 * u' + i) = nI (B i) ∧ B i < 256) ∧ txR B n u' = (true, n, K')
          rw [mem5c u' h1 h2]
          rcases hT with q | ⟨B, m, q1, q2, q3, q4, q5⟩
          · exact .inl q
          · exact .inr ⟨B, m, q1, q2, q3, fun i hi' => by rw [mem5b _ (by omega) (by omega)]; exact q4 i hi', q5⟩
        have fr5 : ∀ y, y ≠ 115 → y ≠ 116 → M5 y = M3 y := fun y h1 h2 => by
          rw [s4 y h2, up_r _ _ _ _ h2, r2 y h1, up_r _ _ _ _ h2]
        refine ie_g hi (fun y hy => fr3b y (by omega) (by omega) (by omega) (by omega) (by omega)) (Sd_cg (fr3b 81 (by omega) (by omega) (by omega) (by omega) (by omega)) sd) (fun y hy => fr5 y (by omega) (by omega)) (by rw [s4 115 (by omega), up_o _ _ _ _ _ (by omega), r3 2 (by omega)]) (by rw [s4 115 (by omega), up_o _ _ _ _ _ (by omega), r3 14 (by omega)]) ?_ wx ?_ ?_
        · intro k h1 h2
          rw [fr5 114 (by omega) (by omega), fr5 118 (by omega) (by omega), fr3b 114 (by omega) (by omega) (by omega) (by omega) (by omega), fr3b 118 (by omega) (by omega) (by omega) (by omega) (by omega)]
          exact hi.2.2.2.2.1 k h1 h2
        · refine ⟨CM_E heE ?_, ⟨?_, fun i hi' => by rw [upE_s] at hi'; omega⟩, ?_⟩
          · by_cases u0 : u = 0
            · rw [if_pos u0] at y2
              rw [if_pos u0, if_pos u0]
              rw [if_pos u0, if_pos u0] at fr3
              exact CM_l0 (fun y h1 h2 => fr3b y (by omega) (by omega) (by omega) (by omega) (by omega)) (fr3 25 (by omega) (by omega) (by omega) (by omega) (by omega) (by omega)) (fr3 26 (by omega) (by omega) (by omega) (by omega) (by omega) (by omega)) y2 hm
            · rw [if_neg u0] at y2
              rw [if_neg u0, if_neg u0]
              rw [if_neg u0, if_neg u0] at fr3
              exact CM_l1 (fun y h1 h2 => fr3 y (by omega) (by omega) (by omega) (by omega) (by omega) (by omega)) y2 hm
          · rw [upE_s, y3 29 (by split <;> omega) (by split <;> omega)]; exact up_s _ _ _
          · rw [upE_o _ (by omega), fr3b 31 (by omega) (by omega) (by omega) (by omega) (by omega), fr3b 32 (by omega) (by omega) (by omega) (by omega) (by omega)]; exact hi.2.1.2.2
        · refine ⟨⟨⟨fun k h1 h5 => ?_, ?_⟩, ?_, ?_⟩, fun i hi' => by rw [upE_s] at hi'; omega, fun i hi' => ?_⟩
          · show M5 116 k = nI (upE E 6 0 k)
            rw [mem5 k h1]
            by_cases e6 : k = 6
            · subst e6; rw [up_s, upE_s]
            · rw [up_k _ _ _ _ e6, upE_o _ e6]; exact hR.1.1 k h1 h5
          · show M5 116 5 = z
            rw [mem5 5 (by omega), up_k _ _ _ _ (by omega)]; exact hR.1.2
          · by_cases u0 : u = 0
            · rw [if_pos u0]; rw [u0] at T5 ⊢; exact T5
            · rw [if_neg u0]; exact To 0 K0 (by omega) (by omega) hR.2.1
          · by_cases u0 : u = 0
            · rw [if_pos u0]; exact To 1 K1 (by omega) (by omega) hR.2.2
            · rw [if_neg u0]
              have u1 : u = 1 := by omega
              rw [u1] at T5 ⊢; exact T5
          · rw [upE_o _ (by omega)] at hi'
            have := hi.1.2.2.2
            rw [mem5b _ (by omega) (by omega)]
            exact hi.2.2.1.2.2 i hi'
    · rw [if_neg ok] at p1
      have tl := tx_le (B := T) (n := E 6) (u := u)
      have nl : ¬ nI (txR T (E 6) u).2.1 < nI 0 := nI_nlt (Nat.zero_le _) (by omega)
      have fr3 : ∀ y, y ≠ 29 → y ≠ 94 → y ≠ 95 → y ≠ 96 → j_up M1 29 1 (nI 0) y = M y := fun y h1 h2 h3 h4 => by rw [f29 y h1, p3 y h2 h3 h4]
      obtain ⟨v, M4, r1, r2, r3, _, r4⟩ := ref (j_up M1 29 1 (nI 0)) (fr3 116 (by omega) (by omega) (by omega) (by omega))
      have r4 := r4 ok
      have M3116 := fr3 116 (by omega) (by omega) (by omega) (by omega)
      refine ⟨-10 - nI (txR T (E 6) u).2.1, j_up M1 29 1 (nI 0), M4, ?_, ?_, fr3 1003 (by omega) (by omega) (by omega) (by omega), upE E 6 0, z, K0, K1, T, W, ?_⟩
      · have k1 := k127 (FS h M)
        (rw [j_C_eq]; simp (disch := omega) only [st_90_0, st_90_1, st_90_4, st_90_7, st_90_8, st_90_9, st_90_12, st_90_13, st_90_14, st_90_17, st_90_18, st_90_21, st_90_22, st_90_25, st_90_26, st_90_27, st_90_30, st_90_33, st_90_34, st_90_37, st_90_39, st_90_40, st_90_41, st_90_42, st_90_43, st_90_46, st_90_47, st_90_50, st_90_53, st_90_54, st_90_57, st_90_60, st_90_63, st_90_64, ini_90, fs_cl, fs_len, fs_rf, fs_M, fs_put, fs_cpy, ↓reduceIte, rv_ref, true_or, or_true, true_and, and_true, nI_ltI, ix_nI, nI_clamp, ps_i, ps_n, Option.bind_some, sm_0, sm_1, sm_2, sm_3, sm_4, sto_0, sto_1, sto_2, sto_3, sto_4, sto_5, sto_6, sto_7, sto_8, sto_9, sto_10, sto_11, sto_12, sto_13, sto_14, nlo_n, nlo_i, nlo_r, nlo_0, nlo_l, and_self, or_self, Nat.reduceEqDiff, Nat.reduceLT, Nat.reduceLeDiff, Nat.one_ne_zero, Nat.zero_ne_one, w0, f0, r7, m0, q0, a1, a2, e10, f1, f8, k1, p1, kcl, nb.1, rd.1, nl])
      · have kl2 := r143e (σ := FS h (j_up M1 29 1 (nI 0))) (nI u).toInt64 (lN 0) (lN 1) (e := e) (by omega)
        rw [li1] at kl2
        have g6 : j_up M1 29 1 (nI 0) (115 + 1) 6 = nI (E 6) := by
          rw [show j_up M1 29 1 (nI 0) (115 + 1) = M 116 from M3116]; exact hR.1.1 6 (by omega) (by omega)
        have i6 : 6 < 250 := by omega
        (rw [j_C_eq]; simp (disch := omega) only [st_163_0, st_163_1, st_163_2, st_163_3, st_163_4, st_163_7, st_163_10, st_163_11, st_163_12, st_163_15, st_163_16, st_163_17, st_163_20, st_163_22, st_163_23, st_163_24, st_163_25, st_163_28, st_163_30, st_163_31, st_163_32, st_163_33, st_163_36, st_163_37, st_163_38, st_163_41, st_163_42, st_163_43, st_163_46, st_163_49, st_163_51, st_163_52, st_163_55, st_163_56, st_163_57, st_163_58, st_163_61, st_163_63, st_163_64, st_163_65, st_163_66, st_163_67, st_163_68, st_163_72, st_163_73, st_163_76, st_163_77, st_163_80, st_163_82, st_163_84, st_163_85, st_163_86, st_163_87, st_163_89, st_163_90, st_163_91, st_163_94, st_163_97, st_163_99, st_163_100, st_163_101, st_163_102, st_163_105, st_163_108, st_163_109, ini_163, fs_cl, fs_len, fs_rf, fs_M, fs_put, fs_cpy, ↓reduceIte, rv_ref, true_or, or_true, true_and, and_true, nI_ltI, ix_nI, nI_clamp, ps_i, ps_n, Option.bind_some, sm_0, sm_1, sm_2, sm_3, sm_4, sto_0, sto_1, sto_2, sto_3, sto_4, sto_5, sto_6, sto_7, sto_8, sto_9, sto_10, sto_11, sto_12, sto_13, sto_14, nlo_n, nlo_i, nlo_r, nlo_0, nlo_l, and_self, or_self, Nat.reduceEqDiff, Nat.reduceLT, Nat.reduceLeDiff, Nat.one_ne_zero, Nat.zero_ne_one, w0, f0, r7, m0, q0, a1, a2, e10, kl2, g6, i6, r1, r4, nl])
      · have mem5 : ∀ j, M4 116 j = j_up M 116 6 (nI 0) 116 j := by
          intro j
          rw [r2 116 (by omega)]
          unfold j_up
          by_cases e6 : j = 6
          · simp [e6]
          · simp only [e6, and_false, if_false]
            exact congrFun M3116 j
        have hg : ∀ j, j ≠ 6 → M4 116 j = M 116 j := fun j hj => by rw [mem5 j, up_k _ _ _ _ hj]
        refine ie_g hi (fun y hy => fr3 y (by omega) (by omega) (by omega) (by omega)) (Sd_cg (fr3 81 (by omega) (by omega) (by omega) (by omega)) sd) (fun y hy => by rw [r2 y (by omega), up_r _ _ _ _ (by omega)]) (r3 2 (by omega)) (r3 14 (by omega)) ?_ wx ?_ ?_
        · intro k h1 h2
          rw [r2 114 (by omega), r2 118 (by omega), up_r 116 6 114 (nI 0) (by omega), up_r 116 6 118 (nI 0) (by omega), fr3 114 (by omega) (by omega) (by omega) (by omega), fr3 118 (by omega) (by omega) (by omega) (by omega)]
          exact hi.2.2.2.2.1 k h1 h2
        · refine ⟨CM_E heE (CM_cg (fun y h1 h2 _ _ => fr3 y (by omega) (by omega) (by omega) (by omega)) hm), ⟨?_, fun i hi' => by rw [upE_s] at hi'; omega⟩, ?_⟩
          · rw [upE_s]; exact up_s _ _ _
          · rw [upE_o _ (by omega), fr3 31 (by omega) (by omega) (by omega) (by omega), fr3 32 (by omega) (by omega) (by omega) (by omega)]; exact hi.2.1.2.2
        · have hT : ∀ u' K', u' < 2 → Tx M 115 u' K' → Tx (fun _ => M4 116) 0 u' K' := by
            intro u' K' h1 hT
            unfold Tx at hT ⊢
            show (K' = [] ∧ M4 116 (78 + u') = nI 0) ∨ ∃ B n, 1 ≤ n ∧ n ≤ 50 ∧ M4 116 (78 + u') = nI n ∧ (∀ i, i < n → M4 116 (100 + 50 * u' + i) = nI (B i) ∧ B i < 256) ∧ txR B n u' = (true, n, K')
            rw [hg _ (by omega)]
            rcases hT with q | ⟨B, m, q1, q2, q3, q4, q5⟩
            · exact .inl q
            · exact .inr ⟨B, m, q1, q2, q3, fun i hi' => by rw [hg _ (by omega)]; exact q4 i hi', q5⟩
          refine ⟨⟨⟨fun k h1 h5 => ?_, ?_⟩, hT 0 K0 (by omega) hR.2.1, hT 1 K1 (by omega) hR.2.2⟩, fun i hi' => by rw [upE_s] at hi'; omega, fun i hi' => ?_⟩
          · show M4 116 k = nI (upE E 6 0 k)
            by_cases e6 : k = 6
            · subst e6; rw [mem5 6, up_s, upE_s]
            · rw [hg k e6, upE_o _ e6]; exact hR.1.1 k h1 h5
          · show M4 116 5 = z
            rw [hg 5 (by omega)]; exact hR.1.2
          · rw [upE_o _ (by omega)] at hi'
            rw [hg _ (by omega)]
            exact hi.2.2.1.2.2 i hi'
  · refine go_f0 hi (k := 1) ?_
    intro e he
    obtain ⟨e, rfl⟩ : ∃ d, e = d + 1 := ⟨e - 1, by omega⟩
    have k1 := c127 (u := x) (σ := FS h M) (e := e) (by omega)
    rw [if_neg hx] at k1
    have kf := c119 (M := M) hh (k := 1) (by omega) (e := e) (by omega)
    refine ⟨by (rw [j_C_eq]; simp (disch := omega) only [st_90_0, st_90_1, st_90_4, st_90_7, st_90_8, st_90_9, st_90_12, st_90_13, st_90_14, st_90_17, st_90_18, st_90_21, st_90_22, st_90_25, st_90_26, st_90_27, st_90_30, st_90_33, st_90_34, st_90_37, st_90_39, st_90_40, st_90_41, st_90_42, st_90_43, st_90_46, st_90_47, st_90_50, st_90_53, st_90_54, st_90_57, st_90_60, st_90_63, st_90_64, ini_90, fs_cl, fs_len, fs_rf, fs_M, fs_put, fs_cpy, ↓reduceIte, rv_ref, true_or, or_true, true_and, and_true, nI_ltI, ix_nI, nI_clamp, ps_i, ps_n, Option.bind_some, sm_0, sm_1, sm_2, sm_3, sm_4, sto_0, sto_1, sto_2, sto_3, sto_4, sto_5, sto_6, sto_7, sto_8, sto_9, sto_10, sto_11, sto_12, sto_13, sto_14, nlo_n, nlo_i, nlo_r, nlo_0, nlo_l, and_self, or_self, Nat.reduceEqDiff, Nat.reduceLT, Nat.reduceLeDiff, Nat.one_ne_zero, Nat.zero_ne_one, w0, f0, r7, m0, q0, a1, a2, e10, k1, kf]), fun M' hR' => ?_⟩
    have kl := r143e (σ := FS h M') x.toInt64 (lN 0) (lN 1) (e := e) (by omega)
    rw [lin_out (fun ⟨j, j1, j2, j3⟩ => hx (by
      have : j = 0 ∨ j = 1 := by omega
      rcases this with e | e <;> (subst e; first | exact .inl j3 | exact .inr j3))) (by omega) (by omega)] at kl
    have kf := r142 (M := M') md (k := 1) (by omega) (e := e) (by omega)
    (rw [j_C_eq]; simp (disch := omega) only [st_163_0, st_163_1, st_163_2, st_163_3, st_163_4, st_163_7, st_163_10, st_163_11, st_163_12, st_163_15, st_163_16, st_163_17, st_163_20, st_163_22, st_163_23, st_163_24, st_163_25, st_163_28, st_163_30, st_163_31, st_163_32, st_163_33, st_163_36, st_163_37, st_163_38, st_163_41, st_163_42, st_163_43, st_163_46, st_163_49, st_163_51, st_163_52, st_163_55, st_163_56, st_163_57, st_163_58, st_163_61, st_163_63, st_163_64, st_163_65, st_163_66, st_163_67, st_163_68, st_163_72, st_163_73, st_163_76, st_163_77, st_163_80, st_163_82, st_163_84, st_163_85, st_163_86, st_163_87, st_163_89, st_163_90, st_163_91, st_163_94, st_163_97, st_163_99, st_163_100, st_163_101, st_163_102, st_163_105, st_163_108, st_163_109, ini_163, fs_cl, fs_len, fs_rf, fs_M, fs_put, fs_cpy, ↓reduceIte, rv_ref, true_or, or_true, true_and, and_true, nI_ltI, ix_nI, nI_clamp, ps_i, ps_n, Option.bind_some, sm_0, sm_1, sm_2, sm_3, sm_4, sto_0, sto_1, sto_2, sto_3, sto_4, sto_5, sto_6, sto_7, sto_8, sto_9, sto_10, sto_11, sto_12, sto_13, sto_14, nlo_n, nlo_i, nlo_r, nlo_0, nlo_l, and_self, or_self, Nat.reduceEqDiff, Nat.reduceLT, Nat.reduceLeDiff, Nat.one_ne_zero, Nat.zero_ne_one, w0, f0, r7, m0, q0, a1, a2, e10, kl, kf])
