/-! Both sides: voice, trace. -/
variable {h : j_Hd} {M M1 M2 M3 : Nat → Nat → Int32} {o b sc sf ar n : Nat} {E E' : Nat → Nat} {z : Int32} {K0 K1 K : List Int32} {T : Nat → Nat} {W : Nat → Int32} {num mk : Int32} {k t : Nat}
theorem ie_vp (hi : IE M E z K0 K1 T W) (hfr : ∀ x, x ≠ 97 → x ≠ 98 → x ≠ 99 → x ≠ 115 → x ≠ 122 → M2 x = M x) (h2 : M2 115 2 = M 115 2) (hv : VP M2) : IE M2 E z K0 K1 T W := by
  obtain ⟨a, b, c, d, e, f1, f2, f3, f4, f5⟩ := hi
  have g := fun x (h1 : x < 97 ∨ (99 < x ∧ x < 115) ∨ (115 < x ∧ x < 122) ∨ 122 < x) => hfr x (by omega) (by omega) (by omega) (by omega) (by omega)
  refine ⟨a, CPi_cg (fun x p q _ _ => g x (by omega)) (g 29 (by omega)) (g 30 (by omega)) (g 31 (by omega)) (g 32 (by omega)) b, by rw [g 116 (by omega)]; exact c, Sd_cg (g 81 (by omega)) d, fun k h1 h2 => by rw [g 114 (by omega), g 118 (by omega)]; exact e k h1 h2, Sd_cg (g 49 (by omega)) f1, ?_, hv, ?_, ?_⟩
  · unfold PK at f2 ⊢
    rw [h2, g 1 (by omega), g 117 (by omega)]
    refine ⟨f2.1, f2.2.imp id ?_⟩
    intro ⟨E, z, K0, K1, T, W, w1, w2, w3⟩
    exact ⟨E, z, K0, K1, T, W, w1, CPi_cg (fun x p q _ _ => g x (by omega)) (g 60 (by omega)) (g 61 (by omega)) (g 62 (by omega)) (g 63 (by omega)) w2, w3⟩
  · intro s hs
    rw [g (101 + 3 * s) (by omega), g (102 + 3 * s) (by omega), g (103 + 3 * s) (by omega), g 123 (by omega), g 124 (by omega), g 125 (by omega)]
    exact f4 s hs
  · unfold ST at f5 ⊢
    rw [g 1001 (by omega), g 1002 (by omega)]; exact f5
theorem Seg_eq {f g : Nat → Int32} : ∀ {l : List Int32} {i : Nat}, Seg f i l → Seg g i l → ∀ j, j < l.length → f (i + j) = g (i + j)
  | [], _, _, _, j, hj => by rw [List.length_nil] at hj; omega
  | x :: l, i, h1, h2, j, hj => by
    by_cases e : j = 0
    · subst e; rw [Nat.add_zero, h1.1, h2.1]
    · have := Seg_eq h1.2 h2.2 (j - 1) (by rw [List.length_cons] at hj; omega)
      rw [show i + 1 + (j - 1) = i + j by omega] at this
      exact this
theorem VP_Tr {L : List Int32} (hl : L.length ≤ 40) (h1 : TrG 98 1 99 M 0 M1 L) (h2 : TrG 115 14 122 M2 0 M3 L) (e1 : M3 98 = M1 98) (e2 : M3 99 = M1 99) : VP M3 := by
  refine ⟨L.length, hl, ?_, ?_, fun i hi => ?_⟩
  · rw [e1, h1.1, Nat.zero_add]
  · rw [h2.1, Nat.zero_add]
  · have := Seg_eq h1.2.2.1 h2.2.2.1 i hi
    rw [Nat.zero_add] at this
    rw [e2]; exact this
theorem wi_sz {x : Int32} {n : Nat} (hn : n < 1000) : (∀ j, j < n → x = nI j → wi x (nI 0) (nI n - nI 1) = nI 1 ∧ lin x.toInt64 (lN 0) (nI n - nI 1).toInt64 = nI 1) ∧ ((¬ ∃ j, j < n ∧ x = nI j) → wi x (nI 0) (nI n - nI 1) = nI 0 ∧ lin x.toInt64 (lN 0) (nI n - nI 1).toInt64 = nI 0) := by
  have es : (nI n - nI 1).toInt = (n : Int) - 1 := by rw [nI_subz, zI_toInt (by omega) (by omega)]; omega
  have el : (nI n - nI 1).toInt64.toInt = (n : Int) - 1 := by rw [Int32.toInt_toInt64, es]
  refine ⟨fun j hj he => ?_, fun hx => ?_⟩
  · subst he
    have ej := nI_tI (n := j) (by omega)
    refine ⟨?_, lin_y (by rw [lN_t (by omega), i64_nI (by omega)]; omega) (by rw [el, i64_nI (by omega)]; omega)⟩
    unfold wi
    rw [if_neg (nI_nlt (Nat.zero_le _) (by omega)), if_neg (by rw [Int32.lt_iff_toInt_lt, es, ej]; omega)]
  · have hb : x.toInt < 0 ∨ (n : Int) ≤ x.toInt := by
      refine Decidable.byContradiction (fun hh => hx ⟨x.toInt.toNat, by omega, ?_⟩)
      rw [nI_z, Int.toNat_of_nonneg (by omega)]
      exact zI_of x
    constructor
    · unfold wi
      by_cases c1 : x < nI 0
      · rw [if_pos c1]
      · rw [if_neg c1]
        rw [lt0] at c1
        rw [if_pos (by rw [Int32.lt_iff_toInt_lt, es]; omega)]
    · refine lin_n (fun ⟨a, b⟩ => ?_)
      rw [lN_t (by omega), Int32.toInt_toInt64] at a
      rw [el, Int32.toInt_toInt64] at b
      omega
theorem g_trace (hh : Hd h) (hi : IE M E z K0 K1 T W) (x : Int32) : Go h M 107 211 [.int x] := by
  have w0 := hh.1.1
  have f0 := hh.1.2.1
  have r7 := hh.1.2.2.2.2.2.2.2.1
  have mk := hh.2.1.1
  have th := hh.2.2.2.1.1
  have md : Md h 115 := hh.2.2.2.2.2.2.2.1
  have m0 := md.1
  have q0 := md.2.1.1
  have a1 := md.2.1.2.1
  have a2 := md.2.1.2.2.1
  have hw := hi.1.1
  have h6 := hw.1
  have h8 := hw.2.1
  have hm := hi.2.1.1
  have hs := hm.1
  have hR : RC M 115 E z K0 K1 := hi.2.2.1.1
  have sd := hi.2.2.2.1
  have e10 : ¬ nI 1 = nI 0 := by decide +kernel
  have f9 := hh.1.2.2.2.2.2.2.2.2.2.1
  obtain ⟨v0, v1, v2⟩ := hh.2.2.2.2.1
  obtain ⟨n, hn, t1, t2, t3⟩ := hi.2.2.2.2.2.2.2.1
  have W1 := wi_sz (x := x) (n := n) (by omega)
  have q7 := md.2.2.2.2.2.2.2.1.1
  have b1 := md.2.2.2.2.2.2.2.1.2.1
  have b2 := md.2.2.2.2.2.2.2.1.2.2.1
  by_cases hx : ∃ j, j < n ∧ x = nI j
  · obtain ⟨j, hj, rfl⟩ := hx
    obtain ⟨wa, wb⟩ := W1.1 j hj rfl
    refine go_q hi ?_
    intro e he
    obtain ⟨e, rfl⟩ : ∃ d, e = d + 1 := ⟨e - 1, by omega⟩
    have kn := n32e (M := M) v2.1 (e := e) (by omega)
    rw [t1] at kn
    have kw := c122e (σ := FS h M) (nI j) (nI 0) (nI n - nI 1) (e := e) (by omega)
    rw [wa] at kw
    have g := n33ie (M := M) v2 (by omega : j < 40) (e := e) (by omega)
    have kl := r143e (σ := FS h M) (nI j).toInt64 (lN 0) (nI n - nI 1).toInt64 (e := e) (by omega)
    rw [wb] at kl
    have j40 : j < 40 := by omega
    refine ⟨M 99 j, M, M, ?_, cq_r, sd, ?_, rg_r, hR⟩
    · (rw [j_C_eq]; simp (disch := omega) only [st_107_0, st_107_1, st_107_2, st_107_3, st_107_6, st_107_9, st_107_12, st_107_13, st_107_14, st_107_17, st_107_20, st_107_21, st_107_24, st_107_27, st_107_28, st_107_31, st_107_34, st_107_35, st_107_36, st_107_39, ini_107, fs_cl, fs_len, fs_rf, fs_M, fs_put, fs_cpy, ↓reduceIte, rv_ref, true_or, or_true, true_and, and_true, nI_ltI, ix_nI, nI_clamp, ps_i, ps_n, Option.bind_some, sm_0, sm_1, sm_2, sm_3, sm_4, sto_0, sto_1, sto_2, sto_3, sto_4, sto_5, sto_6, sto_7, sto_8, sto_9, sto_10, sto_11, sto_12, sto_13, sto_14, nlo_n, nlo_i, nlo_r, nlo_0, nlo_l, and_self, or_self, Nat.reduceEqDiff, Nat.reduceLT, Nat.reduceLeDiff, Nat.one_ne_zero, Nat.zero_ne_one, w0, f0, r7, m0, q0, a1, a2, e10, f9, v0, v1, v2.1, kn, kw, g])
    · rw [t3 j hj]
      (rw [j_C_eq]; simp (disch := omega) only [st_211_0, st_211_1, st_211_2, st_211_3, st_211_4, st_211_7, st_211_8, st_211_9, st_211_10, st_211_13, st_211_16, st_211_17, st_211_20, st_211_21, st_211_22, st_211_25, st_211_26, st_211_27, st_211_30, ini_211, fs_cl, fs_len, fs_rf, fs_M, fs_put, fs_cpy, ↓reduceIte, rv_ref, true_or, or_true, true_and, and_true, nI_ltI, ix_nI, nI_clamp, ps_i, ps_n, Option.bind_some, sm_0, sm_1, sm_2, sm_3, sm_4, sto_0, sto_1, sto_2, sto_3, sto_4, sto_5, sto_6, sto_7, sto_8, sto_9, sto_10, sto_11, sto_12, sto_13, sto_14, nlo_n, nlo_i, nlo_r, nlo_0, nlo_l, and_self, or_self, Nat.reduceEqDiff, Nat.reduceLT, Nat.reduceLeDiff, Nat.one_ne_zero, Nat.zero_ne_one, w0, f0, r7, m0, q0, a1, a2, e10, q7, b1, b2, t2, kl, j40])
  · obtain ⟨wa, wb⟩ := W1.2 hx
    refine go_f hi (k := 2) ?_
    intro e he
    obtain ⟨e, rfl⟩ : ∃ d, e = d + 1 := ⟨e - 1, by omega⟩
    have kn := n32e (M := M) v2.1 (e := e) (by omega)
    rw [t1] at kn
    have kw := c122e (σ := FS h M) x (nI 0) (nI n - nI 1) (e := e) (by omega)
    rw [wa] at kw
    have kf := c119 (M := M) hh (k := 2) (by omega) (e := e) (by omega)
    have kf2 := r142 (M := fc 2 M) md (k := 2) (by omega) (e := e) (by omega)
    have kl := r143e (σ := FS h (fc 2 M)) x.toInt64 (lN 0) (nI n - nI 1).toInt64 (e := e) (by omega)
    rw [wb] at kl
    have t2' : fc 2 M 115 14 = nI n := by unfold fc; rw [up_o _ _ _ _ _ (by omega)]; exact t2
    refine ⟨M, fc 2 M, ?_, cq_r, sd, ?_, rg_r, RC_fc hR⟩
    · (rw [j_C_eq]; simp (disch := omega) only [st_107_0, st_107_1, st_107_2, st_107_3, st_107_6, st_107_9, st_107_12, st_107_13, st_107_14, st_107_17, st_107_20, st_107_21, st_107_24, st_107_27, st_107_28, st_107_31, st_107_34, st_107_35, st_107_36, st_107_39, ini_107, fs_cl, fs_len, fs_rf, fs_M, fs_put, fs_cpy, ↓reduceIte, rv_ref, true_or, or_true, true_and, and_true, nI_ltI, ix_nI, nI_clamp, ps_i, ps_n, Option.bind_some, sm_0, sm_1, sm_2, sm_3, sm_4, sto_0, sto_1, sto_2, sto_3, sto_4, sto_5, sto_6, sto_7, sto_8, sto_9, sto_10, sto_11, sto_12, sto_13, sto_14, nlo_n, nlo_i, nlo_r, nlo_0, nlo_l, and_self, or_self, Nat.reduceEqDiff, Nat.reduceLT, Nat.reduceLeDiff, Nat.one_ne_zero, Nat.zero_ne_one, w0, f0, r7, m0, q0, a1, a2, e10, f9, v0, v1, v2.1, kn, kw, kf])
    · (rw [j_C_eq]; simp (disch := omega) only [st_211_0, st_211_1, st_211_2, st_211_3, st_211_4, st_211_7, st_211_8, st_211_9, st_211_10, st_211_13, st_211_16, st_211_17, st_211_20, st_211_21, st_211_22, st_211_25, st_211_26, st_211_27, st_211_30, ini_211, fs_cl, fs_len, fs_rf, fs_M, fs_put, fs_cpy, ↓reduceIte, rv_ref, true_or, or_true, true_and, and_true, nI_ltI, ix_nI, nI_clamp, ps_i, ps_n, Option.bind_some, sm_0, sm_1, sm_2, sm_3, sm_4, sto_0, sto_1, sto_2, sto_3, sto_4, sto_5, sto_6, sto_7, sto_8, sto_9, sto_10, sto_11, sto_12, sto_13, sto_14, nlo_n, nlo_i, nlo_r, nlo_0, nlo_l, and_self, or_self, Nat.reduceEqDiff, Nat.reduceLT, Nat.reduceLeDiff, Nat.one_ne_zero, Nat.zero_ne_one, w0, f0, r7, m0, q0, a1, a2, e10, t2', kl, kf2])
theorem g_voice (hh : Hd h) (hi : IE M E z K0 K1 T W) (x y v : Int32) : Go h M 106 210 [.int x, .int y, .int v] := by
  have w0 := hh.1.1
  have f0 := hh.1.2.1
  have r7 := hh.1.2.2.2.2.2.2.2.1
  have mk := hh.2.1.1
  have th := hh.2.2.2.1.1
  have md : Md h 115 := hh.2.2.2.2.2.2.2.1
  have m0 := md.1
  have q0 := md.2.1.1
  have a1 := md.2.1.2.1
  have a2 := md.2.1.2.2.1
  have hw := hi.1.1
  have h6 := hw.1
  have h8 := hw.2.1
  have hm := hi.2.1.1
  have hs := hm.1
  have hR : RC M 115 E z K0 K1 := hi.2.2.1.1
  have sd := hi.2.2.2.1
  have e10 : ¬ nI 1 = nI 0 := by decide +kernel
  have f9 := hh.1.2.2.2.2.2.2.2.2.2.1
  obtain ⟨v0, v1, v2⟩ := id hh.2.2.2.2.1
  have hS := hi.2.2.2.2.2.2.2.2.2
  by_cases hx : ∃ j, j < E 0 ∧ x = nI j
  · obtain ⟨t, ht, rfl⟩ := hx
    by_cases hy : ∃ j, 0 ≤ j ∧ j ≤ 3 ∧ y = nI j
    · obtain ⟨a, ha0, ha, rfl⟩ := hy
      obtain ⟨c1, c2, _⟩ := hm.2.1 t ht
      have kd := (hw.2.2.2.2.2.2.1 t ht).1
      have R := mk.2
      intro e he
      obtain ⟨e, rfl⟩ : ∃ d, e = d + 1 := ⟨e - 1, by omega⟩
      -- the class begins
      have M0V : Vc (j_up (j_up (j_up (j_up M 97 1 (nI (E (8 + 5 * t)))) 97 2 (nI t)) 97 3 (nI (E (9 + 5 * t)))) 98 1 (nI 0)) (E (8 + 5 * t)) (nI t) (nI (E (9 + 5 * t))) := by
        refine ⟨?_, ?_, ?_, kd, ?_⟩
        · rw [up_o _ _ _ _ _ (by omega), up_k _ _ _ _ (by omega), up_k _ _ _ _ (by omega), up_s]
        · rw [up_o _ _ _ _ _ (by omega), up_k _ _ _ _ (by omega), up_s]
        · rw [up_o _ _ _ _ _ (by omega), up_s]
        · unfold ST at hS ⊢
          rw [up_r _ _ _ _ (by omega), up_r _ _ _ _ (by omega), up_r _ _ _ _ (by omega), up_r _ _ _ _ (by omega), up_r _ _ _ _ (by omega), up_r _ _ _ _ (by omega), up_r _ _ _ _ (by omega), up_r _ _ _ _ (by omega)]
          exact hS
      have fr0 : ∀ y, y ≠ 97 → y ≠ 98 → (j_up (j_up (j_up (j_up M 97 1 (nI (E (8 + 5 * t)))) 97 2 (nI t)) 97 3 (nI (E (9 + 5 * t)))) 98 1 (nI 0)) y = M y := fun y h1 h2 => by
        rw [up_r _ _ _ _ h2, up_r _ _ _ _ h1, up_r _ _ _ _ h1, up_r _ _ _ _ h1]
      have n0 : (j_up (j_up (j_up (j_up M 97 1 (nI (E (8 + 5 * t)))) 97 2 (nI t)) 97 3 (nI (E (9 + 5 * t)))) 98 1 (nI 0)) 98 1 = nI 0 := up_s _ _ _
      have e101 : (j_up (j_up (j_up (j_up M 97 1 (nI (E (8 + 5 * t)))) 97 2 (nI t)) 97 3 (nI (E (9 + 5 * t)))) 98 1 (nI 0)) 97 1 = nI (E (8 + 5 * t)) := M0V.1
      generalize hM0 : (j_up (j_up (j_up (j_up M 97 1 (nI (E (8 + 5 * t)))) 97 2 (nI t)) 97 3 (nI (E (9 + 5 * t)))) 98 1 (nI 0)) = M0 at M0V fr0 n0 e101
      have g74 : j_C e 74 [.ref 97, .int (nI (E (8 + 5 * t))), .int (nI t), .int (nI (E (9 + 5 * t)))] (FS h M) = some (none, FS h M0) := by
        obtain ⟨e, rfl⟩ : ∃ d, e = d + 1 := ⟨e - 1, by omega⟩
        have k38 := fun M => n38e (M := M) v2.1 (e := e) (by omega)
        rw [← hM0, j_C_eq]
        simp (disch := omega) only [st_74_0, st_74_1, st_74_2, st_74_5, st_74_6, st_74_7, st_74_10, st_74_11, st_74_12, st_74_15, st_74_16, st_74_19, st_74_22, ini_74, fs_cl, fs_len, fs_rf, fs_M, fs_put, fs_cpy, ↓reduceIte, rv_ref, true_or, or_true, true_and, and_true, nI_ltI, ix_nI, nI_clamp, ps_i, ps_n, Option.bind_some, sm_0, sm_1, sm_2, sm_3, sm_4, sto_0, sto_1, sto_2, sto_3, sto_4, sto_5, sto_6, sto_7, sto_8, sto_9, sto_10, sto_11, sto_12, sto_13, sto_14, nlo_n, nlo_i, nlo_r, nlo_0, nlo_l, and_self, or_self, Nat.reduceEqDiff, Nat.reduceLT, Nat.reduceLeDiff, Nat.one_ne_zero, Nat.zero_ne_one, v0, v1, v2.1, k38]
      have g0 := n33ie (M := M) R.1.2 (by omega : t < 6) (e := e) (by omega)
      have g1 := n33ie (M := M) R.2.1.2 (by omega : t < 6) (e := e) (by omega)
      rw [c1] at g0
      rw [c2] at g1
      have k8 := c8ye (M := M) mk hs h6 ht (e := e) (by omega)
      have kw := c122e (σ := FS h M) (nI a) (nI 0) (nI 3) (e := e) (by omega)
      rw [wi_in ha0 ha (by omega)] at kw
      -- either side, by its act
      have main : ∀ (val : Int32 × List Int32), val.2.length ≤ 40 → (∃ M1, j_C (e - 1) 76 [.ref 97, .int (nI (E (8 + 5 * t))), .int (nI a), .int v, .int (nI 0)] (FS h M0) = some (some (.int val.1), FS h M1) ∧ TrG 98 1 99 M0 0 M1 val.2) → (∀ M' : Nat → Nat → Int32, Vr M' 115 t (E (8 + 5 * t)) (nI t) (nI (E (9 + 5 * t))) → M' 115 14 = nI 0 → ∃ M2, (∀ R : j_R, (j_C e 147 [.ref 115, .int (nI t), .int (nI 0)] (FS h M') = some (some (.int (nI (E (8 + 5 * t)))), FS h M')) → True) ∧ j_X e 210 47 [some (.ref 115), some (.int (nI t)), some (.int (nI a)), some (.int v), some (.int (nI (E (8 + 5 * t))))] [] (FS h M') = some (some (.int val.1), FS h M2) ∧ TrG 115 14 122 M' 0 M2 val.2) → ∃ v' M1 M2, j_C (e + 1) 106 [.ref 1, .int (nI t), .int (nI a), .int v] (FS h M) = some (some (.int v'), FS h M1) ∧ j_C (e + 1) 210 [.ref 115, .int (nI t), .int (nI a), .int v] (FS h M1) = some (some (.int v'), FS h M2) ∧ M1 1003 = M 1003 ∧ INv M2 := by
        intro val hlen ⟨M1, p1, p2⟩ href
        have g75 : j_C e 75 [.ref 97, .int (nI a), .int v] (FS h M0) = some (some (.int val.1), FS h M1) := by
          obtain ⟨e', he'⟩ : ∃ d, e = d + 1 := ⟨e - 1, by omega⟩
          rw [he', Nat.add_sub_cancel] at p1
          rw [he', j_C_eq]
          simp (disch := omega) only [st_75_0, st_75_1, st_75_2, st_75_5, st_75_6, st_75_7, st_75_8, st_75_11, ini_75, fs_cl, fs_len, fs_rf, fs_M, fs_put, fs_cpy, ↓reduceIte, rv_ref, true_or, or_true, true_and, and_true, nI_ltI, ix_nI, nI_clamp, ps_i, ps_n, Option.bind_some, sm_0, sm_1, sm_2, sm_3, sm_4, sto_0, sto_1, sto_2, sto_3, sto_4, sto_5, sto_6, sto_7, sto_8, sto_9, sto_10, sto_11, sto_12, sto_13, sto_14, nlo_n, nlo_i, nlo_r, nlo_0, nlo_l, and_self, or_self, Nat.reduceEqDiff, Nat.reduceLT, Nat.reduceLeDiff, Nat.one_ne_zero, Nat.zero_ne_one, v0, e101, p1]
        have frM1 : ∀ y, y ≠ 97 → y ≠ 98 → y ≠ 99 → M1 y = M y := fun y h1 h2 h3 => by rw [p2.2.2.2.1 y h2 h3, fr0 y h1 h2]
        have hR1 : RC M1 115 E z K0 K1 := by
          unfold RC RLd Tx at hR ⊢
          rw [frM1 (115 + 1) (by omega) (by omega) (by omega)]; exact hR
        have VR : Vr (j_up (j_up M1 115 15 (nI t)) 115 14 (nI 0)) 115 t (E (8 + 5 * t)) (nI t) (nI (E (9 + 5 * t))) := by
          refine ⟨?_, rfl, by omega, ?_, ?_, kd⟩
          · rw [up_k _ _ _ _ (by omega), up_s]
          · rw [up_o _ _ _ _ _ (by omega), up_o _ _ _ _ _ (by omega)]; exact hR1.1.1 _ (by omega) (by omega)
          · rw [up_o _ _ _ _ _ (by omega), up_o _ _ _ _ _ (by omega)]; exact hR1.1.1 _ (by omega) (by omega)
        obtain ⟨M2, _, s1, s2⟩ := href _ VR (up_s _ _ _)
        have gk := (Vr_k md VR (e := e) (by omega)).1
        refine ⟨val.1, M1, M2, ?_, ?_, frM1 1003 (by omega) (by omega) (by omega), E, z, K0, K1, T, W, ?_⟩
        · (rw [j_C_eq]; simp (disch := omega) only [st_106_0, st_106_1, st_106_4, st_106_5, st_106_8, st_106_11, st_106_12, st_106_13, st_106_14, st_106_17, st_106_20, st_106_21, st_106_22, st_106_25, st_106_26, st_106_27, st_106_30, st_106_31, st_106_34, st_106_37, st_106_38, st_106_41, st_106_42, st_106_43, st_106_46, st_106_49, st_106_50, st_106_53, st_106_56, st_106_57, st_106_60, st_106_61, st_106_62, st_106_65, ini_106, fs_cl, fs_len, fs_rf, fs_M, fs_put, fs_cpy, ↓reduceIte, rv_ref, true_or, or_true, true_and, and_true, nI_ltI, ix_nI, nI_clamp, ps_i, ps_n, Option.bind_some, sm_0, sm_1, sm_2, sm_3, sm_4, sto_0, sto_1, sto_2, sto_3, sto_4, sto_5, sto_6, sto_7, sto_8, sto_9, sto_10, sto_11, sto_12, sto_13, sto_14, nlo_n, nlo_i, nlo_r, nlo_0, nlo_l, and_self, or_self, Nat.reduceEqDiff, Nat.reduceLT, Nat.reduceLeDiff, Nat.one_ne_zero, Nat.zero_ne_one, w0, f0, r7, m0, q0, a1, a2, e10, f9, mk.1, k8, kw, R.1.1, R.1.2.1, R.2.1.1, R.2.1.2.1, v0, g0, g1, g74, g75])
        · have l8 := r145ye md hR1.1 h6 ht (e := e) (by omega)
          have kl := r143e (σ := FS h M1) (nI a).toInt64 (lN 0) (lN 3) (e := e) (by omega)
          rw [lin_in ha0 ha (by omega)] at kl
          have e15 : j_up (j_up M1 115 15 (nI t)) 115 14 (nI 0) 115 15 = nI t := VR.1
          rw [j_C_eq]
          simp (disch := omega) only [st_210_0, st_210_1, st_210_2, st_210_5, st_210_8, st_210_9, st_210_10, st_210_11, st_210_14, st_210_17, st_210_20, st_210_21, st_210_22, st_210_25, st_210_26, st_210_27, st_210_28, st_210_31, st_210_32, st_210_33, st_210_36, st_210_37, st_210_38, st_210_41, st_210_42, st_210_45, ini_210, fs_cl, fs_len, fs_rf, fs_M, fs_put, fs_cpy, ↓reduceIte, rv_ref, true_or, or_true, true_and, and_true, nI_ltI, ix_nI, nI_clamp, ps_i, ps_n, Option.bind_some, sm_0, sm_1, sm_2, sm_3, sm_4, sto_0, sto_1, sto_2, sto_3, sto_4, sto_5, sto_6, sto_7, sto_8, sto_9, sto_10, sto_11, sto_12, sto_13, sto_14, nlo_n, nlo_i, nlo_r, nlo_0, nlo_l, and_self, or_self, Nat.reduceEqDiff, Nat.reduceLT, Nat.reduceLeDiff, Nat.one_ne_zero, Nat.zero_ne_one, m0, e10, l8, kl, e15, gk]
          exact s1
        · have frM2 : ∀ y, y ≠ 115 → y ≠ 122 → M2 y = M1 y := fun y h1 h2 => by rw [s2.2.2.2.1 y h1 h2, up_r _ _ _ _ h1, up_r _ _ _ _ h1]
          refine ie_vp hi (fun y h1 h2 h3 h4 h5 => by rw [frM2 y h4 h5, frM1 y h1 h2 h3]) ?_ (VP_Tr hlen p2 s2 (frM2 98 (by omega) (by omega)) (frM2 99 (by omega) (by omega)))
          rw [s2.2.2.2.2 2 (by omega), up_k _ _ _ _ (by omega), up_k _ _ _ _ (by omega), frM1 115 (by omega) (by omega) (by omega)]
      have ha4 : a = 0 ∨ a = 1 ∨ a = 2 ∨ a = 3 := by omega
      rcases ha4 with e4 | e4 | e4 | e4
      · subst e4
        refine main (snV (nI t) (E (8 + 5 * t)) v) (by have := sn_len (num := nI t) (E (8 + 5 * t)) v; omega) (h_sn hh M0V kd (by omega) v n0 (by omega) (by omega)) (fun M' hV hn => ?_)
        obtain ⟨M2, s1, s2⟩ := y_sn md hV kd v hn (by omega) (e := e) (by omega)
        refine ⟨M2, fun _ _ => trivial, ?_, s2⟩
        simp (disch := omega) only [st_210_47, st_210_48, st_210_51, st_210_52, st_210_54, st_210_55, st_210_58, st_210_61, st_210_62, st_210_63, st_210_66, st_210_67, st_210_69, st_210_70, st_210_73, st_210_76, st_210_77, st_210_78, st_210_81, st_210_82, st_210_84, st_210_85, st_210_88, st_210_91, st_210_92, st_210_94, st_210_95, st_210_98, ini_210, fs_cl, fs_len, fs_rf, fs_M, fs_put, fs_cpy, ↓reduceIte, rv_ref, true_or, or_true, true_and, and_true, nI_ltI, ix_nI, nI_clamp, ps_i, ps_n, Option.bind_some, sm_0, sm_1, sm_2, sm_3, sm_4, sto_0, sto_1, sto_2, sto_3, sto_4, sto_5, sto_6, sto_7, sto_8, sto_9, sto_10, sto_11, sto_12, sto_13, sto_14, nlo_n, nlo_i, nlo_r, nlo_0, nlo_l, and_self, or_self, Nat.reduceEqDiff, Nat.reduceLT, Nat.reduceLeDiff, Nat.one_ne_zero, Nat.zero_ne_one, m0, nI_eq, s1]
      · subst e4
        refine main (slV (nI t) (nI (E (9 + 5 * t))) (E (8 + 5 * t)) (E (8 + 5 * t)) v) (by have := sl_len (num := nI t) (mk := nI (E (9 + 5 * t))) (k := E (8 + 5 * t)) (E (8 + 5 * t)) v; omega) (h_sl hh M0V kd (by omega) v n0 (by omega) (by omega)) (fun M' hV hn => ?_)
        obtain ⟨M2, s1, s2⟩ := y_sl md hV kd v hn (by omega) (e := e) (by omega)
        refine ⟨M2, fun _ _ => trivial, ?_, s2⟩
        simp (disch := omega) only [st_210_47, st_210_48, st_210_51, st_210_52, st_210_54, st_210_55, st_210_58, st_210_61, st_210_62, st_210_63, st_210_66, st_210_67, st_210_69, st_210_70, st_210_73, st_210_76, st_210_77, st_210_78, st_210_81, st_210_82, st_210_84, st_210_85, st_210_88, st_210_91, st_210_92, st_210_94, st_210_95, st_210_98, ini_210, fs_cl, fs_len, fs_rf, fs_M, fs_put, fs_cpy, ↓reduceIte, rv_ref, true_or, or_true, true_and, and_true, nI_ltI, ix_nI, nI_clamp, ps_i, ps_n, Option.bind_some, sm_0, sm_1, sm_2, sm_3, sm_4, sto_0, sto_1, sto_2, sto_3, sto_4, sto_5, sto_6, sto_7, sto_8, sto_9, sto_10, sto_11, sto_12, sto_13, sto_14, nlo_n, nlo_i, nlo_r, nlo_0, nlo_l, and_self, or_self, Nat.reduceEqDiff, Nat.reduceLT, Nat.reduceLeDiff, Nat.one_ne_zero, Nat.zero_ne_one, m0, e10, nI_eq, s1]
      · subst e4
        refine main (tkV (nI t) (nI (E (9 + 5 * t))) (E (8 + 5 * t)) v) (by have := tk_len (num := nI t) (mk := nI (E (9 + 5 * t))) (E (8 + 5 * t)) v; omega) (h_tk hh M0V kd (by omega) v n0 (by omega) (by omega)) (fun M' hV hn => ?_)
        obtain ⟨M2, s1, s2⟩ := y_tk md hV kd v hn (by omega) (e := e) (by omega)
        refine ⟨M2, fun _ _ => trivial, ?_, s2⟩
        simp (disch := omega) only [st_210_47, st_210_48, st_210_51, st_210_52, st_210_54, st_210_55, st_210_58, st_210_61, st_210_62, st_210_63, st_210_66, st_210_67, st_210_69, st_210_70, st_210_73, st_210_76, st_210_77, st_210_78, st_210_81, st_210_82, st_210_84, st_210_85, st_210_88, st_210_91, st_210_92, st_210_94, st_210_95, st_210_98, ini_210, fs_cl, fs_len, fs_rf, fs_M, fs_put, fs_cpy, ↓reduceIte, rv_ref, true_or, or_true, true_and, and_true, nI_ltI, ix_nI, nI_clamp, ps_i, ps_n, Option.bind_some, sm_0, sm_1, sm_2, sm_3, sm_4, sto_0, sto_1, sto_2, sto_3, sto_4, sto_5, sto_6, sto_7, sto_8, sto_9, sto_10, sto_11, sto_12, sto_13, sto_14, nlo_n, nlo_i, nlo_r, nlo_0, nlo_l, and_self, or_self, Nat.reduceEqDiff, Nat.reduceLT, Nat.reduceLeDiff, Nat.one_ne_zero, Nat.zero_ne_one, m0, nI_eq, s1]
      · subst e4
        refine main (tlV (nI t) (nI (E (9 + 5 * t))) (E (8 + 5 * t)) (E (8 + 5 * t)) v) (by have := tl_len (num := nI t) (mk := nI (E (9 + 5 * t))) (k := E (8 + 5 * t)) (E (8 + 5 * t)) v; omega) (h_tl hh M0V kd (by omega) v n0 (by omega) (by omega)) (fun M' hV hn => ?_)
        obtain ⟨M2, s1, s2⟩ := y_tl md hV kd v hn (by omega) (e := e) (by omega)
        refine ⟨M2, fun _ _ => trivial, ?_, s2⟩
        simp (disch := omega) only [st_210_47, st_210_48, st_210_51, st_210_52, st_210_54, st_210_55, st_210_58, st_210_61, st_210_62, st_210_63, st_210_66, st_210_67, st_210_69, st_210_70, st_210_73, st_210_76, st_210_77, st_210_78, st_210_81, st_210_82, st_210_84, st_210_85, st_210_88, st_210_91, st_210_92, st_210_94, st_210_95, st_210_98, ini_210, fs_cl, fs_len, fs_rf, fs_M, fs_put, fs_cpy, ↓reduceIte, rv_ref, true_or, or_true, true_and, and_true, nI_ltI, ix_nI, nI_clamp, ps_i, ps_n, Option.bind_some, sm_0, sm_1, sm_2, sm_3, sm_4, sto_0, sto_1, sto_2, sto_3, sto_4, sto_5, sto_6, sto_7, sto_8, sto_9, sto_10, sto_11, sto_12, sto_13, sto_14, nlo_n, nlo_i, nlo_r, nlo_0, nlo_l, and_self, or_self, Nat.reduceEqDiff, Nat.reduceLT, Nat.reduceLeDiff, Nat.one_ne_zero, Nat.zero_ne_one, m0, nI_eq, s1]
    · refine go_f0 hi (k := 1) ?_
      intro e he
      obtain ⟨e, rfl⟩ : ∃ d, e = d + 1 := ⟨e - 1, by omega⟩
      have k8 := c8ye (M := M) mk hs h6 ht (e := e) (by omega)
      have kw := c122e (σ := FS h M) y (nI 0) (nI 3) (e := e) (by omega)
      rw [wi_out hy (by omega) (by omega)] at kw
      have kf := c119 (M := M) hh (k := 1) (by omega) (e := e) (by omega)
      refine ⟨by (rw [j_C_eq]; simp (disch := omega) only [st_106_0, st_106_1, st_106_4, st_106_5, st_106_8, st_106_11, st_106_12, st_106_13, st_106_14, st_106_17, st_106_20, st_106_21, st_106_22, st_106_25, st_106_26, st_106_27, st_106_30, st_106_31, st_106_34, st_106_37, st_106_38, st_106_41, st_106_42, st_106_43, st_106_46, st_106_49, st_106_50, st_106_53, st_106_56, st_106_57, st_106_60, st_106_61, st_106_62, st_106_65, ini_106, fs_cl, fs_len, fs_rf, fs_M, fs_put, fs_cpy, ↓reduceIte, rv_ref, true_or, or_true, true_and, and_true, nI_ltI, ix_nI, nI_clamp, ps_i, ps_n, Option.bind_some, sm_0, sm_1, sm_2, sm_3, sm_4, sto_0, sto_1, sto_2, sto_3, sto_4, sto_5, sto_6, sto_7, sto_8, sto_9, sto_10, sto_11, sto_12, sto_13, sto_14, nlo_n, nlo_i, nlo_r, nlo_0, nlo_l, and_self, or_self, Nat.reduceEqDiff, Nat.reduceLT, Nat.reduceLeDiff, Nat.one_ne_zero, Nat.zero_ne_one, w0, f0, r7, m0, q0, a1, a2, e10, mk.1, k8, kw, kf]), fun M' hR' => ?_⟩
      have l8 := r145ye md hR'.1 h6 ht (e := e) (by omega)
      have kl := r143e (σ := FS h M') y.toInt64 (lN 0) (lN 3) (e := e) (by omega)
      rw [lin_out hy (by omega) (by omega)] at kl
      have kf := r142 (M := M') md (k := 1) (by omega) (e := e) (by omega)
      (rw [j_C_eq]; simp (disch := omega) only [st_210_0, st_210_1, st_210_2, st_210_5, st_210_8, st_210_9, st_210_10, st_210_11, st_210_14, st_210_17, st_210_20, st_210_21, st_210_22, st_210_25, st_210_26, st_210_27, st_210_28, st_210_31, st_210_32, st_210_33, st_210_36, st_210_37, st_210_38, st_210_41, st_210_42, st_210_45, st_210_47, st_210_48, st_210_51, st_210_52, st_210_54, st_210_55, st_210_58, st_210_61, st_210_62, st_210_63, st_210_66, st_210_67, st_210_69, st_210_70, st_210_73, st_210_76, st_210_77, st_210_78, st_210_81, st_210_82, st_210_84, st_210_85, st_210_88, st_210_91, st_210_92, st_210_94, st_210_95, st_210_98, ini_210, fs_cl, fs_len, fs_rf, fs_M, fs_put, fs_cpy, ↓reduceIte, rv_ref, true_or, or_true, true_and, and_true, nI_ltI, ix_nI, nI_clamp, ps_i, ps_n, Option.bind_some, sm_0, sm_1, sm_2, sm_3, sm_4, sto_0, sto_1, sto_2, sto_3, sto_4, sto_5, sto_6, sto_7, sto_8, sto_9, sto_10, sto_11, sto_12, sto_13, sto_14, nlo_n, nlo_i, nlo_r, nlo_0, nlo_l, and_self, or_self, Nat.reduceEqDiff, Nat.reduceLT, Nat.reduceLeDiff, Nat.one_ne_zero, Nat.zero_ne_one, w0, f0, r7, m0, q0, a1, a2, e10, l8, kl, kf])
  · refine go_f0 hi (k := 1) ?_
    intro e he
    obtain ⟨e, rfl⟩ : ∃ d, e = d + 1 := ⟨e - 1, by omega⟩
    have k8 := c8ne (M := M) mk hs h6 hx (e := e) (by omega)
    have kf := c119 (M := M) hh (k := 1) (by omega) (e := e) (by omega)
    refine ⟨by (rw [j_C_eq]; simp (disch := omega) only [st_106_0, st_106_1, st_106_4, st_106_5, st_106_8, st_106_11, st_106_12, st_106_13, st_106_14, st_106_17, st_106_20, st_106_21, st_106_22, st_106_25, st_106_26, st_106_27, st_106_30, st_106_31, st_106_34, st_106_37, st_106_38, st_106_41, st_106_42, st_106_43, st_106_46, st_106_49, st_106_50, st_106_53, st_106_56, st_106_57, st_106_60, st_106_61, st_106_62, st_106_65, ini_106, fs_cl, fs_len, fs_rf, fs_M, fs_put, fs_cpy, ↓reduceIte, rv_ref, true_or, or_true, true_and, and_true, nI_ltI, ix_nI, nI_clamp, ps_i, ps_n, Option.bind_some, sm_0, sm_1, sm_2, sm_3, sm_4, sto_0, sto_1, sto_2, sto_3, sto_4, sto_5, sto_6, sto_7, sto_8, sto_9, sto_10, sto_11, sto_12, sto_13, sto_14, nlo_n, nlo_i, nlo_r, nlo_0, nlo_l, and_self, or_self, Nat.reduceEqDiff, Nat.reduceLT, Nat.reduceLeDiff, Nat.one_ne_zero, Nat.zero_ne_one, w0, f0, r7, m0, q0, a1, a2, e10, mk.1, k8, kf]), fun M' hR' => ?_⟩
    have l8 := r145ne md hR'.1 h6 hx (e := e) (by omega)
    have kf := r142 (M := M') md (k := 1) (by omega) (e := e) (by omega)
    (rw [j_C_eq]; simp (disch := omega) only [st_210_0, st_210_1, st_210_2, st_210_5, st_210_8, st_210_9, st_210_10, st_210_11, st_210_14, st_210_17, st_210_20, st_210_21, st_210_22, st_210_25, st_210_26, st_210_27, st_210_28, st_210_31, st_210_32, st_210_33, st_210_36, st_210_37, st_210_38, st_210_41, st_210_42, st_210_45, st_210_47, st_210_48, st_210_51, st_210_52, st_210_54, st_210_55, st_210_58, st_210_61, st_210_62, st_210_63, st_210_66, st_210_67, st_210_69, st_210_70, st_210_73, st_210_76, st_210_77, st_210_78, st_210_81, st_210_82, st_210_84, st_210_85, st_210_88, st_210_91, st_210_92, st_210_94, st_210_95, st_210_98, ini_210, fs_cl, fs_len, fs_rf, fs_M, fs_put, fs_cpy, ↓reduceIte, rv_ref, true_or, or_true, true_and, and_true, nI_ltI, ix_nI, nI_clamp, ps_i, ps_n, Option.bind_some, sm_0, sm_1, sm_2, sm_3, sm_4, sto_0, sto_1, sto_2, sto_3, sto_4, sto_5, sto_6, sto_7, sto_8, sto_9, sto_10, sto_11, sto_12, sto_13, sto_14, nlo_n, nlo_i, nlo_r, nlo_0, nlo_l, and_self, or_self, Nat.reduceEqDiff, Nat.reduceLT, Nat.reduceLeDiff, Nat.one_ne_zero, Nat.zero_ne_one, w0, f0, r7, m0, q0, a1, a2, e10, l8, kf])
