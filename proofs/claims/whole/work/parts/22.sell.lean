/-! The class's Market: worth and sales. -/
variable {h : j_Hd} {M : Nat → Nat → Int32} {σ : j_St} {d b : Nat} {E : Nat → Nat} {z : Int32} {K0 K1 : List Int32}
def bit_ (l k : Nat) : Nat := l / 2 ^ k % 2
def nbt (l k : Nat) : Nat := 1 - l / 2 ^ k % 2
def st3 (f : Nat → Nat) (x y z : Nat) : Nat := (if x = 0 then 0 else 3 * f x) + (if y = 0 then 0 else 2 * f y) + (if z = 0 then 0 else f z)
def st1 (f : Nat → Nat) (x : Nat) : Nat := if x = 0 then 0 else 3 * f x
theorem bt_l : ∀ l, l < 256 → ∀ k, k < 8 → bt (nI l) k = nI (bit_ l k) := by decide +kernel
theorem bt_n : ∀ l, l < 256 → ∀ k, k < 8 → bt (nI l ^^^ (-1)) k = nI (nbt l k) := by decide +kernel
theorem bit_1 (l k : Nat) : bit_ l k ≤ 1 := by unfold bit_; omega
theorem nbt_1 (l k : Nat) : nbt l k ≤ 1 := by unfold nbt; omega
theorem str_b {v : Nat} {s : Int32} {f : Nat → Nat} {k j : Nat} (hf : bt s k = nI (f k)) (hf1 : f k ≤ 1) : (if bt s k = nI 0 then 0 else j) = j * f k := by
  rw [hf]
  by_cases e : f k = 0
  · rw [e, if_pos rfl]; omega
  · rw [if_neg (nI_ne e (by omega) (by omega)), show f k = 1 by omega]; omega
theorem str_3 {x y z : Nat} (hr : Rw x y z) {s : Int32} {f : Nat → Nat} (hf : ∀ k, k < 8 → bt s k = nI (f k)) (hf1 : ∀ k, f k ≤ 1) : str (rn x y z) s 3 = st3 f x y z ∧ str (rn x y z) s 1 = st1 f x := by
  have d0 := dg_0 hr
  have d1 := dg_1 hr
  have d2 := dg_2 hr
  have hs := sz_rn hr
  have g3 := rs_le (x := x) (y := y) (z := z)
  obtain ⟨h1, h2, h3, h4, h5⟩ := hr
  have q : ∀ i : Nat, ∀ w : Nat, (i < rs x y z → dg (rn x y z) 10 (rs x y z - 1 - i) = w ∧ w < 8 ∧ w ≠ 0) → (¬ i < rs x y z → w = 0) → (if i < sz (rn x y z) then (if bt s (dg (rn x y z) 10 (sz (rn x y z) - 1 - i)) = nI 0 then 0 else 3 - i) else 0) = if w = 0 then 0 else (3 - i) * f w := by
    intro i w a1 a2
    rw [hs]
    by_cases hi : i < rs x y z
    · obtain ⟨b1, b2, b3⟩ := a1 hi
      rw [if_pos hi, b1, if_neg b3]
      exact str_b (v := 0) (hf w b2) (hf1 w)
    · rw [if_neg hi, if_pos (a2 hi)]
  have x0 : x = 0 ↔ rs x y z = 0 := by
    unfold rs; by_cases e : x = 0
    · simp [e]
    · rw [if_neg e]; constructor
      · intro e2; exact absurd e2 e
      · intro e2; split at e2 <;> (try split at e2) <;> omega
  have y0 : y = 0 ↔ rs x y z ≤ 1 := by
    unfold rs; by_cases e : x = 0
    · rw [if_pos e]; simp [h4 e]
    · rw [if_neg e]; by_cases e2 : y = 0
      · simp [e2]
      · rw [if_neg e2]; constructor
        · intro e3; exact absurd e3 e2
        · intro e3; split at e3 <;> omega
  have z0 : z = 0 ↔ rs x y z ≤ 2 := by
    unfold rs; by_cases e : x = 0
    · rw [if_pos e]; simp [h5 (h4 e)]
    · rw [if_neg e]; by_cases e2 : y = 0
      · simp [e2, h5 e2]
      · rw [if_neg e2]; by_cases e3 : z = 0
        · simp [e3]
        · simp [e3]
  have p0 := q 0 x (fun hi => ⟨by rw [Nat.sub_zero]; exact d0, by omega, by omega⟩) (fun hi => by omega)
  have p1 := q 1 y (fun hi => ⟨d1 hi, by omega, by omega⟩) (fun hi => by omega)
  have p2 := q 2 z (fun hi => ⟨d2 hi, by omega, by omega⟩) (fun hi => by omega)
  constructor
  · rw [str, str, str, str, p0, p1, p2, st3]
    simp only [Nat.sub_zero, Nat.zero_add, Nat.reduceSub, Nat.one_mul]
  · rw [str, str, p0, st1]
    simp only [Nat.sub_zero, Nat.zero_add]
/-- WORTH -/
def wth (E : Nat → Nat) (K : List Int32) (c t : Nat) : Int32 :=
  if E (8 + 5 * t) = 1 then gv0 K (nI (E (38 + 5 * c))) (nI (st3 (bit_ (E (12 + 5 * t))) (E (40 + 5 * c)) (E (41 + 5 * c)) (E (42 + 5 * c)))) (nI 0)
  else if E (8 + 5 * t) = 2 then gv0 K (nI (E (38 + 5 * c))) (nI (st3 (bit_ (E (12 + 5 * t))) (E (40 + 5 * c)) (E (41 + 5 * c)) (E (42 + 5 * c)))) (nI (st3 (nbt (E (12 + 5 * t))) (E (40 + 5 * c)) (E (41 + 5 * c)) (E (42 + 5 * c)))) + nI (nE E c)
  else if E (8 + 5 * t) = 3 then gv0 K (nI (E (38 + 5 * c))) (nI 2 * nI (st3 (bit_ (E (12 + 5 * t))) (E (40 + 5 * c)) (E (41 + 5 * c)) (E (42 + 5 * c)))) (nI 2 * nI (st3 (nbt (E (12 + 5 * t))) (E (40 + 5 * c)) (E (41 + 5 * c)) (E (42 + 5 * c))))
  else if E (8 + 5 * t) = 4 then gv0 K (nI (E (38 + 5 * c))) (nI (st3 (bit_ (E (12 + 5 * t))) (E (40 + 5 * c)) (E (41 + 5 * c)) (E (42 + 5 * c)))) (nI 0) + nI (E (9 + 5 * t))
  else if E (8 + 5 * t) = 5 then nI (E (38 + 5 * c)) * nI 10
  else if E (8 + 5 * t) = 6 then gv0 K (nI (E (38 + 5 * c))) (nI 2 * nI (st1 (bit_ (E (12 + 5 * t))) (E (40 + 5 * c)))) (nI 2 * nI (st1 (nbt (E (12 + 5 * t))) (E (40 + 5 * c))))
  else gv0 K (nI (E (38 + 5 * c))) (nI (st3 (bit_ (E (12 + 5 * t))) (E (40 + 5 * c)) (E (41 + 5 * c)) (E (42 + 5 * c)))) (nI (st3 (nbt (E (12 + 5 * t))) (E (40 + 5 * c)) (E (41 + 5 * c)) (E (42 + 5 * c))))
theorem c17 (hk : Mk h b) (hm : CM M b E z K0 K1) (hw : WE E) {c t : Nat} (ht : t < E 0) (hc : c < E 1) : ∃ M', j_C (d + 4) 17 [.ref b, .int (nI c), .int (nI t)] (FS h M) = some (some (.int (wth E K0 c t)), FS h M') ∧ sg b M M' := by
  have hk' := hk
  obtain ⟨m0, ⟨r0, n0⟩, ⟨r1, n1⟩, ⟨r2, n2⟩, ⟨r3, n3⟩, ⟨r4, n4⟩, ⟨r5, n5⟩, ⟨r6, n6⟩, ⟨r7, n7⟩, _, _⟩ := hk'
  have h6 := hw.1
  have h8 := hw.2.1
  obtain ⟨t1, t2, t3, t4, t5⟩ := hm.2.1 t ht
  obtain ⟨c1, c2, c3⟩ := hm.2.2.1 c hc
  obtain ⟨v1, v2, v3, v4, v5, v6⟩ := hw.2.2.2.2.2.2.1 t ht
  obtain ⟨w1, w2, w3, w4⟩ := hw.2.2.2.2.2.2.2 c hc
  have hcd := hm.2.2.2.2.2.1
  have G : ∀ M : Nat → Nat → Int32, j_C (d + 3) 33 [.ref (b + 1), .int (nI t)] (FS h M) = some (some (.int (M (b + 2) t)), FS h M) ∧ j_C (d + 3) 33 [.ref (b + 3), .int (nI t)] (FS h M) = some (some (.int (M (b + 4) t)), FS h M) ∧ j_C (d + 3) 33 [.ref (b + 9), .int (nI t)] (FS h M) = some (some (.int (M (b + 10) t)), FS h M) ∧ j_C (d + 3) 33 [.ref (b + 11), .int (nI c)] (FS h M) = some (some (.int (M (b + 12) c)), FS h M) ∧ j_C (d + 3) 33 [.ref (b + 15), .int (nI c)] (FS h M) = some (some (.int (M (b + 16) c)), FS h M) :=
    fun M => ⟨n33i n0 (by omega), n33i n1 (by omega), n33i n4 (by omega), n33i n5 (by omega), n33i n7 (by omega)⟩
  have hrl := rn_lt w4
  have S1 := str_3 w4 (bt_l _ v6) (bit_1 _)
  have S2 := str_3 w4 (bt_n _ v6) (nbt_1 _)
  have Fa : j_C (d + 3) 138 [.int (nI (rE E c)), .int (nI (E (12 + 5 * t))), .int (nI 3)] = fun σ => some (some (.int (nI (st3 (bit_ (E (12 + 5 * t))) (E (40 + 5 * c)) (E (41 + 5 * c)) (E (42 + 5 * c))))), σ) := funext fun σ => by
    have := c138 (σ := σ) (d := d + 1) (v := rE E c) (p := 3) (nI (E (12 + 5 * t))) (by unfold rE; omega) (by omega)
    rw [this]; unfold rE; rw [S1.1]
  have Fb : j_C (d + 3) 138 [.int (nI (rE E c)), .int (nI (E (12 + 5 * t)) ^^^ (-1)), .int (nI 3)] = fun σ => some (some (.int (nI (st3 (nbt (E (12 + 5 * t))) (E (40 + 5 * c)) (E (41 + 5 * c)) (E (42 + 5 * c))))), σ) := funext fun σ => by
    have := c138 (σ := σ) (d := d + 1) (v := rE E c) (p := 3) (nI (E (12 + 5 * t)) ^^^ (-1)) (by unfold rE; omega) (by omega)
    rw [this]; unfold rE; rw [S2.1]
  have Fc : j_C (d + 3) 138 [.int (nI (rE E c)), .int (nI (E (12 + 5 * t))), .int (nI 1)] = fun σ => some (some (.int (nI (st1 (bit_ (E (12 + 5 * t))) (E (40 + 5 * c))))), σ) := funext fun σ => by
    have := c138 (σ := σ) (d := d + 1) (v := rE E c) (p := 1) (nI (E (12 + 5 * t))) (by unfold rE; omega) (by omega)
    rw [this]; unfold rE; rw [S1.2]
  have Fd : j_C (d + 3) 138 [.int (nI (rE E c)), .int (nI (E (12 + 5 * t)) ^^^ (-1)), .int (nI 1)] = fun σ => some (some (.int (nI (st1 (nbt (E (12 + 5 * t))) (E (40 + 5 * c))))), σ) := funext fun σ => by
    have := c138 (σ := σ) (d := d + 1) (v := rE E c) (p := 1) (nI (E (12 + 5 * t)) ^^^ (-1)) (by unfold rE; omega) (by omega)
    rw [this]; unfold rE; rw [S2.2]
  have F2 : j_C (d + 3) 133 [.int (nI (rE E c))] = fun σ => some (some (.int (nI (nE E c))), σ) := funext fun σ => by
    have := c133 (σ := σ) (d := d + 2) (v := rE E c) (by unfold rE; omega)
    rw [this]; unfold rE nE; rw [sz_rn w4]
  have V := fun x y w => c16a (d := d) (M := M) hk hcd x y w
  have hcase : E (8 + 5 * t) = 0 ∨ E (8 + 5 * t) = 1 ∨ E (8 + 5 * t) = 2 ∨ E (8 + 5 * t) = 3 ∨ E (8 + 5 * t) = 4 ∨ E (8 + 5 * t) = 5 ∨ E (8 + 5 * t) = 6 := by omega
  unfold wth
  rcases hcase with e | e | e | e | e | e | e
  · obtain ⟨M', p1, p2⟩ := V (nI (E (38 + 5 * c))) (nI (st3 (bit_ (E (12 + 5 * t))) (E (40 + 5 * c)) (E (41 + 5 * c)) (E (42 + 5 * c)))) (nI (st3 (nbt (E (12 + 5 * t))) (E (40 + 5 * c)) (E (41 + 5 * c)) (E (42 + 5 * c))))
    have q : M' (b + 4) t = M (b + 4) t := by rw [p2 (b + 4) (by omega) (by omega) (by omega) (by omega)]
    refine ⟨M', ?_, p2⟩
    rw [j_C_eq]
    simp (disch := omega) only [st_17_0, st_17_1, st_17_4, st_17_5, st_17_8, st_17_9, st_17_10, st_17_13, st_17_14, st_17_17, st_17_19, st_17_20, st_17_23, st_17_24, st_17_27, st_17_29, st_17_30, st_17_32, st_17_35, st_17_36, st_17_39, st_17_40, st_17_42, st_17_44, st_17_45, st_17_48, st_17_49, st_17_52, st_17_54, st_17_57, st_17_59, st_17_61, st_17_62, st_17_65, st_17_66, st_17_69, st_17_70, st_17_71, st_17_73, st_17_76, st_17_78, st_17_79, st_17_116, st_17_117, st_17_118, st_17_120, st_17_122, st_17_123, st_17_126, st_17_127, st_17_128, st_17_129, st_17_131, st_17_133, st_17_134, st_17_137, st_17_138, st_17_141, st_17_142, st_17_145, st_17_146, st_17_147, st_17_148, st_17_149, st_17_151, st_17_152, st_17_154, st_17_155, st_17_156, st_17_158, st_17_159, st_17_162, st_17_163, st_17_164, st_17_165, st_17_167, st_17_169, st_17_171, st_17_174, st_17_176, st_17_179, st_17_180, st_17_181, st_17_183, st_17_185, st_17_186, st_17_187, st_17_188, st_17_189, st_17_191, st_17_193, st_17_195, st_17_198, ini_17, fs_cl, fs_len, fs_rf, fs_M, fs_put, fs_cpy, ↓reduceIte, rv_ref, true_or, or_true, true_and, and_true, nI_ltI, ix_nI, nI_clamp, ps_i, ps_n, Option.bind_some, sm_0, sm_1, sm_2, sm_3, sm_4, sto_0, sto_1, sto_2, sto_3, sto_4, sto_5, sto_6, sto_7, sto_8, sto_9, sto_10, sto_11, sto_12, sto_13, sto_14, nlo_n, nlo_i, nlo_r, nlo_0, nlo_l, and_self, or_self, Nat.reduceEqDiff, Nat.reduceLT, Nat.reduceLeDiff, Nat.one_ne_zero, Nat.zero_ne_one, m0, r0, r1, r4, r5, r7, n0.1, n1.1, n4.1, n5.1, n7.1, G, t1, t2, t5, c1, c3, e, nI_eq, Fa, Fb, Fc, Fd, F2, p1, q]
  · obtain ⟨M', p1, p2⟩ := V (nI (E (38 + 5 * c))) (nI (st3 (bit_ (E (12 + 5 * t))) (E (40 + 5 * c)) (E (41 + 5 * c)) (E (42 + 5 * c)))) (nI 0)
    have q : M' (b + 4) t = M (b + 4) t := by rw [p2 (b + 4) (by omega) (by omega) (by omega) (by omega)]
    refine ⟨M', ?_, p2⟩
    rw [j_C_eq]
    simp (disch := omega) only [st_17_0, st_17_1, st_17_4, st_17_5, st_17_8, st_17_9, st_17_10, st_17_13, st_17_14, st_17_17, st_17_19, st_17_20, st_17_23, st_17_24, st_17_27, st_17_29, st_17_30, st_17_32, st_17_35, st_17_36, st_17_39, st_17_40, st_17_42, st_17_44, st_17_45, st_17_48, st_17_49, st_17_52, st_17_54, st_17_57, st_17_59, st_17_61, st_17_62, st_17_65, st_17_66, st_17_69, st_17_70, st_17_71, st_17_73, st_17_76, st_17_78, st_17_79, st_17_116, st_17_117, st_17_118, st_17_120, st_17_122, st_17_123, st_17_126, st_17_127, st_17_128, st_17_129, st_17_131, st_17_133, st_17_134, st_17_137, st_17_138, st_17_141, st_17_142, st_17_145, st_17_146, st_17_147, st_17_148, st_17_149, st_17_151, st_17_152, st_17_154, st_17_155, st_17_156, st_17_158, st_17_159, st_17_162, st_17_163, st_17_164, st_17_165, st_17_167, st_17_169, st_17_171, st_17_174, st_17_176, st_17_179, st_17_180, st_17_181, st_17_183, st_17_185, st_17_186, st_17_187, st_17_188, st_17_189, st_17_191, st_17_193, st_17_195, st_17_198, ini_17, fs_cl, fs_len, fs_rf, fs_M, fs_put, fs_cpy, ↓reduceIte, rv_ref, true_or, or_true, true_and, and_true, nI_ltI, ix_nI, nI_clamp, ps_i, ps_n, Option.bind_some, sm_0, sm_1, sm_2, sm_3, sm_4, sto_0, sto_1, sto_2, sto_3, sto_4, sto_5, sto_6, sto_7, sto_8, sto_9, sto_10, sto_11, sto_12, sto_13, sto_14, nlo_n, nlo_i, nlo_r, nlo_0, nlo_l, and_self, or_self, Nat.reduceEqDiff, Nat.reduceLT, Nat.reduceLeDiff, Nat.one_ne_zero, Nat.zero_ne_one, m0, r0, r1, r4, r5, r7, n0.1, n1.1, n4.1, n5.1, n7.1, G, t1, t2, t5, c1, c3, e, nI_eq, Fa, Fb, Fc, Fd, F2, p1, q]
  · obtain ⟨M', p1, p2⟩ := V (nI (E (38 + 5 * c))) (nI (st3 (bit_ (E (12 + 5 * t))) (E (40 + 5 * c)) (E (41 + 5 * c)) (E (42 + 5 * c)))) (nI (st3 (nbt (E (12 + 5 * t))) (E (40 + 5 * c)) (E (41 + 5 * c)) (E (42 + 5 * c))))
    have q : M' (b + 4) t = M (b + 4) t := by rw [p2 (b + 4) (by omega) (by omega) (by omega) (by omega)]
    refine ⟨M', ?_, p2⟩
    rw [j_C_eq]
    simp (disch := omega) only [st_17_0, st_17_1, st_17_4, st_17_5, st_17_8, st_17_9, st_17_10, st_17_13, st_17_14, st_17_17, st_17_19, st_17_20, st_17_23, st_17_24, st_17_27, st_17_29, st_17_30, st_17_32, st_17_35, st_17_36, st_17_39, st_17_40, st_17_42, st_17_44, st_17_45, st_17_48, st_17_49, st_17_52, st_17_54, st_17_57, st_17_59, st_17_61, st_17_62, st_17_65, st_17_66, st_17_69, st_17_70, st_17_71, st_17_73, st_17_76, st_17_78, st_17_79, st_17_116, st_17_117, st_17_118, st_17_120, st_17_122, st_17_123, st_17_126, st_17_127, st_17_128, st_17_129, st_17_131, st_17_133, st_17_134, st_17_137, st_17_138, st_17_141, st_17_142, st_17_145, st_17_146, st_17_147, st_17_148, st_17_149, st_17_151, st_17_152, st_17_154, st_17_155, st_17_156, st_17_158, st_17_159, st_17_162, st_17_163, st_17_164, st_17_165, st_17_167, st_17_169, st_17_171, st_17_174, st_17_176, st_17_179, st_17_180, st_17_181, st_17_183, st_17_185, st_17_186, st_17_187, st_17_188, st_17_189, st_17_191, st_17_193, st_17_195, st_17_198, ini_17, fs_cl, fs_len, fs_rf, fs_M, fs_put, fs_cpy, ↓reduceIte, rv_ref, true_or, or_true, true_and, and_true, nI_ltI, ix_nI, nI_clamp, ps_i, ps_n, Option.bind_some, sm_0, sm_1, sm_2, sm_3, sm_4, sto_0, sto_1, sto_2, sto_3, sto_4, sto_5, sto_6, sto_7, sto_8, sto_9, sto_10, sto_11, sto_12, sto_13, sto_14, nlo_n, nlo_i, nlo_r, nlo_0, nlo_l, and_self, or_self, Nat.reduceEqDiff, Nat.reduceLT, Nat.reduceLeDiff, Nat.one_ne_zero, Nat.zero_ne_one, m0, r0, r1, r4, r5, r7, n0.1, n1.1, n4.1, n5.1, n7.1, G, t1, t2, t5, c1, c3, e, nI_eq, Fa, Fb, Fc, Fd, F2, p1, q]
  · obtain ⟨M', p1, p2⟩ := V (nI (E (38 + 5 * c))) (nI 2 * (nI (st3 (bit_ (E (12 + 5 * t))) (E (40 + 5 * c)) (E (41 + 5 * c)) (E (42 + 5 * c))))) (nI 2 * (nI (st3 (nbt (E (12 + 5 * t))) (E (40 + 5 * c)) (E (41 + 5 * c)) (E (42 + 5 * c)))))
    have q : M' (b + 4) t = M (b + 4) t := by rw [p2 (b + 4) (by omega) (by omega) (by omega) (by omega)]
    refine ⟨M', ?_, p2⟩
    rw [j_C_eq]
    simp (disch := omega) only [st_17_0, st_17_1, st_17_4, st_17_5, st_17_8, st_17_9, st_17_10, st_17_13, st_17_14, st_17_17, st_17_19, st_17_20, st_17_23, st_17_24, st_17_27, st_17_29, st_17_30, st_17_32, st_17_35, st_17_36, st_17_39, st_17_40, st_17_42, st_17_44, st_17_45, st_17_48, st_17_49, st_17_52, st_17_54, st_17_57, st_17_59, st_17_61, st_17_62, st_17_65, st_17_66, st_17_69, st_17_70, st_17_71, st_17_73, st_17_76, st_17_78, st_17_79, st_17_116, st_17_117, st_17_118, st_17_120, st_17_122, st_17_123, st_17_126, st_17_127, st_17_128, st_17_129, st_17_131, st_17_133, st_17_134, st_17_137, st_17_138, st_17_141, st_17_142, st_17_145, st_17_146, st_17_147, st_17_148, st_17_149, st_17_151, st_17_152, st_17_154, st_17_155, st_17_156, st_17_158, st_17_159, st_17_162, st_17_163, st_17_164, st_17_165, st_17_167, st_17_169, st_17_171, st_17_174, st_17_176, st_17_179, st_17_180, st_17_181, st_17_183, st_17_185, st_17_186, st_17_187, st_17_188, st_17_189, st_17_191, st_17_193, st_17_195, st_17_198, ini_17, fs_cl, fs_len, fs_rf, fs_M, fs_put, fs_cpy, ↓reduceIte, rv_ref, true_or, or_true, true_and, and_true, nI_ltI, ix_nI, nI_clamp, ps_i, ps_n, Option.bind_some, sm_0, sm_1, sm_2, sm_3, sm_4, sto_0, sto_1, sto_2, sto_3, sto_4, sto_5, sto_6, sto_7, sto_8, sto_9, sto_10, sto_11, sto_12, sto_13, sto_14, nlo_n, nlo_i, nlo_r, nlo_0, nlo_l, and_self, or_self, Nat.reduceEqDiff, Nat.reduceLT, Nat.reduceLeDiff, Nat.one_ne_zero, Nat.zero_ne_one, m0, r0, r1, r4, r5, r7, n0.1, n1.1, n4.1, n5.1, n7.1, G, t1, t2, t5, c1, c3, e, nI_eq, Fa, Fb, Fc, Fd, F2, p1, q]
  · obtain ⟨M', p1, p2⟩ := V (nI (E (38 + 5 * c))) (nI (st3 (bit_ (E (12 + 5 * t))) (E (40 + 5 * c)) (E (41 + 5 * c)) (E (42 + 5 * c)))) (nI 0)
    have q : M' (b + 4) t = M (b + 4) t := by rw [p2 (b + 4) (by omega) (by omega) (by omega) (by omega)]
    refine ⟨M', ?_, p2⟩
    rw [j_C_eq]
    simp (disch := omega) only [st_17_0, st_17_1, st_17_4, st_17_5, st_17_8, st_17_9, st_17_10, st_17_13, st_17_14, st_17_17, st_17_19, st_17_20, st_17_23, st_17_24, st_17_27, st_17_29, st_17_30, st_17_32, st_17_35, st_17_36, st_17_39, st_17_40, st_17_42, st_17_44, st_17_45, st_17_48, st_17_49, st_17_52, st_17_54, st_17_57, st_17_59, st_17_61, st_17_62, st_17_65, st_17_66, st_17_69, st_17_70, st_17_71, st_17_73, st_17_76, st_17_78, st_17_79, st_17_116, st_17_117, st_17_118, st_17_120, st_17_122, st_17_123, st_17_126, st_17_127, st_17_128, st_17_129, st_17_131, st_17_133, st_17_134, st_17_137, st_17_138, st_17_141, st_17_142, st_17_145, st_17_146, st_17_147, st_17_148, st_17_149, st_17_151, st_17_152, st_17_154, st_17_155, st_17_156, st_17_158, st_17_159, st_17_162, st_17_163, st_17_164, st_17_165, st_17_167, st_17_169, st_17_171, st_17_174, st_17_176, st_17_179, st_17_180, st_17_181, st_17_183, st_17_185, st_17_186, st_17_187, st_17_188, st_17_189, st_17_191, st_17_193, st_17_195, st_17_198, ini_17, fs_cl, fs_len, fs_rf, fs_M, fs_put, fs_cpy, ↓reduceIte, rv_ref, true_or, or_true, true_and, and_true, nI_ltI, ix_nI, nI_clamp, ps_i, ps_n, Option.bind_some, sm_0, sm_1, sm_2, sm_3, sm_4, sto_0, sto_1, sto_2, sto_3, sto_4, sto_5, sto_6, sto_7, sto_8, sto_9, sto_10, sto_11, sto_12, sto_13, sto_14, nlo_n, nlo_i, nlo_r, nlo_0, nlo_l, and_self, or_self, Nat.reduceEqDiff, Nat.reduceLT, Nat.reduceLeDiff, Nat.one_ne_zero, Nat.zero_ne_one, m0, r0, r1, r4, r5, r7, n0.1, n1.1, n4.1, n5.1, n7.1, G, t1, t2, t5, c1, c3, e, nI_eq, Fa, Fb, Fc, Fd, F2, p1, q]
  · refine ⟨M, ?_, sg_r⟩
    rw [j_C_eq]
    simp (disch := omega) only [st_17_0, st_17_1, st_17_4, st_17_5, st_17_8, st_17_9, st_17_10, st_17_13, st_17_14, st_17_17, st_17_19, st_17_20, st_17_23, st_17_24, st_17_27, st_17_29, st_17_30, st_17_32, st_17_35, st_17_36, st_17_39, st_17_40, st_17_42, st_17_44, st_17_45, st_17_48, st_17_49, st_17_52, st_17_54, st_17_57, st_17_59, st_17_61, st_17_62, st_17_65, st_17_66, st_17_69, st_17_70, st_17_71, st_17_73, st_17_76, st_17_78, st_17_79, st_17_116, st_17_117, st_17_118, st_17_120, st_17_122, st_17_123, st_17_126, st_17_127, st_17_128, st_17_129, st_17_131, st_17_133, st_17_134, st_17_137, st_17_138, st_17_141, st_17_142, st_17_145, st_17_146, st_17_147, st_17_148, st_17_149, st_17_151, st_17_152, st_17_154, st_17_155, st_17_156, st_17_158, st_17_159, st_17_162, st_17_163, st_17_164, st_17_165, st_17_167, st_17_169, st_17_171, st_17_174, st_17_176, st_17_179, st_17_180, st_17_181, st_17_183, st_17_185, st_17_186, st_17_187, st_17_188, st_17_189, st_17_191, st_17_193, st_17_195, st_17_198, ini_17, fs_cl, fs_len, fs_rf, fs_M, fs_put, fs_cpy, ↓reduceIte, rv_ref, true_or, or_true, true_and, and_true, nI_ltI, ix_nI, nI_clamp, ps_i, ps_n, Option.bind_some, sm_0, sm_1, sm_2, sm_3, sm_4, sto_0, sto_1, sto_2, sto_3, sto_4, sto_5, sto_6, sto_7, sto_8, sto_9, sto_10, sto_11, sto_12, sto_13, sto_14, nlo_n, nlo_i, nlo_r, nlo_0, nlo_l, and_self, or_self, Nat.reduceEqDiff, Nat.reduceLT, Nat.reduceLeDiff, Nat.one_ne_zero, Nat.zero_ne_one, m0, r0, r1, r4, r5, r7, n0.1, n1.1, n4.1, n5.1, n7.1, G, t1, t2, t5, c1, c3, e, nI_eq, Fa, Fb, Fc, Fd, F2]
  · obtain ⟨M', p1, p2⟩ := V (nI (E (38 + 5 * c))) (nI 2 * (nI (st1 (bit_ (E (12 + 5 * t))) (E (40 + 5 * c))))) (nI 2 * (nI (st1 (nbt (E (12 + 5 * t))) (E (40 + 5 * c)))))
    have q : M' (b + 4) t = M (b + 4) t := by rw [p2 (b + 4) (by omega) (by omega) (by omega) (by omega)]
    refine ⟨M', ?_, p2⟩
    rw [j_C_eq]
    simp (disch := omega) only [st_17_0, st_17_1, st_17_4, st_17_5, st_17_8, st_17_9, st_17_10, st_17_13, st_17_14, st_17_17, st_17_19, st_17_20, st_17_23, st_17_24, st_17_27, st_17_29, st_17_30, st_17_32, st_17_35, st_17_36, st_17_39, st_17_40, st_17_42, st_17_44, st_17_45, st_17_48, st_17_49, st_17_52, st_17_54, st_17_57, st_17_59, st_17_61, st_17_62, st_17_65, st_17_66, st_17_69, st_17_70, st_17_71, st_17_73, st_17_76, st_17_78, st_17_79, st_17_116, st_17_117, st_17_118, st_17_120, st_17_122, st_17_123, st_17_126, st_17_127, st_17_128, st_17_129, st_17_131, st_17_133, st_17_134, st_17_137, st_17_138, st_17_141, st_17_142, st_17_145, st_17_146, st_17_147, st_17_148, st_17_149, st_17_151, st_17_152, st_17_154, st_17_155, st_17_156, st_17_158, st_17_159, st_17_162, st_17_163, st_17_164, st_17_165, st_17_167, st_17_169, st_17_171, st_17_174, st_17_176, st_17_179, st_17_180, st_17_181, st_17_183, st_17_185, st_17_186, st_17_187, st_17_188, st_17_189, st_17_191, st_17_193, st_17_195, st_17_198, ini_17, fs_cl, fs_len, fs_rf, fs_M, fs_put, fs_cpy, ↓reduceIte, rv_ref, true_or, or_true, true_and, and_true, nI_ltI, ix_nI, nI_clamp, ps_i, ps_n, Option.bind_some, sm_0, sm_1, sm_2, sm_3, sm_4, sto_0, sto_1, sto_2, sto_3, sto_4, sto_5, sto_6, sto_7, sto_8, sto_9, sto_10, sto_11, sto_12, sto_13, sto_14, nlo_n, nlo_i, nlo_r, nlo_0, nlo_l, and_self, or_self, Nat.reduceEqDiff, Nat.reduceLT, Nat.reduceLeDiff, Nat.one_ne_zero, Nat.zero_ne_one, m0, r0, r1, r4, r5, r7, n0.1, n1.1, n4.1, n5.1, n7.1, G, t1, t2, t5, c1, c3, e, nI_eq, Fa, Fb, Fc, Fd, F2, p1, q]
