/-! Both sides: sheets. -/
variable {h : j_Hd} {M M1 M2 M3 : Nat → Nat → Int32} {o b n s : Nat} {E E' : Nat → Nat} {z : Int32} {K0 K1 K : List Int32} {T : Nat → Nat} {W : Nat → Int32}
theorem and_m (v : Int32) {k : Nat} (hk : k ≤ 31) : (v &&& nI (2 ^ k - 1)).toInt = v.toInt % (2 ^ k : Nat) := by
  have h1 : (v &&& nI (2 ^ k - 1)).toBitVec.toNat = v.toBitVec.toNat % 2 ^ k := by
    rw [Int32.toBitVec_and, BitVec.toNat_and]
    have : (nI (2 ^ k - 1)).toBitVec.toNat = 2 ^ k - 1 := by
      show (BitVec.ofNat 32 (2 ^ k - 1)).toNat = _
      rw [BitVec.toNat_ofNat]
      apply Nat.mod_eq_of_lt
      have : 2 ^ k ≤ 2 ^ 31 := Nat.pow_le_pow_right (by omega) hk
      omega
    rw [this, Nat.and_two_pow_sub_one_eq_mod]
  have hp : 2 ^ k ∣ 2 ^ 32 := Nat.pow_dvd_pow 2 (by omega)
  have hk2 : 2 ^ k ≤ 2 ^ 31 := Nat.pow_le_pow_right (by omega) hk
  have hpos : 0 < 2 ^ k := Nat.pow_pos (by omega)
  have hl := Nat.mod_lt v.toBitVec.toNat hpos
  have e1 : (v &&& nI (2 ^ k - 1)).toInt = ((v.toBitVec.toNat % 2 ^ k : Nat) : Int) := by
    show (v &&& nI (2 ^ k - 1)).toBitVec.toInt = _
    rw [BitVec.toInt_eq_toNat_cond, h1, if_pos (by omega)]
  have e2 : v.toInt = if 2 * v.toBitVec.toNat < 2 ^ 32 then (v.toBitVec.toNat : Int) else (v.toBitVec.toNat : Int) - (2 ^ 32 : Nat) := by
    show v.toBitVec.toInt = _
    rw [BitVec.toInt_eq_toNat_cond]
  rw [e1, e2]
  obtain ⟨q, hq⟩ := hp
  split
  · rw [Int.natCast_emod]
  · rw [hq, Int.natCast_mul, Int.sub_mul_emod_self_left, Int.natCast_emod]
theorem b8 (v : Int32) : v.toInt8.toInt32.toInt = v.toInt.bmod 256 := by
  rw [Int8.toInt_toInt32, Int32.toInt_toInt8]
theorem b16 (v : Int32) : v.toInt16.toInt32.toInt = v.toInt.bmod 65536 := by
  rw [Int16.toInt_toInt32, Int32.toInt_toInt16]
/-- a small number is the same on both sides -/
theorem Sv_n {bs : Nat} {x y : Int32} (hb : bs = 8 ∨ bs = 16 ∨ bs = 32) (hs : Sv bs x y) {j : Nat} (hj : j < 128) : x = nI j ↔ y = nI j := by
  rcases hb with e | e | e
  · obtain ⟨v, e1, e2⟩ := hs.2.1 e
    have a := and_m v (k := 8) (by omega)
    have c := b8 v
    have a : (v &&& nI 255).toInt = v.toInt % 256 := a
    rw [eqn (by omega), eqn (by omega), e1, e2, a, c, Int.bmod_def]
    omega
  · obtain ⟨v, e1, e2⟩ := hs.2.2 e
    have a := and_m v (k := 16) (by omega)
    have c := b16 v
    have a : (v &&& nI 65535).toInt = v.toInt % 65536 := a
    rw [eqn (by omega), eqn (by omega), e1, e2, a, c, Int.bmod_def]
    omega
  · rw [hs.1 e]
theorem Sv_0 (bs : Nat) : Sv bs (nI 0) (nI 0) := ⟨fun _ => rfl, fun _ => ⟨nI 0, by decide +kernel, by decide +kernel⟩, fun _ => ⟨nI 0, by decide +kernel, by decide +kernel⟩⟩
theorem ie_sp (hi : IE M E z K0 K1 T W) (hfr : ∀ x, ¬ (101 ≤ x ∧ x < 113) → ¬ (123 ≤ x ∧ x ≤ 126) → M2 x = M x) (hv : SP M2) : IE M2 E z K0 K1 T W := by
  obtain ⟨a, b, c, d, e, f1, f2, f3, f4, f5⟩ := hi
  have g := fun x (h1 : x < 101 ∨ (112 < x ∧ x < 123) ∨ 126 < x) => hfr x (by omega) (by omega)
  refine ⟨a, CPi_cg (fun x p q _ _ => g x (by omega)) (g 29 (by omega)) (g 30 (by omega)) (g 31 (by omega)) (g 32 (by omega)) b, by rw [g 116 (by omega)]; exact c, Sd_cg (g 81 (by omega)) d, fun k h1 h2 => by rw [g 114 (by omega), g 118 (by omega)]; exact e k h1 h2, Sd_cg (g 49 (by omega)) f1, ?_, ?_, hv, ?_⟩
  · unfold PK at f2 ⊢
    rw [g 115 (by omega), g 1 (by omega), g 117 (by omega)]
    refine ⟨f2.1, f2.2.imp id ?_⟩
    intro ⟨E, z, K0, K1, T, W, w1, w2, w3⟩
    exact ⟨E, z, K0, K1, T, W, w1, CPi_cg (fun x p q _ _ => g x (by omega)) (g 60 (by omega)) (g 61 (by omega)) (g 62 (by omega)) (g 63 (by omega)) w2, w3⟩
  · unfold VP at f3 ⊢
    rw [g 115 (by omega), g 98 (by omega), g 99 (by omega), g 122 (by omega)]; exact f3
  · unfold ST at f5 ⊢
    rw [g 1001 (by omega), g 1002 (by omega)]; exact f5
/-- one sheet is new -/
theorem SP_up (hS : SP M) (hs : s < 4) (h1 : ∀ t, t < 4 → t ≠ s → M2 (101 + 3 * t) = M (101 + 3 * t) ∧ M2 (102 + 3 * t) = M (102 + 3 * t) ∧ M2 (103 + 3 * t) = M (103 + 3 * t) ∧ M2 123 t = M 123 t ∧ M2 124 t = M 124 t ∧ ∀ i, i < 40 → M2 125 (40 * t + i) = M 125 (40 * t + i)) {bs n : Nat} (hb : bs = 0 ∨ bs = 8 ∨ bs = 16 ∨ bs = 32) (hn : n ≤ 40) (h0 : bs = 0 → n = 0) (a1 : M2 (101 + 3 * s) 1 = nI bs) (a2 : M2 123 s = nI bs) (a3 : M2 (102 + 3 * s) 1 = nI n) (a4 : M2 124 s = nI n) (a5 : ∀ i, i < n → Sv bs (M2 (103 + 3 * s) i) (M2 125 (40 * s + i))) : SP M2 := by
  intro t ht
  by_cases e : t = s
  · subst e; exact ⟨bs, n, hb, hn, h0, a1, a2, a3, a4, a5⟩
  · obtain ⟨bs', n', b1, b2, b3, b4, b5, b6, b7, b8⟩ := hS t ht
    obtain ⟨c1, c2, c3, c4, c5, c6⟩ := h1 t ht e
    exact ⟨bs', n', b1, b2, b3, by rw [c1]; exact b4, by rw [c4]; exact b5, by rw [c2]; exact b6, by rw [c5]; exact b7, fun i hi => by rw [c3, c6 i (by omega)]; exact b8 i hi⟩
theorem c121 (hh : Hd h) (hs : s < 4) {e : Nat} (he : 1 ≤ e) : j_C e 121 [.ref 1, .int (nI s)] (FS h M) = some (some (.ref (101 + 3 * s)), FS h M) := by
  obtain ⟨e, rfl⟩ := le_ex he
  have w0 := hh.1.1
  have f10 := hh.1.2.2.2.2.2.2.2.2.2.2.1
  obtain ⟨s1, s2, s3⟩ := hh.2.2.2.2.2.1
  have r := (s3 s hs).1
  have n0 : ¬ nI s < nI 0 := nI_nlt (Nat.zero_le _) (by omega)
  rw [j_C_eq]
  simp (disch := omega) only [st_121_0, st_121_1, st_121_4, st_121_5, st_121_6, st_121_9, st_121_10, st_121_11, st_121_14, st_121_15, st_121_18, st_121_19, st_121_22, st_121_23, st_121_24, st_121_27, st_121_28, st_121_28N, ini_121, fs_cl, fs_len, fs_rf, fs_M, fs_put, fs_cpy, ↓reduceIte, rv_ref, true_or, or_true, true_and, and_true, nI_ltI, ix_nI, nI_clamp, ps_i, ps_n, Option.bind_some, sm_0, sm_1, sm_2, sm_3, sm_4, sto_0, sto_1, sto_2, sto_3, sto_4, sto_5, sto_6, sto_7, sto_8, sto_9, sto_10, sto_11, sto_12, sto_13, sto_14, nlo_n, nlo_i, nlo_r, nlo_0, nlo_l, and_self, or_self, Nat.reduceEqDiff, Nat.reduceLT, Nat.reduceLeDiff, Nat.one_ne_zero, Nat.zero_ne_one, w0, f10, s1, s2, n0, hs, r]
theorem c121n (hh : Hd h) {x : Int32} (hx : ¬ ∃ j, 0 ≤ j ∧ j ≤ 3 ∧ x = nI j) {e : Nat} (he : 1 ≤ e) : j_C e 121 [.ref 1, .int x] (FS h M) = some (some .null, FS h M) := by
  obtain ⟨e, rfl⟩ := le_ex he
  rw [j_C_eq]
  by_cases c0 : x < nI 0
  · simp (disch := omega) only [st_121_0, st_121_1, st_121_4, st_121_5, st_121_6, st_121_9, st_121_10, st_121_11, st_121_14, st_121_15, st_121_18, st_121_19, st_121_22, st_121_23, st_121_24, st_121_27, st_121_28, st_121_28N, ini_121, fs_cl, fs_len, fs_rf, fs_M, fs_put, fs_cpy, ↓reduceIte, rv_ref, true_or, or_true, true_and, and_true, nI_ltI, ix_nI, nI_clamp, ps_i, ps_n, Option.bind_some, sm_0, sm_1, sm_2, sm_3, sm_4, sto_0, sto_1, sto_2, sto_3, sto_4, sto_5, sto_6, sto_7, sto_8, sto_9, sto_10, sto_11, sto_12, sto_13, sto_14, nlo_n, nlo_i, nlo_r, nlo_0, nlo_l, and_self, or_self, Nat.reduceEqDiff, Nat.reduceLT, Nat.reduceLeDiff, Nat.one_ne_zero, Nat.zero_ne_one, c0]
  · have c1 : ¬ x < nI 4 := by
      intro c1
      rw [lt0] at c0
      rw [ltn (by omega)] at c1
      exact hx ⟨x.toInt.toNat, Nat.zero_le _, by omega, by rw [nI_z, Int.toNat_of_nonneg (by omega)]; exact zI_of x⟩
    simp (disch := omega) only [st_121_0, st_121_1, st_121_4, st_121_5, st_121_6, st_121_9, st_121_10, st_121_11, st_121_14, st_121_15, st_121_18, st_121_19, st_121_22, st_121_23, st_121_24, st_121_27, st_121_28, st_121_28N, ini_121, fs_cl, fs_len, fs_rf, fs_M, fs_put, fs_cpy, ↓reduceIte, rv_ref, true_or, or_true, true_and, and_true, nI_ltI, ix_nI, nI_clamp, ps_i, ps_n, Option.bind_some, sm_0, sm_1, sm_2, sm_3, sm_4, sto_0, sto_1, sto_2, sto_3, sto_4, sto_5, sto_6, sto_7, sto_8, sto_9, sto_10, sto_11, sto_12, sto_13, sto_14, nlo_n, nlo_i, nlo_r, nlo_0, nlo_l, and_self, or_self, Nat.reduceEqDiff, Nat.reduceLT, Nat.reduceLeDiff, Nat.one_ne_zero, Nat.zero_ne_one, c0, c1]
theorem r212 {σ : j_St} (hs : s < 4) {e : Nat} (he : 2 ≤ e) : j_C e 212 [.int (nI s)] σ = some (some (.int (nI 1)), σ) := by
  obtain ⟨e, rfl⟩ : ∃ d, e = d + 1 := ⟨e - 1, by omega⟩
  have kl := r143e (σ := σ) (nI s).toInt64 (lN 0) (lN 3) (e := e) (by omega)
  rw [lin_in (Nat.zero_le _) (by omega : s ≤ 3) (by omega)] at kl
  rw [j_C_eq]
  simp (disch := omega) only [st_212_0, st_212_1, st_212_2, st_212_3, st_212_6, st_212_9, ini_212, fs_cl, fs_len, fs_rf, fs_M, fs_put, fs_cpy, ↓reduceIte, rv_ref, true_or, or_true, true_and, and_true, nI_ltI, ix_nI, nI_clamp, ps_i, ps_n, Option.bind_some, sm_0, sm_1, sm_2, sm_3, sm_4, sto_0, sto_1, sto_2, sto_3, sto_4, sto_5, sto_6, sto_7, sto_8, sto_9, sto_10, sto_11, sto_12, sto_13, sto_14, nlo_n, nlo_i, nlo_r, nlo_0, nlo_l, and_self, or_self, Nat.reduceEqDiff, Nat.reduceLT, Nat.reduceLeDiff, Nat.one_ne_zero, Nat.zero_ne_one, kl]
theorem r212n {σ : j_St} {x : Int32} (hx : ¬ ∃ j, 0 ≤ j ∧ j ≤ 3 ∧ x = nI j) {e : Nat} (he : 2 ≤ e) : j_C e 212 [.int x] σ = some (some (.int (nI 0)), σ) := by
  obtain ⟨e, rfl⟩ : ∃ d, e = d + 1 := ⟨e - 1, by omega⟩
  have kl := r143e (σ := σ) x.toInt64 (lN 0) (lN 3) (e := e) (by omega)
  rw [lin_out hx (by omega) (by omega)] at kl
  rw [j_C_eq]
  simp (disch := omega) only [st_212_0, st_212_1, st_212_2, st_212_3, st_212_6, st_212_9, ini_212, fs_cl, fs_len, fs_rf, fs_M, fs_put, fs_cpy, ↓reduceIte, rv_ref, true_or, or_true, true_and, and_true, nI_ltI, ix_nI, nI_clamp, ps_i, ps_n, Option.bind_some, sm_0, sm_1, sm_2, sm_3, sm_4, sto_0, sto_1, sto_2, sto_3, sto_4, sto_5, sto_6, sto_7, sto_8, sto_9, sto_10, sto_11, sto_12, sto_13, sto_14, nlo_n, nlo_i, nlo_r, nlo_0, nlo_l, and_self, or_self, Nat.reduceEqDiff, Nat.reduceLT, Nat.reduceLeDiff, Nat.one_ne_zero, Nat.zero_ne_one, kl]
theorem c55 (hh : Hd h) (hs : s < 4) {bs : Nat} (hb : M (101 + 3 * s) 1 = nI bs) (hl : bs < 100) {e : Nat} (he : 1 ≤ e) : j_C e 55 [.ref (101 + 3 * s)] (FS h M) = some (some (.int (if bs = 0 then nI 1 else nI 0)), FS h M) := by
  obtain ⟨e, rfl⟩ := le_ex he
  have r := (hh.2.2.2.2.2.1.2.2 s hs).2.1
  rw [j_C_eq]
  by_cases c : bs = 0
  · rw [if_pos c]
    simp (disch := omega) only [st_55_0, st_55_1, st_55_4, st_55_7, st_55_8, st_55_11, st_55_12, ini_55, fs_cl, fs_len, fs_rf, fs_M, fs_put, fs_cpy, ↓reduceIte, rv_ref, true_or, or_true, true_and, and_true, nI_ltI, ix_nI, nI_clamp, ps_i, ps_n, Option.bind_some, sm_0, sm_1, sm_2, sm_3, sm_4, sto_0, sto_1, sto_2, sto_3, sto_4, sto_5, sto_6, sto_7, sto_8, sto_9, sto_10, sto_11, sto_12, sto_13, sto_14, nlo_n, nlo_i, nlo_r, nlo_0, nlo_l, and_self, or_self, Nat.reduceEqDiff, Nat.reduceLT, Nat.reduceLeDiff, Nat.one_ne_zero, Nat.zero_ne_one, r, hb, nI_eq, eq_true c]
  · rw [if_neg c]
    simp (disch := omega) only [st_55_0, st_55_1, st_55_4, st_55_7, st_55_8, st_55_11, st_55_12, ini_55, fs_cl, fs_len, fs_rf, fs_M, fs_put, fs_cpy, ↓reduceIte, rv_ref, true_or, or_true, true_and, and_true, nI_ltI, ix_nI, nI_clamp, ps_i, ps_n, Option.bind_some, sm_0, sm_1, sm_2, sm_3, sm_4, sto_0, sto_1, sto_2, sto_3, sto_4, sto_5, sto_6, sto_7, sto_8, sto_9, sto_10, sto_11, sto_12, sto_13, sto_14, nlo_n, nlo_i, nlo_r, nlo_0, nlo_l, and_self, or_self, Nat.reduceEqDiff, Nat.reduceLT, Nat.reduceLeDiff, Nat.one_ne_zero, Nat.zero_ne_one, r, hb, nI_eq, c]
theorem c56 (hh : Hd h) (hs : s < 4) {n : Nat} (hn : n ≤ 40) (v : Int32) {e : Nat} (he : 3 ≤ e) : ∃ M', j_C e 56 [.ref (101 + 3 * s), .int v, .int (nI n)] (FS h M) = some (none, FS h M') ∧ M' (101 + 3 * s) 1 = v ∧ M' (102 + 3 * s) 1 = nI n ∧ (∀ i, i < n → M' (103 + 3 * s) i = nI 0) ∧ ∀ x, x ≠ 101 + 3 * s → x ≠ 102 + 3 * s → x ≠ 103 + 3 * s → M' x = M x := by
  obtain ⟨e, rfl⟩ : ∃ d, e = d + 1 := ⟨e - 1, by omega⟩
  obtain ⟨_, r, f0, nb⟩ := hh.2.2.2.2.2.1.2.2 s hs
  obtain ⟨M', p1, p2, p3, p4⟩ := n39e (M := j_up M (101 + 3 * s) 1 v) nb hn (e := e) (by omega)
  refine ⟨M', ?_, by rw [p4 _ (by omega) (by omega), up_s], p2, p3, fun x h1 h2 h3 => by rw [p4 x h2 h3, up_r _ _ _ _ h1]⟩
  rw [j_C_eq]
  simp (disch := omega) only [st_56_0, st_56_1, st_56_2, st_56_5, st_56_6, st_56_9, st_56_10, st_56_13, ini_56, fs_cl, fs_len, fs_rf, fs_M, fs_put, fs_cpy, ↓reduceIte, rv_ref, true_or, or_true, true_and, and_true, nI_ltI, ix_nI, nI_clamp, ps_i, ps_n, Option.bind_some, sm_0, sm_1, sm_2, sm_3, sm_4, sto_0, sto_1, sto_2, sto_3, sto_4, sto_5, sto_6, sto_7, sto_8, sto_9, sto_10, sto_11, sto_12, sto_13, sto_14, nlo_n, nlo_i, nlo_r, nlo_0, nlo_l, and_self, or_self, Nat.reduceEqDiff, Nat.reduceLT, Nat.reduceLeDiff, Nat.one_ne_zero, Nat.zero_ne_one, r, f0, nb.1, p1]
