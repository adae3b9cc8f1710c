/-! The reference: hands, home. -/
variable {h : j_Hd} {M : Nat → Nat → Int32} {σ : j_St} {d o : Nat} {E : Nat → Nat} {z : Int32} {K0 K1 : List Int32}
theorem dg_rE {c : Nat} (hr : Rw (E (40 + 5 * c)) (E (41 + 5 * c)) (E (42 + 5 * c))) {i : Nat} (hi : i < nE E c) : dg (rE E c) 10 (nE E c - 1 - i) = E (38 + 5 * c + (2 + i)) := by
  have n3 := nE_le (E := E) c
  have hi3 : i = 0 ∨ i = 1 ∨ i = 2 := by omega
  rcases hi3 with ei | ei | ei
  · subst ei
    rw [show 38 + 5 * c + (2 + 0) = 40 + 5 * c by omega, Nat.sub_zero]
    exact dg_0 hr
  · subst ei
    rw [show 38 + 5 * c + (2 + 1) = 41 + 5 * c by omega]
    exact dg_1 hr hi
  · subst ei
    rw [show 38 + 5 * c + (2 + 2) = 42 + 5 * c by omega]
    exact dg_2 hr hi
theorem pw_q {n s i : Nat} (hn : 0 < n) (hi : i < s) : n ^ (s - i) / n = n ^ (s - 1 - i) := by
  rw [show s - i = s - 1 - i + 1 by omega, Nat.pow_succ, Nat.mul_div_cancel _ hn]
/-- one row of traders -/
theorem r197i (hk : Md h o) (hR : RC M o E z K0 K1) (hw : WE E) {c n s v : Nat} (hc : c < E 1) (hn : n = E 0) (hs : s = nE E c) (hv : v < 1000) {x2 x4 x5 x6 : Option Value} {e : Nat} (he : 1 ≤ e) : ∀ r i (x : Int32) (is : Bool) (o12 : Option Value), r + i = s → ∃ x8 x9 x12, j_X e 197 92 [some (.ref o), some (.int (nI c)), x2, some (.int (nI s)), x4, x5, x6, some (.int (nI v)), some (.int (nI (n ^ (s - i)))), some (.int x), some (.int (if is = true then nI 1 else nI 0)), some (.int (nI i)), o12] [] (FS h M) = j_X e 197 171 [some (.ref o), some (.int (nI c)), x2, some (.int (nI s)), x4, x5, x6, some (.int (nI v)), some (.int x8), some (.int x9), some (.int (if (is && haS E (rE E c) v n s r i x) = true then nI 1 else nI 0)), some (.int (nI s)), x12] [] (FS h M) := by
  have m0 := hk.1
  have q0 := hk.2.1.1
  have a1 := hk.2.1.2.1
  have a2 := hk.2.1.2.2.1
  have h8 := hw.2.1
  have h6 := hw.1
  have cv := hw.2.2.2.2.2.2.2 c hc
  have ch := cv.2.2.1
  have n3 := nE_le (E := E) c
  have f3 : ¬ nI 1 = nI 0 := by decide +kernel
  have n0 : 0 < n := by omega
  intro r
  induction r with
  | zero =>
    intro i x is o12 hr
    have ei : i = s := by omega
    subst ei
    have e1 : ¬ i < i := by omega
    refine ⟨nI (n ^ (i - i)), x, o12, ?_⟩
    rw [st_197_92]
    unfold haS
    rw [Bool.and_true]
    simp (disch := omega) only [st_197_94, st_197_95, st_197_98, st_197_100, st_197_101, st_197_104, st_197_105, st_197_106, st_197_107, st_197_109, st_197_111, st_197_113, st_197_114, st_197_115, st_197_118, st_197_119, st_197_120, st_197_121, st_197_123, st_197_125, st_197_128, st_197_130, st_197_132, st_197_135, st_197_136, st_197_138, st_197_139, st_197_142, st_197_143, st_197_144, st_197_145, st_197_147, st_197_148, st_197_151, st_197_154, st_197_155, st_197_158, st_197_159, st_197_161, st_197_163, st_197_165, st_197_168, ini_197, fs_cl, fs_len, fs_rf, fs_M, fs_put, fs_cpy, ↓reduceIte, rv_ref, true_or, or_true, true_and, and_true, nI_ltI, ix_nI, nI_clamp, ps_i, ps_n, Option.bind_some, sm_0, sm_1, sm_2, sm_3, sm_4, sto_0, sto_1, sto_2, sto_3, sto_4, sto_5, sto_6, sto_7, sto_8, sto_9, sto_10, sto_11, sto_12, sto_13, sto_14, nlo_n, nlo_i, nlo_r, nlo_0, nlo_l, and_self, or_self, Nat.reduceEqDiff, Nat.reduceLT, Nat.reduceLeDiff, Nat.one_ne_zero, Nat.zero_ne_one, e1]
  | succ r ih =>
    intro i x is o12 hr
    have e1 : i < s := by omega
    have pn : 0 < n ^ (s - 1 - i) := Nat.pow_pos n0
    have pl : n ^ (s - i) ≤ 216 := by
      have e1 := Nat.pow_le_pow_left (show n ≤ 6 by omega) (s - i)
      have e2 := Nat.pow_le_pow_right (show 0 < 6 by omega) (show s - i ≤ 3 by omega)
      omega
    have pq := pw_q n0 e1
    have pl2 : n ^ (s - 1 - i) ≤ n ^ (s - i) := by rw [← pq]; exact Nat.div_le_self _ _
    have f1 : ¬ nI (n ^ (s - 1 - i)) = nI 0 := nI_ne (by omega) (by omega) (by omega)
    have f2 : ¬ nI n = nI 0 := nI_ne (by omega) (by omega) (by omega)
    have dl : v / n ^ (s - 1 - i) < 2147483648 := Nat.lt_of_le_of_lt (Nat.div_le_self _ _) (by omega)
    have g0 := hR.1.1 0 (by omega) (by omega)
    rw [← hn] at g0
    have tl : dg v n (s - 1 - i) < n := Nat.mod_lt _ n0
    have wv := hw.2.2.2.2.2.2.1 (dg v n (s - 1 - i)) (by omega)
    have wv2 := wv.2.2.2.1
    have gw := r147e (M := M) hk (t := dg v n (s - 1 - i)) (k := 2) (by omega) (e := e) he
    rw [show 8 + 5 * dg v n (s - 1 - i) + 2 = 10 + 5 * dg v n (s - 1 - i) by omega, hR.1.1 _ (by omega) (by omega)] at gw
    have gs := r148e (M := M) hk (t := c) (k := 2 + i) (by omega) (e := e) he
    rw [hR.1.1 _ (by omega) (by omega)] at gs
    have gd := dg_rE cv.2.2.2 (by omega : i < nE E c)
    have s8 : E (38 + 5 * c + (2 + i)) < 10 := by rw [← gd]; exact Nat.mod_lt _ (by omega)
    rw [← hs] at gd
    unfold haS
    rw [gd]
    -- up to the check
    have run : ∀ R, j_X e 197 123 [some (.ref o), some (.int (nI c)), x2, some (.int (nI s)), x4, x5, x6, some (.int (nI v)), some (.int (nI (n ^ (s - 1 - i)))), some (.int x), some (.int (if is = true then nI 1 else nI 0)), some (.int (nI i)), some (.int (nI (dg v n (s - 1 - i))))] [] (FS h M) = R → j_X e 197 92 [some (.ref o), some (.int (nI c)), x2, some (.int (nI s)), x4, x5, x6, some (.int (nI v)), some (.int (nI (n ^ (s - i)))), some (.int x), some (.int (if is = true then nI 1 else nI 0)), some (.int (nI i)), o12] [] (FS h M) = R := by
      intro R hX
      rw [← hX, st_197_92]
      unfold dg
      simp (disch := omega) only [st_197_94, st_197_95, st_197_98, st_197_100, st_197_101, st_197_104, st_197_105, st_197_106, st_197_107, st_197_109, st_197_111, st_197_113, st_197_114, st_197_115, st_197_118, st_197_119, st_197_120, st_197_121, ini_197, fs_cl, fs_len, fs_rf, fs_M, fs_put, fs_cpy, ↓reduceIte, rv_ref, true_or, or_true, true_and, and_true, nI_ltI, ix_nI, nI_clamp, ps_i, ps_n, Option.bind_some, sm_0, sm_1, sm_2, sm_3, sm_4, sto_0, sto_1, sto_2, sto_3, sto_4, sto_5, sto_6, sto_7, sto_8, sto_9, sto_10, sto_11, sto_12, sto_13, sto_14, nlo_n, nlo_i, nlo_r, nlo_0, nlo_l, and_self, or_self, Nat.reduceEqDiff, Nat.reduceLT, Nat.reduceLeDiff, Nat.one_ne_zero, Nat.zero_ne_one, m0, q0, a1, a2, g0, e1, f1, f2, nI_div, pq, nI_rm]
    have go : ∀ (is2 : Bool), is2 = (is && (if nI (dg v n (s - 1 - i)) = x then false else if E (10 + 5 * dg v n (s - 1 - i)) = E (38 + 5 * c + (2 + i)) then true else false)) → j_X e 197 123 [some (.ref o), some (.int (nI c)), x2, some (.int (nI s)), x4, x5, x6, some (.int (nI v)), some (.int (nI (n ^ (s - 1 - i)))), some (.int x), some (.int (if is = true then nI 1 else nI 0)), some (.int (nI i)), some (.int (nI (dg v n (s - 1 - i))))] [] (FS h M) = j_X e 197 92 [some (.ref o), some (.int (nI c)), x2, some (.int (nI s)), x4, x5, x6, some (.int (nI v)), some (.int (nI (n ^ (s - (i + 1))))), some (.int (nI (dg v n (s - 1 - i)))), some (.int (if is2 = true then nI 1 else nI 0)), some (.int (nI (i + 1))), some (.int (nI (dg v n (s - 1 - i))))] [] (FS h M) := by
      intro is2 h2
      subst h2
      rw [show s - (i + 1) = s - 1 - i by omega]
      cases is with
      | false =>
        rw [Bool.false_and]
        simp (disch := omega) only [st_197_123, st_197_125, st_197_128, st_197_130, st_197_132, st_197_135, st_197_136, st_197_138, st_197_139, st_197_142, st_197_143, st_197_144, st_197_145, st_197_147, st_197_148, st_197_151, st_197_154, st_197_155, st_197_158, st_197_159, st_197_161, st_197_163, st_197_165, st_197_168, ini_197, fs_cl, fs_len, fs_rf, fs_M, fs_put, fs_cpy, ↓reduceIte, rv_ref, true_or, or_true, true_and, and_true, nI_ltI, ix_nI, nI_clamp, ps_i, ps_n, Option.bind_some, sm_0, sm_1, sm_2, sm_3, sm_4, sto_0, sto_1, sto_2, sto_3, sto_4, sto_5, sto_6, sto_7, sto_8, sto_9, sto_10, sto_11, sto_12, sto_13, sto_14, nlo_n, nlo_i, nlo_r, nlo_0, nlo_l, and_self, or_self, Nat.reduceEqDiff, Nat.reduceLT, Nat.reduceLeDiff, Nat.one_ne_zero, Nat.zero_ne_one, Bool.false_eq_true, nI_add]
      | true =>
        rw [Bool.true_and]
        by_cases c1 : nI (dg v n (s - 1 - i)) = x
        · rw [if_pos c1]
          simp (disch := omega) only [st_197_123, st_197_125, st_197_128, st_197_130, st_197_132, st_197_135, st_197_136, st_197_138, st_197_139, st_197_142, st_197_143, st_197_144, st_197_145, st_197_147, st_197_148, st_197_151, st_197_154, st_197_155, st_197_158, st_197_159, st_197_161, st_197_163, st_197_165, st_197_168, ini_197, fs_cl, fs_len, fs_rf, fs_M, fs_put, fs_cpy, ↓reduceIte, rv_ref, true_or, or_true, true_and, and_true, nI_ltI, ix_nI, nI_clamp, ps_i, ps_n, Option.bind_some, sm_0, sm_1, sm_2, sm_3, sm_4, sto_0, sto_1, sto_2, sto_3, sto_4, sto_5, sto_6, sto_7, sto_8, sto_9, sto_10, sto_11, sto_12, sto_13, sto_14, nlo_n, nlo_i, nlo_r, nlo_0, nlo_l, and_self, or_self, Nat.reduceEqDiff, Nat.reduceLT, Nat.reduceLeDiff, Nat.one_ne_zero, Nat.zero_ne_one, Bool.false_eq_true, f3, eq_true c1, nI_add]
        · rw [if_neg c1]
          by_cases c2 : E (10 + 5 * dg v n (s - 1 - i)) = E (38 + 5 * c + (2 + i))
          · rw [if_pos c2]
            simp (disch := omega) only [st_197_123, st_197_125, st_197_128, st_197_130, st_197_132, st_197_135, st_197_136, st_197_138, st_197_139, st_197_142, st_197_143, st_197_144, st_197_145, st_197_147, st_197_148, st_197_151, st_197_154, st_197_155, st_197_158, st_197_159, st_197_161, st_197_163, st_197_165, st_197_168, ini_197, fs_cl, fs_len, fs_rf, fs_M, fs_put, fs_cpy, ↓reduceIte, rv_ref, true_or, or_true, true_and, and_true, nI_ltI, ix_nI, nI_clamp, ps_i, ps_n, Option.bind_some, sm_0, sm_1, sm_2, sm_3, sm_4, sto_0, sto_1, sto_2, sto_3, sto_4, sto_5, sto_6, sto_7, sto_8, sto_9, sto_10, sto_11, sto_12, sto_13, sto_14, nlo_n, nlo_i, nlo_r, nlo_0, nlo_l, and_self, or_self, Nat.reduceEqDiff, Nat.reduceLT, Nat.reduceLeDiff, Nat.one_ne_zero, Nat.zero_ne_one, m0, f3, c1, gw, gs, nI_eq, eq_true c2, nI_add]
          · rw [if_neg c2]
            simp (disch := omega) only [st_197_123, st_197_125, st_197_128, st_197_130, st_197_132, st_197_135, st_197_136, st_197_138, st_197_139, st_197_142, st_197_143, st_197_144, st_197_145, st_197_147, st_197_148, st_197_151, st_197_154, st_197_155, st_197_158, st_197_159, st_197_161, st_197_163, st_197_165, st_197_168, ini_197, fs_cl, fs_len, fs_rf, fs_M, fs_put, fs_cpy, ↓reduceIte, rv_ref, true_or, or_true, true_and, and_true, nI_ltI, ix_nI, nI_clamp, ps_i, ps_n, Option.bind_some, sm_0, sm_1, sm_2, sm_3, sm_4, sto_0, sto_1, sto_2, sto_3, sto_4, sto_5, sto_6, sto_7, sto_8, sto_9, sto_10, sto_11, sto_12, sto_13, sto_14, nlo_n, nlo_i, nlo_r, nlo_0, nlo_l, and_self, or_self, Nat.reduceEqDiff, Nat.reduceLT, Nat.reduceLeDiff, Nat.one_ne_zero, Nat.zero_ne_one, m0, Bool.false_eq_true, f3, c1, gw, gs, nI_eq, c2, nI_add]
    obtain ⟨x8, x9, x12, hX⟩ := ih (i + 1) (nI (dg v n (s - 1 - i))) (is && (if nI (dg v n (s - 1 - i)) = x then false else if E (10 + 5 * dg v n (s - 1 - i)) = E (38 + 5 * c + (2 + i)) then true else false)) (some (.int (nI (dg v n (s - 1 - i))))) (by omega)
    refine ⟨x8, x9, x12, run _ ((go _ rfl).trans (hX.trans ?_))⟩
    have eb : ((is && (if nI (dg v n (s - 1 - i)) = x then false else if E (10 + 5 * dg v n (s - 1 - i)) = E (38 + 5 * c + (2 + i)) then true else false)) && haS E (rE E c) v n s r (i + 1) (nI (dg v n (s - 1 - i)))) = (is && (if nI (dg v n (s - 1 - i)) = x then false else if E (10 + 5 * dg v n (s - 1 - i)) = E (38 + 5 * c + (2 + i)) then haS E (rE E c) v n s r (i + 1) (nI (dg v n (s - 1 - i))) else false)) := by
      rw [Bool.and_assoc]
      congr 1
      split
      · rfl
      · split
        · rfl
        · rfl
    rw [eb]
def hqA (f n s k : Nat) (q : Option Nat) : Option Int32 := match q with | none => some (nI k) | some p => if k = 0 ∨ s ≤ p then none else some (nI (dg f n (s - 1 - p)))
theorem r197 (hk : Md h o) (hR : RC M o E z K0 K1) (hw : WE E) {c : Nat} (hc : c < E 1) {q : Option Nat} (hq : ∀ k, q = some k → k ≤ 2) {e : Nat} (he : 4 ≤ e) : j_C e 197 [.ref o, .int (nI c), .int (wq q)] (FS h M) = match hqA (hwS E (rE E c) (E 0) (nE E c) (E 0 ^ nE E c) 0 0 0).1 (E 0) (nE E c) (hwS E (rE E c) (E 0) (nE E c) (E 0 ^ nE E c) 0 0 0).2 q with | none => some (some (.int (fl 2)), FS h (fd o 2 M)) | some a => some (some (.int a), FS h M) := by
  obtain ⟨e, rfl⟩ : ∃ d, e = d + 1 := ⟨e - 1, by omega⟩
  have m0 := hk.1
  have q0 := hk.2.1.1
  have a1 := hk.2.1.2.1
  have a2 := hk.2.1.2.2.1
  have h8 := hw.2.1
  have h6 := hw.1
  have cv := hw.2.2.2.2.2.2.2 c hc
  have ch := cv.2.2.1
  have n3 := nE_le (E := E) c
  have f3 : ¬ nI 1 = nI 0 := by decide +kernel
  have n0 : 0 < E 0 := by omega
  have g0 := hR.1.1 0 (by omega) (by omega)
  have f2 : ¬ nI (E 0) = nI 0 := nI_ne (by omega) (by omega) (by omega)
  have pw3 : ∀ i, i ≤ 3 → E 0 ^ i ≤ 216 := fun i hi => by
    have e1 := Nat.pow_le_pow_left h6 i
    have e2 := Nat.pow_le_pow_right (show 0 < 6 by omega) hi
    omega
  have ps := pw3 (nE E c) n3
  have gt := r146ye hk hR.1 h8 hc (e := e) (by omega)
  have gn := r166e hk hR.1 (by omega : c < 8) cv.2.2.2 (e := e) (by omega)
  have gl := r143e (σ := FS h M) (wq q).toInt64 (-1) (lN 2) (e := e) (by omega)
  have lq : lin (wq q).toInt64 (-1) (lN 2) = nI 1 := by
    cases q with
    | none => decide +kernel
    | some k =>
      have k2 := hq k rfl
      have kk : ∀ k, k ≤ 2 → lin (wq (some k)).toInt64 (-1) (lN 2) = nI 1 := by decide +kernel
      exact kk k k2
  rw [lq] at gl
  have gf := r142 (M := M) hk (k := 2) (by omega) (e := e) (by omega)
  -- the number of codes
  have C : ∀ r i (o6 o7 o8 o9 o10 o11 o12 : Option Value), r + i = nE E c → j_X e 197 40 [some (.ref o), some (.int (nI c)), some (.int (wq q)), some (.int (nI (nE E c))), some (.int (nI (E 0 ^ i))), some (.int (nI i)), o6, o7, o8, o9, o10, o11, o12] [] (FS h M) = j_X e 197 63 [some (.ref o), some (.int (nI c)), some (.int (wq q)), some (.int (nI (nE E c))), some (.int (nI (E 0 ^ nE E c))), some (.int (nI (nE E c))), o6, o7, o8, o9, o10, o11, o12] [] (FS h M) := by
    intro r
    induction r with
    | zero =>
      intro i o6 o7 o8 o9 o10 o11 o12 hi
      have ei : i = nE E c := by omega
      have e1 : ¬ nE E c < nE E c := by omega
      subst ei
      rw [st_197_40]
      simp (disch := omega) only [st_197_42, st_197_43, st_197_46, st_197_48, st_197_49, st_197_52, st_197_53, st_197_54, st_197_55, st_197_57, st_197_60, ini_197, fs_cl, fs_len, fs_rf, fs_M, fs_put, fs_cpy, ↓reduceIte, rv_ref, true_or, or_true, true_and, and_true, nI_ltI, ix_nI, nI_clamp, ps_i, ps_n, Option.bind_some, sm_0, sm_1, sm_2, sm_3, sm_4, sto_0, sto_1, sto_2, sto_3, sto_4, sto_5, sto_6, sto_7, sto_8, sto_9, sto_10, sto_11, sto_12, sto_13, sto_14, nlo_n, nlo_i, nlo_r, nlo_0, nlo_l, and_self, or_self, Nat.reduceEqDiff, Nat.reduceLT, Nat.reduceLeDiff, Nat.one_ne_zero, Nat.zero_ne_one, e1]
    | succ r ih =>
      intro i o6 o7 o8 o9 o10 o11 o12 hi
      have e1 : i < nE E c := by omega
      have hX := ih (i + 1) o6 o7 o8 o9 o10 o11 o12 (by omega)
      rw [Nat.pow_succ] at hX
      rw [st_197_40]
      simp (disch := omega) only [st_197_42, st_197_43, st_197_46, st_197_48, st_197_49, st_197_52, st_197_53, st_197_54, st_197_55, st_197_57, st_197_60, ini_197, fs_cl, fs_len, fs_rf, fs_M, fs_put, fs_cpy, ↓reduceIte, rv_ref, true_or, or_true, true_and, and_true, nI_ltI, ix_nI, nI_clamp, ps_i, ps_n, Option.bind_some, sm_0, sm_1, sm_2, sm_3, sm_4, sto_0, sto_1, sto_2, sto_3, sto_4, sto_5, sto_6, sto_7, sto_8, sto_9, sto_10, sto_11, sto_12, sto_13, sto_14, nlo_n, nlo_i, nlo_r, nlo_0, nlo_l, and_self, or_self, Nat.reduceEqDiff, Nat.reduceLT, Nat.reduceLeDiff, Nat.one_ne_zero, Nat.zero_ne_one, m0, q0, a1, a2, g0, e1, nI_mul, nI_add, hX]
  -- the codes
  have L : ∀ r v f k (o8 o9 o10 o11 o12 : Option Value), r + v = E 0 ^ nE E c → k ≤ v → f ≤ v → ∃ x8 x9 x10 x11 x12, j_X e 197 72 [some (.ref o), some (.int (nI c)), some (.int (wq q)), some (.int (nI (nE E c))), some (.int (nI (E 0 ^ nE E c))), some (.int (nI k)), some (.int (nI f)), some (.int (nI v)), o8, o9, o10, o11, o12] [] (FS h M) = j_X e 197 211 [some (.ref o), some (.int (nI c)), some (.int (wq q)), some (.int (nI (nE E c))), some (.int (nI (E 0 ^ nE E c))), some (.int (nI (hwS E (rE E c) (E 0) (nE E c) r v f k).2)), some (.int (nI (hwS E (rE E c) (E 0) (nE E c) r v f k).1)), some (.int (nI (E 0 ^ nE E c))), x8, x9, x10, x11, x12] [] (FS h M) := by
    intro r
    induction r with
    | zero =>
      intro v f k o8 o9 o10 o11 o12 hr hkv hfv
      have ev : v = E 0 ^ nE E c := by omega
      have e1 : ¬ E 0 ^ nE E c < E 0 ^ nE E c := by omega
      refine ⟨o8, o9, o10, o11, o12, ?_⟩
      rw [ev, st_197_72]
      simp (disch := omega) only [st_197_74, st_197_76, st_197_79, st_197_81, st_197_83, st_197_84, st_197_86, st_197_87, st_197_89, st_197_90, st_197_94, st_197_95, st_197_98, st_197_100, st_197_101, st_197_104, st_197_105, st_197_106, st_197_107, st_197_109, st_197_111, st_197_113, st_197_114, st_197_115, st_197_118, st_197_119, st_197_120, st_197_121, st_197_123, st_197_125, st_197_128, st_197_130, st_197_132, st_197_135, st_197_136, st_197_138, st_197_139, st_197_142, st_197_143, st_197_144, st_197_145, st_197_147, st_197_148, st_197_151, st_197_154, st_197_155, st_197_158, st_197_159, st_197_161, st_197_163, st_197_165, st_197_168, st_197_171, st_197_173, st_197_176, st_197_178, st_197_181, st_197_183, st_197_186, st_197_188, st_197_190, st_197_192, st_197_194, st_197_197, st_197_198, st_197_201, st_197_202, st_197_203, st_197_205, st_197_208, ini_197, fs_cl, fs_len, fs_rf, fs_M, fs_put, fs_cpy, ↓reduceIte, rv_ref, true_or, or_true, true_and, and_true, nI_ltI, ix_nI, nI_clamp, ps_i, ps_n, Option.bind_some, sm_0, sm_1, sm_2, sm_3, sm_4, sto_0, sto_1, sto_2, sto_3, sto_4, sto_5, sto_6, sto_7, sto_8, sto_9, sto_10, sto_11, sto_12, sto_13, sto_14, nlo_n, nlo_i, nlo_r, nlo_0, nlo_l, and_self, or_self, Nat.reduceEqDiff, Nat.reduceLT, Nat.reduceLeDiff, Nat.one_ne_zero, Nat.zero_ne_one, e1]
      rfl
    | succ r ih =>
      intro v f k o8 o9 o10 o11 o12 hr hkv hfv
      have e1 : v < E 0 ^ nE E c := by omega
      obtain ⟨y8, y9, y12, hi⟩ := r197i (x2 := some (.int (wq q))) (x4 := some (.int (nI (E 0 ^ nE E c)))) (x5 := some (.int (nI k))) (x6 := some (.int (nI f))) hk hR hw hc rfl rfl (by omega : v < 1000) (e := e) (by omega) (nE E c) 0 (-1) true o12 (by omega)
      rw [Bool.true_and, Nat.sub_zero, if_pos rfl] at hi
      have run : ∀ R, j_X e 197 171 [some (.ref o), some (.int (nI c)), some (.int (wq q)), some (.int (nI (nE E c))), some (.int (nI (E 0 ^ nE E c))), some (.int (nI k)), some (.int (nI f)), some (.int (nI v)), some (.int y8), some (.int y9), some (.int (if haS E (rE E c) v (E 0) (nE E c) (nE E c) 0 (-1) = true then nI 1 else nI 0)), some (.int (nI (nE E c))), y12] [] (FS h M) = R → j_X e 197 72 [some (.ref o), some (.int (nI c)), some (.int (wq q)), some (.int (nI (nE E c))), some (.int (nI (E 0 ^ nE E c))), some (.int (nI k)), some (.int (nI f)), some (.int (nI v)), o8, o9, o10, o11, o12] [] (FS h M) = R := by
        intro R hX
        rw [← hX, ← hi, st_197_72]
        simp (disch := omega) only [st_197_74, st_197_76, st_197_79, st_197_81, st_197_83, st_197_84, st_197_86, st_197_87, st_197_89, st_197_90, ini_197, fs_cl, fs_len, fs_rf, fs_M, fs_put, fs_cpy, ↓reduceIte, rv_ref, true_or, or_true, true_and, and_true, nI_ltI, ix_nI, nI_clamp, ps_i, ps_n, Option.bind_some, sm_0, sm_1, sm_2, sm_3, sm_4, sto_0, sto_1, sto_2, sto_3, sto_4, sto_5, sto_6, sto_7, sto_8, sto_9, sto_10, sto_11, sto_12, sto_13, sto_14, nlo_n, nlo_i, nlo_r, nlo_0, nlo_l, and_self, or_self, Nat.reduceEqDiff, Nat.reduceLT, Nat.reduceLeDiff, Nat.one_ne_zero, Nat.zero_ne_one, e1]
      unfold hwS
      by_cases ca : haS E (rE E c) v (E 0) (nE E c) (nE E c) 0 (-1) = true
      · rw [if_pos ca] at run
        rw [if_pos ca]
        by_cases ck : k = 0
        · rw [if_pos ck]
          obtain ⟨x8, x9, x10, x11, x12, hX⟩ := ih (v + 1) v (k + 1) (some (.int y8)) (some (.int y9)) (some (.int (nI 1))) (some (.int (nI (nE E c)))) y12 (by omega) (by omega) (by omega)
          refine ⟨x8, x9, x10, x11, x12, run _ ?_⟩
          rw [← hX]
          simp (disch := omega) only [st_197_171, st_197_173, st_197_176, st_197_178, st_197_181, st_197_183, st_197_186, st_197_188, st_197_190, st_197_192, st_197_194, st_197_197, st_197_198, st_197_201, st_197_202, st_197_203, st_197_205, st_197_208, ini_197, fs_cl, fs_len, fs_rf, fs_M, fs_put, fs_cpy, ↓reduceIte, rv_ref, true_or, or_true, true_and, and_true, nI_ltI, ix_nI, nI_clamp, ps_i, ps_n, Option.bind_some, sm_0, sm_1, sm_2, sm_3, sm_4, sto_0, sto_1, sto_2, sto_3, sto_4, sto_5, sto_6, sto_7, sto_8, sto_9, sto_10, sto_11, sto_12, sto_13, sto_14, nlo_n, nlo_i, nlo_r, nlo_0, nlo_l, and_self, or_self, Nat.reduceEqDiff, Nat.reduceLT, Nat.reduceLeDiff, Nat.one_ne_zero, Nat.zero_ne_one, f3, nI_eq, eq_true ck, nI_add]
        · rw [if_neg ck]
          obtain ⟨x8, x9, x10, x11, x12, hX⟩ := ih (v + 1) f (k + 1) (some (.int y8)) (some (.int y9)) (some (.int (nI 1))) (some (.int (nI (nE E c)))) y12 (by omega) (by omega) (by omega)
          refine ⟨x8, x9, x10, x11, x12, run _ ?_⟩
          rw [← hX]
          simp (disch := omega) only [st_197_171, st_197_173, st_197_176, st_197_178, st_197_181, st_197_183, st_197_186, st_197_188, st_197_190, st_197_192, st_197_194, st_197_197, st_197_198, st_197_201, st_197_202, st_197_203, st_197_205, st_197_208, ini_197, fs_cl, fs_len, fs_rf, fs_M, fs_put, fs_cpy, ↓reduceIte, rv_ref, true_or, or_true, true_and, and_true, nI_ltI, ix_nI, nI_clamp, ps_i, ps_n, Option.bind_some, sm_0, sm_1, sm_2, sm_3, sm_4, sto_0, sto_1, sto_2, sto_3, sto_4, sto_5, sto_6, sto_7, sto_8, sto_9, sto_10, sto_11, sto_12, sto_13, sto_14, nlo_n, nlo_i, nlo_r, nlo_0, nlo_l, and_self, or_self, Nat.reduceEqDiff, Nat.reduceLT, Nat.reduceLeDiff, Nat.one_ne_zero, Nat.zero_ne_one, f3, nI_eq, ck, nI_add]
      · rw [if_neg ca] at run
        rw [if_neg ca]
        obtain ⟨x8, x9, x10, x11, x12, hX⟩ := ih (v + 1) f k (some (.int y8)) (some (.int y9)) (some (.int (nI 0))) (some (.int (nI (nE E c)))) y12 (by omega) (by omega) (by omega)
        refine ⟨x8, x9, x10, x11, x12, run _ ?_⟩
        rw [← hX]
        simp (disch := omega) only [st_197_171, st_197_173, st_197_176, st_197_178, st_197_181, st_197_183, st_197_186, st_197_188, st_197_190, st_197_192, st_197_194, st_197_197, st_197_198, st_197_201, st_197_202, st_197_203, st_197_205, st_197_208, ini_197, fs_cl, fs_len, fs_rf, fs_M, fs_put, fs_cpy, ↓reduceIte, rv_ref, true_or, or_true, true_and, and_true, nI_ltI, ix_nI, nI_clamp, ps_i, ps_n, Option.bind_some, sm_0, sm_1, sm_2, sm_3, sm_4, sto_0, sto_1, sto_2, sto_3, sto_4, sto_5, sto_6, sto_7, sto_8, sto_9, sto_10, sto_11, sto_12, sto_13, sto_14, nlo_n, nlo_i, nlo_r, nlo_0, nlo_l, and_self, or_self, Nat.reduceEqDiff, Nat.reduceLT, Nat.reduceLeDiff, Nat.one_ne_zero, Nat.zero_ne_one, nI_add, Nat.add_zero]
  -- the place
  have P : ∀ p, p < nE E c → ∀ r i (y6 : Int32) (x3 x4 x5 o9 o10 o11 o12 : Option Value), r + i = p + 1 → j_X e 197 241 [some (.ref o), some (.int (nI c)), some (.int (nI p)), x3, x4, x5, some (.int y6), some (.int (nI (E 0 ^ (nE E c - i)))), some (.int (nI i)), o9, o10, o11, o12] [] (FS h M) = j_X e 197 264 [some (.ref o), some (.int (nI c)), some (.int (nI p)), x3, x4, x5, some (.int y6), some (.int (nI (E 0 ^ (nE E c - 1 - p)))), some (.int (nI (p + 1))), o9, o10, o11, o12] [] (FS h M) := by
    intro p hp r
    induction r with
    | zero =>
      intro i y6 x3 x4 x5 o9 o10 o11 o12 hi
      have ei : i = p + 1 := by omega
      subst ei
      have e1 : p < p + 1 := by omega
      rw [show nE E c - (p + 1) = nE E c - 1 - p by omega, st_197_241]
      simp (disch := omega) only [st_197_243, st_197_244, st_197_247, st_197_249, st_197_250, st_197_253, st_197_254, st_197_255, st_197_256, st_197_258, st_197_261, ini_197, fs_cl, fs_len, fs_rf, fs_M, fs_put, fs_cpy, ↓reduceIte, rv_ref, true_or, or_true, true_and, and_true, nI_ltI, ix_nI, nI_clamp, ps_i, ps_n, Option.bind_some, sm_0, sm_1, sm_2, sm_3, sm_4, sto_0, sto_1, sto_2, sto_3, sto_4, sto_5, sto_6, sto_7, sto_8, sto_9, sto_10, sto_11, sto_12, sto_13, sto_14, nlo_n, nlo_i, nlo_r, nlo_0, nlo_l, and_self, or_self, Nat.reduceEqDiff, Nat.reduceLT, Nat.reduceLeDiff, Nat.one_ne_zero, Nat.zero_ne_one, e1]
    | succ r ih =>
      intro i y6 x3 x4 x5 o9 o10 o11 o12 hi
      have e1 : ¬ p < i := by omega
      have pq := pw_q n0 (by omega : i < nE E c)
      have pl := pw3 (nE E c - i) (by omega)
      have hX := ih (i + 1) y6 x3 x4 x5 o9 o10 o11 o12 (by omega)
      rw [show nE E c - (i + 1) = nE E c - 1 - i by omega] at hX
      rw [st_197_241]
      simp (disch := omega) only [st_197_243, st_197_244, st_197_247, st_197_249, st_197_250, st_197_253, st_197_254, st_197_255, st_197_256, st_197_258, st_197_261, ini_197, fs_cl, fs_len, fs_rf, fs_M, fs_put, fs_cpy, ↓reduceIte, rv_ref, true_or, or_true, true_and, and_true, nI_ltI, ix_nI, nI_clamp, ps_i, ps_n, Option.bind_some, sm_0, sm_1, sm_2, sm_3, sm_4, sto_0, sto_1, sto_2, sto_3, sto_4, sto_5, sto_6, sto_7, sto_8, sto_9, sto_10, sto_11, sto_12, sto_13, sto_14, nlo_n, nlo_i, nlo_r, nlo_0, nlo_l, and_self, or_self, Nat.reduceEqDiff, Nat.reduceLT, Nat.reduceLeDiff, Nat.one_ne_zero, Nat.zero_ne_one, m0, q0, a1, a2, g0, e1, f2, nI_div, pq, nI_add, hX]
  obtain ⟨x8, x9, x10, x11, x12, hX⟩ := L (E 0 ^ nE E c) 0 0 0 none none none none none (by omega) (Nat.le_refl _) (Nat.le_refl _)
  have hC := C (nE E c) 0 none none none none none none none (by omega)
  rw [Nat.pow_zero] at hC
  obtain ⟨lt1, lt2⟩ := hwS_lt (E := E) (rv := rE E c) (n := E 0) (s := nE E c) (E 0 ^ nE E c) 0 0 0 (Nat.le_refl _) (Nat.le_refl _)
  have start : ∀ R, j_X e 197 211 [some (.ref o), some (.int (nI c)), some (.int (wq q)), some (.int (nI (nE E c))), some (.int (nI (E 0 ^ nE E c))), some (.int (nI (hwS E (rE E c) (E 0) (nE E c) (E 0 ^ nE E c) 0 0 0).2)), some (.int (nI (hwS E (rE E c) (E 0) (nE E c) (E 0 ^ nE E c) 0 0 0).1)), some (.int (nI (E 0 ^ nE E c))), x8, x9, x10, x11, x12] [] (FS h M) = R → j_C (e + 1) 197 [.ref o, .int (nI c), .int (wq q)] (FS h M) = R := by
    intro R hR'
    rw [← hR', ← hX, j_C_eq]
    simp (disch := omega) only [st_197_0, st_197_1, st_197_2, st_197_5, st_197_8, st_197_9, st_197_10, st_197_13, st_197_16, st_197_19, st_197_22, st_197_23, st_197_24, st_197_27, st_197_28, st_197_29, st_197_30, st_197_33, st_197_34, st_197_35, st_197_37, st_197_38, ini_197, fs_cl, fs_len, fs_rf, fs_M, fs_put, fs_cpy, ↓reduceIte, rv_ref, true_or, or_true, true_and, and_true, nI_ltI, ix_nI, nI_clamp, ps_i, ps_n, Option.bind_some, sm_0, sm_1, sm_2, sm_3, sm_4, sto_0, sto_1, sto_2, sto_3, sto_4, sto_5, sto_6, sto_7, sto_8, sto_9, sto_10, sto_11, sto_12, sto_13, sto_14, nlo_n, nlo_i, nlo_r, nlo_0, nlo_l, and_self, or_self, Nat.reduceEqDiff, Nat.reduceLT, Nat.reduceLeDiff, Nat.one_ne_zero, Nat.zero_ne_one, m0, gt, gl, f3, gn]
    rw [hC]
    simp (disch := omega) only [st_197_63, st_197_64, st_197_66, st_197_67, st_197_69, st_197_70, ini_197, fs_cl, fs_len, fs_rf, fs_M, fs_put, fs_cpy, ↓reduceIte, rv_ref, true_or, or_true, true_and, and_true, nI_ltI, ix_nI, nI_clamp, ps_i, ps_n, Option.bind_some, sm_0, sm_1, sm_2, sm_3, sm_4, sto_0, sto_1, sto_2, sto_3, sto_4, sto_5, sto_6, sto_7, sto_8, sto_9, sto_10, sto_11, sto_12, sto_13, sto_14, nlo_n, nlo_i, nlo_r, nlo_0, nlo_l, and_self, or_self, Nat.reduceEqDiff, Nat.reduceLT, Nat.reduceLeDiff, Nat.one_ne_zero, Nat.zero_ne_one]
  generalize hwS E (rE E c) (E 0) (nE E c) (E 0 ^ nE E c) 0 0 0 = W at *
  cases q with
  | none =>
    have em : (-1 : Int32) < nI 0 := by decide +kernel
    simp only [hqA]
    apply start
    simp (disch := omega) only [st_197_211, st_197_212, st_197_215, st_197_217, ini_197, fs_cl, fs_len, fs_rf, fs_M, fs_put, fs_cpy, ↓reduceIte, rv_ref, true_or, or_true, true_and, and_true, nI_ltI, ix_nI, nI_clamp, ps_i, ps_n, Option.bind_some, sm_0, sm_1, sm_2, sm_3, sm_4, sto_0, sto_1, sto_2, sto_3, sto_4, sto_5, sto_6, sto_7, sto_8, sto_9, sto_10, sto_11, sto_12, sto_13, sto_14, nlo_n, nlo_i, nlo_r, nlo_0, nlo_l, and_self, or_self, Nat.reduceEqDiff, Nat.reduceLT, Nat.reduceLeDiff, Nat.one_ne_zero, Nat.zero_ne_one, wq, em]
  | some p =>
    have p2 := hq p rfl
    have np : ¬ nI p < nI 0 := nI_nlt (Nat.zero_le _) (by omega)
    simp only [hqA]
    by_cases c1 : W.2 = 0
    · rw [if_pos (.inl c1)]
      apply start
      simp (disch := omega) only [st_197_211, st_197_212, st_197_215, st_197_217, st_197_218, st_197_220, st_197_223, st_197_224, st_197_225, st_197_228, st_197_229, st_197_230, st_197_233, ini_197, fs_cl, fs_len, fs_rf, fs_M, fs_put, fs_cpy, ↓reduceIte, rv_ref, true_or, or_true, true_and, and_true, nI_ltI, ix_nI, nI_clamp, ps_i, ps_n, Option.bind_some, sm_0, sm_1, sm_2, sm_3, sm_4, sto_0, sto_1, sto_2, sto_3, sto_4, sto_5, sto_6, sto_7, sto_8, sto_9, sto_10, sto_11, sto_12, sto_13, sto_14, nlo_n, nlo_i, nlo_r, nlo_0, nlo_l, and_self, or_self, Nat.reduceEqDiff, Nat.reduceLT, Nat.reduceLeDiff, Nat.one_ne_zero, Nat.zero_ne_one, m0, wq, np, nI_eq, eq_true c1, gf]
    · by_cases c2 : nE E c ≤ p
      · rw [if_pos (.inr c2)]
        have c3 : ¬ p < nE E c := by omega
        apply start
        simp (disch := omega) only [st_197_211, st_197_212, st_197_215, st_197_217, st_197_218, st_197_220, st_197_223, st_197_224, st_197_225, st_197_228, st_197_229, st_197_230, st_197_233, ini_197, fs_cl, fs_len, fs_rf, fs_M, fs_put, fs_cpy, ↓reduceIte, rv_ref, true_or, or_true, true_and, and_true, nI_ltI, ix_nI, nI_clamp, ps_i, ps_n, Option.bind_some, sm_0, sm_1, sm_2, sm_3, sm_4, sto_0, sto_1, sto_2, sto_3, sto_4, sto_5, sto_6, sto_7, sto_8, sto_9, sto_10, sto_11, sto_12, sto_13, sto_14, nlo_n, nlo_i, nlo_r, nlo_0, nlo_l, and_self, or_self, Nat.reduceEqDiff, Nat.reduceLT, Nat.reduceLeDiff, Nat.one_ne_zero, Nat.zero_ne_one, m0, wq, np, nI_eq, c1, c3, gf]
      · rw [if_neg (fun hh => hh.elim c1 c2)]
        have c3 : p < nE E c := by omega
        have hP := P p c3 (p + 1) 0 (nI W.1) (some (.int (nI (nE E c)))) (some (.int (nI (E 0 ^ nE E c)))) (some (.int (nI W.2))) x9 x10 x11 x12 (by omega)
        rw [Nat.sub_zero] at hP
        have pn : 0 < E 0 ^ (nE E c - 1 - p) := Nat.pow_pos n0
        have pl := pw3 (nE E c - 1 - p) (by omega)
        have f1 : ¬ nI (E 0 ^ (nE E c - 1 - p)) = nI 0 := nI_ne (by omega) (by omega) (by omega)
        have dl : W.1 / E 0 ^ (nE E c - 1 - p) < 2147483648 := Nat.lt_of_le_of_lt (Nat.div_le_self _ _) (by omega)
        apply start
        unfold dg
        simp (disch := omega) only [st_197_211, st_197_212, st_197_215, st_197_217, st_197_218, st_197_220, st_197_223, st_197_224, st_197_225, st_197_228, st_197_229, st_197_230, st_197_233, st_197_234, st_197_236, st_197_238, st_197_239, ini_197, fs_cl, fs_len, fs_rf, fs_M, fs_put, fs_cpy, ↓reduceIte, rv_ref, true_or, or_true, true_and, and_true, nI_ltI, ix_nI, nI_clamp, ps_i, ps_n, Option.bind_some, sm_0, sm_1, sm_2, sm_3, sm_4, sto_0, sto_1, sto_2, sto_3, sto_4, sto_5, sto_6, sto_7, sto_8, sto_9, sto_10, sto_11, sto_12, sto_13, sto_14, nlo_n, nlo_i, nlo_r, nlo_0, nlo_l, and_self, or_self, Nat.reduceEqDiff, Nat.reduceLT, Nat.reduceLeDiff, Nat.one_ne_zero, Nat.zero_ne_one, m0, wq, np, nI_eq, c1, c3]
        rw [hP]
        simp (disch := omega) only [st_197_264, st_197_266, st_197_268, st_197_269, st_197_270, st_197_273, st_197_274, st_197_275, st_197_276, ini_197, fs_cl, fs_len, fs_rf, fs_M, fs_put, fs_cpy, ↓reduceIte, rv_ref, true_or, or_true, true_and, and_true, nI_ltI, ix_nI, nI_clamp, ps_i, ps_n, Option.bind_some, sm_0, sm_1, sm_2, sm_3, sm_4, sto_0, sto_1, sto_2, sto_3, sto_4, sto_5, sto_6, sto_7, sto_8, sto_9, sto_10, sto_11, sto_12, sto_13, sto_14, nlo_n, nlo_i, nlo_r, nlo_0, nlo_l, and_self, or_self, Nat.reduceEqDiff, Nat.reduceLT, Nat.reduceLeDiff, Nat.one_ne_zero, Nat.zero_ne_one, m0, q0, a1, a2, g0, f1, f2, nI_div, nI_rm]
