/-! The class's Market: draws; the strongest smell; days; the copy. -/
variable {h : j_Hd} {M : Nat → Nat → Int32} {σ : j_St} {d b : Nat} {E : Nat → Nat} {z : Int32} {K0 K1 : List Int32}
def hmS (E : Nat → Nat) : Nat → Nat
  | 0 => 0
  | k + 1 => if siS E (hmS E k) (E 1) < siS E (k + 1) (E 1) then k + 1 else hmS E k
theorem hmS_le : ∀ k, hmS E k ≤ k := by
  intro k
  induction k with
  | zero => exact Nat.le_refl _
  | succ k ih => unfold hmS; split <;> omega
theorem st3_le {f : Nat → Nat} (hf : ∀ k, f k ≤ 1) (x y w : Nat) : st3 f x y w ≤ 6 := by
  have := hf x; have := hf y; have := hf w
  unfold st3; split <;> split <;> split <;> omega
theorem siS_le (s : Nat) : ∀ c, siS E s c ≤ 6 * c := by
  intro c
  induction c with
  | zero => exact Nat.le_refl _
  | succ c ih => unfold siS; have := st3_le (one_1 s) (E (40 + 5 * c)) (E (41 + 5 * c)) (E (42 + 5 * c)); omega
theorem c29 (hk : Mk h b) (hm : CM M b E z K0 K1) (hw : WE E) : j_C (d + 5) 29 [.ref b] (FS h M) = some (some (.int (nI (hmS E 7))), FS h M) := by
  have h8 := hw.2.1
  have L : ∀ r k, r + k = 7 → j_X (d + 4) 29 4 [some (.ref b), some (.int (nI (hmS E k))), some (.int (nI (k + 1)))] [] (FS h M) = some (some (.int (nI (hmS E 7))), FS h M) := by
    intro r
    induction r with
    | zero =>
      intro k hk7
      have e : k = 7 := by omega
      subst e
      have e1 : nI 7 < nI (7 + 1) := nI_lt (by omega) (by omega)
      rw [st_29_4]
      simp only [st_29_0, st_29_1, st_29_2, st_29_3, st_29_5, st_29_7, st_29_10, st_29_11, st_29_12, st_29_15, st_29_16, st_29_17, st_29_20, st_29_23, st_29_24, st_29_25, st_29_28, st_29_31, st_29_32, ini_29, fs_cl, fs_len, fs_rf, fs_M, fs_put, fs_cpy, ↓reduceIte, rv_ref, true_or, or_true, true_and, and_true, nI_ltI, ix_nI, nI_clamp, ps_i, ps_n, Option.bind_some, sm_0, sm_1, sm_2, sm_3, sm_4, sto_0, sto_1, sto_2, sto_3, sto_4, sto_5, sto_6, sto_7, sto_8, sto_9, sto_10, sto_11, sto_12, sto_13, sto_14, nlo_n, nlo_i, nlo_r, nlo_0, nlo_l, and_self, or_self, Nat.reduceEqDiff, Nat.reduceLT, Nat.reduceLeDiff, Nat.one_ne_zero, Nat.zero_ne_one, e1]
    | succ r ih =>
      intro k hk7
      have e1 : ¬ 7 < k + 1 := by omega
      have hh := hmS_le (E := E) k
      have g1 := c30 (d := d) hk hm hw (by omega : k + 1 < 8)
      have g2 := c30 (d := d) hk hm hw (by omega : hmS E k < 8)
      have l1 := siS_le (E := E) (k + 1) (E 1)
      have l2 := siS_le (E := E) (hmS E k) (E 1)
      have hX := ih (k + 1) (by omega)
      rw [hmS] at hX
      rw [st_29_4]
      by_cases e : siS E (hmS E k) (E 1) < siS E (k + 1) (E 1)
      · rw [if_pos e] at hX
        simp (disch := omega) only [st_29_0, st_29_1, st_29_2, st_29_3, st_29_5, st_29_7, st_29_10, st_29_11, st_29_12, st_29_15, st_29_16, st_29_17, st_29_20, st_29_23, st_29_24, st_29_25, st_29_28, st_29_31, st_29_32, ini_29, fs_cl, fs_len, fs_rf, fs_M, fs_put, fs_cpy, ↓reduceIte, rv_ref, true_or, or_true, true_and, and_true, nI_ltI, ix_nI, nI_clamp, ps_i, ps_n, Option.bind_some, sm_0, sm_1, sm_2, sm_3, sm_4, sto_0, sto_1, sto_2, sto_3, sto_4, sto_5, sto_6, sto_7, sto_8, sto_9, sto_10, sto_11, sto_12, sto_13, sto_14, nlo_n, nlo_i, nlo_r, nlo_0, nlo_l, and_self, or_self, Nat.reduceEqDiff, Nat.reduceLT, Nat.reduceLeDiff, Nat.one_ne_zero, Nat.zero_ne_one, hk.1, e1, g1, g2, e, nI_add, hX]
      · rw [if_neg e] at hX
        simp (disch := omega) only [st_29_0, st_29_1, st_29_2, st_29_3, st_29_5, st_29_7, st_29_10, st_29_11, st_29_12, st_29_15, st_29_16, st_29_17, st_29_20, st_29_23, st_29_24, st_29_25, st_29_28, st_29_31, st_29_32, ini_29, fs_cl, fs_len, fs_rf, fs_M, fs_put, fs_cpy, ↓reduceIte, rv_ref, true_or, or_true, true_and, and_true, nI_ltI, ix_nI, nI_clamp, ps_i, ps_n, Option.bind_some, sm_0, sm_1, sm_2, sm_3, sm_4, sto_0, sto_1, sto_2, sto_3, sto_4, sto_5, sto_6, sto_7, sto_8, sto_9, sto_10, sto_11, sto_12, sto_13, sto_14, nlo_n, nlo_i, nlo_r, nlo_0, nlo_l, and_self, or_self, Nat.reduceEqDiff, Nat.reduceLT, Nat.reduceLeDiff, Nat.one_ne_zero, Nat.zero_ne_one, hk.1, e1, g1, g2, e, nI_add, hX]
  rw [j_C_eq]
  have hX := L 7 0 (by omega)
  simp only [st_29_0, st_29_1, st_29_2, st_29_3, st_29_5, st_29_7, st_29_10, st_29_11, st_29_12, st_29_15, st_29_16, st_29_17, st_29_20, st_29_23, st_29_24, st_29_25, st_29_28, st_29_31, st_29_32, ini_29, fs_cl, fs_len, fs_rf, fs_M, fs_put, fs_cpy, ↓reduceIte, rv_ref, true_or, or_true, true_and, and_true, nI_ltI, ix_nI, nI_clamp, ps_i, ps_n, Option.bind_some, sm_0, sm_1, sm_2, sm_3, sm_4, sto_0, sto_1, sto_2, sto_3, sto_4, sto_5, sto_6, sto_7, sto_8, sto_9, sto_10, sto_11, sto_12, sto_13, sto_14, nlo_n, nlo_i, nlo_r, nlo_0, nlo_l, and_self, or_self, Nat.reduceEqDiff, Nat.reduceLT, Nat.reduceLeDiff, Nat.one_ne_zero, Nat.zero_ne_one]
  exact hX
/-- a draw -/
def drz (z : Int32) : Int32 := z * nI 1103515245 + nI 12345
def drn (z : Int32) : Nat := (drz z).toUInt32.toNat / 256
theorem u_nI (u : UInt32) : u.toInt32 = nI u.toNat := by
  apply Int32.toBitVec_inj.1
  show u.toBitVec = BitVec.ofNat 32 u.toNat
  apply BitVec.eq_of_toNat_eq
  rw [BitVec.toNat_ofNat]
  exact (Nat.mod_eq_of_lt u.toBitVec.isLt).symm
theorem drn_eq (z : Int32) : ((drz z).toUInt32 >>> ((nI 8).toUInt32 &&& Int32.toUInt32 31)).toInt32 = nI (drn z) := by
  rw [u_nI, UInt32.toNat_shiftRight, show ((nI 8).toUInt32 &&& Int32.toUInt32 31).toNat % 32 = 8 by decide +kernel, Nat.shiftRight_eq_div_pow]
  rfl
theorem drn_lt (z : Int32) : drn z < 16777216 := by
  have := (drz z).toUInt32.toBitVec.isLt
  unfold drn
  have e : (drz z).toUInt32.toNat < 4294967296 := this
  omega
theorem c25 (hk : Mk h b) (hz : M b 13 = z) : j_C (d + 1) 25 [.ref b] (FS h M) = some (some (.int (nI (drn z))), FS h (j_up M b 13 (drz z))) := by
  have e := drn_eq z
  unfold drz at e
  unfold drz
  rw [j_C_eq]
  simp (disch := omega) only [st_25_0, st_25_1, st_25_2, st_25_5, st_25_7, st_25_8, st_25_11, st_25_12, st_25_15, st_25_16, st_25_19, st_25_21, st_25_22, ini_25, fs_cl, fs_len, fs_rf, fs_M, fs_put, fs_cpy, ↓reduceIte, rv_ref, true_or, or_true, true_and, and_true, nI_ltI, ix_nI, nI_clamp, ps_i, ps_n, Option.bind_some, sm_0, sm_1, sm_2, sm_3, sm_4, sto_0, sto_1, sto_2, sto_3, sto_4, sto_5, sto_6, sto_7, sto_8, sto_9, sto_10, sto_11, sto_12, sto_13, sto_14, nlo_n, nlo_i, nlo_r, nlo_0, nlo_l, and_self, or_self, Nat.reduceEqDiff, Nat.reduceLT, Nat.reduceLeDiff, Nat.one_ne_zero, Nat.zero_ne_one, hk.1, hz, up_s, e]
def dyN : Nat → (Nat → Nat) → (Nat → Nat)
  | 0, E => E
  | r + 1, E => dyN r (dayE E)
theorem c21 (hk : Mk h b) {n : Nat} (hn : n ≤ 1000) : ∀ r k (E : Nat → Nat) (M : Nat → Nat → Int32), CM M b E z K0 K1 → WE E → E 2 + r < 100000 → r + k = n → ∃ M', j_X (d + 4) 21 2 [some (.ref b), some (.int (nI n)), some (.int (nI k))] [] (FS h M) = some (none, FS h M') ∧ CM M' b (dyN r E) z K0 K1 ∧ mg b M M' := by
  intro r
  induction r with
  | zero =>
    intro k E M hm hw hd hr
    have e1 : ¬ k < n := by omega
    refine ⟨M, ?_, hm, mg_r⟩
    rw [st_21_2]
    simp (disch := omega) only [st_21_0, st_21_1, st_21_3, st_21_4, st_21_7, st_21_8, st_21_11, st_21_14, st_21_17, ini_21, fs_cl, fs_len, fs_rf, fs_M, fs_put, fs_cpy, ↓reduceIte, rv_ref, true_or, or_true, true_and, and_true, nI_ltI, ix_nI, nI_clamp, ps_i, ps_n, Option.bind_some, sm_0, sm_1, sm_2, sm_3, sm_4, sto_0, sto_1, sto_2, sto_3, sto_4, sto_5, sto_6, sto_7, sto_8, sto_9, sto_10, sto_11, sto_12, sto_13, sto_14, nlo_n, nlo_i, nlo_r, nlo_0, nlo_l, and_self, or_self, Nat.reduceEqDiff, Nat.reduceLT, Nat.reduceLeDiff, Nat.one_ne_zero, Nat.zero_ne_one, e1]
  | succ r ih =>
    intro k E M hm hw hd hr
    have e1 : k < n := by omega
    obtain ⟨M1, p1, p2, p3⟩ := c22 (d := d) hk hm hw (by omega)
    obtain ⟨M', q1, q2, q3⟩ := ih (k + 1) (dayE E) M1 p2 (dayE_WE hw (by omega)) (by rw [dayE_2]; omega) (by omega)
    refine ⟨M', ?_, ?_, mg_t p3 q3⟩
    · rw [st_21_2]
      simp (disch := omega) only [st_21_0, st_21_1, st_21_3, st_21_4, st_21_7, st_21_8, st_21_11, st_21_14, st_21_17, ini_21, fs_cl, fs_len, fs_rf, fs_M, fs_put, fs_cpy, ↓reduceIte, rv_ref, true_or, or_true, true_and, and_true, nI_ltI, ix_nI, nI_clamp, ps_i, ps_n, Option.bind_some, sm_0, sm_1, sm_2, sm_3, sm_4, sto_0, sto_1, sto_2, sto_3, sto_4, sto_5, sto_6, sto_7, sto_8, sto_9, sto_10, sto_11, sto_12, sto_13, sto_14, nlo_n, nlo_i, nlo_r, nlo_0, nlo_l, and_self, or_self, Nat.reduceEqDiff, Nat.reduceLT, Nat.reduceLeDiff, Nat.one_ne_zero, Nat.zero_ne_one, hk.1, e1, p1, nI_add, q1]
    · exact q2
/-- a copy of numbers, in its frame -/
theorem n41x {o a c o2 a2 c2 : Nat} (hb : Nb h o a c) (hb2 : Nb h o2 a2 c2) (ho : o ≠ o2) (ha : a2 ≠ o) (ho2 : o2 ≠ a) {k : Nat} (hs2 : M o2 1 = nI k) (h1 : k ≤ c) (h2 : k ≤ c2) : ∃ M', j_C (d + 2) 41 [.ref o, .ref o2] (FS h M) = some (none, FS h M') ∧ M' o 1 = nI k ∧ (∀ i, i < k → M' a i = M a2 i) ∧ (∀ i, k ≤ i → M' a i = M a i) ∧ ∀ x, x ≠ o → x ≠ a → M' x = M x := by
  have hoa := hb.2.2.2.2.2.2
  refine ⟨_, n41 hb hb2 ho ha ho2 hs2 h1 h2, ?_, fun i hi => ?_, fun i hi => ?_, fun x hx hxa => ?_⟩
  · unfold j_up1; rw [if_neg hoa]; exact up_s _ _ _
  · unfold j_up1 va_cpy; rw [if_pos rfl, if_pos (by omega)]; congr 1; omega
  · unfold j_up1 va_cpy; rw [if_pos rfl, if_neg (by omega)]
  · unfold j_up1; rw [if_neg hxa]; exact up_r _ _ _ _ hx
/-- what the draws offer -/
def ofE (E : Nat → Nat) (z : Int32) (K : List Int32) : Nat → Nat := if E 1 = 0 then E else if E (39 + 5 * (drn z % E 1)) = drn (drz z) % E 0 then E else if wth E K (drn z % E 1) (drn (drz z) % E 0) < nI (E (11 + 5 * (drn (drz z) % E 0))) then E else sel E (drn z % E 1) (drn (drz z) % E 0)
def ofZ (E : Nat → Nat) (z : Int32) : Int32 := if E 1 = 0 then z else drz (drz z)
theorem c24 (hk : Mk h b) (hm : CM M b E z K0 K1) (hw : WE E) : ∃ M', j_C (d + 6) 24 [.ref b] (FS h M) = some (none, FS h M') ∧ CM M' b (ofE E z K0) (ofZ E z) K0 K1 ∧ mg b M M' := by
  have h6 := hw.1
  have h8 := hw.2.1
  unfold ofE ofZ
  by_cases e : E 1 = 0
  · refine ⟨M, ?_, by rw [if_pos e, if_pos e]; exact hm, mg_r⟩
    have e0 : ¬ nI 0 < nI 0 := nI_nlt (by omega) (by omega)
    rw [j_C_eq]
    simp (disch := omega) only [st_24_0, st_24_1, st_24_4, st_24_5, st_24_6, st_24_9, st_24_10, st_24_11, st_24_14, st_24_15, st_24_18, st_24_19, st_24_20, st_24_23, st_24_24, st_24_25, st_24_26, st_24_27, st_24_30, st_24_31, st_24_32, st_24_34, st_24_35, st_24_37, st_24_38, st_24_41, st_24_44, st_24_45, st_24_46, st_24_48, st_24_51, st_24_51r, st_24_52, ini_24, fs_cl, fs_len, fs_rf, fs_M, fs_put, fs_cpy, ↓reduceIte, rv_ref, true_or, or_true, true_and, and_true, nI_ltI, ix_nI, nI_clamp, ps_i, ps_n, Option.bind_some, sm_0, sm_1, sm_2, sm_3, sm_4, sto_0, sto_1, sto_2, sto_3, sto_4, sto_5, sto_6, sto_7, sto_8, sto_9, sto_10, sto_11, sto_12, sto_13, sto_14, nlo_n, nlo_i, nlo_r, nlo_0, nlo_l, and_self, or_self, Nat.reduceEqDiff, Nat.reduceLT, Nat.reduceLeDiff, Nat.one_ne_zero, Nat.zero_ne_one, hk.1, c6 hk, c7 hk, hm.1.1, hm.1.2.2.2.2.2.1, e, e0]
  · have hc0 := (hw.2.2.2.2.2.2.2 0 (by omega)).2.2.1
    have e1 : nI 0 < nI (E 1) := nI_lt (by omega) (by omega)
    have e2 : nI 0 < nI (E 0) := nI_lt (by omega) (by omega)
    have e3 : ¬ nI (E 1) = nI 0 := nI_ne (by omega) (by omega) (by omega)
    have e4 : ¬ nI (E 0) = nI 0 := nI_ne (by omega) (by omega) (by omega)
    have l1 := drn_lt z
    have l2 := drn_lt (drz z)
    have d1 := c25 (d := d + 4) hk hm.2.2.2.2.1.2.2.2
    have hm1 := CM_z hm (drz z)
    have d2 := c25 (d := d + 4) hk hm1.2.2.2.2.1.2.2.2
    have hm2 := CM_z hm1 (drz (drz z))
    have mc := Nat.mod_lt (drn z) (by omega : 0 < E 1)
    have mt := Nat.mod_lt (drn (drz z)) (by omega : 0 < E 0)
    rw [if_neg e, if_neg e]
    have q : mg b M (j_up (j_up M b 13 (drz z)) b 13 (drz (drz z))) := mg_t (mg_up _ (by omega) (by omega)) (mg_up _ (by omega) (by omega))
    have g := c12 (d := d + 3) hk hm2 hw (t := drn (drz z) % E 0) (by omega) mc
    have run : ∀ (P : j_R), (∀ x, x = (if E (39 + 5 * (drn z % E 1)) = drn (drz z) % E 0 then nI 1 else nI 0) → j_X (d + 5) 24 41 [some (.ref b), some (.int (nI (E 1))), some (.int (nI (E 0))), some (.int (nI (drn z % E 1))), some (.int (nI (drn (drz z) % E 0)))] [.int x] (FS h (j_up (j_up M b 13 (drz z)) b 13 (drz (drz z)))) = P) → j_C (d + 6) 24 [.ref b] (FS h M) = P := by
      intro P hP
      rw [j_C_eq]
      simp (disch := omega) only [st_24_0, st_24_1, st_24_4, st_24_5, st_24_6, st_24_9, st_24_10, st_24_11, st_24_14, st_24_15, st_24_18, st_24_19, st_24_20, st_24_23, st_24_24, st_24_25, st_24_26, st_24_27, st_24_30, st_24_31, st_24_32, st_24_34, st_24_35, st_24_37, st_24_38, ini_24, fs_cl, fs_len, fs_rf, fs_M, fs_put, fs_cpy, ↓reduceIte, rv_ref, true_or, or_true, true_and, and_true, nI_ltI, ix_nI, nI_clamp, ps_i, ps_n, Option.bind_some, sm_0, sm_1, sm_2, sm_3, sm_4, sto_0, sto_1, sto_2, sto_3, sto_4, sto_5, sto_6, sto_7, sto_8, sto_9, sto_10, sto_11, sto_12, sto_13, sto_14, nlo_n, nlo_i, nlo_r, nlo_0, nlo_l, and_self, or_self, Nat.reduceEqDiff, Nat.reduceLT, Nat.reduceLeDiff, Nat.one_ne_zero, Nat.zero_ne_one, hk.1, c6 hk, c7 hk, hm.1.1, hm.1.2.2.2.2.2.1, e1, e2, e3, e4, d1, d2, nI_rem, g]
      exact hP _ rfl
    by_cases c1 : E (39 + 5 * (drn z % E 1)) = drn (drz z) % E 0
    · rw [if_pos c1]
      refine ⟨_, ?_, hm2, q⟩
      apply run
      intro x hx
      rw [if_pos c1] at hx
      subst hx
      simp (disch := omega) only [st_24_41, st_24_44, st_24_45, st_24_46, st_24_48, st_24_51, st_24_51r, st_24_52, ini_24, fs_cl, fs_len, fs_rf, fs_M, fs_put, fs_cpy, ↓reduceIte, rv_ref, true_or, or_true, true_and, and_true, nI_ltI, ix_nI, nI_clamp, ps_i, ps_n, Option.bind_some, sm_0, sm_1, sm_2, sm_3, sm_4, sto_0, sto_1, sto_2, sto_3, sto_4, sto_5, sto_6, sto_7, sto_8, sto_9, sto_10, sto_11, sto_12, sto_13, sto_14, nlo_n, nlo_i, nlo_r, nlo_0, nlo_l, and_self, or_self, Nat.reduceEqDiff, Nat.reduceLT, Nat.reduceLeDiff, Nat.one_ne_zero, Nat.zero_ne_one, nI_eq]
    · rw [if_neg c1]
      by_cases c2 : wth E K0 (drn z % E 1) (drn (drz z) % E 0) < nI (E (11 + 5 * (drn (drz z) % E 0)))
      · rw [if_pos c2]
        obtain ⟨M', p1, p2⟩ := c19n (d := d) hk hm2 hw mt mc c2
        refine ⟨M', ?_, CM_sg p2 hm2, mg_t q (mg_sg p2)⟩
        apply run
        intro x hx
        rw [if_neg c1] at hx
        subst hx
        simp (disch := omega) only [st_24_41, st_24_44, st_24_45, st_24_46, st_24_48, st_24_51, st_24_51r, st_24_52, ini_24, fs_cl, fs_len, fs_rf, fs_M, fs_put, fs_cpy, ↓reduceIte, rv_ref, true_or, or_true, true_and, and_true, nI_ltI, ix_nI, nI_clamp, ps_i, ps_n, Option.bind_some, sm_0, sm_1, sm_2, sm_3, sm_4, sto_0, sto_1, sto_2, sto_3, sto_4, sto_5, sto_6, sto_7, sto_8, sto_9, sto_10, sto_11, sto_12, sto_13, sto_14, nlo_n, nlo_i, nlo_r, nlo_0, nlo_l, and_self, or_self, Nat.reduceEqDiff, Nat.reduceLT, Nat.reduceLeDiff, Nat.one_ne_zero, Nat.zero_ne_one, hk.1, nI_eq, p1]
      · rw [if_neg c2]
        obtain ⟨M', p1, p2, p3⟩ := c19y (d := d) hk hm2 hw mt mc c2
        refine ⟨M', ?_, p2, mg_t q p3⟩
        apply run
        intro x hx
        rw [if_neg c1] at hx
        subst hx
        simp (disch := omega) only [st_24_41, st_24_44, st_24_45, st_24_46, st_24_48, st_24_51, st_24_51r, st_24_52, ini_24, fs_cl, fs_len, fs_rf, fs_M, fs_put, fs_cpy, ↓reduceIte, rv_ref, true_or, or_true, true_and, and_true, nI_ltI, ix_nI, nI_clamp, ps_i, ps_n, Option.bind_some, sm_0, sm_1, sm_2, sm_3, sm_4, sto_0, sto_1, sto_2, sto_3, sto_4, sto_5, sto_6, sto_7, sto_8, sto_9, sto_10, sto_11, sto_12, sto_13, sto_14, nlo_n, nlo_i, nlo_r, nlo_0, nlo_l, and_self, or_self, Nat.reduceEqDiff, Nat.reduceLT, Nat.reduceLeDiff, Nat.one_ne_zero, Nat.zero_ne_one, hk.1, nI_eq, p1]
theorem Seg_cg0 {f g : Nat → Int32} : ∀ {l : List Int32} {i : Nat}, (∀ j, i ≤ j → j < i + l.length → g j = f j) → Seg f i l → Seg g i l
  | [], _, _, _ => trivial
  | x :: l, i, e, hs => by
    rw [List.length_cons] at e
    exact ⟨by rw [e i (by omega) (by omega)]; exact hs.1, Seg_cg0 (fun j h1 h2 => e j (by omega) (by omega)) hs.2⟩
theorem Seg_cg {f g : Nat → Int32} {l : List Int32} (e : ∀ j, j < l.length → g j = f j) (hs : Seg f 0 l) : Seg g 0 l :=
  Seg_cg0 (fun j _ h2 => e j (by omega)) hs
theorem rv_add (x k : Nat) : j_rv (x + (k + 1)) = .ref (x + (k + 1)) := rv_ref (by omega)
theorem c5 {b2 : Nat} {E2 : Nat → Nat} {z2 : Int32} {L0 L1 : List Int32} (hk : Mk h b) (hk2 : Mk h b2) (hdis : b + 27 ≤ b2 ∨ b2 + 27 ≤ b) (hst : ∀ c, c < 8 → ∃ v, v < 1000 ∧ M (b + 16) c = nI v) (hm : CM M b2 E2 z2 L0 L1) (hw : WE E2) : ∃ M', j_C (d + 3) 5 [.ref b, .ref b2] (FS h M) = some (none, FS h M') ∧ CM M' b E2 z2 L0 L1 ∧ mg b M M' := by
  have n0 := hk.2.1.2
  have k0 := hk2.2.1.2
  have n1 := hk.2.2.1.2
  have k1 := hk2.2.2.1.2
  have n2 := hk.2.2.2.1.2
  have k2 := hk2.2.2.2.1.2
  have n3 := hk.2.2.2.2.1.2
  have k3 := hk2.2.2.2.2.1.2
  have n4 := hk.2.2.2.2.2.1.2
  have k4 := hk2.2.2.2.2.2.1.2
  have n5 := hk.2.2.2.2.2.2.1.2
  have k5 := hk2.2.2.2.2.2.2.1.2
  have n6 := hk.2.2.2.2.2.2.2.1.2
  have k6 := hk2.2.2.2.2.2.2.2.1.2
  have n7 := hk.2.2.2.2.2.2.2.2.1.2
  have k7 := hk2.2.2.2.2.2.2.2.2.1.2
  have u3 := hk.2.2.2.2.2.2.2.2.2.1.2.2.2.1
  have u3' := hk2.2.2.2.2.2.2.2.2.2.1.2.2.2.1
  have v3 := hk.2.2.2.2.2.2.2.2.2.2.2.2.2.1
  have v3' := hk2.2.2.2.2.2.2.2.2.2.2.2.2.2.1
  obtain ⟨⟨a0, a1, a2, a3, a4, a5, a6, a7⟩, at_, ac_, _, ⟨ad, af, as_, az⟩, ⟨y1, y2, y3⟩, ⟨x1, x2, x3⟩⟩ := hm
  have h6 := hw.1
  have h8 := hw.2.1
  have G0 : ∀ x, (x < b ∨ b + 27 ≤ x) → M x = M x := fun _ _ => rfl
  obtain ⟨M1, p1, s1, i1, w1, f1⟩ := n41x (d := d) (M := M) (k := E2 0) n0 k0 (by omega) (by omega) (by omega) a0 h6 h6
  have G1 : ∀ x, (x < b ∨ b + 27 ≤ x) → M1 x = M x := fun x hx => by rw [f1 x (by omega) (by omega), G0 x hx]
  obtain ⟨M2, p2, s2, i2, w2, f2⟩ := n41x (d := d) (M := M1) (k := E2 0) n1 k1 (by omega) (by omega) (by omega) (by rw [G1 _ (by omega)]; exact a1) h6 h6
  have G2 : ∀ x, (x < b ∨ b + 27 ≤ x) → M2 x = M x := fun x hx => by rw [f2 x (by omega) (by omega), G1 x hx]
  obtain ⟨M3, p3, s3, i3, w3, f3⟩ := n41x (d := d) (M := M2) (k := E2 0) n2 k2 (by omega) (by omega) (by omega) (by rw [G2 _ (by omega)]; exact a2) h6 h6
  have G3 : ∀ x, (x < b ∨ b + 27 ≤ x) → M3 x = M x := fun x hx => by rw [f3 x (by omega) (by omega), G2 x hx]
  obtain ⟨M4, p4, s4, i4, w4, f4⟩ := n41x (d := d) (M := M3) (k := E2 0) n3 k3 (by omega) (by omega) (by omega) (by rw [G3 _ (by omega)]; exact a3) h6 h6
  have G4 : ∀ x, (x < b ∨ b + 27 ≤ x) → M4 x = M x := fun x hx => by rw [f4 x (by omega) (by omega), G3 x hx]
  obtain ⟨M5, p5, s5, i5, w5, f5⟩ := n41x (d := d) (M := M4) (k := E2 0) n4 k4 (by omega) (by omega) (by omega) (by rw [G4 _ (by omega)]; exact a4) h6 h6
  have G5 : ∀ x, (x < b ∨ b + 27 ≤ x) → M5 x = M x := fun x hx => by rw [f5 x (by omega) (by omega), G4 x hx]
  obtain ⟨M6, p6, s6, i6, w6, f6⟩ := n41x (d := d) (M := M5) (k := E2 1) n5 k5 (by omega) (by omega) (by omega) (by rw [G5 _ (by omega)]; exact a5) h8 h8
  have G6 : ∀ x, (x < b ∨ b + 27 ≤ x) → M6 x = M x := fun x hx => by rw [f6 x (by omega) (by omega), G5 x hx]
  obtain ⟨M7, p7, s7, i7, w7, f7⟩ := n41x (d := d) (M := M6) (k := E2 1) n6 k6 (by omega) (by omega) (by omega) (by rw [G6 _ (by omega)]; exact a6) h8 h8
  have G7 : ∀ x, (x < b ∨ b + 27 ≤ x) → M7 x = M x := fun x hx => by rw [f7 x (by omega) (by omega), G6 x hx]
  obtain ⟨M8, p8, s8, i8, w8, f8⟩ := n41x (d := d) (M := M7) (k := E2 1) n7 k7 (by omega) (by omega) (by omega) (by rw [G7 _ (by omega)]; exact a7) h8 h8
  have G8 : ∀ x, (x < b ∨ b + 27 ≤ x) → M8 x = M x := fun x hx => by rw [f8 x (by omega) (by omega), G7 x hx]
  obtain ⟨M9, p9, s9, i9, w9, f9⟩ := n41x (d := d) (M := M8) (k := L0.length) u3 u3' (by omega) (by omega) (by omega) (by rw [G8 _ (by omega)]; exact y1) y2 y2
  have G9 : ∀ x, (x < b ∨ b + 27 ≤ x) → M9 x = M x := fun x hx => by rw [f9 x (by omega) (by omega), G8 x hx]
  obtain ⟨M10, p10, s10, i10, w10, f10⟩ := n41x (d := d) (M := M9) (k := L1.length) v3 v3' (by omega) (by omega) (by omega) (by rw [G9 _ (by omega)]; exact x1) x2 x2
  have G10 : ∀ x, (x < b ∨ b + 27 ≤ x) → M10 x = M x := fun x hx => by rw [f10 x (by omega) (by omega), G9 x hx]
  have g1 : M10 b2 10 = nI (E2 2) := by rw [G10 _ (by omega)]; exact ad
  have g2 : j_up M10 b 10 (nI (E2 2)) b2 11 = nI (E2 4) := by rw [up_o _ _ _ _ _ (by omega), G10 _ (by omega)]; exact af
  have g3 : j_up (j_up M10 b 10 (nI (E2 2))) b 11 (nI (E2 4)) b2 12 = nI (E2 3) := by rw [up_o _ _ _ _ _ (by omega), up_o _ _ _ _ _ (by omega), G10 _ (by omega)]; exact as_
  have g4 : j_up (j_up (j_up M10 b 10 (nI (E2 2))) b 11 (nI (E2 4))) b 12 (nI (E2 3)) b2 13 = z2 := by rw [up_o _ _ _ _ _ (by omega), up_o _ _ _ _ _ (by omega), up_o _ _ _ _ _ (by omega), G10 _ (by omega)]; exact az
  refine ⟨(j_up (j_up (j_up (j_up M10 b 10 (nI (E2 2))) b 11 (nI (E2 4))) b 12 (nI (E2 3))) b 13 z2), ?_, ⟨?_, fun t ht => ?_, fun c hc => ?_, fun c hc => ?_, ?_, ?_, ?_⟩, fun x hx => ?_⟩
  · clear G0 G1 G2 G3 G4 G5 G6 G7 G8 G9 G10
    obtain ⟨m0, ⟨r0, _⟩, ⟨r1, _⟩, ⟨r2, _⟩, ⟨r3, _⟩, ⟨r4, _⟩, ⟨r5, _⟩, ⟨r6, _⟩, ⟨r7, _⟩, ⟨r8, u1, u2, _, _⟩, ⟨r9, v1, v2, _, _⟩⟩ := hk
    obtain ⟨m0', ⟨q0, _⟩, ⟨q1, _⟩, ⟨q2, _⟩, ⟨q3, _⟩, ⟨q4, _⟩, ⟨q5, _⟩, ⟨q6, _⟩, ⟨q7, _⟩, ⟨q8, u1', u2', _, _⟩, ⟨q9, v1', v2', _, _⟩⟩ := hk2
    rw [j_C_eq]
    simp only [st_5_0, st_5_1, st_5_4, st_5_5, st_5_8, st_5_11, st_5_12, st_5_15, st_5_16, st_5_19, st_5_22, st_5_23, st_5_26, st_5_27, st_5_30, st_5_33, st_5_34, st_5_37, st_5_38, st_5_41, st_5_44, st_5_45, st_5_48, st_5_49, st_5_52, st_5_55, st_5_56, st_5_59, st_5_60, st_5_63, st_5_66, st_5_67, st_5_70, st_5_71, st_5_74, st_5_77, st_5_78, st_5_81, st_5_82, st_5_85, st_5_88, st_5_89, st_5_92, st_5_95, st_5_96, st_5_99, st_5_102, st_5_105, st_5_106, st_5_109, st_5_112, st_5_113, st_5_116, st_5_119, st_5_122, st_5_123, st_5_124, st_5_127, st_5_130, st_5_131, st_5_132, st_5_135, st_5_138, st_5_139, st_5_140, st_5_143, st_5_146, st_5_147, st_5_148, st_5_151, st_5_154, ini_5, fs_cl, fs_len, fs_rf, fs_M, fs_put, fs_cpy, ↓reduceIte, rv_add, true_or, or_true, true_and, and_true, nI_ltI, ix_nI, nI_clamp, ps_i, ps_n, Option.bind_some, sm_0, sm_1, sm_2, sm_3, sm_4, sto_0, sto_1, sto_2, sto_3, sto_4, sto_5, sto_6, sto_7, sto_8, sto_9, sto_10, sto_11, sto_12, sto_13, sto_14, nlo_n, nlo_i, nlo_r, nlo_0, nlo_l, and_self, or_self, Nat.reduceEqDiff, Nat.reduceLT, Nat.reduceLeDiff, Nat.one_ne_zero, Nat.zero_ne_one, m0, m0', r0, r1, r2, r3, r4, r5, r6, r7, r8, r9, q0, q1, q2, q3, q4, q5, q6, q7, q8, q9, u1, u2, u1', u2', v1, v2, v1', v2', n0.1, n1.1, n2.1, n3.1, n4.1, n5.1, n6.1, n7.1, u3.1, v3.1, p1, p2, p3, p4, p5, p6, p7, p8, p9, p10, g1, g2, g3, g4]
  · unfold CS
    simp (disch := omega) only [up_o, f1, f2, f3, f4, f5, f6, f7, f8, f9, f10, s1, s2, s3, s4, s5, s6, s7, s8, s9, s10, and_self]
  · have p := at_ t ht
    unfold CT at p ⊢
    simp (disch := omega) only [up_o, f1, f2, f3, f4, f5, f6, f7, f8, f9, f10, i1, i2, i3, i4, i5, i6, i7, i8, i9, i10, G1, G2, G3, G4, G5, G6, G7, G8, G9, G10]
    exact p
  · have p := ac_ c hc
    unfold CC at p ⊢
    simp (disch := omega) only [up_o, f1, f2, f3, f4, f5, f6, f7, f8, f9, f10, i1, i2, i3, i4, i5, i6, i7, i8, i9, i10, G1, G2, G3, G4, G5, G6, G7, G8, G9, G10]
    exact p
  · by_cases e : c < E2 1
    · refine ⟨rE E2 c, rn_lt (hw.2.2.2.2.2.2.2 c e).2.2.2, ?_⟩
      simp (disch := omega) only [up_o, f1, f2, f3, f4, f5, f6, f7, f8, f9, f10, i1, i2, i3, i4, i5, i6, i7, i8, i9, i10, G1, G2, G3, G4, G5, G6, G7, G8, G9, G10]
      exact (ac_ c e).2.2
    · have e' : E2 1 ≤ c := by omega
      simp (disch := omega) only [up_o, f1, f2, f3, f4, f5, f6, f7, f8, f9, f10, w8]
      exact hst c hc
  · simp (disch := omega) only [up_s, up_k, and_self]
  · refine ⟨?_, y2, ?_⟩
    · simp (disch := omega) only [up_o, f1, f2, f3, f4, f5, f6, f7, f8, f9, f10, s9]
    · refine Seg_cg (fun j hj => ?_) y3
      simp (disch := omega) only [up_o, f1, f2, f3, f4, f5, f6, f7, f8, f9, f10, i9, G1, G2, G3, G4, G5, G6, G7, G8, G9, G10]
  · refine ⟨?_, x2, ?_⟩
    · simp (disch := omega) only [up_o, f1, f2, f3, f4, f5, f6, f7, f8, f9, f10, s10]
    · refine Seg_cg (fun j hj => ?_) x3
      simp (disch := omega) only [up_o, f1, f2, f3, f4, f5, f6, f7, f8, f9, f10, i10, G1, G2, G3, G4, G5, G6, G7, G8, G9, G10]
  · rw [up_r _ _ _ _ (by omega), up_r _ _ _ _ (by omega), up_r _ _ _ _ (by omega), up_r _ _ _ _ (by omega), G10 x hx]
