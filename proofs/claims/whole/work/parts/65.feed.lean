/-! Both sides: feed. -/
variable {h : j_Hd} {M M1 M2 : Nat → Nat → Int32} {o b : Nat} {E E' : Nat → Nat} {z : Int32} {K0 K1 : List Int32} {T : Nat → Nat} {W : Nat → Int32}
theorem b255 : ∀ j, j < 32 → (nI 255).toBitVec.getLsbD j = decide (j < 8) := by decide +kernel
theorem b255' : ∀ j, j < 64 → (lN 255).toBitVec.getLsbD j = decide (j < 8) := by decide +kernel
theorem sh1' : ∀ i, i < 8 → (((nI (8 * i)).toInt64.toUInt64 &&& Int64.toUInt64 63).toBitVec % 64).toNat = 8 * i := by decide +kernel
theorem sh2 : ∀ i, i < 8 → (((nI (8 * i)).toInt64 &&& 63).toBitVec.smod 64).toNat = 8 * i := by decide +kernel
theorem by_eq (a : Int64) {i : Nat} (hi : i < 8) : ((a >>> ((nI (8 * i)).toInt64 &&& 63)) &&& lN 255).toInt32 = ((a.toUInt64 >>> ((nI (8 * i)).toInt64.toUInt64 &&& Int64.toUInt64 63)).toInt64).toInt32 &&& nI 255 := by
  have e1 := sh1' i hi
  have e2 := sh2 i hi
  apply Int32.toBitVec_inj.mp
  apply BitVec.eq_of_getLsbD_eq
  intro j hj
  rw [Int64.toBitVec_toInt32, Int32.toBitVec_and, Int64.toBitVec_toInt32, Int64.toBitVec_and, Int64.toBitVec_shiftRight, BitVec.getLsbD_and, BitVec.getLsbD_signExtend, BitVec.getLsbD_signExtend, BitVec.getLsbD_and, b255 j hj, b255' j (by omega), BitVec.sshiftRight', e2]
  have e3 : (a.toUInt64 >>> ((nI (8 * i)).toInt64.toUInt64 &&& Int64.toUInt64 63)).toInt64.toBitVec = a.toBitVec >>> (8 * i) := by
    show (a.toUInt64 >>> ((nI (8 * i)).toInt64.toUInt64 &&& Int64.toUInt64 63)).toBitVec = _
    rw [UInt64.toBitVec_shiftRight, BitVec.ushiftRight_eq', e1]
    rfl
  rw [e3, BitVec.getLsbD_ushiftRight, BitVec.getLsbD_sshiftRight]
  have hj2 : j < 64 := by omega
  by_cases c : j < 8
  · have c2 : 8 * i + j < 64 := by omega
    simp [c, hj, hj2, c2]
  · simp [c, hj]
    intro h; omega
/-- a byte of a long -/
def bw (a : Int64) (i : Nat) : Nat := (((a.toUInt64 >>> ((nI (8 * i)).toInt64.toUInt64 &&& Int64.toUInt64 63)).toInt64).toInt32 &&& nI 255).toBitVec.toNat
theorem bw_lt (a : Int64) (i : Nat) : bw a i < 256 := by
  unfold bw
  rw [Int32.toBitVec_and, BitVec.toNat_and]
  exact Nat.lt_of_le_of_lt Nat.and_le_right (by decide +kernel)
theorem bw_eq (a : Int64) (i : Nat) : ((a.toUInt64 >>> ((nI (8 * i)).toInt64.toUInt64 &&& Int64.toUInt64 63)).toInt64).toInt32 &&& nI 255 = nI (bw a i) := by
  apply Int32.toBitVec_inj.mp
  show _ = BitVec.ofNat 32 _
  unfold bw
  rw [BitVec.ofNat_toNat, BitVec.setWidth_eq]
theorem bw_eq2 (a : Int64) {i : Nat} (hi : i < 8) : ((a >>> ((nI (8 * i)).toInt64 &&& 63)) &&& lN 255).toInt32 = nI (bw a i) := by rw [by_eq a hi, bw_eq]
/-- a picture of which the market knows all but two ints -/
theorem CM_E (he : ∀ j, j ≠ 6 → j ≠ 7 → E' j = E j) (hm : CM M b E z K0 K1) : CM M b E' z K0 K1 := by
  obtain ⟨a1, a2, a3, a4, a5, a6, a7⟩ := hm
  have e0 := he 0 (by omega) (by omega)
  have e1 := he 1 (by omega) (by omega)
  refine ⟨?_, fun t ht => ?_, fun c hc => ?_, a4, ?_, a6, a7⟩
  · unfold CS at a1 ⊢; rw [e0, e1]; exact a1
  · rw [e0] at ht
    have := a2 t ht
    unfold CT at this ⊢
    rw [he (8 + 5 * t) (by omega) (by omega), he (9 + 5 * t) (by omega) (by omega), he (10 + 5 * t) (by omega) (by omega), he (11 + 5 * t) (by omega) (by omega), he (12 + 5 * t) (by omega) (by omega)]
    exact this
  · rw [e1] at hc
    have := a3 c hc
    unfold CC rE at this ⊢
    rw [he (38 + 5 * c) (by omega) (by omega), he (39 + 5 * c) (by omega) (by omega), he (40 + 5 * c) (by omega) (by omega), he (41 + 5 * c) (by omega) (by omega), he (42 + 5 * c) (by omega) (by omega)]
    exact this
  · rw [he 2 (by omega) (by omega), he 3 (by omega) (by omega), he 4 (by omega) (by omega)]; exact a5
theorem WE_E (he : ∀ j, j ≠ 6 → j ≠ 7 → E' j = E j) (hw : WE E) : WE E' := by
  obtain ⟨a0, a1, a2, a3, a4, a5, a6, a7⟩ := hw
  have e0 := he 0 (by omega) (by omega)
  have e1 := he 1 (by omega) (by omega)
  refine ⟨by rw [e0]; exact a0, by rw [e1]; exact a1, by rw [he 2 (by omega) (by omega)]; exact a2, by rw [he 3 (by omega) (by omega)]; exact a3, by rw [he 4 (by omega) (by omega)]; exact a4, by rw [he 4 (by omega) (by omega)]; exact a5, fun t ht => ?_, fun c hc => ?_⟩
  · rw [e0] at ht
    have := a6 t ht
    unfold Tv at this ⊢
    rw [he (8 + 5 * t) (by omega) (by omega), he (9 + 5 * t) (by omega) (by omega), he (10 + 5 * t) (by omega) (by omega), he (11 + 5 * t) (by omega) (by omega), he (12 + 5 * t) (by omega) (by omega)]
    exact this
  · rw [e1] at hc
    have := a7 c hc
    unfold Cv at this ⊢
    rw [e0, he (38 + 5 * c) (by omega) (by omega), he (39 + 5 * c) (by omega) (by omega), he (40 + 5 * c) (by omega) (by omega), he (41 + 5 * c) (by omega) (by omega), he (42 + 5 * c) (by omega) (by omega)]
    exact this
/-- the class's loop -/
theorem c89l (hh : Hd h) (a : Int64) {n base : Nat} (hn : n ≤ 8) (hb : base + n ≤ 50) {e : Nat} (he : 4 ≤ e) : ∀ r i (M : Nat → Nat → Int32), r + i = n → M 29 1 = nI (base + i) → ∃ M', j_X e 89 39 [some (.ref 1), some (.long a), none, some (.int (nI n)), some (.int (nI i))] [] (FS h M) = some (some (.int (nI (base + n))), FS h M') ∧ M' 29 1 = nI (base + n) ∧ (∀ j, j < base + i → M' 30 j = M 30 j) ∧ (∀ j, i ≤ j → j < n → M' 30 (base + j) = nI (bw a j)) ∧ ∀ x, x ≠ 29 → x ≠ 30 → M' x = M x := by
  have w0 := hh.1.1
  have f1 := hh.1.2.2.1
  have nb := hh.2.2.1.1
  intro r
  induction r with
  | zero =>
    intro i M hr hM
    have ei : i = n := by omega
    subst ei
    have e1 : ¬ i < i := by omega
    have g := n32e (M := M) nb.1 (e := e) (by omega)
    refine ⟨M, ?_, hM, fun _ _ => rfl, fun j h1 h2 => by omega, fun _ _ _ => rfl⟩
    rw [st_89_39]
    simp (disch := omega) only [st_89_0, st_89_1, st_89_2, st_89_4, st_89_7, st_89_10, st_89_11, st_89_12, st_89_15, st_89_16, st_89_17, st_89_20, st_89_23, st_89_25, st_89_26, st_89_27, st_89_30, st_89_31, st_89_32, st_89_35, st_89_36, st_89_37, st_89_41, st_89_42, st_89_45, st_89_46, st_89_49, st_89_50, st_89_52, st_89_54, st_89_55, st_89_56, st_89_57, st_89_60, st_89_61, st_89_64, st_89_64r, st_89_65, st_89_68, st_89_71, st_89_72, st_89_75, st_89_78, ini_89, fs_cl, fs_len, fs_rf, fs_M, fs_put, fs_cpy, ↓reduceIte, rv_ref, true_or, or_true, true_and, and_true, nI_ltI, ix_nI, nI_clamp, ps_i, ps_n, Option.bind_some, sm_0, sm_1, sm_2, sm_3, sm_4, sto_0, sto_1, sto_2, sto_3, sto_4, sto_5, sto_6, sto_7, sto_8, sto_9, sto_10, sto_11, sto_12, sto_13, sto_14, nlo_n, nlo_i, nlo_r, nlo_0, nlo_l, and_self, or_self, Nat.reduceEqDiff, Nat.reduceLT, Nat.reduceLeDiff, Nat.one_ne_zero, Nat.zero_ne_one, w0, f1, nb.1, e1, g, hM]
  | succ r ih =>
    intro i M hr hM
    have e1 : i < n := by omega
    obtain ⟨d, hd⟩ := le_ex (show 1 ≤ e by omega)
    obtain ⟨M1, p1, p2, p3, p4, p5⟩ := n36x (d := d) nb hM (by omega) (nI (bw a i))
    rw [← hd] at p1
    have eb := bw_eq a i
    obtain ⟨M', s1, s2, s3, s4, s5⟩ := ih (i + 1) M1 (by omega) p2
    refine ⟨M', ?_, s2, fun j hj => ?_, fun j h1 h2 => ?_, fun x hx hx2 => by rw [s5 x hx hx2, p5 x hx hx2]⟩
    · rw [← s1, st_89_39]
      simp (disch := omega) only [st_89_0, st_89_1, st_89_2, st_89_4, st_89_7, st_89_10, st_89_11, st_89_12, st_89_15, st_89_16, st_89_17, st_89_20, st_89_23, st_89_25, st_89_26, st_89_27, st_89_30, st_89_31, st_89_32, st_89_35, st_89_36, st_89_37, st_89_41, st_89_42, st_89_45, st_89_46, st_89_49, st_89_50, st_89_52, st_89_54, st_89_55, st_89_56, st_89_57, st_89_60, st_89_61, st_89_64, st_89_64r, st_89_65, st_89_68, st_89_71, st_89_72, st_89_75, st_89_78, ini_89, fs_cl, fs_len, fs_rf, fs_M, fs_put, fs_cpy, ↓reduceIte, rv_ref, true_or, or_true, true_and, and_true, nI_ltI, ix_nI, nI_clamp, ps_i, ps_n, Option.bind_some, sm_0, sm_1, sm_2, sm_3, sm_4, sto_0, sto_1, sto_2, sto_3, sto_4, sto_5, sto_6, sto_7, sto_8, sto_9, sto_10, sto_11, sto_12, sto_13, sto_14, nlo_n, nlo_i, nlo_r, nlo_0, nlo_l, and_self, or_self, Nat.reduceEqDiff, Nat.reduceLT, Nat.reduceLeDiff, Nat.one_ne_zero, Nat.zero_ne_one, w0, f1, nb.1, e1, nI_mul, eb, p1, nI_add]
    · rw [s3 j (by omega), p4 j (by omega)]
    · by_cases ej : j = i
      · rw [ej, s3 (base + i) (by omega), p3]
      · exact s4 j (by omega) h2
theorem r162l (hk : Md h o) (a : Int64) {n base : Nat} (hn : n ≤ 8) (hb : base + n ≤ 50) {e : Nat} : ∀ r i (M : Nat → Nat → Int32), r + i = n → M (o + 1) 6 = nI (base + i) → ∃ M', j_X e 162 41 [some (.ref o), some (.long a), none, some (.int (nI n)), some (.int (nI i))] [] (FS h M) = some (some (.int (nI (base + n))), FS h M') ∧ M' (o + 1) 6 = nI (base + n) ∧ (∀ j, i ≤ j → j < n → M' (o + 1) (200 + (base + j)) = nI (bw a j)) ∧ (∀ j, j ≠ 6 → j < 200 + (base + i) → M' (o + 1) j = M (o + 1) j) ∧ ∀ x, x ≠ o + 1 → M' x = M x := by
  have m0 := hk.1
  have q0 := hk.2.1.1
  have a1 := hk.2.1.2.1
  have a2 := hk.2.1.2.2.1
  have i6 : 6 < 250 := by omega
  intro r
  induction r with
  | zero =>
    intro i M hr hM
    have ei : i = n := by omega
    subst ei
    have e1 : ¬ i < i := by omega
    refine ⟨M, ?_, hM, fun j h1 h2 => by omega, fun _ _ _ => rfl, fun _ _ => rfl⟩
    rw [st_162_41]
    simp (disch := omega) only [st_162_0, st_162_1, st_162_2, st_162_3, st_162_6, st_162_9, st_162_12, st_162_13, st_162_14, st_162_17, st_162_18, st_162_19, st_162_22, st_162_24, st_162_25, st_162_26, st_162_27, st_162_29, st_162_32, st_162_33, st_162_34, st_162_37, st_162_38, st_162_39, st_162_43, st_162_44, st_162_47, st_162_48, st_162_51, st_162_54, st_162_55, st_162_58, st_162_60, st_162_61, st_162_62, st_162_63, st_162_65, st_162_67, st_162_68, st_162_69, st_162_72, st_162_73, st_162_74, st_162_75, st_162_76, st_162_79, st_162_81, st_162_82, st_162_83, st_162_84, st_162_85, st_162_86, st_162_89, st_162_92, st_162_93, st_162_96, st_162_98, st_162_99, ini_162, fs_cl, fs_len, fs_rf, fs_M, fs_put, fs_cpy, ↓reduceIte, rv_ref, true_or, or_true, true_and, and_true, nI_ltI, ix_nI, nI_clamp, ps_i, ps_n, Option.bind_some, sm_0, sm_1, sm_2, sm_3, sm_4, sto_0, sto_1, sto_2, sto_3, sto_4, sto_5, sto_6, sto_7, sto_8, sto_9, sto_10, sto_11, sto_12, sto_13, sto_14, nlo_n, nlo_i, nlo_r, nlo_0, nlo_l, and_self, or_self, Nat.reduceEqDiff, Nat.reduceLT, Nat.reduceLeDiff, Nat.one_ne_zero, Nat.zero_ne_one, m0, q0, a1, a2, e1, i6, hM]
  | succ r ih =>
    intro i M hr hM
    have e1 : i < n := by omega
    have eb := bw_eq2 a (by omega : i < 8)
    have ix : 200 + (base + i) < 250 := by omega
    have g6 : j_up M (o + 1) (200 + (base + i)) (nI (bw a i)) (o + 1) 6 = nI (base + i) := by rw [up_k _ _ _ _ (by omega)]; exact hM
    obtain ⟨M', s1, s2, s3, s4, s5⟩ := ih (i + 1) (j_up (j_up M (o + 1) (200 + (base + i)) (nI (bw a i))) (o + 1) 6 (nI (base + i + 1))) (by omega) (up_s _ _ _)
    refine ⟨M', ?_, s2, fun j h1 h2 => ?_, fun j h6 hj => ?_, fun x hx => by rw [s5 x hx, up_r _ _ _ _ hx, up_r _ _ _ _ hx]⟩
    · rw [← s1, st_162_41]
      simp (disch := omega) only [st_162_0, st_162_1, st_162_2, st_162_3, st_162_6, st_162_9, st_162_12, st_162_13, st_162_14, st_162_17, st_162_18, st_162_19, st_162_22, st_162_24, st_162_25, st_162_26, st_162_27, st_162_29, st_162_32, st_162_33, st_162_34, st_162_37, st_162_38, st_162_39, st_162_43, st_162_44, st_162_47, st_162_48, st_162_51, st_162_54, st_162_55, st_162_58, st_162_60, st_162_61, st_162_62, st_162_63, st_162_65, st_162_67, st_162_68, st_162_69, st_162_72, st_162_73, st_162_74, st_162_75, st_162_76, st_162_79, st_162_81, st_162_82, st_162_83, st_162_84, st_162_85, st_162_86, st_162_89, st_162_92, st_162_93, st_162_96, st_162_98, st_162_99, ini_162, fs_cl, fs_len, fs_rf, fs_M, fs_put, fs_cpy, ↓reduceIte, rv_ref, true_or, or_true, true_and, and_true, nI_ltI, ix_nI, nI_clamp, ps_i, ps_n, Option.bind_some, sm_0, sm_1, sm_2, sm_3, sm_4, sto_0, sto_1, sto_2, sto_3, sto_4, sto_5, sto_6, sto_7, sto_8, sto_9, sto_10, sto_11, sto_12, sto_13, sto_14, nlo_n, nlo_i, nlo_r, nlo_0, nlo_l, and_self, or_self, Nat.reduceEqDiff, Nat.reduceLT, Nat.reduceLeDiff, Nat.one_ne_zero, Nat.zero_ne_one, m0, q0, a1, a2, e1, i6, hM, nI_mul, eb, nI_add, ix, g6]
    · by_cases ej : j = i
      · rw [ej, s4 _ (by omega) (by omega), up_k _ _ _ _ (by omega), up_s]
      · exact s3 j (by omega) h2
    · rw [s4 j h6 (by omega), up_k _ _ _ _ (by omega), up_k _ _ _ _ (by omega)]
theorem g_feed (hh : Hd h) (hi : IE M E z K0 K1 T W) (a : Int64) (x : Int32) : Go h M 89 162 [.long a, .int x] := by
  have w0 := hh.1.1
  have f0 := hh.1.2.1
  have r7 := hh.1.2.2.2.2.2.2.2.1
  have mk := hh.2.1.1
  have th := hh.2.2.2.1.1
  have md : Md h 115 := hh.2.2.2.2.2.2.2.1
  have m0 := md.1
  have q0 := md.2.1.1
  have a1 := md.2.1.2.1
  have a2 := md.2.1.2.2.1
  have hw := hi.1.1
  have h6 := hw.1
  have h8 := hw.2.1
  have hm := hi.2.1.1
  have hs := hm.1
  have hR : RC M 115 E z K0 K1 := hi.2.2.1.1
  have sd := hi.2.2.2.1
  have e10 : ¬ nI 1 = nI 0 := by decide +kernel
  have f1 := hh.1.2.2.1
  have nb := hh.2.2.1.1
  have tM := hi.2.1.2.1
  have E6 := hi.1.2.2.1
  by_cases hx : ∃ j, 1 ≤ j ∧ j ≤ 8 ∧ x = nI j
  · obtain ⟨n, hn1, hn, rfl⟩ := hx
    have wi1 := wi_in hn1 hn (by omega : 8 < 2147483648)
    have li1 := lin_in hn1 hn (by omega : 8 < 2147483648)
    by_cases c1 : E 6 + n ≤ 50
    · intro e he
      obtain ⟨e, rfl⟩ : ∃ d, e = d + 1 := ⟨e - 1, by omega⟩
      obtain ⟨M1, p1, p2, p3, p4, p5⟩ := c89l hh a hn c1 (e := e) (by omega) n 0 M (by omega) tM.1
      have hR1 : RC M1 115 E z K0 K1 := by
        unfold RC RLd Tx at hR ⊢
        rw [p5 (115 + 1) (by omega) (by omega)]; exact hR
      obtain ⟨M2, s1, s2, s3, s4, s5⟩ := r162l md a hn c1 (e := e) n 0 M1 (by omega) (hR1.1.1 6 (by omega) (by omega))
      have heE : ∀ j, j ≠ 6 → j ≠ 7 → upE E 6 (E 6 + n) j = E j := fun j h1 _ => upE_o _ h1
      refine ⟨nI (E 6 + n), M1, M2, ?_, ?_, p5 1003 (by omega) (by omega), upE E 6 (E 6 + n), z, K0, K1, (fun j => if E 6 ≤ j then bw a (j - E 6) else T j), W, ?_⟩
      · have kw := c122e (σ := FS h M) (nI n) (nI 1) (nI 8) (e := e) (by omega)
        rw [wi1] at kw
        have g := n32e (M := M) nb.1 (e := e) (by omega)
        rw [tM.1] at g
        have cl : ¬ 50 - n < E 6 := by omega
        (rw [j_C_eq]; simp (disch := omega) only [st_89_0, st_89_1, st_89_2, st_89_4, st_89_7, st_89_10, st_89_11, st_89_12, st_89_15, st_89_16, st_89_17, st_89_20, st_89_23, st_89_25, st_89_26, st_89_27, st_89_30, st_89_31, st_89_32, st_89_35, st_89_36, st_89_37, st_89_41, st_89_42, st_89_45, st_89_46, st_89_49, st_89_50, st_89_52, st_89_54, st_89_55, st_89_56, st_89_57, st_89_60, st_89_61, st_89_64, st_89_64r, st_89_65, st_89_68, st_89_71, st_89_72, st_89_75, st_89_78, ini_89, fs_cl, fs_len, fs_rf, fs_M, fs_put, fs_cpy, ↓reduceIte, rv_ref, true_or, or_true, true_and, and_true, nI_ltI, ix_nI, nI_clamp, ps_i, ps_n, Option.bind_some, sm_0, sm_1, sm_2, sm_3, sm_4, sto_0, sto_1, sto_2, sto_3, sto_4, sto_5, sto_6, sto_7, sto_8, sto_9, sto_10, sto_11, sto_12, sto_13, sto_14, nlo_n, nlo_i, nlo_r, nlo_0, nlo_l, and_self, or_self, Nat.reduceEqDiff, Nat.reduceLT, Nat.reduceLeDiff, Nat.one_ne_zero, Nat.zero_ne_one, w0, f0, r7, m0, q0, a1, a2, e10, f1, nb.1, kw, g, nI_sub, cl])
        exact p1
      · have kl := r143e (σ := FS h M1) (nI n).toInt64 (lN 1) (lN 8) (e := e) (by omega)
        rw [li1] at kl
        have g6 := hR1.1.1 6 (by omega) (by omega)
        have i6 : 6 < 250 := by omega
        have cl : ¬ 50 < E 6 + n := by omega
        (rw [j_C_eq]; simp (disch := omega) only [st_162_0, st_162_1, st_162_2, st_162_3, st_162_6, st_162_9, st_162_12, st_162_13, st_162_14, st_162_17, st_162_18, st_162_19, st_162_22, st_162_24, st_162_25, st_162_26, st_162_27, st_162_29, st_162_32, st_162_33, st_162_34, st_162_37, st_162_38, st_162_39, st_162_43, st_162_44, st_162_47, st_162_48, st_162_51, st_162_54, st_162_55, st_162_58, st_162_60, st_162_61, st_162_62, st_162_63, st_162_65, st_162_67, st_162_68, st_162_69, st_162_72, st_162_73, st_162_74, st_162_75, st_162_76, st_162_79, st_162_81, st_162_82, st_162_83, st_162_84, st_162_85, st_162_86, st_162_89, st_162_92, st_162_93, st_162_96, st_162_98, st_162_99, ini_162, fs_cl, fs_len, fs_rf, fs_M, fs_put, fs_cpy, ↓reduceIte, rv_ref, true_or, or_true, true_and, and_true, nI_ltI, ix_nI, nI_clamp, ps_i, ps_n, Option.bind_some, sm_0, sm_1, sm_2, sm_3, sm_4, sto_0, sto_1, sto_2, sto_3, sto_4, sto_5, sto_6, sto_7, sto_8, sto_9, sto_10, sto_11, sto_12, sto_13, sto_14, nlo_n, nlo_i, nlo_r, nlo_0, nlo_l, and_self, or_self, Nat.reduceEqDiff, Nat.reduceLT, Nat.reduceLeDiff, Nat.one_ne_zero, Nat.zero_ne_one, w0, f0, r7, m0, q0, a1, a2, e10, kl, g6, i6, nI_add, cl])
        exact s1
      · have s4' : ∀ j, j ≠ 6 → j < 200 + E 6 → M2 116 j = M1 116 j := fun j h1 h2 => s4 j h1 (by omega)
        refine ie_g hi (fun y hy => p5 y (by omega) (by omega)) (Sd_cg (p5 81 (by omega) (by omega)) sd) (fun y hy => s5 y (by omega)) (by rw [s5 115 (by omega)]) (by rw [s5 115 (by omega)]) ?_ ?_ ?_ ?_
        · intro k h1 h2
          rw [s5 114 (by omega), s5 118 (by omega), p5 114 (by omega) (by omega), p5 118 (by omega) (by omega)]
          exact hi.2.2.2.2.1 k h1 h2
        · exact ⟨WE_E heE hw, by rw [upE_o _ (by omega)]; exact hi.1.2.1, by rw [upE_s]; exact c1, by rw [upE_o _ (by omega)]; exact hi.1.2.2.2⟩
        · refine ⟨CM_E heE (CM_cg (fun y h1 h2 _ _ => p5 y (by omega) (by omega)) hm), ⟨?_, fun i hi' => ?_⟩, ?_⟩
          · rw [upE_s]; exact p2
          · rw [upE_s] at hi'
            by_cases ci : E 6 ≤ i
            · simp only [if_pos ci]
              have := p4 (i - E 6) (by omega) (by omega)
              rw [show E 6 + (i - E 6) = i by omega] at this
              exact ⟨this, bw_lt _ _⟩
            · simp only [if_neg ci]
              have := p3 i (by omega)
              exact ⟨this.trans (tM.2 i (by omega)).1, (tM.2 i (by omega)).2⟩
          · rw [upE_o _ (by omega), p5 31 (by omega) (by omega), p5 32 (by omega) (by omega)]; exact hi.2.1.2.2
        · have hL : ∀ k, k < 78 → k ≠ 5 → M2 116 k = nI (upE E 6 (E 6 + n) k) := by
            intro k h1 h5
            by_cases e6 : k = 6
            · subst e6; rw [upE_s]; exact s2
            · rw [upE_o _ e6, s4' k e6 (by omega)]; exact hR1.1.1 k h1 h5
          have hT : ∀ u K, u < 2 → Tx M1 115 u K → Tx (fun _ => M2 116) 0 u K := by
            intro u K hu hT
            unfold Tx at hT ⊢
            show (K = [] ∧ M2 116 (78 + u) = nI 0) ∨ ∃ B n, 1 ≤ n ∧ n ≤ 50 ∧ M2 116 (78 + u) = nI n ∧ (∀ i, i < n → M2 116 (100 + 50 * u + i) = nI (B i) ∧ B i < 256) ∧ txR B n u = (true, n, K)
            rw [s4' (78 + u) (by omega) (by omega)]
            rcases hT with q | ⟨B, m, q1, q2, q3, q4, q5⟩
            · exact .inl q
            · exact .inr ⟨B, m, q1, q2, q3, fun i hi' => by rw [s4' (100 + 50 * u + i) (by omega) (by omega)]; exact q4 i hi', q5⟩
          refine ⟨⟨⟨hL, ?_⟩, hT 0 K0 (by omega) hR1.2.1, hT 1 K1 (by omega) hR1.2.2⟩, fun i hi' => ?_, fun i hi' => ?_⟩
          · show M2 116 5 = z
            rw [s4' 5 (by omega) (by omega)]; exact hR1.1.2
          · rw [upE_s] at hi'
            by_cases ci : E 6 ≤ i
            · simp only [if_pos ci]
              have := s3 (i - E 6) (by omega) (by omega)
              rw [show E 6 + (i - E 6) = i by omega] at this
              exact this
            · simp only [if_neg ci]
              rw [s4' (200 + i) (by omega) (by omega), p5 116 (by omega) (by omega)]
              exact hi.2.2.1.2.1 i (by omega)
          · rw [upE_o _ (by omega)] at hi'
            have := hi.1.2.2.2
            rw [s4' (80 + i) (by omega) (by omega), p5 116 (by omega) (by omega)]
            exact hi.2.2.1.2.2 i hi'
    · refine go_f0 hi (k := 4) ?_
      intro e he
      obtain ⟨e, rfl⟩ : ∃ d, e = d + 1 := ⟨e - 1, by omega⟩
      have kw := c122e (σ := FS h M) (nI n) (nI 1) (nI 8) (e := e) (by omega)
      rw [wi1] at kw
      have g := n32e (M := M) nb.1 (e := e) (by omega)
      rw [tM.1] at g
      have cl : 50 - n < E 6 := by omega
      have kf := c119 (M := M) hh (k := 4) (by omega) (e := e) (by omega)
      refine ⟨by (rw [j_C_eq]; simp (disch := omega) only [st_89_0, st_89_1, st_89_2, st_89_4, st_89_7, st_89_10, st_89_11, st_89_12, st_89_15, st_89_16, st_89_17, st_89_20, st_89_23, st_89_25, st_89_26, st_89_27, st_89_30, st_89_31, st_89_32, st_89_35, st_89_36, st_89_37, st_89_41, st_89_42, st_89_45, st_89_46, st_89_49, st_89_50, st_89_52, st_89_54, st_89_55, st_89_56, st_89_57, st_89_60, st_89_61, st_89_64, st_89_64r, st_89_65, st_89_68, st_89_71, st_89_72, st_89_75, st_89_78, ini_89, fs_cl, fs_len, fs_rf, fs_M, fs_put, fs_cpy, ↓reduceIte, rv_ref, true_or, or_true, true_and, and_true, nI_ltI, ix_nI, nI_clamp, ps_i, ps_n, Option.bind_some, sm_0, sm_1, sm_2, sm_3, sm_4, sto_0, sto_1, sto_2, sto_3, sto_4, sto_5, sto_6, sto_7, sto_8, sto_9, sto_10, sto_11, sto_12, sto_13, sto_14, nlo_n, nlo_i, nlo_r, nlo_0, nlo_l, and_self, or_self, Nat.reduceEqDiff, Nat.reduceLT, Nat.reduceLeDiff, Nat.one_ne_zero, Nat.zero_ne_one, w0, f0, r7, m0, q0, a1, a2, e10, f1, nb.1, kw, g, nI_sub, cl, kf]), fun M' hR' => ?_⟩
      have kl := r143e (σ := FS h M') (nI n).toInt64 (lN 1) (lN 8) (e := e) (by omega)
      rw [li1] at kl
      have g6 := hR'.1.1 6 (by omega) (by omega)
      have i6 : 6 < 250 := by omega
      have cl : 50 < E 6 + n := by omega
      have kf := r142 (M := M') md (k := 4) (by omega) (e := e) (by omega)
      (rw [j_C_eq]; simp (disch := omega) only [st_162_0, st_162_1, st_162_2, st_162_3, st_162_6, st_162_9, st_162_12, st_162_13, st_162_14, st_162_17, st_162_18, st_162_19, st_162_22, st_162_24, st_162_25, st_162_26, st_162_27, st_162_29, st_162_32, st_162_33, st_162_34, st_162_37, st_162_38, st_162_39, st_162_43, st_162_44, st_162_47, st_162_48, st_162_51, st_162_54, st_162_55, st_162_58, st_162_60, st_162_61, st_162_62, st_162_63, st_162_65, st_162_67, st_162_68, st_162_69, st_162_72, st_162_73, st_162_74, st_162_75, st_162_76, st_162_79, st_162_81, st_162_82, st_162_83, st_162_84, st_162_85, st_162_86, st_162_89, st_162_92, st_162_93, st_162_96, st_162_98, st_162_99, ini_162, fs_cl, fs_len, fs_rf, fs_M, fs_put, fs_cpy, ↓reduceIte, rv_ref, true_or, or_true, true_and, and_true, nI_ltI, ix_nI, nI_clamp, ps_i, ps_n, Option.bind_some, sm_0, sm_1, sm_2, sm_3, sm_4, sto_0, sto_1, sto_2, sto_3, sto_4, sto_5, sto_6, sto_7, sto_8, sto_9, sto_10, sto_11, sto_12, sto_13, sto_14, nlo_n, nlo_i, nlo_r, nlo_0, nlo_l, and_self, or_self, Nat.reduceEqDiff, Nat.reduceLT, Nat.reduceLeDiff, Nat.one_ne_zero, Nat.zero_ne_one, w0, f0, r7, m0, q0, a1, a2, e10, kl, g6, i6, nI_add, cl, kf])
  · refine go_f0 hi (k := 1) ?_
    intro e he
    obtain ⟨e, rfl⟩ : ∃ d, e = d + 1 := ⟨e - 1, by omega⟩
    have kw := c122e (σ := FS h M) x (nI 1) (nI 8) (e := e) (by omega)
    rw [wi_out hx (by omega) (by omega)] at kw
    have kf := c119 (M := M) hh (k := 1) (by omega) (e := e) (by omega)
    refine ⟨by (rw [j_C_eq]; simp (disch := omega) only [st_89_0, st_89_1, st_89_2, st_89_4, st_89_7, st_89_10, st_89_11, st_89_12, st_89_15, st_89_16, st_89_17, st_89_20, st_89_23, st_89_25, st_89_26, st_89_27, st_89_30, st_89_31, st_89_32, st_89_35, st_89_36, st_89_37, st_89_41, st_89_42, st_89_45, st_89_46, st_89_49, st_89_50, st_89_52, st_89_54, st_89_55, st_89_56, st_89_57, st_89_60, st_89_61, st_89_64, st_89_64r, st_89_65, st_89_68, st_89_71, st_89_72, st_89_75, st_89_78, ini_89, fs_cl, fs_len, fs_rf, fs_M, fs_put, fs_cpy, ↓reduceIte, rv_ref, true_or, or_true, true_and, and_true, nI_ltI, ix_nI, nI_clamp, ps_i, ps_n, Option.bind_some, sm_0, sm_1, sm_2, sm_3, sm_4, sto_0, sto_1, sto_2, sto_3, sto_4, sto_5, sto_6, sto_7, sto_8, sto_9, sto_10, sto_11, sto_12, sto_13, sto_14, nlo_n, nlo_i, nlo_r, nlo_0, nlo_l, and_self, or_self, Nat.reduceEqDiff, Nat.reduceLT, Nat.reduceLeDiff, Nat.one_ne_zero, Nat.zero_ne_one, w0, f0, r7, m0, q0, a1, a2, e10, kw, kf]), fun M' hR' => ?_⟩
    have kl := r143e (σ := FS h M') x.toInt64 (lN 1) (lN 8) (e := e) (by omega)
    rw [lin_out hx (by omega) (by omega)] at kl
    have kf := r142 (M := M') md (k := 1) (by omega) (e := e) (by omega)
    (rw [j_C_eq]; simp (disch := omega) only [st_162_0, st_162_1, st_162_2, st_162_3, st_162_6, st_162_9, st_162_12, st_162_13, st_162_14, st_162_17, st_162_18, st_162_19, st_162_22, st_162_24, st_162_25, st_162_26, st_162_27, st_162_29, st_162_32, st_162_33, st_162_34, st_162_37, st_162_38, st_162_39, st_162_43, st_162_44, st_162_47, st_162_48, st_162_51, st_162_54, st_162_55, st_162_58, st_162_60, st_162_61, st_162_62, st_162_63, st_162_65, st_162_67, st_162_68, st_162_69, st_162_72, st_162_73, st_162_74, st_162_75, st_162_76, st_162_79, st_162_81, st_162_82, st_162_83, st_162_84, st_162_85, st_162_86, st_162_89, st_162_92, st_162_93, st_162_96, st_162_98, st_162_99, ini_162, fs_cl, fs_len, fs_rf, fs_M, fs_put, fs_cpy, ↓reduceIte, rv_ref, true_or, or_true, true_and, and_true, nI_ltI, ix_nI, nI_clamp, ps_i, ps_n, Option.bind_some, sm_0, sm_1, sm_2, sm_3, sm_4, sto_0, sto_1, sto_2, sto_3, sto_4, sto_5, sto_6, sto_7, sto_8, sto_9, sto_10, sto_11, sto_12, sto_13, sto_14, nlo_n, nlo_i, nlo_r, nlo_0, nlo_l, and_self, or_self, Nat.reduceEqDiff, Nat.reduceLT, Nat.reduceLeDiff, Nat.one_ne_zero, Nat.zero_ne_one, w0, f0, r7, m0, q0, a1, a2, e10, kl, kf])
