/-! The shape of a state; the class's Numbers. -/
abbrev j_Hd : Type := Nat × Nat × (Nat → Nat) × (Nat → Nat) × (Nat → Nat → Nat)
def FS (h : j_Hd) (M : Nat → Nat → Int32) : j_St := (h.1, h.2.1, h.2.2.1, h.2.2.2.1, h.2.2.2.2, M)
def hC (h : j_Hd) : Nat → Nat := h.2.2.1
def hN (h : j_Hd) : Nat → Nat := h.2.2.2.1
def hR (h : j_Hd) : Nat → Nat → Nat := h.2.2.2.2
variable {h : j_Hd} {M : Nat → Nat → Int32} {d : Nat}
theorem fs_cl (o : Nat) : j_cl (FS h M) o = hC h o := rfl
theorem fs_len (o : Nat) : j_len (FS h M) o = hN h o := rfl
theorem fs_rf (o k : Nat) : j_rf (FS h M) o k = hR h o k := rfl
theorem fs_M (o k : Nat) : j_M (FS h M) o k = M o k := rfl
theorem fs_put (o k : Nat) (v : Int32) : j_put (FS h M) o k v = FS h (j_up M o k v) := rfl
theorem fs_cpy (a0 sp a1 dp n : Nat) : j_cpy (FS h M) a0 sp a1 dp n = FS h (j_up1 M a1 (va_cpy (M a0) (M a1) sp dp n)) := rfl
theorem up_s (o k : Nat) (v : Int32) : j_up M o k v o k = v := by simp [j_up]
theorem up_k (o k k' : Nat) (v : Int32) (hk : k' ≠ k) : j_up M o k v o k' = M o k' := by simp [j_up, hk]
theorem up_o (o k o' k' : Nat) (v : Int32) (ho : o' ≠ o) : j_up M o k v o' k' = M o' k' := by simp [j_up, ho]
theorem up_r (o k o' : Nat) (v : Int32) (ho : o' ≠ o) : j_up M o k v o' = M o' := by funext k'; simp [j_up, ho]
theorem ix_nI {i n : Nat} (hi : i < 2 ^ 31) : j_ix (nI i) n ↔ i < n := by
  unfold j_ix; rw [nI_toInt hi]; omega
theorem rv_ref {a : Nat} (ha : 1 ≤ a) : j_rv a = .ref a := by unfold j_rv; rw [if_neg (by omega)]
theorem sm_0 : j_sm [] = true := rfl
theorem sm_1 (a : Value) : j_sm [a] = true := rfl
theorem sm_2 (a b : Value) : j_sm [a, b] = true := rfl
theorem sm_3 (a b c : Value) : j_sm [a, b, c] = true := rfl
theorem sm_4 (a b c e : Value) : j_sm [a, b, c, e] = true := rfl
theorem sto_0 (o0 : Option Value) (L : j_L) (v : Value) : j_sto (o0 :: L) 0 v = some v :: L := rfl
theorem sto_1 (o0 o1 : Option Value) (L : j_L) (v : Value) : j_sto (o0 :: o1 :: L) 1 v = j_nlo o0 :: some v :: L := rfl
theorem sto_2 (o0 o1 o2 : Option Value) (L : j_L) (v : Value) : j_sto (o0 :: o1 :: o2 :: L) 2 v = o0 :: j_nlo o1 :: some v :: L := rfl
theorem sto_3 (o0 o1 o2 o3 : Option Value) (L : j_L) (v : Value) : j_sto (o0 :: o1 :: o2 :: o3 :: L) 3 v = o0 :: o1 :: j_nlo o2 :: some v :: L := rfl
theorem sto_4 (o0 o1 o2 o3 o4 : Option Value) (L : j_L) (v : Value) : j_sto (o0 :: o1 :: o2 :: o3 :: o4 :: L) 4 v = o0 :: o1 :: o2 :: j_nlo o3 :: some v :: L := rfl
theorem sto_5 (o0 o1 o2 o3 o4 o5 : Option Value) (L : j_L) (v : Value) : j_sto (o0 :: o1 :: o2 :: o3 :: o4 :: o5 :: L) 5 v = o0 :: o1 :: o2 :: o3 :: j_nlo o4 :: some v :: L := rfl
theorem sto_6 (o0 o1 o2 o3 o4 o5 o6 : Option Value) (L : j_L) (v : Value) : j_sto (o0 :: o1 :: o2 :: o3 :: o4 :: o5 :: o6 :: L) 6 v = o0 :: o1 :: o2 :: o3 :: o4 :: j_nlo o5 :: some v :: L := rfl
theorem sto_7 (o0 o1 o2 o3 o4 o5 o6 o7 : Option Value) (L : j_L) (v : Value) : j_sto (o0 :: o1 :: o2 :: o3 :: o4 :: o5 :: o6 :: o7 :: L) 7 v = o0 :: o1 :: o2 :: o3 :: o4 :: o5 :: j_nlo o6 :: some v :: L := rfl
theorem sto_8 (o0 o1 o2 o3 o4 o5 o6 o7 o8 : Option Value) (L : j_L) (v : Value) : j_sto (o0 :: o1 :: o2 :: o3 :: o4 :: o5 :: o6 :: o7 :: o8 :: L) 8 v = o0 :: o1 :: o2 :: o3 :: o4 :: o5 :: o6 :: j_nlo o7 :: some v :: L := rfl
theorem sto_9 (o0 o1 o2 o3 o4 o5 o6 o7 o8 o9 : Option Value) (L : j_L) (v : Value) : j_sto (o0 :: o1 :: o2 :: o3 :: o4 :: o5 :: o6 :: o7 :: o8 :: o9 :: L) 9 v = o0 :: o1 :: o2 :: o3 :: o4 :: o5 :: o6 :: o7 :: j_nlo o8 :: some v :: L := rfl
theorem sto_10 (o0 o1 o2 o3 o4 o5 o6 o7 o8 o9 o10 : Option Value) (L : j_L) (v : Value) : j_sto (o0 :: o1 :: o2 :: o3 :: o4 :: o5 :: o6 :: o7 :: o8 :: o9 :: o10 :: L) 10 v = o0 :: o1 :: o2 :: o3 :: o4 :: o5 :: o6 :: o7 :: o8 :: j_nlo o9 :: some v :: L := rfl
theorem sto_11 (o0 o1 o2 o3 o4 o5 o6 o7 o8 o9 o10 o11 : Option Value) (L : j_L) (v : Value) : j_sto (o0 :: o1 :: o2 :: o3 :: o4 :: o5 :: o6 :: o7 :: o8 :: o9 :: o10 :: o11 :: L) 11 v = o0 :: o1 :: o2 :: o3 :: o4 :: o5 :: o6 :: o7 :: o8 :: o9 :: j_nlo o10 :: some v :: L := rfl
theorem sto_12 (o0 o1 o2 o3 o4 o5 o6 o7 o8 o9 o10 o11 o12 : Option Value) (L : j_L) (v : Value) : j_sto (o0 :: o1 :: o2 :: o3 :: o4 :: o5 :: o6 :: o7 :: o8 :: o9 :: o10 :: o11 :: o12 :: L) 12 v = o0 :: o1 :: o2 :: o3 :: o4 :: o5 :: o6 :: o7 :: o8 :: o9 :: o10 :: j_nlo o11 :: some v :: L := rfl
theorem sto_13 (o0 o1 o2 o3 o4 o5 o6 o7 o8 o9 o10 o11 o12 o13 : Option Value) (L : j_L) (v : Value) : j_sto (o0 :: o1 :: o2 :: o3 :: o4 :: o5 :: o6 :: o7 :: o8 :: o9 :: o10 :: o11 :: o12 :: o13 :: L) 13 v = o0 :: o1 :: o2 :: o3 :: o4 :: o5 :: o6 :: o7 :: o8 :: o9 :: o10 :: o11 :: j_nlo o12 :: some v :: L := rfl
theorem sto_14 (o0 o1 o2 o3 o4 o5 o6 o7 o8 o9 o10 o11 o12 o13 o14 : Option Value) (L : j_L) (v : Value) : j_sto (o0 :: o1 :: o2 :: o3 :: o4 :: o5 :: o6 :: o7 :: o8 :: o9 :: o10 :: o11 :: o12 :: o13 :: o14 :: L) 14 v = o0 :: o1 :: o2 :: o3 :: o4 :: o5 :: o6 :: o7 :: o8 :: o9 :: o10 :: o11 :: o12 :: j_nlo o13 :: some v :: L := rfl
theorem nlo_n : j_nlo none = none := rfl
theorem nlo_i (x : Int32) : j_nlo (some (.int x)) = some (.int x) := rfl
theorem nlo_r (x : Nat) : j_nlo (some (.ref x)) = some (.ref x) := rfl
theorem nlo_0 : j_nlo (some .null) = some .null := rfl
theorem nlo_l (x : Int64) : j_nlo (some (.long x)) = none := rfl
theorem ps_i (x : Value) (S : List Value) : j_ps (some x) S = x :: S := rfl
theorem ps_n (S : List Value) : j_ps none S = S := rfl
def Nb (h : j_Hd) (o a c : Nat) : Prop := hC h o = 2 ∧ hR h o 0 = a ∧ hC h a = 20 ∧ hN h a = c ∧ 1 ≤ a ∧ c < 1000 ∧ o ≠ a
variable {o a c : Nat}
theorem Nb_lt (hb : Nb h o a c) : c < 1000 := hb.2.2.2.2.2.1
theorem n32 (h1 : hC h o = 2) : j_C (d + 1) 32 [.ref o] (FS h M) = some (some (.int (M o 1)), FS h M) := by
  rw [j_C_eq]
  simp only [st_32_0, st_32_1, st_32_4, ini_32, fs_cl, fs_len, fs_rf, fs_M, fs_put, fs_cpy, if_true, if_false, rv_ref, true_or, or_true, true_and, and_true, nI_ltI, ix_nI, nI_clamp, ps_i, ps_n, Option.bind_some, sm_0, sm_1, sm_2, sm_3, sm_4, sto_0, sto_1, sto_2, sto_3, sto_4, sto_5, sto_6, sto_7, sto_8, sto_9, sto_10, sto_11, sto_12, sto_13, sto_14, nlo_n, nlo_i, nlo_r, nlo_0, nlo_l, and_self, or_self, h1]
theorem n33 (hb : Nb h o a c) {i : Nat} (hi : i < 2147483648) : j_C (d + 1) 33 [.ref o, .int (nI i)] (FS h M) = some (some (.int (if i < c then M a i else nI 0)), FS h M) := by
  obtain ⟨h1, h2, h3, h4, h5, h6, h7⟩ := hb
  rw [j_C_eq]
  have e1 : ¬ nI i < nI 0 := nI_nlt (Nat.zero_le _) (by omega)
  by_cases hc : i < c
  · simp (disch := omega) only [st_33_0, st_33_1, st_33_4, st_33_5, st_33_6, st_33_9, st_33_10, st_33_13, st_33_14, st_33_17, st_33_18, st_33_19, st_33_22, st_33_23, ini_33, fs_cl, fs_len, fs_rf, fs_M, fs_put, fs_cpy, if_true, if_false, rv_ref, true_or, or_true, true_and, and_true, nI_ltI, ix_nI, nI_clamp, ps_i, ps_n, Option.bind_some, sm_0, sm_1, sm_2, sm_3, sm_4, sto_0, sto_1, sto_2, sto_3, sto_4, sto_5, sto_6, sto_7, sto_8, sto_9, sto_10, sto_11, sto_12, sto_13, sto_14, nlo_n, nlo_i, nlo_r, nlo_0, nlo_l, and_self, or_self, h1, h2, h3, h4, e1, hc]
  · simp (disch := omega) only [st_33_0, st_33_1, st_33_4, st_33_5, st_33_6, st_33_9, st_33_10, st_33_13, st_33_14, st_33_17, st_33_18, st_33_19, st_33_22, st_33_23, ini_33, fs_cl, fs_len, fs_rf, fs_M, fs_put, fs_cpy, if_true, if_false, rv_ref, true_or, or_true, true_and, and_true, nI_ltI, ix_nI, nI_clamp, ps_i, ps_n, Option.bind_some, sm_0, sm_1, sm_2, sm_3, sm_4, sto_0, sto_1, sto_2, sto_3, sto_4, sto_5, sto_6, sto_7, sto_8, sto_9, sto_10, sto_11, sto_12, sto_13, sto_14, nlo_n, nlo_i, nlo_r, nlo_0, nlo_l, and_self, or_self, h1, h2, h3, h4, e1, hc]
theorem n33i (hb : Nb h o a c) {i : Nat} (hi : i < c) : j_C (d + 1) 33 [.ref o, .int (nI i)] (FS h M) = some (some (.int (M a i)), FS h M) := by
  have := Nb_lt hb
  rw [n33 hb (by omega), if_pos hi]
theorem n34 (hb : Nb h o a c) {i : Nat} (hi : i < c) (v : Int32) : j_C (d + 1) 34 [.ref o, .int (nI i), .int v] (FS h M) = some (none, FS h (j_up M a i v)) := by
  obtain ⟨h1, h2, h3, h4, h5, h6, h7⟩ := hb
  rw [j_C_eq]
  have e1 : ¬ nI i < nI 0 := nI_nlt (Nat.zero_le _) (by omega)
  simp (disch := omega) only [st_34_0, st_34_1, st_34_4, st_34_5, st_34_6, st_34_9, st_34_10, st_34_13, st_34_14, st_34_17, st_34_18, st_34_19, st_34_20, ini_34, fs_cl, fs_len, fs_rf, fs_M, fs_put, fs_cpy, if_true, if_false, rv_ref, true_or, or_true, true_and, and_true, nI_ltI, ix_nI, nI_clamp, ps_i, ps_n, Option.bind_some, sm_0, sm_1, sm_2, sm_3, sm_4, sto_0, sto_1, sto_2, sto_3, sto_4, sto_5, sto_6, sto_7, sto_8, sto_9, sto_10, sto_11, sto_12, sto_13, sto_14, nlo_n, nlo_i, nlo_r, nlo_0, nlo_l, and_self, or_self, h1, h2, h3, h4, e1, hi]
theorem n35 (hb : Nb h o a c) {i : Nat} (hi : i < c) (v : Int32) : j_C (d + 2) 35 [.ref o, .int (nI i), .int v] (FS h M) = some (some (.int (M a i)), FS h (j_up M a i v)) := by
  rw [j_C_eq]
  simp (disch := omega) only [st_35_0, st_35_1, st_35_2, st_35_5, st_35_6, st_35_7, st_35_8, st_35_9, st_35_12, st_35_13, ini_35, fs_cl, fs_len, fs_rf, fs_M, fs_put, fs_cpy, if_true, if_false, rv_ref, true_or, or_true, true_and, and_true, nI_ltI, ix_nI, nI_clamp, ps_i, ps_n, Option.bind_some, sm_0, sm_1, sm_2, sm_3, sm_4, sto_0, sto_1, sto_2, sto_3, sto_4, sto_5, sto_6, sto_7, sto_8, sto_9, sto_10, sto_11, sto_12, sto_13, sto_14, nlo_n, nlo_i, nlo_r, nlo_0, nlo_l, and_self, or_self, hb.1, n33i hb hi, n34 hb hi]
theorem n36 (hb : Nb h o a c) {k : Nat} (hk : M o 1 = nI k) (hc : k < c) (v : Int32) : j_C (d + 1) 36 [.ref o, .int v] (FS h M) = some (some (.int (nI 1)), FS h (j_up (j_up M a k v) o 1 (nI (k + 1)))) := by
  obtain ⟨h1, h2, h3, h4, h5, h6, h7⟩ := hb
  rw [j_C_eq]
  have e1 : ¬ nI k < nI 0 := nI_nlt (Nat.zero_le _) (by omega)
  have e2 : j_up M a k v o 1 = nI k := by rw [up_o _ _ _ _ _ h7]; exact hk
  simp (disch := omega) only [st_36_0, st_36_1, st_36_4, st_36_7, st_36_8, st_36_11, st_36_12, st_36_15, st_36_16, st_36_19, st_36_20, st_36_21, st_36_22, st_36_25, st_36_26, st_36_29, st_36_30, st_36_31, st_36_32, st_36_32r, st_36_33, st_36_36, st_36_37, st_36_38, st_36_41, st_36_42, ini_36, fs_cl, fs_len, fs_rf, fs_M, fs_put, fs_cpy, if_true, if_false, rv_ref, true_or, or_true, true_and, and_true, nI_ltI, ix_nI, nI_clamp, ps_i, ps_n, Option.bind_some, sm_0, sm_1, sm_2, sm_3, sm_4, sto_0, sto_1, sto_2, sto_3, sto_4, sto_5, sto_6, sto_7, sto_8, sto_9, sto_10, sto_11, sto_12, sto_13, sto_14, nlo_n, nlo_i, nlo_r, nlo_0, nlo_l, and_self, or_self, h1, h2, h3, h4, e1, e2, hk, hc, nI_add]
theorem n36f (hb : Nb h o a c) {k : Nat} (hk : M o 1 = nI k) (hc : c ≤ k) (hk2 : k < 2147483648) (v : Int32) : j_C (d + 1) 36 [.ref o, .int v] (FS h M) = some (some (.int (nI 0)), FS h M) := by
  obtain ⟨h1, h2, h3, h4, h5, h6, h7⟩ := hb
  rw [j_C_eq]
  have e1 : ¬ nI k < nI 0 := nI_nlt (Nat.zero_le _) (by omega)
  have e2 : ¬ k < c := by omega
  simp (disch := omega) only [st_36_0, st_36_1, st_36_4, st_36_7, st_36_8, st_36_11, st_36_12, st_36_15, st_36_16, st_36_19, st_36_20, st_36_21, st_36_22, st_36_25, st_36_26, st_36_29, st_36_30, st_36_31, st_36_32, st_36_32r, st_36_33, st_36_36, st_36_37, st_36_38, st_36_41, st_36_42, ini_36, fs_cl, fs_len, fs_rf, fs_M, fs_put, fs_cpy, if_true, if_false, rv_ref, true_or, or_true, true_and, and_true, nI_ltI, ix_nI, nI_clamp, ps_i, ps_n, Option.bind_some, sm_0, sm_1, sm_2, sm_3, sm_4, sto_0, sto_1, sto_2, sto_3, sto_4, sto_5, sto_6, sto_7, sto_8, sto_9, sto_10, sto_11, sto_12, sto_13, sto_14, nlo_n, nlo_i, nlo_r, nlo_0, nlo_l, and_self, or_self, h1, h2, h3, h4, e1, hk, e2]
theorem n37 (hb : Nb h o a c) {k : Nat} (hk : M o 1 = nI (k + 1)) (hc : k < c) : j_C (d + 1) 37 [.ref o] (FS h M) = some (some (.int (M a k)), FS h (j_up M o 1 (nI k))) := by
  obtain ⟨h1, h2, h3, h4, h5, h6, h7⟩ := hb
  rw [j_C_eq]
  have e1 : nI 0 < nI (k + 1) := nI_lt (by omega) (by omega)
  have e2 : ∀ v, j_up M o 1 v a k = M a k := fun v => up_o _ _ _ _ _ (Ne.symm h7)
  simp (disch := omega) only [st_37_0, st_37_1, st_37_4, st_37_7, st_37_8, st_37_9, st_37_10, st_37_10r, st_37_11, st_37_14, st_37_15, st_37_16, st_37_19, st_37_20, st_37_23, st_37_24, st_37_27, st_37_28, st_37_31, st_37_32, st_37_35, st_37_36, st_37_39, st_37_40, st_37_43, st_37_44, ini_37, fs_cl, fs_len, fs_rf, fs_M, fs_put, fs_cpy, if_true, if_false, rv_ref, true_or, or_true, true_and, and_true, nI_ltI, ix_nI, nI_clamp, ps_i, ps_n, Option.bind_some, sm_0, sm_1, sm_2, sm_3, sm_4, sto_0, sto_1, sto_2, sto_3, sto_4, sto_5, sto_6, sto_7, sto_8, sto_9, sto_10, sto_11, sto_12, sto_13, sto_14, nlo_n, nlo_i, nlo_r, nlo_0, nlo_l, and_self, or_self, h1, h2, h3, h4, e1, e2, hk, hc, nI_sub, Nat.add_sub_cancel, up_s]
theorem n37z (hb : Nb h o a c) (hk : M o 1 = nI 0) : j_C (d + 1) 37 [.ref o] (FS h M) = some (some (.int (nI 0)), FS h M) := by
  rw [j_C_eq]
  have e1 : ¬ nI 0 < nI 0 := nI_nlt (by omega) (by omega)
  simp (disch := omega) only [st_37_0, st_37_1, st_37_4, st_37_7, st_37_8, st_37_9, st_37_10, st_37_10r, st_37_11, st_37_14, st_37_15, st_37_16, st_37_19, st_37_20, st_37_23, st_37_24, st_37_27, st_37_28, st_37_31, st_37_32, st_37_35, st_37_36, st_37_39, st_37_40, st_37_43, st_37_44, ini_37, fs_cl, fs_len, fs_rf, fs_M, fs_put, fs_cpy, if_true, if_false, rv_ref, true_or, or_true, true_and, and_true, nI_ltI, ix_nI, nI_clamp, ps_i, ps_n, Option.bind_some, sm_0, sm_1, sm_2, sm_3, sm_4, sto_0, sto_1, sto_2, sto_3, sto_4, sto_5, sto_6, sto_7, sto_8, sto_9, sto_10, sto_11, sto_12, sto_13, sto_14, nlo_n, nlo_i, nlo_r, nlo_0, nlo_l, and_self, or_self, hb.1, e1, hk]
theorem n38 (h1 : hC h o = 2) : j_C (d + 1) 38 [.ref o] (FS h M) = some (none, FS h (j_up M o 1 (nI 0))) := by
  rw [j_C_eq]
  simp only [st_38_0, st_38_1, st_38_2, st_38_5, ini_38, fs_cl, fs_len, fs_rf, fs_M, fs_put, fs_cpy, if_true, if_false, rv_ref, true_or, or_true, true_and, and_true, nI_ltI, ix_nI, nI_clamp, ps_i, ps_n, Option.bind_some, sm_0, sm_1, sm_2, sm_3, sm_4, sto_0, sto_1, sto_2, sto_3, sto_4, sto_5, sto_6, sto_7, sto_8, sto_9, sto_10, sto_11, sto_12, sto_13, sto_14, nlo_n, nlo_i, nlo_r, nlo_0, nlo_l, and_self, or_self, h1]
/-- zeros: the loop -/
theorem n39l (hb : Nb h o a c) {n : Nat} (hn : n ≤ c) : ∀ (r j : Nat) (M : Nat → Nat → Int32), j + r = n → M o 1 = nI j → ∃ M', j_X (d + 1) 39 6 [some (.ref o), some (.int (nI n)), some (.int (nI j))] [] (FS h M) = some (none, FS h M') ∧ M' o 1 = nI n ∧ (∀ i, j ≤ i → i < n → M' a i = nI 0) ∧ (∀ i, i < j → M' a i = M a i) ∧ ∀ x, x ≠ o → x ≠ a → M' x = M x := by
  have hc := Nb_lt hb
  have h7 := hb.2.2.2.2.2.2
  intro r
  induction r with
  | zero =>
    intro j M hj hs
    have e1 : ¬ nI j < nI n := nI_nlt (by omega) (by omega)
    refine ⟨M, ?_, ?_, fun i h1 h2 => by omega, fun _ _ => rfl, fun _ _ _ => rfl⟩
    · rw [st_39_6]
      simp only [st_39_0, st_39_1, st_39_4, st_39_5, st_39_7, st_39_8, st_39_11, st_39_12, st_39_13, st_39_16, st_39_16r, st_39_17, st_39_20, st_39_23, ini_39, fs_cl, fs_len, fs_rf, fs_M, fs_put, fs_cpy, if_true, if_false, rv_ref, true_or, or_true, true_and, and_true, nI_ltI, ix_nI, nI_clamp, ps_i, ps_n, Option.bind_some, sm_0, sm_1, sm_2, sm_3, sm_4, sto_0, sto_1, sto_2, sto_3, sto_4, sto_5, sto_6, sto_7, sto_8, sto_9, sto_10, sto_11, sto_12, sto_13, sto_14, nlo_n, nlo_i, nlo_r, nlo_0, nlo_l, and_self, or_self, e1]
    · rw [hs]; congr 1
  | succ r ih =>
    intro j M hj hs
    have e1 : nI j < nI n := nI_lt (by omega) (by omega)
    obtain ⟨M', hX, h1, h2, h3, h4⟩ := ih (j + 1) (j_up (j_up M a j (nI 0)) o 1 (nI (j + 1))) (by omega) (up_s _ _ _)
    refine ⟨M', ?_, h1, fun i hi1 hi2 => ?_, fun i hi => ?_, fun x hx1 hx2 => ?_⟩
    · rw [st_39_6]
      simp (disch := omega) only [st_39_0, st_39_1, st_39_4, st_39_5, st_39_7, st_39_8, st_39_11, st_39_12, st_39_13, st_39_16, st_39_16r, st_39_17, st_39_20, st_39_23, ini_39, fs_cl, fs_len, fs_rf, fs_M, fs_put, fs_cpy, if_true, if_false, rv_ref, true_or, or_true, true_and, and_true, nI_ltI, ix_nI, nI_clamp, ps_i, ps_n, Option.bind_some, sm_0, sm_1, sm_2, sm_3, sm_4, sto_0, sto_1, sto_2, sto_3, sto_4, sto_5, sto_6, sto_7, sto_8, sto_9, sto_10, sto_11, sto_12, sto_13, sto_14, nlo_n, nlo_i, nlo_r, nlo_0, nlo_l, and_self, or_self, e1, hb.1, n36 hb hs (by omega : j < c), nI_add, hX]
    · by_cases hij : i = j
      · rw [h3 i (by omega), up_o _ _ _ _ _ (Ne.symm h7), hij, up_s]
      · exact h2 i (by omega) hi2
    · rw [h3 i (by omega), up_o _ _ _ _ _ (Ne.symm h7)]; exact up_k _ _ _ _ (by omega)
    · rw [h4 x hx1 hx2, up_r _ _ _ _ hx1, up_r _ _ _ _ hx2]
theorem n39 (hb : Nb h o a c) {n : Nat} (hn : n ≤ c) : ∃ M', j_C (d + 2) 39 [.ref o, .int (nI n)] (FS h M) = some (none, FS h M') ∧ M' o 1 = nI n ∧ (∀ i, i < n → M' a i = nI 0) ∧ ∀ x, x ≠ o → x ≠ a → M' x = M x := by
  obtain ⟨M', hX, h1, h2, h3, h4⟩ := n39l (d := d) hb hn n 0 (j_up M o 1 (nI 0)) (by omega) (up_s _ _ _)
  refine ⟨M', ?_, h1, fun i hi => h2 i (by omega) hi, fun x hx1 hx2 => ?_⟩
  · rw [j_C_eq]
    simp only [st_39_0, st_39_1, st_39_4, st_39_5, st_39_7, st_39_8, st_39_11, st_39_12, st_39_13, st_39_16, st_39_16r, st_39_17, st_39_20, st_39_23, ini_39, fs_cl, fs_len, fs_rf, fs_M, fs_put, fs_cpy, if_true, if_false, rv_ref, true_or, or_true, true_and, and_true, nI_ltI, ix_nI, nI_clamp, ps_i, ps_n, Option.bind_some, sm_0, sm_1, sm_2, sm_3, sm_4, sto_0, sto_1, sto_2, sto_3, sto_4, sto_5, sto_6, sto_7, sto_8, sto_9, sto_10, sto_11, sto_12, sto_13, sto_14, nlo_n, nlo_i, nlo_r, nlo_0, nlo_l, and_self, or_self, n38 hb.1, hb.1, hX]
  · rw [h4 x hx1 hx2, up_r _ _ _ _ hx1]
/-- the sum of the first ints -/
def sumI (f : Nat → Int32) : Nat → Int32
  | 0 => nI 0
  | k + 1 => sumI f k + f k
theorem n40l (hb : Nb h o a c) {n : Nat} (hn : n ≤ c) (hs : M o 1 = nI n) : ∀ (r j : Nat), j + r = n → j_X (d + 1) 40 4 [some (.ref o), some (.int (sumI (M a) j)), some (.int (nI j))] [] (FS h M) = some (some (.int (sumI (M a) n)), FS h M) := by
  have hc := Nb_lt hb
  intro r
  induction r with
  | zero =>
    intro j hj
    have e1 : ¬ nI j < nI n := nI_nlt (by omega) (by omega)
    have e2 : j = n := by omega
    subst e2
    rw [st_40_4]
    simp only [st_40_0, st_40_1, st_40_2, st_40_3, st_40_5, st_40_6, st_40_9, st_40_12, st_40_13, st_40_14, st_40_15, st_40_18, st_40_19, st_40_20, st_40_23, st_40_26, st_40_27, ini_40, fs_cl, fs_len, fs_rf, fs_M, fs_put, fs_cpy, if_true, if_false, rv_ref, true_or, or_true, true_and, and_true, nI_ltI, ix_nI, nI_clamp, ps_i, ps_n, Option.bind_some, sm_0, sm_1, sm_2, sm_3, sm_4, sto_0, sto_1, sto_2, sto_3, sto_4, sto_5, sto_6, sto_7, sto_8, sto_9, sto_10, sto_11, sto_12, sto_13, sto_14, nlo_n, nlo_i, nlo_r, nlo_0, nlo_l, and_self, or_self, e1, hb.1, hs]
  | succ r ih =>
    intro j hj
    have e1 : nI j < nI n := nI_lt (by omega) (by omega)
    have hX := ih (j + 1) (by omega)
    rw [st_40_4]
    simp (disch := omega) only [st_40_0, st_40_1, st_40_2, st_40_3, st_40_5, st_40_6, st_40_9, st_40_12, st_40_13, st_40_14, st_40_15, st_40_18, st_40_19, st_40_20, st_40_23, st_40_26, st_40_27, ini_40, fs_cl, fs_len, fs_rf, fs_M, fs_put, fs_cpy, if_true, if_false, rv_ref, true_or, or_true, true_and, and_true, nI_ltI, ix_nI, nI_clamp, ps_i, ps_n, Option.bind_some, sm_0, sm_1, sm_2, sm_3, sm_4, sto_0, sto_1, sto_2, sto_3, sto_4, sto_5, sto_6, sto_7, sto_8, sto_9, sto_10, sto_11, sto_12, sto_13, sto_14, nlo_n, nlo_i, nlo_r, nlo_0, nlo_l, and_self, or_self, e1, hb.1, hs, n33i hb (by omega : j < c), nI_add]
    exact hX
theorem n40 (hb : Nb h o a c) {n : Nat} (hn : n ≤ c) (hs : M o 1 = nI n) : j_C (d + 2) 40 [.ref o] (FS h M) = some (some (.int (sumI (M a) n)), FS h M) := by
  have hX := n40l (d := d) hb hn hs n 0 (by omega)
  rw [j_C_eq]
  simp only [st_40_0, st_40_1, st_40_2, st_40_3, st_40_5, st_40_6, st_40_9, st_40_12, st_40_13, st_40_14, st_40_15, st_40_18, st_40_19, st_40_20, st_40_23, st_40_26, st_40_27, ini_40, fs_cl, fs_len, fs_rf, fs_M, fs_put, fs_cpy, if_true, if_false, rv_ref, true_or, or_true, true_and, and_true, nI_ltI, ix_nI, nI_clamp, ps_i, ps_n, Option.bind_some, sm_0, sm_1, sm_2, sm_3, sm_4, sto_0, sto_1, sto_2, sto_3, sto_4, sto_5, sto_6, sto_7, sto_8, sto_9, sto_10, sto_11, sto_12, sto_13, sto_14, nlo_n, nlo_i, nlo_r, nlo_0, nlo_l, and_self, or_self]
  exact hX
variable {o2 a2 c2 : Nat}
/-- copyPart, done -/
theorem n42 (hb : Nb h o a c) (hb2 : Nb h o2 a2 c2) {s s2 i j n : Nat} (hs : M o 1 = nI s) (hs2 : M o2 1 = nI s2) (h1 : s ≤ c) (h2 : s2 ≤ c2) (hi : i + n ≤ s2) (hj : j + n ≤ s) : j_C (d + 1) 42 [.ref o, .ref o2, .int (nI i), .int (nI j), .int (nI n)] (FS h M) = some (some (.int (nI 1)), FS h (j_up1 M a (va_cpy (M a2) (M a) i j n))) := by
  have hc := Nb_lt hb
  have hc2 := Nb_lt hb2
  obtain ⟨g1, g2, g3, g4, g5, g6, g7⟩ := hb
  obtain ⟨k1, k2, k3, k4, k5, k6, k7⟩ := hb2
  have e1 : ¬ nI n < nI 0 := nI_nlt (by omega) (by omega)
  have e2 : ¬ nI i < nI 0 := nI_nlt (by omega) (by omega)
  have e3 : ¬ nI j < nI 0 := nI_nlt (by omega) (by omega)
  have e4 : ¬ s2 - n < i := by omega
  have e5 : ¬ s - n < j := by omega
  have e6 : ¬ c2 < s2 := by omega
  have e7 : ¬ c < s := by omega
  rw [j_C_eq]
  simp (disch := omega) only [st_42_0, st_42_2, st_42_5, st_42_6, st_42_9, st_42_10, st_42_13, st_42_14, st_42_15, st_42_18, st_42_20, st_42_21, st_42_24, st_42_25, st_42_26, st_42_29, st_42_31, st_42_32, st_42_35, st_42_36, st_42_37, st_42_38, st_42_41, st_42_42, st_42_45, st_42_46, st_42_49, st_42_50, st_42_53, st_42_54, st_42_57, st_42_58, st_42_61, st_42_62, st_42_63, st_42_64, st_42_67, st_42_68, st_42_69, st_42_72, st_42_73, st_42_75, st_42_78, st_42_79, ini_42, fs_cl, fs_len, fs_rf, fs_M, fs_put, fs_cpy, if_true, if_false, rv_ref, true_or, or_true, true_and, and_true, nI_ltI, ix_nI, nI_clamp, ps_i, ps_n, Option.bind_some, sm_0, sm_1, sm_2, sm_3, sm_4, sto_0, sto_1, sto_2, sto_3, sto_4, sto_5, sto_6, sto_7, sto_8, sto_9, sto_10, sto_11, sto_12, sto_13, sto_14, nlo_n, nlo_i, nlo_r, nlo_0, nlo_l, and_self, or_self, e1, e2, e3, e4, e5, e6, e7, g1, g2, g3, g4, k1, k2, k3, k4, hs, hs2, nI_sub]
  rw [if_pos]
  rw [nI_tI (by omega), nI_tI (by omega), nI_tI (by omega)]
  omega

/-- copyPart, refused -/
theorem n42f (h1 : hC h o = 2) (h12 : hC h o2 = 2) {s s2 : Nat} (hs : M o 1 = nI s) (hs2 : M o2 1 = nI s2) (hc : s < 1000) (hc2 : s2 < 1000) {i j n : Int32} (hf : ¬ (0 ≤ n.toInt ∧ 0 ≤ i.toInt ∧ 0 ≤ j.toInt ∧ i.toInt + n.toInt ≤ s2 ∧ j.toInt + n.toInt ≤ s)) : j_C (d + 1) 42 [.ref o, .ref o2, .int i, .int j, .int n] (FS h M) = some (some (.int (nI 0)), FS h M) := by
  rw [j_C_eq]
  by_cases e1 : n < nI 0
  · simp only [st_42_0, st_42_2, st_42_5, st_42_6, st_42_9, st_42_10, st_42_13, st_42_14, st_42_15, st_42_18, st_42_20, st_42_21, st_42_24, st_42_25, st_42_26, st_42_29, st_42_31, st_42_32, st_42_35, st_42_36, st_42_37, st_42_38, st_42_41, st_42_42, st_42_45, st_42_46, st_42_49, st_42_50, st_42_53, st_42_54, st_42_57, st_42_58, st_42_61, st_42_62, st_42_63, st_42_64, st_42_67, st_42_68, st_42_69, st_42_72, st_42_73, st_42_75, st_42_78, st_42_79, ini_42, fs_cl, fs_len, fs_rf, fs_M, fs_put, fs_cpy, if_true, if_false, rv_ref, true_or, or_true, true_and, and_true, nI_ltI, ix_nI, nI_clamp, ps_i, ps_n, Option.bind_some, sm_0, sm_1, sm_2, sm_3, sm_4, sto_0, sto_1, sto_2, sto_3, sto_4, sto_5, sto_6, sto_7, sto_8, sto_9, sto_10, sto_11, sto_12, sto_13, sto_14, nlo_n, nlo_i, nlo_r, nlo_0, nlo_l, and_self, or_self, e1]
  · by_cases e2 : i < nI 0
    · simp only [st_42_0, st_42_2, st_42_5, st_42_6, st_42_9, st_42_10, st_42_13, st_42_14, st_42_15, st_42_18, st_42_20, st_42_21, st_42_24, st_42_25, st_42_26, st_42_29, st_42_31, st_42_32, st_42_35, st_42_36, st_42_37, st_42_38, st_42_41, st_42_42, st_42_45, st_42_46, st_42_49, st_42_50, st_42_53, st_42_54, st_42_57, st_42_58, st_42_61, st_42_62, st_42_63, st_42_64, st_42_67, st_42_68, st_42_69, st_42_72, st_42_73, st_42_75, st_42_78, st_42_79, ini_42, fs_cl, fs_len, fs_rf, fs_M, fs_put, fs_cpy, if_true, if_false, rv_ref, true_or, or_true, true_and, and_true, nI_ltI, ix_nI, nI_clamp, ps_i, ps_n, Option.bind_some, sm_0, sm_1, sm_2, sm_3, sm_4, sto_0, sto_1, sto_2, sto_3, sto_4, sto_5, sto_6, sto_7, sto_8, sto_9, sto_10, sto_11, sto_12, sto_13, sto_14, nlo_n, nlo_i, nlo_r, nlo_0, nlo_l, and_self, or_self, e1, e2]
    · by_cases e3 : j < nI 0
      · simp only [st_42_0, st_42_2, st_42_5, st_42_6, st_42_9, st_42_10, st_42_13, st_42_14, st_42_15, st_42_18, st_42_20, st_42_21, st_42_24, st_42_25, st_42_26, st_42_29, st_42_31, st_42_32, st_42_35, st_42_36, st_42_37, st_42_38, st_42_41, st_42_42, st_42_45, st_42_46, st_42_49, st_42_50, st_42_53, st_42_54, st_42_57, st_42_58, st_42_61, st_42_62, st_42_63, st_42_64, st_42_67, st_42_68, st_42_69, st_42_72, st_42_73, st_42_75, st_42_78, st_42_79, ini_42, fs_cl, fs_len, fs_rf, fs_M, fs_put, fs_cpy, if_true, if_false, rv_ref, true_or, or_true, true_and, and_true, nI_ltI, ix_nI, nI_clamp, ps_i, ps_n, Option.bind_some, sm_0, sm_1, sm_2, sm_3, sm_4, sto_0, sto_1, sto_2, sto_3, sto_4, sto_5, sto_6, sto_7, sto_8, sto_9, sto_10, sto_11, sto_12, sto_13, sto_14, nlo_n, nlo_i, nlo_r, nlo_0, nlo_l, and_self, or_self, e1, e2, e3]
      · have f1 : ¬ n.toInt < 0 := fun e => e1 (lt0.mpr e)
        have f2 : ¬ i.toInt < 0 := fun e => e2 (lt0.mpr e)
        have f3 : ¬ j.toInt < 0 := fun e => e3 (lt0.mpr e)
        have b1 := n.toInt_lt
        have b2 := i.toInt_lt
        have b3 := j.toInt_lt
        have g : ∀ s x : Nat, s < 1000 → ∀ y : Int32, ¬ y.toInt < 0 → (nI s - n < y ↔ (s : Int) - n.toInt < y.toInt) := by
          intro s x hs y hy
          rw [nI_z, zI_of n, zI_sub, Int32.lt_iff_toInt_lt, zI_toInt (by omega) (by omega), ← zI_of n]
        have e4 := g s2 0 hc2 i f2
        have e5 := g s 0 hc j f3
        by_cases g1 : nI s2 - n < i
        · simp only [st_42_0, st_42_2, st_42_5, st_42_6, st_42_9, st_42_10, st_42_13, st_42_14, st_42_15, st_42_18, st_42_20, st_42_21, st_42_24, st_42_25, st_42_26, st_42_29, st_42_31, st_42_32, st_42_35, st_42_36, st_42_37, st_42_38, st_42_41, st_42_42, st_42_45, st_42_46, st_42_49, st_42_50, st_42_53, st_42_54, st_42_57, st_42_58, st_42_61, st_42_62, st_42_63, st_42_64, st_42_67, st_42_68, st_42_69, st_42_72, st_42_73, st_42_75, st_42_78, st_42_79, ini_42, fs_cl, fs_len, fs_rf, fs_M, fs_put, fs_cpy, if_true, if_false, rv_ref, true_or, or_true, true_and, and_true, nI_ltI, ix_nI, nI_clamp, ps_i, ps_n, Option.bind_some, sm_0, sm_1, sm_2, sm_3, sm_4, sto_0, sto_1, sto_2, sto_3, sto_4, sto_5, sto_6, sto_7, sto_8, sto_9, sto_10, sto_11, sto_12, sto_13, sto_14, nlo_n, nlo_i, nlo_r, nlo_0, nlo_l, and_self, or_self, e1, e2, e3, h1, h12, hs, hs2, g1]
        · have g2 : nI s - n < j := by
            rw [e5]; rw [e4] at g1; omega
          simp only [st_42_0, st_42_2, st_42_5, st_42_6, st_42_9, st_42_10, st_42_13, st_42_14, st_42_15, st_42_18, st_42_20, st_42_21, st_42_24, st_42_25, st_42_26, st_42_29, st_42_31, st_42_32, st_42_35, st_42_36, st_42_37, st_42_38, st_42_41, st_42_42, st_42_45, st_42_46, st_42_49, st_42_50, st_42_53, st_42_54, st_42_57, st_42_58, st_42_61, st_42_62, st_42_63, st_42_64, st_42_67, st_42_68, st_42_69, st_42_72, st_42_73, st_42_75, st_42_78, st_42_79, ini_42, fs_cl, fs_len, fs_rf, fs_M, fs_put, fs_cpy, if_true, if_false, rv_ref, true_or, or_true, true_and, and_true, nI_ltI, ix_nI, nI_clamp, ps_i, ps_n, Option.bind_some, sm_0, sm_1, sm_2, sm_3, sm_4, sto_0, sto_1, sto_2, sto_3, sto_4, sto_5, sto_6, sto_7, sto_8, sto_9, sto_10, sto_11, sto_12, sto_13, sto_14, nlo_n, nlo_i, nlo_r, nlo_0, nlo_l, and_self, or_self, e1, e2, e3, h1, h12, hs, hs2, g1, g2]
theorem n41 (hb : Nb h o a c) (hb2 : Nb h o2 a2 c2) (ho : o ≠ o2) (ha : a2 ≠ o) (ho2 : o2 ≠ a) {k : Nat} (hs2 : M o2 1 = nI k) (h1 : k ≤ c) (h2 : k ≤ c2) : j_C (d + 2) 41 [.ref o, .ref o2] (FS h M) = some (none, FS h (j_up1 (j_up M o 1 (nI k)) a (va_cpy (M a2) (M a) 0 0 k))) := by
  have hc := Nb_lt hb
  have hc2 := Nb_lt hb2
  have e1 : j_up M o 1 (nI k) o 1 = nI k := up_s _ _ _
  have e2 : j_up M o 1 (nI k) o2 1 = nI k := by rw [up_o _ _ _ _ _ (Ne.symm ho)]; exact hs2
  have e3 : j_up M o 1 (nI k) a2 = M a2 := up_r _ _ _ _ ha
  have e4 : j_up M o 1 (nI k) a = M a := up_r _ _ _ _ (Ne.symm hb.2.2.2.2.2.2)
  have hX := n42 (d := d) (M := j_up M o 1 (nI k)) (i := 0) (j := 0) (n := k) hb hb2 e1 e2 h1 h2 (by omega) (by omega)
  rw [e3, e4] at hX
  obtain ⟨g1, g2, g3, g4, g5, g6, g7⟩ := hb
  have e5 : (if c < k then nI c else nI k) = nI k := by
    rw [if_neg (by omega)]
  have e6 : (if k < c then nI k else nI c) = nI k := by
    by_cases hk : k < c
    · rw [if_pos hk]
    · rw [if_neg hk]; congr 1; omega
  rw [j_C_eq]
  simp (disch := omega) only [st_41_0, st_41_1, st_41_2, st_41_5, st_41_6, st_41_9, st_41_10, st_41_13, st_41_16, st_41_17, st_41_18, st_41_19, st_41_20, st_41_21, st_41_24, st_41_27, st_41_27r, st_41_28, ini_41, fs_cl, fs_len, fs_rf, fs_M, fs_put, fs_cpy, if_true, if_false, rv_ref, true_or, or_true, true_and, and_true, nI_ltI, ix_nI, nI_clamp, ps_i, ps_n, Option.bind_some, sm_0, sm_1, sm_2, sm_3, sm_4, sto_0, sto_1, sto_2, sto_3, sto_4, sto_5, sto_6, sto_7, sto_8, sto_9, sto_10, sto_11, sto_12, sto_13, sto_14, nlo_n, nlo_i, nlo_r, nlo_0, nlo_l, and_self, or_self, g1, g2, g3, g4, hb2.1, hs2, e1, e5, e6, hX]
