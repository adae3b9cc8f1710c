/-! Both sides: prices, judge. -/
variable {h : j_Hd} {M M1 M2 M3 : Nat → Nat → Int32} {o b s n : Nat} {E E' : Nat → Nat} {z : Int32} {K0 K1 K : List Int32} {T : Nat → Nat} {W : Nat → Int32} {X Y : Nat → Int32}
def isP (x : Int32) : Prop := 0 ≤ x.toInt ∧ x.toInt ≤ 99
theorem isP_n {x : Int32} (hp : isP x) : x = nI x.toInt.toNat ∧ x.toInt.toNat ≤ 99 := by
  unfold isP at hp
  refine ⟨?_, by omega⟩
  rw [nI_z, Int.toNat_of_nonneg hp.1]
  exact zI_of x
theorem isP_not {x : Int32} (hp : ¬ isP x) : ¬ ∃ j, 0 ≤ j ∧ j ≤ 99 ∧ x = nI j := fun ⟨j, _, h2, h3⟩ => hp (by
  unfold isP
  rw [h3, nI_tI (by omega)]; omega)
def prN (X : Nat → Int32) : Nat → Nat → Nat
  | 0, k => k
  | r + 1, k => if 0 ≤ (X k).toInt ∧ (X k).toInt ≤ 99 then prN X r (k + 1) else k
def prE (X : Nat → Int32) : Nat → Nat → (Nat → Nat) → (Nat → Nat)
  | 0, _, E => E
  | r + 1, k, E => if 0 ≤ (X k).toInt ∧ (X k).toInt ≤ 99 then prE X r (k + 1) (upE E (8 + 5 * k + 3) (X k).toInt.toNat) else E
theorem prN_le : ∀ r k, k ≤ prN X r k ∧ prN X r k ≤ r + k := by
  intro r
  induction r with
  | zero => intro k; exact ⟨Nat.le_refl _, by show k ≤ 0 + k; omega⟩
  | succ r ih =>
    intro k
    unfold prN
    split
    · have := ih (k + 1); omega
    · omega
theorem prE_p : ∀ r k (E : Nat → Nat), WX E → r + k ≤ E 0 → WX (prE X r k E) ∧ (∀ j, j = 0 ∨ j = 1 ∨ j = 6 ∨ j = 7 → prE X r k E j = E j) := by
  intro r
  induction r with
  | zero => intro k E hw _; exact ⟨hw, fun _ _ => rfl⟩
  | succ r ih =>
    intro k E hw hr
    unfold prE
    by_cases c : 0 ≤ (X k).toInt ∧ (X k).toInt ≤ 99
    · rw [if_pos c]
      have h6 := hw.1.1
      obtain ⟨a, b⟩ := ih (k + 1) (upE E (8 + 5 * k + 3) (X k).toInt.toNat) (WX_T hw (by omega) ⟨fun _ => by omega, fun _ => by omega, fun _ => by omega, fun _ => by omega, fun _ => by omega⟩ (by omega)) (by rw [upE_o _ (by omega)]; omega)
      exact ⟨a, fun j hj => by rw [b j hj, upE_o _ (by omega)]⟩
    · rw [if_neg c]; exact ⟨hw, fun _ _ => rfl⟩
theorem min_1 {a b : Nat} : (if a < b then nI a else nI b) = nI (min a b) := by
  by_cases c : a < b
  · rw [if_pos c]; congr 1; omega
  · rw [if_neg c]; congr 1; omega
theorem min_2 {a b : Nat} : (if b < a then nI b else nI a) = nI (min a b) := by
  by_cases c : b < a
  · rw [if_pos c]; congr 1; omega
  · rw [if_neg c]; congr 1; omega
theorem c111l (hh : Hd h) (hs : s < 4) (hX : ∀ k, k < 40 → M (103 + 3 * s) k = X k) {mo : Nat} (hmo : mo ≤ 6) {x1 : Option Value} {e : Nat} (he : 4 ≤ e) : ∀ r k (E : Nat → Nat) (M1 : Nat → Nat → Int32), r + k = mo → mo ≤ E 0 → WX E → CM M1 2 E z K0 K1 → M1 (103 + 3 * s) = M (103 + 3 * s) → ∃ M', j_X e 111 50 [some (.ref 1), x1, some (.ref (101 + 3 * s)), some (.int (nI mo)), some (.int (nI k))] [] (FS h M1) = some (some (.int (nI (prN X r k))), FS h M') ∧ CM M' 2 (prE X r k E) z K0 K1 ∧ mg 2 M1 M' := by
  have w0 := hh.1.1
  have f0 := hh.1.2.1
  have mk := hh.2.1.1
  obtain ⟨_, rk, rf0, nb⟩ := hh.2.2.2.2.2.1.2.2 s hs
  have R := mk.2
  have e10 : ¬ nI 1 = nI 0 := by decide +kernel
  intro r
  induction r with
  | zero =>
    intro k E M1 hr hE hw hm hM
    have e1 : ¬ k < mo := by omega
    refine ⟨M1, ?_, hm, mg_r⟩
    rw [st_111_50]
    simp (disch := omega) only [st_111_0, st_111_1, st_111_2, st_111_5, st_111_5N, st_111_6, st_111_6N, st_111_7, st_111_7N, st_111_10, st_111_11, st_111_12, st_111_15, st_111_16, st_111_16N, st_111_17, st_111_20, st_111_23, st_111_24, st_111_25, st_111_28, st_111_29, st_111_29N, st_111_30, st_111_33, st_111_36, st_111_37, st_111_40, st_111_43, st_111_46, st_111_47, st_111_48, st_111_52, st_111_53, st_111_56, st_111_56N, st_111_57, st_111_60, st_111_62, st_111_65, st_111_68, st_111_71, st_111_72, st_111_75, st_111_78, st_111_80, st_111_80N, st_111_81, st_111_84, st_111_86, st_111_89, st_111_92, st_111_95, st_111_98, st_111_100, ini_111, fs_cl, fs_len, fs_rf, fs_M, fs_put, fs_cpy, ↓reduceIte, rv_ref, true_or, or_true, true_and, and_true, nI_ltI, ix_nI, nI_clamp, ps_i, ps_n, Option.bind_some, sm_0, sm_1, sm_2, sm_3, sm_4, sto_0, sto_1, sto_2, sto_3, sto_4, sto_5, sto_6, sto_7, sto_8, sto_9, sto_10, sto_11, sto_12, sto_13, sto_14, nlo_n, nlo_i, nlo_r, nlo_0, nlo_l, and_self, or_self, Nat.reduceEqDiff, Nat.reduceLT, Nat.reduceLeDiff, Nat.one_ne_zero, Nat.zero_ne_one, e1]
    rfl
  | succ r ih =>
    intro k E M1 hr hE hw hm hM
    have e1 : k < mo := by omega
    have h6 := hw.1.1
    have h8 := hw.1.2.1
    have g := n33ie (M := M1) nb (by omega : k < 40) (e := e) (by omega)
    rw [hM, hX k (by omega)] at g
    have kw := c125e (σ := FS h M1) (X k) (e := e) (by omega)
    unfold prN prE
    by_cases c : 0 ≤ (X k).toInt ∧ (X k).toInt ≤ 99
    · rw [if_pos c, if_pos c]
      obtain ⟨i1, i2⟩ := isP_n (x := X k) c
      have wi1 : wi (X k) (nI 0) (nI 99) = nI 1 := by rw [i1]; exact wi_in (Nat.zero_le _) i2 (by omega)
      rw [wi1] at kw
      have g2 := n34e (M := M1) R.2.2.2.1.2 (by omega : k < 6) (X k) (e := e) (by omega)
      have hm2 := CM_P hm h6 h8 (by omega : k < 6) (X k).toInt.toNat
      rw [← i1, show 11 + 5 * k = 8 + 5 * k + 3 by omega] at hm2
      obtain ⟨M', s1, s2, s3⟩ := ih (k + 1) (upE E (8 + 5 * k + 3) (X k).toInt.toNat) (j_up M1 (2 + 8) k (X k)) (by omega) (by rw [upE_o _ (by omega)]; exact hE) (WX_T hw (by omega) ⟨fun _ => by omega, fun _ => by omega, fun _ => by omega, fun _ => by omega, fun _ => by omega⟩ (by omega)) hm2 (by rw [up_r _ _ _ _ (by omega)]; exact hM)
      refine ⟨M', ?_, s2, mg_t (mg_up _ (by omega) (by omega)) s3⟩
      rw [← s1, st_111_50]
      simp (disch := omega) only [st_111_0, st_111_1, st_111_2, st_111_5, st_111_5N, st_111_6, st_111_6N, st_111_7, st_111_7N, st_111_10, st_111_11, st_111_12, st_111_15, st_111_16, st_111_16N, st_111_17, st_111_20, st_111_23, st_111_24, st_111_25, st_111_28, st_111_29, st_111_29N, st_111_30, st_111_33, st_111_36, st_111_37, st_111_40, st_111_43, st_111_46, st_111_47, st_111_48, st_111_52, st_111_53, st_111_56, st_111_56N, st_111_57, st_111_60, st_111_62, st_111_65, st_111_68, st_111_71, st_111_72, st_111_75, st_111_78, st_111_80, st_111_80N, st_111_81, st_111_84, st_111_86, st_111_89, st_111_92, st_111_95, st_111_98, st_111_100, ini_111, fs_cl, fs_len, fs_rf, fs_M, fs_put, fs_cpy, ↓reduceIte, rv_ref, true_or, or_true, true_and, and_true, nI_ltI, ix_nI, nI_clamp, ps_i, ps_n, Option.bind_some, sm_0, sm_1, sm_2, sm_3, sm_4, sto_0, sto_1, sto_2, sto_3, sto_4, sto_5, sto_6, sto_7, sto_8, sto_9, sto_10, sto_11, sto_12, sto_13, sto_14, nlo_n, nlo_i, nlo_r, nlo_0, nlo_l, and_self, or_self, Nat.reduceEqDiff, Nat.reduceLT, Nat.reduceLeDiff, Nat.one_ne_zero, Nat.zero_ne_one, w0, f0, mk.1, rk, rf0, nb.1, R.2.2.2.1.1, R.2.2.2.1.2.1, e1, g, kw, e10, g2, nI_add]
    · rw [if_neg c, if_neg c]
      rw [wi_out (isP_not c) (by omega) (by omega)] at kw
      refine ⟨M1, ?_, hm, mg_r⟩
      rw [st_111_50]
      simp (disch := omega) only [st_111_0, st_111_1, st_111_2, st_111_5, st_111_5N, st_111_6, st_111_6N, st_111_7, st_111_7N, st_111_10, st_111_11, st_111_12, st_111_15, st_111_16, st_111_16N, st_111_17, st_111_20, st_111_23, st_111_24, st_111_25, st_111_28, st_111_29, st_111_29N, st_111_30, st_111_33, st_111_36, st_111_37, st_111_40, st_111_43, st_111_46, st_111_47, st_111_48, st_111_52, st_111_53, st_111_56, st_111_56N, st_111_57, st_111_60, st_111_62, st_111_65, st_111_68, st_111_71, st_111_72, st_111_75, st_111_78, st_111_80, st_111_80N, st_111_81, st_111_84, st_111_86, st_111_89, st_111_92, st_111_95, st_111_98, st_111_100, ini_111, fs_cl, fs_len, fs_rf, fs_M, fs_put, fs_cpy, ↓reduceIte, rv_ref, true_or, or_true, true_and, and_true, nI_ltI, ix_nI, nI_clamp, ps_i, ps_n, Option.bind_some, sm_0, sm_1, sm_2, sm_3, sm_4, sto_0, sto_1, sto_2, sto_3, sto_4, sto_5, sto_6, sto_7, sto_8, sto_9, sto_10, sto_11, sto_12, sto_13, sto_14, nlo_n, nlo_i, nlo_r, nlo_0, nlo_l, and_self, or_self, Nat.reduceEqDiff, Nat.reduceLT, Nat.reduceLeDiff, Nat.one_ne_zero, Nat.zero_ne_one, rk, rf0, nb.1, e1, g, kw]
theorem r216l (hk : Md h o) (hs : s < 4) {ns mo : Nat} (hmo : mo ≤ 6) (hX : ∀ k, k < mo → ∀ j, j < 128 → (X k = nI j ↔ Y k = nI j)) {e : Nat} (he : 1 ≤ e) : ∀ r k (E : Nat → Nat) (M : Nat → Nat → Int32), r + k = mo → mo ≤ E 0 → mo = min ns (E 0) → ns ≤ 40 → E 0 ≤ 6 → RC M o E z K0 K1 → (∀ k, k < ns → M (o + 10) (40 * s + k) = Y k) → M (o + 9) s = nI ns → ∃ M', j_X e 216 30 [some (.ref o), some (.int (nI s)), some (.int (nI k))] [] (FS h M) = some (some (.int (nI (prN X r k))), FS h M') ∧ RC M' o (prE X r k E) z K0 K1 ∧ ld o M M' := by
  have m0 := hk.1
  have q0 := hk.2.1.1
  have a1 := hk.2.1.2.1
  have a2 := hk.2.1.2.2.1
  have q9 := hk.2.2.2.2.2.2.2.2.2.1.1
  have b9a := hk.2.2.2.2.2.2.2.2.2.1.2.1
  have b9b := hk.2.2.2.2.2.2.2.2.2.1.2.2.1
  have qa := hk.2.2.2.2.2.2.2.2.2.2.1.1
  have baa := hk.2.2.2.2.2.2.2.2.2.2.1.2.1
  have bab := hk.2.2.2.2.2.2.2.2.2.2.1.2.2.1
  have e10 : ¬ nI 1 = nI 0 := by decide +kernel
  have i0 : 0 < 250 := by omega
  intro r
  induction r with
  | zero =>
    intro k E M hr hE hmi hns h6 hR hY hn
    have ek : k = mo := by omega
    have g0 := hR.1.1 0 (by omega) (by omega)
    refine ⟨M, ?_, hR, ld_r⟩
    rw [st_216_30]
    by_cases c1 : k < ns
    · have c2 : ¬ k < E 0 := by omega
      simp (disch := omega) only [st_216_0, st_216_1, st_216_4, st_216_7, st_216_8, st_216_9, st_216_12, st_216_13, st_216_14, st_216_17, st_216_18, st_216_19, st_216_22, st_216_23, st_216_24, st_216_27, st_216_28, st_216_29, st_216_31, st_216_32, st_216_35, st_216_36, st_216_37, st_216_40, st_216_41, st_216_42, st_216_45, st_216_46, st_216_47, st_216_50, st_216_51, st_216_54, st_216_56, st_216_57, st_216_58, st_216_59, st_216_60, st_216_61, st_216_62, st_216_63, st_216_66, st_216_69, st_216_72, st_216_73, st_216_76, st_216_78, st_216_79, st_216_80, st_216_81, st_216_82, st_216_83, st_216_84, st_216_85, st_216_88, st_216_90, st_216_91, st_216_92, st_216_93, st_216_94, st_216_95, st_216_96, st_216_99, st_216_102, st_216_103, ini_216, fs_cl, fs_len, fs_rf, fs_M, fs_put, fs_cpy, ↓reduceIte, rv_ref, true_or, or_true, true_and, and_true, nI_ltI, ix_nI, nI_clamp, ps_i, ps_n, Option.bind_some, sm_0, sm_1, sm_2, sm_3, sm_4, sto_0, sto_1, sto_2, sto_3, sto_4, sto_5, sto_6, sto_7, sto_8, sto_9, sto_10, sto_11, sto_12, sto_13, sto_14, nlo_n, nlo_i, nlo_r, nlo_0, nlo_l, and_self, or_self, Nat.reduceEqDiff, Nat.reduceLT, Nat.reduceLeDiff, Nat.one_ne_zero, Nat.zero_ne_one, m0, q0, a1, a2, q9, b9a, b9b, hs, hn, c1, g0, c2]
      rfl
    · simp (disch := omega) only [st_216_0, st_216_1, st_216_4, st_216_7, st_216_8, st_216_9, st_216_12, st_216_13, st_216_14, st_216_17, st_216_18, st_216_19, st_216_22, st_216_23, st_216_24, st_216_27, st_216_28, st_216_29, st_216_31, st_216_32, st_216_35, st_216_36, st_216_37, st_216_40, st_216_41, st_216_42, st_216_45, st_216_46, st_216_47, st_216_50, st_216_51, st_216_54, st_216_56, st_216_57, st_216_58, st_216_59, st_216_60, st_216_61, st_216_62, st_216_63, st_216_66, st_216_69, st_216_72, st_216_73, st_216_76, st_216_78, st_216_79, st_216_80, st_216_81, st_216_82, st_216_83, st_216_84, st_216_85, st_216_88, st_216_90, st_216_91, st_216_92, st_216_93, st_216_94, st_216_95, st_216_96, st_216_99, st_216_102, st_216_103, ini_216, fs_cl, fs_len, fs_rf, fs_M, fs_put, fs_cpy, ↓reduceIte, rv_ref, true_or, or_true, true_and, and_true, nI_ltI, ix_nI, nI_clamp, ps_i, ps_n, Option.bind_some, sm_0, sm_1, sm_2, sm_3, sm_4, sto_0, sto_1, sto_2, sto_3, sto_4, sto_5, sto_6, sto_7, sto_8, sto_9, sto_10, sto_11, sto_12, sto_13, sto_14, nlo_n, nlo_i, nlo_r, nlo_0, nlo_l, and_self, or_self, Nat.reduceEqDiff, Nat.reduceLT, Nat.reduceLeDiff, Nat.one_ne_zero, Nat.zero_ne_one, m0, q9, b9a, b9b, hs, hn, c1]
      rfl
  | succ r ih =>
    intro k E M hr hE hmi hns h6 hR hY hn
    have c1 : k < ns := by omega
    have c2 : k < E 0 := by omega
    have g0 := hR.1.1 0 (by omega) (by omega)
    have ix : 40 * s + k < 160 := by omega
    have ip : 8 + 5 * k + 3 < 250 := by omega
    have hy := hY k c1
    have hx := hX k (by omega)
    have kl := r143e (σ := FS h M) (Y k).toInt64 (lN 0) (lN 99) (e := e) (by omega)
    unfold prN prE
    by_cases c : 0 ≤ (X k).toInt ∧ (X k).toInt ≤ 99
    · rw [if_pos c, if_pos c]
      obtain ⟨i1, i2⟩ := isP_n (x := X k) c
      have iy : Y k = nI (X k).toInt.toNat := (hx _ (by omega)).mp i1
      have li1 : lin (Y k).toInt64 (lN 0) (lN 99) = nI 1 := by rw [iy]; exact lin_in (Nat.zero_le _) i2 (by omega)
      rw [li1] at kl
      obtain ⟨M', s1, s2, s3⟩ := ih (k + 1) (upE E (8 + 5 * k + 3) (X k).toInt.toNat) (j_up M (o + 1) (8 + 5 * k + 3) (nI (X k).toInt.toNat)) (by omega) (by rw [upE_o _ (by omega)]; exact hE) (by rw [upE_o _ (by omega)]; exact hmi) hns (by rw [upE_o _ (by omega)]; exact h6) (RC_ld (ld_up (by omega)) (RLd_up hR.1 (by omega)) hR) (fun k' hk' => by rw [up_o _ _ _ _ _ (by omega)]; exact hY k' hk') (by rw [up_o _ _ _ _ _ (by omega)]; exact hn)
      rw [← iy] at s1 s3
      refine ⟨M', ?_, s2, ld_t (ld_up (by omega)) s3⟩
      rw [← s1, st_216_30]
      simp (disch := omega) only [st_216_0, st_216_1, st_216_4, st_216_7, st_216_8, st_216_9, st_216_12, st_216_13, st_216_14, st_216_17, st_216_18, st_216_19, st_216_22, st_216_23, st_216_24, st_216_27, st_216_28, st_216_29, st_216_31, st_216_32, st_216_35, st_216_36, st_216_37, st_216_40, st_216_41, st_216_42, st_216_45, st_216_46, st_216_47, st_216_50, st_216_51, st_216_54, st_216_56, st_216_57, st_216_58, st_216_59, st_216_60, st_216_61, st_216_62, st_216_63, st_216_66, st_216_69, st_216_72, st_216_73, st_216_76, st_216_78, st_216_79, st_216_80, st_216_81, st_216_82, st_216_83, st_216_84, st_216_85, st_216_88, st_216_90, st_216_91, st_216_92, st_216_93, st_216_94, st_216_95, st_216_96, st_216_99, st_216_102, st_216_103, ini_216, fs_cl, fs_len, fs_rf, fs_M, fs_put, fs_cpy, ↓reduceIte, rv_ref, true_or, or_true, true_and, and_true, nI_ltI, ix_nI, nI_clamp, ps_i, ps_n, Option.bind_some, sm_0, sm_1, sm_2, sm_3, sm_4, sto_0, sto_1, sto_2, sto_3, sto_4, sto_5, sto_6, sto_7, sto_8, sto_9, sto_10, sto_11, sto_12, sto_13, sto_14, nlo_n, nlo_i, nlo_r, nlo_0, nlo_l, and_self, or_self, Nat.reduceEqDiff, Nat.reduceLT, Nat.reduceLeDiff, Nat.one_ne_zero, Nat.zero_ne_one, m0, q0, a1, a2, q9, b9a, b9b, qa, baa, bab, hs, hn, c1, g0, c2, nI_mul, nI_add, ix, ip, hy, kl, e10]
    · rw [if_neg c, if_neg c]
      have ny : ¬ ∃ j, 0 ≤ j ∧ j ≤ 99 ∧ Y k = nI j := fun ⟨j, j1, j2, j3⟩ => isP_not c ⟨j, j1, j2, (hx j (by omega)).mpr j3⟩
      rw [lin_out ny (by omega) (by omega)] at kl
      refine ⟨M, ?_, hR, ld_r⟩
      rw [st_216_30]
      simp (disch := omega) only [st_216_0, st_216_1, st_216_4, st_216_7, st_216_8, st_216_9, st_216_12, st_216_13, st_216_14, st_216_17, st_216_18, st_216_19, st_216_22, st_216_23, st_216_24, st_216_27, st_216_28, st_216_29, st_216_31, st_216_32, st_216_35, st_216_36, st_216_37, st_216_40, st_216_41, st_216_42, st_216_45, st_216_46, st_216_47, st_216_50, st_216_51, st_216_54, st_216_56, st_216_57, st_216_58, st_216_59, st_216_60, st_216_61, st_216_62, st_216_63, st_216_66, st_216_69, st_216_72, st_216_73, st_216_76, st_216_78, st_216_79, st_216_80, st_216_81, st_216_82, st_216_83, st_216_84, st_216_85, st_216_88, st_216_90, st_216_91, st_216_92, st_216_93, st_216_94, st_216_95, st_216_96, st_216_99, st_216_102, st_216_103, ini_216, fs_cl, fs_len, fs_rf, fs_M, fs_put, fs_cpy, ↓reduceIte, rv_ref, true_or, or_true, true_and, and_true, nI_ltI, ix_nI, nI_clamp, ps_i, ps_n, Option.bind_some, sm_0, sm_1, sm_2, sm_3, sm_4, sto_0, sto_1, sto_2, sto_3, sto_4, sto_5, sto_6, sto_7, sto_8, sto_9, sto_10, sto_11, sto_12, sto_13, sto_14, nlo_n, nlo_i, nlo_r, nlo_0, nlo_l, and_self, or_self, Nat.reduceEqDiff, Nat.reduceLT, Nat.reduceLeDiff, Nat.one_ne_zero, Nat.zero_ne_one, m0, q0, a1, a2, q9, b9a, b9b, qa, baa, bab, hs, hn, c1, g0, c2, nI_mul, nI_add, ix, hy, kl]
theorem g_prices (hh : Hd h) (hi : IE M E z K0 K1 T W) (x : Int32) : Go h M 111 216 [.int x] := by
  have w0 := hh.1.1
  have f0 := hh.1.2.1
  have r7 := hh.1.2.2.2.2.2.2.2.1
  have mk := hh.2.1.1
  have th := hh.2.2.2.1.1
  have md : Md h 115 := hh.2.2.2.2.2.2.2.1
  have m0 := md.1
  have q0 := md.2.1.1
  have a1 := md.2.1.2.1
  have a2 := md.2.1.2.2.1
  have hw := hi.1.1
  have h6 := hw.1
  have h8 := hw.2.1
  have hm := hi.2.1.1
  have hs := hm.1
  have hR : RC M 115 E z K0 K1 := hi.2.2.1.1
  have sd := hi.2.2.2.1
  have e10 : ¬ nI 1 = nI 0 := by decide +kernel
  have hSP := hi.2.2.2.2.2.2.2.2.1
  have q8 := md.2.2.2.2.2.2.2.2.1.1
  have b8a := md.2.2.2.2.2.2.2.2.1.2.1
  have b8b := md.2.2.2.2.2.2.2.2.1.2.2.1
  by_cases hx : ∃ j, 0 ≤ j ∧ j ≤ 3 ∧ x = nI j
  · obtain ⟨s, _, hs3, rfl⟩ := hx
    have hs4 : s < 4 := by omega
    obtain ⟨bs, n, hb, hn, h0, t1, t2, t3, t4, t5⟩ := hSP s hs4
    obtain ⟨_, rk, rf0, nb⟩ := hh.2.2.2.2.2.1.2.2 s hs4
    by_cases c0 : bs = 0
    · refine go_f hi (k := 2) ?_
      intro e he
      obtain ⟨e, rfl⟩ : ∃ d, e = d + 1 := ⟨e - 1, by omega⟩
      have k1 := c121 (M := M) hh hs4 (e := e) (by omega)
      have k5 := c55 (M := M) hh hs4 t1 (by omega) (e := e) (by omega)
      rw [if_pos c0] at k5
      have kf := c119 (M := M) hh (k := 2) (by omega) (e := e) (by omega)
      have k2 := r212 (σ := FS h (fc 2 M)) hs4 (e := e) (by omega)
      have kf2 := r142 (M := fc 2 M) md (k := 2) (by omega) (e := e) (by omega)
      have tt : fc 2 M 123 s = nI bs := by unfold fc; rw [up_o _ _ _ _ _ (by omega)]; exact t2
      rw [c0] at tt
      refine ⟨M, fc 2 M, ?_, cq_r, sd, ?_, rg_r, RC_fc hR⟩
      · (rw [j_C_eq]; simp (disch := omega) only [st_111_0, st_111_1, st_111_2, st_111_5, st_111_5N, st_111_6, st_111_6N, st_111_7, st_111_7N, st_111_10, st_111_11, st_111_12, st_111_15, st_111_16, st_111_16N, st_111_17, st_111_20, st_111_23, st_111_24, st_111_25, st_111_28, st_111_29, st_111_29N, st_111_30, st_111_33, st_111_36, st_111_37, st_111_40, st_111_43, st_111_46, st_111_47, st_111_48, st_111_52, st_111_53, st_111_56, st_111_56N, st_111_57, st_111_60, st_111_62, st_111_65, st_111_68, st_111_71, st_111_72, st_111_75, st_111_78, st_111_80, st_111_80N, st_111_81, st_111_84, st_111_86, st_111_89, st_111_92, st_111_95, st_111_98, st_111_100, ini_111, fs_cl, fs_len, fs_rf, fs_M, fs_put, fs_cpy, ↓reduceIte, rv_ref, true_or, or_true, true_and, and_true, nI_ltI, ix_nI, nI_clamp, ps_i, ps_n, Option.bind_some, sm_0, sm_1, sm_2, sm_3, sm_4, sto_0, sto_1, sto_2, sto_3, sto_4, sto_5, sto_6, sto_7, sto_8, sto_9, sto_10, sto_11, sto_12, sto_13, sto_14, nlo_n, nlo_i, nlo_r, nlo_0, nlo_l, and_self, or_self, Nat.reduceEqDiff, Nat.reduceLT, Nat.reduceLeDiff, Nat.one_ne_zero, Nat.zero_ne_one, w0, f0, r7, m0, q0, a1, a2, e10, k1, rk, k5, kf])
      · (rw [j_C_eq]; simp (disch := omega) only [st_216_0, st_216_1, st_216_4, st_216_7, st_216_8, st_216_9, st_216_12, st_216_13, st_216_14, st_216_17, st_216_18, st_216_19, st_216_22, st_216_23, st_216_24, st_216_27, st_216_28, st_216_29, st_216_31, st_216_32, st_216_35, st_216_36, st_216_37, st_216_40, st_216_41, st_216_42, st_216_45, st_216_46, st_216_47, st_216_50, st_216_51, st_216_54, st_216_56, st_216_57, st_216_58, st_216_59, st_216_60, st_216_61, st_216_62, st_216_63, st_216_66, st_216_69, st_216_72, st_216_73, st_216_76, st_216_78, st_216_79, st_216_80, st_216_81, st_216_82, st_216_83, st_216_84, st_216_85, st_216_88, st_216_90, st_216_91, st_216_92, st_216_93, st_216_94, st_216_95, st_216_96, st_216_99, st_216_102, st_216_103, ini_216, fs_cl, fs_len, fs_rf, fs_M, fs_put, fs_cpy, ↓reduceIte, rv_ref, true_or, or_true, true_and, and_true, nI_ltI, ix_nI, nI_clamp, ps_i, ps_n, Option.bind_some, sm_0, sm_1, sm_2, sm_3, sm_4, sto_0, sto_1, sto_2, sto_3, sto_4, sto_5, sto_6, sto_7, sto_8, sto_9, sto_10, sto_11, sto_12, sto_13, sto_14, nlo_n, nlo_i, nlo_r, nlo_0, nlo_l, and_self, or_self, Nat.reduceEqDiff, Nat.reduceLT, Nat.reduceLeDiff, Nat.one_ne_zero, Nat.zero_ne_one, w0, f0, r7, m0, q0, a1, a2, e10, q8, b8a, b8b, k2, hs4, tt, kf2])
    · have hb' : bs = 8 ∨ bs = 16 ∨ bs = 32 := by omega
      have nb0 : ¬ nI bs = nI 0 := nI_ne c0 (by omega) (by omega)
      refine go_c hi ?_
      intro e he
      obtain ⟨e, rfl⟩ : ∃ d, e = d + 1 := ⟨e - 1, by omega⟩
      obtain ⟨M1, p1, p2, p3⟩ := c111l (X := fun k => M (103 + 3 * s) k) (x1 := some (.int (nI s))) hh hs4 (fun _ _ => rfl) (by omega : min n (E 0) ≤ 6) (e := e) (by omega) (min n (E 0)) 0 E M (by omega) (by omega) hi.1 hm rfl
      have hR1 := RC_mg p3 hR
      obtain ⟨M2, s1, s2, s3⟩ := r216l (X := fun k => M (103 + 3 * s) k) (Y := fun k => M 125 (40 * s + k)) (ns := n) (mo := min n (E 0)) md hs4 (by omega) (fun k hk j hj => Sv_n hb' (t5 k (by omega)) hj) (e := e) (by omega) (min n (E 0)) 0 E M1 (by omega) (by omega) rfl hn h6 hR1 (fun k _ => by rw [p3 (115 + 10) (by omega)]) (by rw [p3 (115 + 9) (by omega)]; exact t4)
      obtain ⟨w1, w2⟩ := prE_p (X := fun k => M (103 + 3 * s) k) (min n (E 0)) 0 E hi.1 (by omega)
      refine ⟨nI (prN (fun k => M (103 + 3 * s) k) (min n (E 0)) 0), M1, M2, _, z, ?_, p2, p3, ?_, rg_ld s3, s2, w1, w2 6 (by omega), w2 7 (by omega)⟩
      · have k1 := c121 (M := M) hh hs4 (e := e) (by omega)
        have k5 := c55 (M := M) hh hs4 t1 (by omega) (e := e) (by omega)
        rw [if_neg c0] at k5
        have kn := n32e (M := M) nb.1 (e := e) (by omega)
        rw [t3] at kn
        have k6 := c6e (M := M) mk (e := e) (by omega)
        rw [hs.1] at k6
        have mi : ∀ a b : Nat, (if a < b then nI a else nI b) = nI (min a b) := fun a b => min_1
        rw [j_C_eq]
        simp (disch := omega) only [st_111_0, st_111_1, st_111_2, st_111_5, st_111_5N, st_111_6, st_111_6N, st_111_7, st_111_7N, st_111_10, st_111_11, st_111_12, st_111_15, st_111_16, st_111_16N, st_111_17, st_111_20, st_111_23, st_111_24, st_111_25, st_111_28, st_111_29, st_111_29N, st_111_30, st_111_33, st_111_36, st_111_37, st_111_40, st_111_43, st_111_46, st_111_47, st_111_48, ini_111, fs_cl, fs_len, fs_rf, fs_M, fs_put, fs_cpy, ↓reduceIte, rv_ref, true_or, or_true, true_and, and_true, nI_ltI, ix_nI, nI_clamp, ps_i, ps_n, Option.bind_some, sm_0, sm_1, sm_2, sm_3, sm_4, sto_0, sto_1, sto_2, sto_3, sto_4, sto_5, sto_6, sto_7, sto_8, sto_9, sto_10, sto_11, sto_12, sto_13, sto_14, nlo_n, nlo_i, nlo_r, nlo_0, nlo_l, and_self, or_self, Nat.reduceEqDiff, Nat.reduceLT, Nat.reduceLeDiff, Nat.one_ne_zero, Nat.zero_ne_one, w0, f0, mk.1, rk, rf0, nb.1, k1, k5, kn, k6, min_1, min_2]
        first | exact p1 | (rw [Nat.min_comm]; exact p1)
      · have k2 := r212 (σ := FS h M1) hs4 (e := e) (by omega)
        have u2 : M1 (115 + 8) s = nI bs := by rw [p3 (115 + 8) (by omega)]; exact t2
        rw [j_C_eq]
        simp (disch := omega) only [st_216_0, st_216_1, st_216_4, st_216_7, st_216_8, st_216_9, st_216_12, st_216_13, st_216_14, st_216_17, st_216_18, st_216_19, st_216_22, st_216_23, st_216_24, st_216_27, st_216_28, st_216_29, ini_216, fs_cl, fs_len, fs_rf, fs_M, fs_put, fs_cpy, ↓reduceIte, rv_ref, true_or, or_true, true_and, and_true, nI_ltI, ix_nI, nI_clamp, ps_i, ps_n, Option.bind_some, sm_0, sm_1, sm_2, sm_3, sm_4, sto_0, sto_1, sto_2, sto_3, sto_4, sto_5, sto_6, sto_7, sto_8, sto_9, sto_10, sto_11, sto_12, sto_13, sto_14, nlo_n, nlo_i, nlo_r, nlo_0, nlo_l, and_self, or_self, Nat.reduceEqDiff, Nat.reduceLT, Nat.reduceLeDiff, Nat.one_ne_zero, Nat.zero_ne_one, m0, q8, b8a, b8b, k2, e10, hs4, u2, nb0]
        exact s1
  · refine go_f0 hi (k := 1) ?_
    intro e he
    obtain ⟨e, rfl⟩ : ∃ d, e = d + 1 := ⟨e - 1, by omega⟩
    have k1 := c121n (M := M) hh hx (e := e) (by omega)
    have kf := c119 (M := M) hh (k := 1) (by omega) (e := e) (by omega)
    refine ⟨by (rw [j_C_eq]; simp (disch := omega) only [st_111_0, st_111_1, st_111_2, st_111_5, st_111_5N, st_111_6, st_111_6N, st_111_7, st_111_7N, st_111_10, st_111_11, st_111_12, st_111_15, st_111_16, st_111_16N, st_111_17, st_111_20, st_111_23, st_111_24, st_111_25, st_111_28, st_111_29, st_111_29N, st_111_30, st_111_33, st_111_36, st_111_37, st_111_40, st_111_43, st_111_46, st_111_47, st_111_48, st_111_52, st_111_53, st_111_56, st_111_56N, st_111_57, st_111_60, st_111_62, st_111_65, st_111_68, st_111_71, st_111_72, st_111_75, st_111_78, st_111_80, st_111_80N, st_111_81, st_111_84, st_111_86, st_111_89, st_111_92, st_111_95, st_111_98, st_111_100, ini_111, fs_cl, fs_len, fs_rf, fs_M, fs_put, fs_cpy, ↓reduceIte, rv_ref, true_or, or_true, true_and, and_true, nI_ltI, ix_nI, nI_clamp, ps_i, ps_n, Option.bind_some, sm_0, sm_1, sm_2, sm_3, sm_4, sto_0, sto_1, sto_2, sto_3, sto_4, sto_5, sto_6, sto_7, sto_8, sto_9, sto_10, sto_11, sto_12, sto_13, sto_14, nlo_n, nlo_i, nlo_r, nlo_0, nlo_l, and_self, or_self, Nat.reduceEqDiff, Nat.reduceLT, Nat.reduceLeDiff, Nat.one_ne_zero, Nat.zero_ne_one, w0, f0, r7, m0, q0, a1, a2, e10, k1, kf]), fun M' hR' => ?_⟩
    have k2 := r212n (σ := FS h M') hx (e := e) (by omega)
    have kf := r142 (M := M') md (k := 1) (by omega) (e := e) (by omega)
    (rw [j_C_eq]; simp (disch := omega) only [st_216_0, st_216_1, st_216_4, st_216_7, st_216_8, st_216_9, st_216_12, st_216_13, st_216_14, st_216_17, st_216_18, st_216_19, st_216_22, st_216_23, st_216_24, st_216_27, st_216_28, st_216_29, st_216_31, st_216_32, st_216_35, st_216_36, st_216_37, st_216_40, st_216_41, st_216_42, st_216_45, st_216_46, st_216_47, st_216_50, st_216_51, st_216_54, st_216_56, st_216_57, st_216_58, st_216_59, st_216_60, st_216_61, st_216_62, st_216_63, st_216_66, st_216_69, st_216_72, st_216_73, st_216_76, st_216_78, st_216_79, st_216_80, st_216_81, st_216_82, st_216_83, st_216_84, st_216_85, st_216_88, st_216_90, st_216_91, st_216_92, st_216_93, st_216_94, st_216_95, st_216_96, st_216_99, st_216_102, st_216_103, ini_216, fs_cl, fs_len, fs_rf, fs_M, fs_put, fs_cpy, ↓reduceIte, rv_ref, true_or, or_true, true_and, and_true, nI_ltI, ix_nI, nI_clamp, ps_i, ps_n, Option.bind_some, sm_0, sm_1, sm_2, sm_3, sm_4, sto_0, sto_1, sto_2, sto_3, sto_4, sto_5, sto_6, sto_7, sto_8, sto_9, sto_10, sto_11, sto_12, sto_13, sto_14, nlo_n, nlo_i, nlo_r, nlo_0, nlo_l, and_self, or_self, Nat.reduceEqDiff, Nat.reduceLT, Nat.reduceLeDiff, Nat.one_ne_zero, Nat.zero_ne_one, w0, f0, r7, m0, q0, a1, a2, e10, k2, kf])
def jdN (X : Nat → Int32) (E : Nat → Nat) : Nat → Nat → Nat
  | 0, k => k
  | r + 1, k => if X k = nI (E (39 + 5 * k)) then jdN X E r (k + 1) else k
theorem jdN_le : ∀ r k, k ≤ jdN X E r k ∧ jdN X E r k ≤ r + k := by
  intro r
  induction r with
  | zero => intro k; exact ⟨Nat.le_refl _, by show k ≤ 0 + k; omega⟩
  | succ r ih =>
    intro k
    unfold jdN
    split
    · have := ih (k + 1); omega
    · omega
def jdA (k n m : Nat) : Int32 := if k = n ∧ k = m then -1 else nI k
theorem g_judge (hh : Hd h) (hi : IE M E z K0 K1 T W) (x : Int32) : Go h M 112 217 [.int x] := by
  have w0 := hh.1.1
  have f0 := hh.1.2.1
  have r7 := hh.1.2.2.2.2.2.2.2.1
  have mk := hh.2.1.1
  have th := hh.2.2.2.1.1
  have md : Md h 115 := hh.2.2.2.2.2.2.2.1
  have m0 := md.1
  have q0 := md.2.1.1
  have a1 := md.2.1.2.1
  have a2 := md.2.1.2.2.1
  have hw := hi.1.1
  have h6 := hw.1
  have h8 := hw.2.1
  have hm := hi.2.1.1
  have hs := hm.1
  have hR : RC M 115 E z K0 K1 := hi.2.2.1.1
  have sd := hi.2.2.2.1
  have e10 : ¬ nI 1 = nI 0 := by decide +kernel
  have hSP := hi.2.2.2.2.2.2.2.2.1
  have q8 := md.2.2.2.2.2.2.2.2.1.1
  have b8a := md.2.2.2.2.2.2.2.2.1.2.1
  have b8b := md.2.2.2.2.2.2.2.2.1.2.2.1
  have q9 := md.2.2.2.2.2.2.2.2.2.1.1
  have b9a := md.2.2.2.2.2.2.2.2.2.1.2.1
  have b9b := md.2.2.2.2.2.2.2.2.2.1.2.2.1
  have qa := md.2.2.2.2.2.2.2.2.2.2.1.1
  have baa := md.2.2.2.2.2.2.2.2.2.2.1.2.1
  have bab := md.2.2.2.2.2.2.2.2.2.2.1.2.2.1
  by_cases hx : ∃ j, 0 ≤ j ∧ j ≤ 3 ∧ x = nI j
  · obtain ⟨s, _, hs3, rfl⟩ := hx
    have hs4 : s < 4 := by omega
    obtain ⟨bs, n, hb, hn, h0, t1, t2, t3, t4, t5⟩ := hSP s hs4
    obtain ⟨_, rk, rf0, nb⟩ := hh.2.2.2.2.2.1.2.2 s hs4
    by_cases c0 : bs = 0
    · refine go_f hi (k := 2) ?_
      intro e he
      obtain ⟨e, rfl⟩ : ∃ d, e = d + 1 := ⟨e - 1, by omega⟩
      have k1 := c121 (M := M) hh hs4 (e := e) (by omega)
      have k5 := c55 (M := M) hh hs4 t1 (by omega) (e := e) (by omega)
      rw [if_pos c0] at k5
      have kf := c119 (M := M) hh (k := 2) (by omega) (e := e) (by omega)
      have k2 := r212 (σ := FS h (fc 2 M)) hs4 (e := e) (by omega)
      have kf2 := r142 (M := fc 2 M) md (k := 2) (by omega) (e := e) (by omega)
      have tt : fc 2 M 123 s = nI bs := by unfold fc; rw [up_o _ _ _ _ _ (by omega)]; exact t2
      rw [c0] at tt
      refine ⟨M, fc 2 M, ?_, cq_r, sd, ?_, rg_r, RC_fc hR⟩
      · (rw [j_C_eq]; simp (disch := omega) only [st_112_0, st_112_1, st_112_2, st_112_5, st_112_5N, st_112_6, st_112_6N, st_112_7, st_112_7N, st_112_10, st_112_11, st_112_12, st_112_15, st_112_16, st_112_16N, st_112_17, st_112_20, st_112_23, st_112_24, st_112_25, st_112_28, st_112_29, st_112_29N, st_112_30, st_112_33, st_112_34, st_112_37, st_112_40, st_112_43, ini_112, fs_cl, fs_len, fs_rf, fs_M, fs_put, fs_cpy, ↓reduceIte, rv_ref, true_or, or_true, true_and, and_true, nI_ltI, ix_nI, nI_clamp, ps_i, ps_n, Option.bind_some, sm_0, sm_1, sm_2, sm_3, sm_4, sto_0, sto_1, sto_2, sto_3, sto_4, sto_5, sto_6, sto_7, sto_8, sto_9, sto_10, sto_11, sto_12, sto_13, sto_14, nlo_n, nlo_i, nlo_r, nlo_0, nlo_l, and_self, or_self, Nat.reduceEqDiff, Nat.reduceLT, Nat.reduceLeDiff, Nat.one_ne_zero, Nat.zero_ne_one, w0, f0, r7, m0, q0, a1, a2, e10, k1, rk, k5, kf])
      · (rw [j_C_eq]; simp (disch := omega) only [st_217_0, st_217_1, st_217_4, st_217_7, st_217_8, st_217_9, st_217_12, st_217_13, st_217_14, st_217_17, st_217_18, st_217_19, st_217_22, st_217_23, st_217_24, st_217_27, st_217_28, st_217_29, st_217_31, st_217_32, st_217_35, st_217_36, st_217_37, st_217_40, st_217_41, st_217_42, st_217_45, st_217_46, st_217_47, st_217_50, st_217_51, st_217_54, st_217_56, st_217_57, st_217_58, st_217_59, st_217_60, st_217_61, st_217_62, st_217_63, st_217_64, st_217_67, st_217_70, st_217_73, st_217_76, st_217_77, st_217_78, st_217_81, st_217_82, st_217_83, st_217_86, st_217_87, st_217_88, st_217_91, st_217_92, st_217_93, st_217_96, st_217_97, st_217_100, st_217_101, ini_217, fs_cl, fs_len, fs_rf, fs_M, fs_put, fs_cpy, ↓reduceIte, rv_ref, true_or, or_true, true_and, and_true, nI_ltI, ix_nI, nI_clamp, ps_i, ps_n, Option.bind_some, sm_0, sm_1, sm_2, sm_3, sm_4, sto_0, sto_1, sto_2, sto_3, sto_4, sto_5, sto_6, sto_7, sto_8, sto_9, sto_10, sto_11, sto_12, sto_13, sto_14, nlo_n, nlo_i, nlo_r, nlo_0, nlo_l, and_self, or_self, Nat.reduceEqDiff, Nat.reduceLT, Nat.reduceLeDiff, Nat.one_ne_zero, Nat.zero_ne_one, w0, f0, r7, m0, q0, a1, a2, e10, q8, b8a, b8b, k2, hs4, tt, kf2])
    · have hb' : bs = 8 ∨ bs = 16 ∨ bs = 32 := by omega
      have nb0 : ¬ nI bs = nI 0 := nI_ne c0 (by omega) (by omega)
      have x6 := (Mk_6 mk).1
      have y6 := (Mk_6 mk).2
      have s6 : M 15 1 = nI (E 1) := hs.2.2.2.2.2.2.1
      refine go_q hi ?_
      intro e he
      obtain ⟨e, rfl⟩ : ∃ d, e = d + 1 := ⟨e - 1, by omega⟩
      -- the class
      have L : ∀ r k e, 2 ≤ e → r + k = min n (E 1) → j_X e 131 14 [some (.ref (102 + 3 * s)), some (.ref 15), some (.int (nI (min n (E 1)))), some (.int (nI k))] [] (FS h M) = some (some (.int (jdA (jdN (M (103 + 3 * s)) E r k) n (E 1))), FS h M) := by
        intro r
        induction r with
        | zero =>
          intro k e he hr
          have e1 : ¬ min n (E 1) < min n (E 1) := by omega
          have ek : k = min n (E 1) := by omega
          have kn := n32e (M := M) nb.1 (e := e) (by omega)
          rw [t3] at kn
          have km := n32e (M := M) y6.1 (e := e) (by omega)
          rw [s6] at km
          unfold jdN jdA
          rw [ek, st_131_14]
          by_cases c1 : n = E 1
          · rw [if_pos (by omega)]
            simp (disch := omega) only [st_131_0, st_131_1, st_131_4, st_131_5, st_131_8, st_131_11, st_131_12, st_131_13, st_131_15, st_131_16, st_131_19, st_131_20, st_131_21, st_131_24, st_131_25, st_131_26, st_131_29, st_131_32, st_131_33, st_131_34, st_131_37, st_131_40, st_131_41, st_131_44, st_131_45, st_131_48, st_131_51, st_131_52, st_131_55, st_131_56, ini_131, fs_cl, fs_len, fs_rf, fs_M, fs_put, fs_cpy, ↓reduceIte, rv_ref, true_or, or_true, true_and, and_true, nI_ltI, ix_nI, nI_clamp, ps_i, ps_n, Option.bind_some, sm_0, sm_1, sm_2, sm_3, sm_4, sto_0, sto_1, sto_2, sto_3, sto_4, sto_5, sto_6, sto_7, sto_8, sto_9, sto_10, sto_11, sto_12, sto_13, sto_14, nlo_n, nlo_i, nlo_r, nlo_0, nlo_l, and_self, or_self, Nat.reduceEqDiff, Nat.reduceLT, Nat.reduceLeDiff, Nat.one_ne_zero, Nat.zero_ne_one, nb.1, y6.1, e1, kn, km, nI_eq, eq_true c1]
          · rw [if_neg (by omega)]
            simp (disch := omega) only [st_131_0, st_131_1, st_131_4, st_131_5, st_131_8, st_131_11, st_131_12, st_131_13, st_131_15, st_131_16, st_131_19, st_131_20, st_131_21, st_131_24, st_131_25, st_131_26, st_131_29, st_131_32, st_131_33, st_131_34, st_131_37, st_131_40, st_131_41, st_131_44, st_131_45, st_131_48, st_131_51, st_131_52, st_131_55, st_131_56, ini_131, fs_cl, fs_len, fs_rf, fs_M, fs_put, fs_cpy, ↓reduceIte, rv_ref, true_or, or_true, true_and, and_true, nI_ltI, ix_nI, nI_clamp, ps_i, ps_n, Option.bind_some, sm_0, sm_1, sm_2, sm_3, sm_4, sto_0, sto_1, sto_2, sto_3, sto_4, sto_5, sto_6, sto_7, sto_8, sto_9, sto_10, sto_11, sto_12, sto_13, sto_14, nlo_n, nlo_i, nlo_r, nlo_0, nlo_l, and_self, or_self, Nat.reduceEqDiff, Nat.reduceLT, Nat.reduceLeDiff, Nat.one_ne_zero, Nat.zero_ne_one, nb.1, y6.1, e1, kn, km, nI_eq, c1]
        | succ r ih =>
          intro k e he hr
          have e1 : k < min n (E 1) := by omega
          have g1 := n33ie (M := M) nb (by omega : k < 40) (e := e) (by omega)
          have g2 := n33ie (M := M) y6 (by omega : k < 8) (e := e) (by omega)
          rw [(hm.2.2.1 k (by omega)).2.1] at g2
          unfold jdN
          rw [st_131_14]
          by_cases c1 : M (103 + 3 * s) k = nI (E (39 + 5 * k))
          · rw [if_pos c1]
            have hX := ih (k + 1) e he (by omega)
            simp (disch := omega) only [st_131_0, st_131_1, st_131_4, st_131_5, st_131_8, st_131_11, st_131_12, st_131_13, st_131_15, st_131_16, st_131_19, st_131_20, st_131_21, st_131_24, st_131_25, st_131_26, st_131_29, st_131_32, st_131_33, st_131_34, st_131_37, st_131_40, st_131_41, st_131_44, st_131_45, st_131_48, st_131_51, st_131_52, st_131_55, st_131_56, ini_131, fs_cl, fs_len, fs_rf, fs_M, fs_put, fs_cpy, ↓reduceIte, rv_ref, true_or, or_true, true_and, and_true, nI_ltI, ix_nI, nI_clamp, ps_i, ps_n, Option.bind_some, sm_0, sm_1, sm_2, sm_3, sm_4, sto_0, sto_1, sto_2, sto_3, sto_4, sto_5, sto_6, sto_7, sto_8, sto_9, sto_10, sto_11, sto_12, sto_13, sto_14, nlo_n, nlo_i, nlo_r, nlo_0, nlo_l, and_self, or_self, Nat.reduceEqDiff, Nat.reduceLT, Nat.reduceLeDiff, Nat.one_ne_zero, Nat.zero_ne_one, nb.1, y6.1, e1, g1, g2, eq_true c1, nI_add, hX]
          · rw [if_neg c1]
            have ja : jdA k n (E 1) = nI k := by unfold jdA; rw [if_neg (by omega)]
            rw [ja]
            simp (disch := omega) only [st_131_0, st_131_1, st_131_4, st_131_5, st_131_8, st_131_11, st_131_12, st_131_13, st_131_15, st_131_16, st_131_19, st_131_20, st_131_21, st_131_24, st_131_25, st_131_26, st_131_29, st_131_32, st_131_33, st_131_34, st_131_37, st_131_40, st_131_41, st_131_44, st_131_45, st_131_48, st_131_51, st_131_52, st_131_55, st_131_56, ini_131, fs_cl, fs_len, fs_rf, fs_M, fs_put, fs_cpy, ↓reduceIte, rv_ref, true_or, or_true, true_and, and_true, nI_ltI, ix_nI, nI_clamp, ps_i, ps_n, Option.bind_some, sm_0, sm_1, sm_2, sm_3, sm_4, sto_0, sto_1, sto_2, sto_3, sto_4, sto_5, sto_6, sto_7, sto_8, sto_9, sto_10, sto_11, sto_12, sto_13, sto_14, nlo_n, nlo_i, nlo_r, nlo_0, nlo_l, and_self, or_self, Nat.reduceEqDiff, Nat.reduceLT, Nat.reduceLeDiff, Nat.one_ne_zero, Nat.zero_ne_one, nb.1, y6.1, e1, g1, g2, c1]
      have L2 : ∀ r k, r + k = min n (E 1) → j_X e 217 30 [some (.ref 115), some (.int (nI s)), some (.int (nI k))] [] (FS h M) = some (some (.int (jdA (jdN (M (103 + 3 * s)) E r k) n (E 1))), FS h M) := by
        have g1 := hR.1.1 1 (by omega) (by omega)
        have t4' : M (115 + 9) s = nI n := t4
        -- the end
        have En : ∀ k, k ≤ 40 → j_X e 217 76 [some (.ref 115), some (.int (nI s)), some (.int (nI k))] [] (FS h M) = some (some (.int (jdA k n (E 1))), FS h M) := by
          intro k hk
          unfold jdA
          by_cases c1 : k = n
          · by_cases c2 : k = E 1
            · rw [if_pos ⟨c1, c2⟩]
              simp (disch := omega) only [st_217_76, st_217_77, st_217_78, st_217_81, st_217_82, st_217_83, st_217_86, st_217_87, st_217_88, st_217_91, st_217_92, st_217_93, st_217_96, st_217_97, st_217_100, st_217_101, ini_217, fs_cl, fs_len, fs_rf, fs_M, fs_put, fs_cpy, ↓reduceIte, rv_ref, true_or, or_true, true_and, and_true, nI_ltI, ix_nI, nI_clamp, ps_i, ps_n, Option.bind_some, sm_0, sm_1, sm_2, sm_3, sm_4, sto_0, sto_1, sto_2, sto_3, sto_4, sto_5, sto_6, sto_7, sto_8, sto_9, sto_10, sto_11, sto_12, sto_13, sto_14, nlo_n, nlo_i, nlo_r, nlo_0, nlo_l, and_self, or_self, Nat.reduceEqDiff, Nat.reduceLT, Nat.reduceLeDiff, Nat.one_ne_zero, Nat.zero_ne_one, m0, q0, a1, a2, q9, b9a, b9b, hs4, t4', g1, nI_eq, eq_true c1, eq_true c2]
            · rw [if_neg (fun hh => c2 hh.2)]
              simp (disch := omega) only [st_217_76, st_217_77, st_217_78, st_217_81, st_217_82, st_217_83, st_217_86, st_217_87, st_217_88, st_217_91, st_217_92, st_217_93, st_217_96, st_217_97, st_217_100, st_217_101, ini_217, fs_cl, fs_len, fs_rf, fs_M, fs_put, fs_cpy, ↓reduceIte, rv_ref, true_or, or_true, true_and, and_true, nI_ltI, ix_nI, nI_clamp, ps_i, ps_n, Option.bind_some, sm_0, sm_1, sm_2, sm_3, sm_4, sto_0, sto_1, sto_2, sto_3, sto_4, sto_5, sto_6, sto_7, sto_8, sto_9, sto_10, sto_11, sto_12, sto_13, sto_14, nlo_n, nlo_i, nlo_r, nlo_0, nlo_l, and_self, or_self, Nat.reduceEqDiff, Nat.reduceLT, Nat.reduceLeDiff, Nat.one_ne_zero, Nat.zero_ne_one, m0, q0, a1, a2, q9, b9a, b9b, hs4, t4', g1, nI_eq, eq_true c1, c2]
          · rw [if_neg (fun hh => c1 hh.1)]
            simp (disch := omega) only [st_217_76, st_217_77, st_217_78, st_217_81, st_217_82, st_217_83, st_217_86, st_217_87, st_217_88, st_217_91, st_217_92, st_217_93, st_217_96, st_217_97, st_217_100, st_217_101, ini_217, fs_cl, fs_len, fs_rf, fs_M, fs_put, fs_cpy, ↓reduceIte, rv_ref, true_or, or_true, true_and, and_true, nI_ltI, ix_nI, nI_clamp, ps_i, ps_n, Option.bind_some, sm_0, sm_1, sm_2, sm_3, sm_4, sto_0, sto_1, sto_2, sto_3, sto_4, sto_5, sto_6, sto_7, sto_8, sto_9, sto_10, sto_11, sto_12, sto_13, sto_14, nlo_n, nlo_i, nlo_r, nlo_0, nlo_l, and_self, or_self, Nat.reduceEqDiff, Nat.reduceLT, Nat.reduceLeDiff, Nat.one_ne_zero, Nat.zero_ne_one, m0, q0, a1, a2, q9, b9a, b9b, hs4, t4', g1, nI_eq, c1]
        intro r
        induction r with
        | zero =>
          intro k hr
          have hE := En k (by omega)
          unfold jdN
          rw [st_217_30]
          by_cases c1 : k < n
          · have c2 : ¬ k < E 1 := by omega
            simp (disch := omega) only [st_217_31, st_217_32, st_217_35, st_217_36, st_217_37, st_217_40, st_217_41, st_217_42, st_217_45, st_217_46, st_217_47, st_217_50, st_217_51, st_217_54, st_217_56, st_217_57, st_217_58, st_217_59, st_217_60, st_217_61, st_217_62, st_217_63, st_217_64, st_217_67, st_217_70, st_217_73, ini_217, fs_cl, fs_len, fs_rf, fs_M, fs_put, fs_cpy, ↓reduceIte, rv_ref, true_or, or_true, true_and, and_true, nI_ltI, ix_nI, nI_clamp, ps_i, ps_n, Option.bind_some, sm_0, sm_1, sm_2, sm_3, sm_4, sto_0, sto_1, sto_2, sto_3, sto_4, sto_5, sto_6, sto_7, sto_8, sto_9, sto_10, sto_11, sto_12, sto_13, sto_14, nlo_n, nlo_i, nlo_r, nlo_0, nlo_l, and_self, or_self, Nat.reduceEqDiff, Nat.reduceLT, Nat.reduceLeDiff, Nat.one_ne_zero, Nat.zero_ne_one, m0, q0, a1, a2, q9, b9a, b9b, hs4, t4', c1, g1, c2, hE]
          · simp (disch := omega) only [st_217_31, st_217_32, st_217_35, st_217_36, st_217_37, st_217_40, st_217_41, st_217_42, st_217_45, st_217_46, st_217_47, st_217_50, st_217_51, st_217_54, st_217_56, st_217_57, st_217_58, st_217_59, st_217_60, st_217_61, st_217_62, st_217_63, st_217_64, st_217_67, st_217_70, st_217_73, ini_217, fs_cl, fs_len, fs_rf, fs_M, fs_put, fs_cpy, ↓reduceIte, rv_ref, true_or, or_true, true_and, and_true, nI_ltI, ix_nI, nI_clamp, ps_i, ps_n, Option.bind_some, sm_0, sm_1, sm_2, sm_3, sm_4, sto_0, sto_1, sto_2, sto_3, sto_4, sto_5, sto_6, sto_7, sto_8, sto_9, sto_10, sto_11, sto_12, sto_13, sto_14, nlo_n, nlo_i, nlo_r, nlo_0, nlo_l, and_self, or_self, Nat.reduceEqDiff, Nat.reduceLT, Nat.reduceLeDiff, Nat.one_ne_zero, Nat.zero_ne_one, m0, q9, b9a, b9b, hs4, t4', c1, hE]
        | succ r ih =>
          intro k hr
          have c1 : k < n := by omega
          have c2 : k < E 1 := by omega
          have ix : 40 * s + k < 160 := by omega
          have gh := r148e (M := M) md (t := k) (k := 1) (by omega) (e := e) (by omega)
          rw [show 38 + 5 * k + 1 = 39 + 5 * k by omega, hR.1.1 _ (by omega) (by omega)] at gh
          have ch := (hw.2.2.2.2.2.2.2 k c2).2.2.1
          have sv := Sv_n hb' (t5 k c1) (by omega : E (39 + 5 * k) < 128)
          unfold jdN
          rw [st_217_30]
          by_cases c3 : M (103 + 3 * s) k = nI (E (39 + 5 * k))
          · rw [if_pos c3]
            have c4 : M (115 + 10) (40 * s + k) = nI (E (39 + 5 * k)) := sv.mp c3
            have hX := ih (k + 1) (by omega)
            simp (disch := omega) only [st_217_31, st_217_32, st_217_35, st_217_36, st_217_37, st_217_40, st_217_41, st_217_42, st_217_45, st_217_46, st_217_47, st_217_50, st_217_51, st_217_54, st_217_56, st_217_57, st_217_58, st_217_59, st_217_60, st_217_61, st_217_62, st_217_63, st_217_64, st_217_67, st_217_70, st_217_73, ini_217, fs_cl, fs_len, fs_rf, fs_M, fs_put, fs_cpy, ↓reduceIte, rv_ref, true_or, or_true, true_and, and_true, nI_ltI, ix_nI, nI_clamp, ps_i, ps_n, Option.bind_some, sm_0, sm_1, sm_2, sm_3, sm_4, sto_0, sto_1, sto_2, sto_3, sto_4, sto_5, sto_6, sto_7, sto_8, sto_9, sto_10, sto_11, sto_12, sto_13, sto_14, nlo_n, nlo_i, nlo_r, nlo_0, nlo_l, and_self, or_self, Nat.reduceEqDiff, Nat.reduceLT, Nat.reduceLeDiff, Nat.one_ne_zero, Nat.zero_ne_one, m0, q0, a1, a2, q9, b9a, b9b, qa, baa, bab, hs4, t4', c1, g1, c2, nI_mul, nI_add, ix, gh, eq_true c4, hX]
          · rw [if_neg c3]
            have c4 : ¬ M (115 + 10) (40 * s + k) = nI (E (39 + 5 * k)) := fun hh => c3 (sv.mpr hh)
            have hE := En k (by omega)
            simp (disch := omega) only [st_217_31, st_217_32, st_217_35, st_217_36, st_217_37, st_217_40, st_217_41, st_217_42, st_217_45, st_217_46, st_217_47, st_217_50, st_217_51, st_217_54, st_217_56, st_217_57, st_217_58, st_217_59, st_217_60, st_217_61, st_217_62, st_217_63, st_217_64, st_217_67, st_217_70, st_217_73, ini_217, fs_cl, fs_len, fs_rf, fs_M, fs_put, fs_cpy, ↓reduceIte, rv_ref, true_or, or_true, true_and, and_true, nI_ltI, ix_nI, nI_clamp, ps_i, ps_n, Option.bind_some, sm_0, sm_1, sm_2, sm_3, sm_4, sto_0, sto_1, sto_2, sto_3, sto_4, sto_5, sto_6, sto_7, sto_8, sto_9, sto_10, sto_11, sto_12, sto_13, sto_14, nlo_n, nlo_i, nlo_r, nlo_0, nlo_l, and_self, or_self, Nat.reduceEqDiff, Nat.reduceLT, Nat.reduceLeDiff, Nat.one_ne_zero, Nat.zero_ne_one, m0, q0, a1, a2, q9, b9a, b9b, qa, baa, bab, hs4, t4', c1, g1, c2, nI_mul, nI_add, ix, gh, c4, hE]
      have k1 := c121 (M := M) hh hs4 (e := e) (by omega)
      have k5 := c55 (M := M) hh hs4 t1 (by omega) (e := e) (by omega)
      rw [if_neg c0] at k5
      refine ⟨jdA (jdN (M (103 + 3 * s)) E (min n (E 1)) 0) n (E 1), M, M, ?_, cq_r, sd, ?_, rg_r, hR⟩
      · have k131 : j_C e 131 [.ref (102 + 3 * s), .ref 15] (FS h M) = some (some (.int (jdA (jdN (M (103 + 3 * s)) E (min n (E 1)) 0) n (E 1))), FS h M) := by
          obtain ⟨e, rfl⟩ : ∃ d, e = d + 1 := ⟨e - 1, by omega⟩
          have kn := n32e (M := M) nb.1 (e := e) (by omega)
          rw [t3] at kn
          have km := n32e (M := M) y6.1 (e := e) (by omega)
          rw [s6] at km
          have hX := L (min n (E 1)) 0 e (by omega) (by omega)
          rw [j_C_eq]
          simp (disch := omega) only [st_131_0, st_131_1, st_131_4, st_131_5, st_131_8, st_131_11, st_131_12, st_131_13, ini_131, fs_cl, fs_len, fs_rf, fs_M, fs_put, fs_cpy, ↓reduceIte, rv_ref, true_or, or_true, true_and, and_true, nI_ltI, ix_nI, nI_clamp, ps_i, ps_n, Option.bind_some, sm_0, sm_1, sm_2, sm_3, sm_4, sto_0, sto_1, sto_2, sto_3, sto_4, sto_5, sto_6, sto_7, sto_8, sto_9, sto_10, sto_11, sto_12, sto_13, sto_14, nlo_n, nlo_i, nlo_r, nlo_0, nlo_l, and_self, or_self, Nat.reduceEqDiff, Nat.reduceLT, Nat.reduceLeDiff, Nat.one_ne_zero, Nat.zero_ne_one, nb.1, y6.1, kn, km, min_1, min_2]
          first | exact hX | (rw [Nat.min_comm]; exact hX)
        (rw [j_C_eq]; simp (disch := omega) only [st_112_0, st_112_1, st_112_2, st_112_5, st_112_5N, st_112_6, st_112_6N, st_112_7, st_112_7N, st_112_10, st_112_11, st_112_12, st_112_15, st_112_16, st_112_16N, st_112_17, st_112_20, st_112_23, st_112_24, st_112_25, st_112_28, st_112_29, st_112_29N, st_112_30, st_112_33, st_112_34, st_112_37, st_112_40, st_112_43, ini_112, fs_cl, fs_len, fs_rf, fs_M, fs_put, fs_cpy, ↓reduceIte, rv_ref, true_or, or_true, true_and, and_true, nI_ltI, ix_nI, nI_clamp, ps_i, ps_n, Option.bind_some, sm_0, sm_1, sm_2, sm_3, sm_4, sto_0, sto_1, sto_2, sto_3, sto_4, sto_5, sto_6, sto_7, sto_8, sto_9, sto_10, sto_11, sto_12, sto_13, sto_14, nlo_n, nlo_i, nlo_r, nlo_0, nlo_l, and_self, or_self, Nat.reduceEqDiff, Nat.reduceLT, Nat.reduceLeDiff, Nat.one_ne_zero, Nat.zero_ne_one, w0, f0, r7, m0, q0, a1, a2, e10, mk.1, k1, rk, rf0, k5, x6, k131])
      · have k2 := r212 (σ := FS h M) hs4 (e := e) (by omega)
        have u2 : M (115 + 8) s = nI bs := t2
        have hX := L2 (min n (E 1)) 0 (by omega)
        rw [j_C_eq]
        simp (disch := omega) only [st_217_0, st_217_1, st_217_4, st_217_7, st_217_8, st_217_9, st_217_12, st_217_13, st_217_14, st_217_17, st_217_18, st_217_19, st_217_22, st_217_23, st_217_24, st_217_27, st_217_28, st_217_29, ini_217, fs_cl, fs_len, fs_rf, fs_M, fs_put, fs_cpy, ↓reduceIte, rv_ref, true_or, or_true, true_and, and_true, nI_ltI, ix_nI, nI_clamp, ps_i, ps_n, Option.bind_some, sm_0, sm_1, sm_2, sm_3, sm_4, sto_0, sto_1, sto_2, sto_3, sto_4, sto_5, sto_6, sto_7, sto_8, sto_9, sto_10, sto_11, sto_12, sto_13, sto_14, nlo_n, nlo_i, nlo_r, nlo_0, nlo_l, and_self, or_self, Nat.reduceEqDiff, Nat.reduceLT, Nat.reduceLeDiff, Nat.one_ne_zero, Nat.zero_ne_one, m0, q8, b8a, b8b, k2, e10, hs4, u2, nb0]
        exact hX
  · refine go_f0 hi (k := 1) ?_
    intro e he
    obtain ⟨e, rfl⟩ : ∃ d, e = d + 1 := ⟨e - 1, by omega⟩
    have k1 := c121n (M := M) hh hx (e := e) (by omega)
    have kf := c119 (M := M) hh (k := 1) (by omega) (e := e) (by omega)
    refine ⟨by (rw [j_C_eq]; simp (disch := omega) only [st_112_0, st_112_1, st_112_2, st_112_5, st_112_5N, st_112_6, st_112_6N, st_112_7, st_112_7N, st_112_10, st_112_11, st_112_12, st_112_15, st_112_16, st_112_16N, st_112_17, st_112_20, st_112_23, st_112_24, st_112_25, st_112_28, st_112_29, st_112_29N, st_112_30, st_112_33, st_112_34, st_112_37, st_112_40, st_112_43, ini_112, fs_cl, fs_len, fs_rf, fs_M, fs_put, fs_cpy, ↓reduceIte, rv_ref, true_or, or_true, true_and, and_true, nI_ltI, ix_nI, nI_clamp, ps_i, ps_n, Option.bind_some, sm_0, sm_1, sm_2, sm_3, sm_4, sto_0, sto_1, sto_2, sto_3, sto_4, sto_5, sto_6, sto_7, sto_8, sto_9, sto_10, sto_11, sto_12, sto_13, sto_14, nlo_n, nlo_i, nlo_r, nlo_0, nlo_l, and_self, or_self, Nat.reduceEqDiff, Nat.reduceLT, Nat.reduceLeDiff, Nat.one_ne_zero, Nat.zero_ne_one, w0, f0, r7, m0, q0, a1, a2, e10, k1, kf]), fun M' hR' => ?_⟩
    have k2 := r212n (σ := FS h M') hx (e := e) (by omega)
    have kf := r142 (M := M') md (k := 1) (by omega) (e := e) (by omega)
    (rw [j_C_eq]; simp (disch := omega) only [st_217_0, st_217_1, st_217_4, st_217_7, st_217_8, st_217_9, st_217_12, st_217_13, st_217_14, st_217_17, st_217_18, st_217_19, st_217_22, st_217_23, st_217_24, st_217_27, st_217_28, st_217_29, st_217_31, st_217_32, st_217_35, st_217_36, st_217_37, st_217_40, st_217_41, st_217_42, st_217_45, st_217_46, st_217_47, st_217_50, st_217_51, st_217_54, st_217_56, st_217_57, st_217_58, st_217_59, st_217_60, st_217_61, st_217_62, st_217_63, st_217_64, st_217_67, st_217_70, st_217_73, st_217_76, st_217_77, st_217_78, st_217_81, st_217_82, st_217_83, st_217_86, st_217_87, st_217_88, st_217_91, st_217_92, st_217_93, st_217_96, st_217_97, st_217_100, st_217_101, ini_217, fs_cl, fs_len, fs_rf, fs_M, fs_put, fs_cpy, ↓reduceIte, rv_ref, true_or, or_true, true_and, and_true, nI_ltI, ix_nI, nI_clamp, ps_i, ps_n, Option.bind_some, sm_0, sm_1, sm_2, sm_3, sm_4, sto_0, sto_1, sto_2, sto_3, sto_4, sto_5, sto_6, sto_7, sto_8, sto_9, sto_10, sto_11, sto_12, sto_13, sto_14, nlo_n, nlo_i, nlo_r, nlo_0, nlo_l, and_self, or_self, Nat.reduceEqDiff, Nat.reduceLT, Nat.reduceLeDiff, Nat.one_ne_zero, Nat.zero_ne_one, w0, f0, r7, m0, q0, a1, a2, e10, k2, kf])
