/-! The reference: launder, hands. -/
variable {h : j_Hd} {M : Nat → Nat → Int32} {σ : j_St} {d o : Nat} {E : Nat → Nat} {z : Int32} {K0 K1 : List Int32}
theorem rh_6 {i : Nat} {v : Int32} : rh o M (j_up M (o + 6) i v) := ⟨fun x _ _ _ a => up_r _ _ _ _ a, fun k _ => up_o _ _ _ _ _ (by omega), fun k _ => up_o _ _ _ _ _ (by omega)⟩
theorem RC_rh {M' : Nat → Nat → Int32} (hR : RC M o E z K0 K1) (hr : rh o M M') (he : M' (o + 1) = M (o + 1)) : RC M' o E z K0 K1 := by
  refine ⟨?_, Tx_rg (rg_rh hr) hR.2.1, Tx_rg (rg_rh hr) hR.2.2⟩
  unfold RLd
  rw [he]
  exact hR.1
theorem rh_x6 {M' : Nat → Nat → Int32} (hx : ∀ x, x ≠ o + 6 → M' x = M x) : rh o M M' := ⟨fun x _ _ _ a => hx x a, fun k _ => by rw [hx o (by omega)], fun k _ => by rw [hx (o + 1) (by omega)]⟩
theorem r195a (hk : Md h o) {c n s v : Nat} (hn : 0 < n) (hs : s ≤ 3) (hv : v < 1000) {x2 : Option Value} {e : Nat} (he : 60 ≤ e) : ∀ r i (E : Nat → Nat) (M : Nat → Nat → Int32) (o8 : Option Value), r + i = s → RC M o E z K0 K1 → WE E → c < E 1 → n = E 0 → ∃ M' x5 x8, j_X e 195 48 [some (.ref o), some (.int (nI c)), x2, some (.int (nI s)), some (.int (nI v)), some (.int (nI (n ^ (s - 1 - i)))), some (.int (nI 1)), some (.int (nI i)), o8] [] (FS h M) = j_X e 195 151 [some (.ref o), some (.int (nI c)), x2, some (.int (nI s)), some (.int (nI v)), x5, some (.int (if (alS K0 c v n s r i E).1 = true then nI 1 else nI 0)), some (.int (nI s)), x8] [] (FS h M') ∧ ((alS K0 c v n s r i E).1 = true → RC M' o (alS K0 c v n s r i E).2 z K0 K1) ∧ rh o M M' ∧ toS M' o v n s i ∧ ∀ j, j < i → M' (o + 6) j = M (o + 6) j := by
  have m0 := hk.1
  have q0 := hk.2.1.1
  have a1 := hk.2.1.2.1
  have a2 := hk.2.1.2.2.1
  have q6 := hk.2.2.2.2.2.2.1.1
  have b1 := hk.2.2.2.2.2.2.1.2.1
  have b2 := hk.2.2.2.2.2.2.1.2.2.1
  have f3 : ¬ nI 1 = nI 0 := by decide +kernel
  intro r
  induction r with
  | zero =>
    intro i E M o8 hr hR hw hc hnE
    have ei : i = s := by omega
    have e1 : ¬ s < s := by omega
    subst ei
    refine ⟨M, some (.int (nI (n ^ (i - 1 - i)))), o8, ?_, fun _ => hR, rh_r, fun j h1 h2 => by omega, fun _ _ => rfl⟩
    rw [st_195_48]
    simp (disch := omega) only [st_195_50, st_195_51, st_195_54, st_195_56, st_195_58, st_195_59, st_195_60, st_195_63, st_195_64, st_195_65, st_195_66, st_195_68, st_195_69, st_195_72, st_195_74, st_195_76, st_195_77, st_195_79, st_195_81, st_195_82, st_195_83, st_195_84, st_195_87, st_195_88, st_195_91, st_195_92, st_195_93, st_195_96, st_195_97, st_195_98, st_195_100, st_195_102, st_195_105, st_195_106, st_195_107, st_195_108, st_195_111, st_195_113, st_195_116, st_195_117, st_195_118, st_195_120, st_195_123, st_195_126, st_195_127, st_195_130, st_195_131, st_195_133, st_195_135, st_195_138, st_195_139, st_195_140, st_195_142, st_195_145, st_195_148, ini_195, fs_cl, fs_len, fs_rf, fs_M, fs_put, fs_cpy, ↓reduceIte, rv_ref, true_or, or_true, true_and, and_true, nI_ltI, ix_nI, nI_clamp, ps_i, ps_n, Option.bind_some, sm_0, sm_1, sm_2, sm_3, sm_4, sto_0, sto_1, sto_2, sto_3, sto_4, sto_5, sto_6, sto_7, sto_8, sto_9, sto_10, sto_11, sto_12, sto_13, sto_14, nlo_n, nlo_i, nlo_r, nlo_0, nlo_l, and_self, or_self, Nat.reduceEqDiff, Nat.reduceLT, Nat.reduceLeDiff, Nat.one_ne_zero, Nat.zero_ne_one, e1]
    rfl
  | succ r ih =>
    intro i E M o8 hr hR hw hc hnE
    have h6 := hw.1
    have h8 := hw.2.1
    have e1 : i < s := by omega
    have i3 : i < 3 := by omega
    have pn : 0 < n ^ (s - 1 - i) := Nat.pow_pos hn
    have pl : n ^ (s - 1 - i) ≤ 216 := by
      have e1 := Nat.pow_le_pow_left (show n ≤ 6 by omega) (s - 1 - i)
      have e2 := Nat.pow_le_pow_right (show 0 < 6 by omega) (show s - 1 - i ≤ 3 by omega)
      omega
    have f1 : ¬ nI (n ^ (s - 1 - i)) = nI 0 := nI_ne (by omega) (by omega) (by omega)
    have f2 : ¬ nI n = nI 0 := nI_ne (by omega) (by omega) (by omega)
    have dl : v / n ^ (s - 1 - i) < 2147483648 := Nat.lt_of_le_of_lt (Nat.div_le_self _ _) (by omega)
    have os := on_s hn e1
    have tl : dg v n (s - 1 - i) < n := Nat.mod_lt _ hn
    have hM : M (o + 1) 0 = nI n := by rw [hR.1.1 0 (by omega) (by omega), hnE]
    have hM2 : j_up M (o + 6) i (nI (dg v n (s - 1 - i))) (o + 1) 0 = nI n := by rw [up_o _ _ _ _ _ (by omega)]; exact hM
    have hRu : RC (j_up M (o + 6) i (nI (dg v n (s - 1 - i)))) o E z K0 K1 := RC_rh hR rh_6 (up_r _ _ _ _ (by omega))
    have gh := r148e (M := j_up M (o + 6) i (nI (dg v n (s - 1 - i)))) hk (t := c) (k := 1) (by omega) (e := e) (by omega)
    rw [show 38 + 5 * c + 1 = 39 + 5 * c by omega, hRu.1.1 _ (by omega) (by omega)] at gh
    have ch := (hw.2.2.2.2.2.2.2 c hc).2.2.1
    -- up to the check
    have run : ∀ R, j_X e 195 100 [some (.ref o), some (.int (nI c)), x2, some (.int (nI s)), some (.int (nI v)), some (.int (nI (n ^ (s - 1 - (i + 1))))), some (.int (nI 1)), some (.int (nI i)), some (.int (nI (dg v n (s - 1 - i))))] [] (FS h (j_up M (o + 6) i (nI (dg v n (s - 1 - i))))) = R → j_X e 195 48 [some (.ref o), some (.int (nI c)), x2, some (.int (nI s)), some (.int (nI v)), some (.int (nI (n ^ (s - 1 - i)))), some (.int (nI 1)), some (.int (nI i)), o8] [] (FS h M) = R := by
      intro R hX
      rw [← hX, st_195_48]
      unfold dg at hM2 ⊢
      by_cases cc : i < s - 1
      · rw [if_pos cc] at os
        simp (disch := omega) only [st_195_50, st_195_51, st_195_54, st_195_56, st_195_58, st_195_59, st_195_60, st_195_63, st_195_64, st_195_65, st_195_66, st_195_68, st_195_69, st_195_72, st_195_74, st_195_76, st_195_77, st_195_79, st_195_81, st_195_82, st_195_83, st_195_84, st_195_87, st_195_88, st_195_91, st_195_92, st_195_93, st_195_96, st_195_97, st_195_98, ini_195, fs_cl, fs_len, fs_rf, fs_M, fs_put, fs_cpy, ↓reduceIte, rv_ref, true_or, or_true, true_and, and_true, nI_ltI, ix_nI, nI_clamp, ps_i, ps_n, Option.bind_some, sm_0, sm_1, sm_2, sm_3, sm_4, sto_0, sto_1, sto_2, sto_3, sto_4, sto_5, sto_6, sto_7, sto_8, sto_9, sto_10, sto_11, sto_12, sto_13, sto_14, nlo_n, nlo_i, nlo_r, nlo_0, nlo_l, and_self, or_self, Nat.reduceEqDiff, Nat.reduceLT, Nat.reduceLeDiff, Nat.one_ne_zero, Nat.zero_ne_one, m0, q0, a1, a2, q6, b1, b2, hM, e1, i3, f1, f2, nI_div, nI_rm, hM2, nI_sub, cc, os]
      · rw [if_neg cc] at os
        simp (disch := omega) only [st_195_50, st_195_51, st_195_54, st_195_56, st_195_58, st_195_59, st_195_60, st_195_63, st_195_64, st_195_65, st_195_66, st_195_68, st_195_69, st_195_72, st_195_74, st_195_76, st_195_77, st_195_79, st_195_81, st_195_82, st_195_83, st_195_84, st_195_87, st_195_88, st_195_91, st_195_92, st_195_93, st_195_96, st_195_97, st_195_98, ini_195, fs_cl, fs_len, fs_rf, fs_M, fs_put, fs_cpy, ↓reduceIte, rv_ref, true_or, or_true, true_and, and_true, nI_ltI, ix_nI, nI_clamp, ps_i, ps_n, Option.bind_some, sm_0, sm_1, sm_2, sm_3, sm_4, sto_0, sto_1, sto_2, sto_3, sto_4, sto_5, sto_6, sto_7, sto_8, sto_9, sto_10, sto_11, sto_12, sto_13, sto_14, nlo_n, nlo_i, nlo_r, nlo_0, nlo_l, and_self, or_self, Nat.reduceEqDiff, Nat.reduceLT, Nat.reduceLeDiff, Nat.one_ne_zero, Nat.zero_ne_one, m0, q0, a1, a2, q6, b1, b2, hM, e1, i3, f1, f2, f3, nI_div, nI_rm, hM2, nI_sub, cc, os]
    -- refused: the rest only notes
    have no : ∀ M1 : Nat → Nat → Int32, wf o (j_up M (o + 6) i (nI (dg v n (s - 1 - i)))) M1 → ∃ M' x5 x8, j_X e 195 48 [some (.ref o), some (.int (nI c)), x2, some (.int (nI s)), some (.int (nI v)), some (.int (nI (n ^ (s - 1 - (i + 1))))), some (.int (nI 0)), some (.int (nI (i + 1))), some (.int (nI (dg v n (s - 1 - i))))] [] (FS h M1) = j_X e 195 151 [some (.ref o), some (.int (nI c)), x2, some (.int (nI s)), some (.int (nI v)), x5, some (.int (nI 0)), some (.int (nI s)), x8] [] (FS h M') ∧ rh o M M' ∧ toS M' o v n s i ∧ ∀ j, j < i → M' (o + 6) j = M (o + 6) j := by
      intro M1 hwf
      have e6 : M1 (o + 6) = j_up M (o + 6) i (nI (dg v n (s - 1 - i))) (o + 6) := hwf.1 (o + 6) (by omega) (by omega)
      obtain ⟨M', x5, x8, s1, s2, s3, s4⟩ := r195b (x1 := some (.int (nI c))) (x2 := x2) (e := e) hk hn (by omega) hs hv r (i + 1) M1 (some (.int (nI (dg v n (s - 1 - i))))) (by omega) (by rw [hwf.1 (o + 1) (by omega) (by omega)]; exact hM2)
      refine ⟨M', x5, x8, s1, rh_t rh_6 (rh_t (rh_wf hwf) (rh_x6 s4)), fun j h1 h2 => ?_, fun j hj => ?_⟩
      · by_cases ej : j = i
        · rw [s3 j (by omega), e6, ej, up_s]
        · exact s2 j (by omega) h2
      · rw [s3 j (by omega), e6, up_k _ _ _ _ (by omega)]
    unfold alS
    by_cases c1 : E (39 + 5 * c) = dg v n (s - 1 - i)
    · rw [if_pos c1]
      obtain ⟨M', x5, x8, s1, s2, s3, s4⟩ := no _ wf_r
      refine ⟨M', x5, x8, run _ ?_, (fun hh => by cases hh), s2, s3, s4⟩
      refine Eq.trans ?_ s1
      simp (disch := omega) only [st_195_100, st_195_102, st_195_105, st_195_106, st_195_107, st_195_108, st_195_111, st_195_113, st_195_116, st_195_117, st_195_118, st_195_120, st_195_123, st_195_126, st_195_127, st_195_130, st_195_131, st_195_133, st_195_135, st_195_138, st_195_139, st_195_140, st_195_142, st_195_145, st_195_148, ini_195, fs_cl, fs_len, fs_rf, fs_M, fs_put, fs_cpy, ↓reduceIte, rv_ref, true_or, or_true, true_and, and_true, nI_ltI, ix_nI, nI_clamp, ps_i, ps_n, Option.bind_some, sm_0, sm_1, sm_2, sm_3, sm_4, sto_0, sto_1, sto_2, sto_3, sto_4, sto_5, sto_6, sto_7, sto_8, sto_9, sto_10, sto_11, sto_12, sto_13, sto_14, nlo_n, nlo_i, nlo_r, nlo_0, nlo_l, and_self, or_self, Nat.reduceEqDiff, Nat.reduceLT, Nat.reduceLeDiff, Nat.one_ne_zero, Nat.zero_ne_one, m0, f3, gh, nI_eq, eq_true c1, nI_add]
    · rw [if_neg c1]
      obtain ⟨M1, p1, p2⟩ := r182 hk hRu hw (by omega : dg v n (s - 1 - i) < E 0) hc (e := e) (by omega)
      by_cases c2 : wth E K0 c (dg v n (s - 1 - i)) < nI (E (11 + 5 * dg v n (s - 1 - i)))
      · rw [if_pos c2] at p1
        rw [if_pos c2]
        obtain ⟨M', x5, x8, s1, s2, s3, s4⟩ := no _ p2
        refine ⟨M', x5, x8, run _ ?_, (fun hh => by cases hh), s2, s3, s4⟩
        refine Eq.trans ?_ s1
        simp (disch := omega) only [st_195_100, st_195_102, st_195_105, st_195_106, st_195_107, st_195_108, st_195_111, st_195_113, st_195_116, st_195_117, st_195_118, st_195_120, st_195_123, st_195_126, st_195_127, st_195_130, st_195_131, st_195_133, st_195_135, st_195_138, st_195_139, st_195_140, st_195_142, st_195_145, st_195_148, ini_195, fs_cl, fs_len, fs_rf, fs_M, fs_put, fs_cpy, ↓reduceIte, rv_ref, true_or, or_true, true_and, and_true, nI_ltI, ix_nI, nI_clamp, ps_i, ps_n, Option.bind_some, sm_0, sm_1, sm_2, sm_3, sm_4, sto_0, sto_1, sto_2, sto_3, sto_4, sto_5, sto_6, sto_7, sto_8, sto_9, sto_10, sto_11, sto_12, sto_13, sto_14, nlo_n, nlo_i, nlo_r, nlo_0, nlo_l, and_self, or_self, Nat.reduceEqDiff, Nat.reduceLT, Nat.reduceLeDiff, Nat.one_ne_zero, Nat.zero_ne_one, m0, f3, gh, nI_eq, c1, p1, nI_add]
      · rw [if_neg c2] at p1
        rw [if_neg c2]
        have hR1 := RC_wf p2 hRu
        have tE : dg v n (s - 1 - i) < E 0 := by omega
        have kd := (hw.2.2.2.2.2.2.1 _ tE).1
        obtain ⟨M2, y1, y2, y3⟩ := r183e hk hR1.1 (by omega : dg v n (s - 1 - i) < 6) (by omega : c < 8) kd hw.2.2.2.1 (e := e) (by omega)
        obtain ⟨M', x5, x8, s1, s2, s3, s4, s5⟩ := ih (i + 1) (sel E c (dg v n (s - 1 - i))) M2 (some (.int (nI (dg v n (s - 1 - i))))) (by omega) (RC_ld y3 y2 hR1) (WE_sel hw tE hc) (by rw [sel_o (by omega) (by omega)]; exact hc) (by rw [sel_o (by omega) (by omega)]; exact hnE)
        have e6 : M2 (o + 6) = j_up M (o + 6) i (nI (dg v n (s - 1 - i))) (o + 6) := by rw [y3.1 (o + 6) (by omega), p2.1 (o + 6) (by omega) (by omega)]
        refine ⟨M', x5, x8, run _ ?_, s2, rh_t rh_6 (rh_t (rh_wf p2) (rh_t (rh_ld y3) s3)), fun j h1 h2 => ?_, fun j hj => ?_⟩
        · rw [← s1]
          simp (disch := omega) only [st_195_100, st_195_102, st_195_105, st_195_106, st_195_107, st_195_108, st_195_111, st_195_113, st_195_116, st_195_117, st_195_118, st_195_120, st_195_123, st_195_126, st_195_127, st_195_130, st_195_131, st_195_133, st_195_135, st_195_138, st_195_139, st_195_140, st_195_142, st_195_145, st_195_148, ini_195, fs_cl, fs_len, fs_rf, fs_M, fs_put, fs_cpy, ↓reduceIte, rv_ref, true_or, or_true, true_and, and_true, nI_ltI, ix_nI, nI_clamp, ps_i, ps_n, Option.bind_some, sm_0, sm_1, sm_2, sm_3, sm_4, sto_0, sto_1, sto_2, sto_3, sto_4, sto_5, sto_6, sto_7, sto_8, sto_9, sto_10, sto_11, sto_12, sto_13, sto_14, nlo_n, nlo_i, nlo_r, nlo_0, nlo_l, and_self, or_self, Nat.reduceEqDiff, Nat.reduceLT, Nat.reduceLeDiff, Nat.one_ne_zero, Nat.zero_ne_one, m0, f3, gh, nI_eq, c1, p1, y1, nI_add]
        · by_cases ej : j = i
          · rw [s5 j (by omega), e6, ej, up_s]
          · exact s4 j (by omega) h2
        · rw [s5 j (by omega), e6, up_k _ _ _ _ (by omega)]
theorem r195 (hk : Md h o) (hR : RC M o E z K0 K1) (hw : WE E) {c rv n s v : Nat} (hc : c < E 1) (hn : n = E 0) (hs : s ≤ 3) (hv : v < 1000) (hrv : rv < 1000) {e : Nat} (he : 62 ≤ e) : ∃ M', j_C e 195 [.ref o, .int (nI c), .int (nI rv), .int (nI s), .int (nI v)] (FS h M) = some (some (.int (if (alS K0 c v n s s 0 E).1 = true ∧ rE (alS K0 c v n s s 0 E).2 c = rv then nI 1 else nI 0)), FS h M') ∧ RC M' o E z K0 K1 ∧ rg o M M' ∧ toS M' o v n s 0 := by
  obtain ⟨e, rfl⟩ : ∃ d, e = d + 1 := ⟨e - 1, by omega⟩
  have m0 := hk.1
  have q0 := hk.2.1.1
  have a1 := hk.2.1.2.1
  have a2 := hk.2.1.2.2.1
  have h8 := hw.2.1
  have h6 := hw.1
  have ch := (hw.2.2.2.2.2.2.2 c hc).2.2.1
  have f3 : ¬ nI 1 = nI 0 := by decide +kernel
  obtain ⟨M1, k1, k2, k3⟩ := r149e (M := M) hk (e := e) (by omega)
  have hR1 := RC_as hR k3
  have g0 := hR1.1.1 0 (by omega) (by omega)
  rw [← hn] at g0
  obtain ⟨M2, x5, x8, s1, s2, s3, s4, _⟩ := r195a (K0 := K0) (K1 := K1) (z := z) (x2 := some (.int (nI rv))) hk (by omega : 0 < n) hs hv (e := e) (by omega) s 0 E M1 none (by omega) hR1 hw hc hn
  obtain ⟨M3, l1, l2, l3, l4⟩ := r150e (M := M2) hk (e := e) (by omega)
  obtain ⟨b1, b2⟩ := put_bk hR k2 k3 s3 l2 l3 l4
  have hto : toS M3 o v n s 0 := fun j h1 h2 => by rw [l4 (o + 6) (by omega)]; exact s4 j h1 h2
  have run : ∀ R, j_X e 195 48 [some (.ref o), some (.int (nI c)), some (.int (nI rv)), some (.int (nI s)), some (.int (nI v)), some (.int (nI (n ^ (s - 1 - 0)))), some (.int (nI 1)), some (.int (nI 0)), none] [] (FS h M1) = R → j_C (e + 1) 195 [.ref o, .int (nI c), .int (nI rv), .int (nI s), .int (nI v)] (FS h M) = R := by
    intro R hX
    rw [← hX, j_C_eq]
    have h03 : s = 0 ∨ s = 1 ∨ s = 2 ∨ s = 3 := by omega
    rcases h03 with es | es | es | es
    · subst es
      simp (disch := omega) only [st_195_0, st_195_1, st_195_4, st_195_5, st_195_6, st_195_9, st_195_10, st_195_13, st_195_14, st_195_15, st_195_16, st_195_19, st_195_20, st_195_21, st_195_22, st_195_25, st_195_26, st_195_27, st_195_30, st_195_31, st_195_34, st_195_35, st_195_36, st_195_39, st_195_40, st_195_42, st_195_43, st_195_45, st_195_46, ini_195, fs_cl, fs_len, fs_rf, fs_M, fs_put, fs_cpy, ↓reduceIte, rv_ref, true_or, or_true, true_and, and_true, nI_ltI, ix_nI, nI_clamp, ps_i, ps_n, Option.bind_some, sm_0, sm_1, sm_2, sm_3, sm_4, sto_0, sto_1, sto_2, sto_3, sto_4, sto_5, sto_6, sto_7, sto_8, sto_9, sto_10, sto_11, sto_12, sto_13, sto_14, nlo_n, nlo_i, nlo_r, nlo_0, nlo_l, and_self, or_self, Nat.reduceEqDiff, Nat.reduceLT, Nat.reduceLeDiff, Nat.one_ne_zero, Nat.zero_ne_one, m0, k1, nI_eq]
      rfl
    · subst es
      simp (disch := omega) only [st_195_0, st_195_1, st_195_4, st_195_5, st_195_6, st_195_9, st_195_10, st_195_13, st_195_14, st_195_15, st_195_16, st_195_19, st_195_20, st_195_21, st_195_22, st_195_25, st_195_26, st_195_27, st_195_30, st_195_31, st_195_34, st_195_35, st_195_36, st_195_39, st_195_40, st_195_42, st_195_43, st_195_45, st_195_46, ini_195, fs_cl, fs_len, fs_rf, fs_M, fs_put, fs_cpy, ↓reduceIte, rv_ref, true_or, or_true, true_and, and_true, nI_ltI, ix_nI, nI_clamp, ps_i, ps_n, Option.bind_some, sm_0, sm_1, sm_2, sm_3, sm_4, sto_0, sto_1, sto_2, sto_3, sto_4, sto_5, sto_6, sto_7, sto_8, sto_9, sto_10, sto_11, sto_12, sto_13, sto_14, nlo_n, nlo_i, nlo_r, nlo_0, nlo_l, and_self, or_self, Nat.reduceEqDiff, Nat.reduceLT, Nat.reduceLeDiff, Nat.one_ne_zero, Nat.zero_ne_one, m0, k1, nI_eq]
      rfl
    · subst es
      have ep : n ^ (2 - 1 - 0) = n := Nat.pow_one n
      rw [ep]
      simp (disch := omega) only [st_195_0, st_195_1, st_195_4, st_195_5, st_195_6, st_195_9, st_195_10, st_195_13, st_195_14, st_195_15, st_195_16, st_195_19, st_195_20, st_195_21, st_195_22, st_195_25, st_195_26, st_195_27, st_195_30, st_195_31, st_195_34, st_195_35, st_195_36, st_195_39, st_195_40, st_195_42, st_195_43, st_195_45, st_195_46, ini_195, fs_cl, fs_len, fs_rf, fs_M, fs_put, fs_cpy, ↓reduceIte, rv_ref, true_or, or_true, true_and, and_true, nI_ltI, ix_nI, nI_clamp, ps_i, ps_n, Option.bind_some, sm_0, sm_1, sm_2, sm_3, sm_4, sto_0, sto_1, sto_2, sto_3, sto_4, sto_5, sto_6, sto_7, sto_8, sto_9, sto_10, sto_11, sto_12, sto_13, sto_14, nlo_n, nlo_i, nlo_r, nlo_0, nlo_l, and_self, or_self, Nat.reduceEqDiff, Nat.reduceLT, Nat.reduceLeDiff, Nat.one_ne_zero, Nat.zero_ne_one, m0, q0, a1, a2, g0, k1, nI_eq]
    · subst es
      have ep : n ^ (3 - 1 - 0) = n * n := Nat.pow_two n
      rw [ep]
      simp (disch := omega) only [st_195_0, st_195_1, st_195_4, st_195_5, st_195_6, st_195_9, st_195_10, st_195_13, st_195_14, st_195_15, st_195_16, st_195_19, st_195_20, st_195_21, st_195_22, st_195_25, st_195_26, st_195_27, st_195_30, st_195_31, st_195_34, st_195_35, st_195_36, st_195_39, st_195_40, st_195_42, st_195_43, st_195_45, st_195_46, ini_195, fs_cl, fs_len, fs_rf, fs_M, fs_put, fs_cpy, ↓reduceIte, rv_ref, true_or, or_true, true_and, and_true, nI_ltI, ix_nI, nI_clamp, ps_i, ps_n, Option.bind_some, sm_0, sm_1, sm_2, sm_3, sm_4, sto_0, sto_1, sto_2, sto_3, sto_4, sto_5, sto_6, sto_7, sto_8, sto_9, sto_10, sto_11, sto_12, sto_13, sto_14, nlo_n, nlo_i, nlo_r, nlo_0, nlo_l, and_self, or_self, Nat.reduceEqDiff, Nat.reduceLT, Nat.reduceLeDiff, Nat.one_ne_zero, Nat.zero_ne_one, m0, q0, a1, a2, g0, k1, nI_eq, nI_mul]
  refine ⟨M3, run _ (s1.trans ?_), b1, b2, hto⟩
  by_cases c1 : (alS K0 c v n s s 0 E).1 = true
  · rw [if_pos c1]
    obtain ⟨wa, wb⟩ := al_WE (K0 := K0) (c := c) (v := v) (s := s) (by omega : 0 < n) s 0 E hw hc hn
    have wr := (wa.2.2.2.2.2.2.2 c (by rw [wb]; exact hc)).2.2.2
    have rl : rE (alS K0 c v n s s 0 E).2 c < 1000 := rn_lt wr
    have gr := r168e hk (s2 c1).1 (by omega : c < 8) wr (e := e) (by omega)
    by_cases c2 : rE (alS K0 c v n s s 0 E).2 c = rv
    · rw [if_pos ⟨c1, c2⟩]
      simp (disch := omega) only [st_195_151, st_195_153, st_195_156, st_195_157, st_195_158, st_195_161, st_195_162, st_195_165, st_195_166, st_195_169, st_195_170, st_195_172, st_195_173, st_195_176, st_195_178, ini_195, fs_cl, fs_len, fs_rf, fs_M, fs_put, fs_cpy, ↓reduceIte, rv_ref, true_or, or_true, true_and, and_true, nI_ltI, ix_nI, nI_clamp, ps_i, ps_n, Option.bind_some, sm_0, sm_1, sm_2, sm_3, sm_4, sto_0, sto_1, sto_2, sto_3, sto_4, sto_5, sto_6, sto_7, sto_8, sto_9, sto_10, sto_11, sto_12, sto_13, sto_14, nlo_n, nlo_i, nlo_r, nlo_0, nlo_l, and_self, or_self, Nat.reduceEqDiff, Nat.reduceLT, Nat.reduceLeDiff, Nat.one_ne_zero, Nat.zero_ne_one, m0, f3, gr, nI_eq, eq_true c2, l1]
    · rw [if_neg (fun hh => c2 hh.2)]
      simp (disch := omega) only [st_195_151, st_195_153, st_195_156, st_195_157, st_195_158, st_195_161, st_195_162, st_195_165, st_195_166, st_195_169, st_195_170, st_195_172, st_195_173, st_195_176, st_195_178, ini_195, fs_cl, fs_len, fs_rf, fs_M, fs_put, fs_cpy, ↓reduceIte, rv_ref, true_or, or_true, true_and, and_true, nI_ltI, ix_nI, nI_clamp, ps_i, ps_n, Option.bind_some, sm_0, sm_1, sm_2, sm_3, sm_4, sto_0, sto_1, sto_2, sto_3, sto_4, sto_5, sto_6, sto_7, sto_8, sto_9, sto_10, sto_11, sto_12, sto_13, sto_14, nlo_n, nlo_i, nlo_r, nlo_0, nlo_l, and_self, or_self, Nat.reduceEqDiff, Nat.reduceLT, Nat.reduceLeDiff, Nat.one_ne_zero, Nat.zero_ne_one, m0, f3, gr, nI_eq, c2, l1]
  · rw [if_neg c1, if_neg (fun hh => c1 hh.1)]
    simp (disch := omega) only [st_195_151, st_195_153, st_195_156, st_195_157, st_195_158, st_195_161, st_195_162, st_195_165, st_195_166, st_195_169, st_195_170, st_195_172, st_195_173, st_195_176, st_195_178, ini_195, fs_cl, fs_len, fs_rf, fs_M, fs_put, fs_cpy, ↓reduceIte, rv_ref, true_or, or_true, true_and, and_true, nI_ltI, ix_nI, nI_clamp, ps_i, ps_n, Option.bind_some, sm_0, sm_1, sm_2, sm_3, sm_4, sto_0, sto_1, sto_2, sto_3, sto_4, sto_5, sto_6, sto_7, sto_8, sto_9, sto_10, sto_11, sto_12, sto_13, sto_14, nlo_n, nlo_i, nlo_r, nlo_0, nlo_l, and_self, or_self, Nat.reduceEqDiff, Nat.reduceLT, Nat.reduceLeDiff, Nat.one_ne_zero, Nat.zero_ne_one, m0, l1]
/-- what is asked of a row of traders: how many (-1) or which -/
def wq (q : Option Nat) : Int32 := match q with | none => -1 | some k => nI k
def lqA (v n s : Nat) (q : Option Nat) : Int32 := match q with | none => nI s | some k => if k < s then nI (dg v n (s - 1 - k)) else -1
theorem r196 (hk : Md h o) (hR : RC M o E z K0 K1) (hw : WE E) {c x y w : Nat} (hc : c < E 1) (hr : Rw x y w) {q : Option Nat} (hq : ∀ k, q = some k → k ≤ 2) {e : Nat} (he : 63 ≤ e) : ∃ M', RC M' o E z K0 K1 ∧ rg o M M' ∧ j_C e 196 [.ref o, .int (nI c), .int (nI (rn x y w)), .int (wq q)] (FS h M) = match ldN E K0 c (rn x y w) (E 0) 4 0 with | none => some (some (.int (fl 2)), FS h (fd o 2 M')) | some p => some (some (.int (lqA p.2 (E 0) p.1 q)), FS h M') := by
  obtain ⟨e, rfl⟩ : ∃ d, e = d + 1 := ⟨e - 1, by omega⟩
  have m0 := hk.1
  have q0 := hk.2.1.1
  have a1 := hk.2.1.2.1
  have a2 := hk.2.1.2.2.1
  have q6 := hk.2.2.2.2.2.2.1.1
  have b1 := hk.2.2.2.2.2.2.1.2.1
  have b2 := hk.2.2.2.2.2.2.1.2.2.1
  have h8 := hw.2.1
  have h6 := hw.1
  have ch := (hw.2.2.2.2.2.2.2 c hc).2.2.1
  have f3 : ¬ nI 1 = nI 0 := by decide +kernel
  have rl := rn_lt hr
  have L1 : ∀ s, s ≤ 3 → ∀ P, P < 1000 → ∀ r v (M1 : Nat → Nat → Int32), r + v = P → RC M1 o E z K0 K1 → rg o M M1 → (∃ v', ldW E K0 c (rn x y w) (E 0) s r v = some v' ∧ ∃ M', RC M' o E z K0 K1 ∧ rg o M M' ∧ j_X e 196 50 [some (.ref o), some (.int (nI c)), some (.int (nI (rn x y w))), some (.int (wq q)), some (.int (nI P)), some (.int (nI s)), some (.int (nI v))] [] (FS h M1) = some (some (.int (lqA v' (E 0) s q)), FS h M')) ∨ (ldW E K0 c (rn x y w) (E 0) s r v = none ∧ ∃ M', RC M' o E z K0 K1 ∧ rg o M M' ∧ j_X e 196 50 [some (.ref o), some (.int (nI c)), some (.int (nI (rn x y w))), some (.int (wq q)), some (.int (nI P)), some (.int (nI s)), some (.int (nI v))] [] (FS h M1) = j_X e 196 41 [some (.ref o), some (.int (nI c)), some (.int (nI (rn x y w))), some (.int (wq q)), some (.int (nI (P * E 0))), some (.int (nI (s + 1))), some (.int (nI P))] [] (FS h M')) := by
    intro s hs P hP r
    induction r with
    | zero =>
      intro v M1 hr hR1 hg
      have ev : v = P := by omega
      subst ev
      have e1 : ¬ v < v := by omega
      have g0 := hR1.1.1 0 (by omega) (by omega)
      refine .inr ⟨rfl, M1, hR1, hg, ?_⟩
      rw [st_196_50]
      simp (disch := omega) only [st_196_52, st_196_54, st_196_57, st_196_58, st_196_59, st_196_60, st_196_62, st_196_64, st_196_67, st_196_70, st_196_71, st_196_74, st_196_76, st_196_79, st_196_80, st_196_82, st_196_85, st_196_86, st_196_89, st_196_90, st_196_91, st_196_94, st_196_95, st_196_96, st_196_99, st_196_102, st_196_104, st_196_105, st_196_108, st_196_109, st_196_110, st_196_111, st_196_113, st_196_116, ini_196, fs_cl, fs_len, fs_rf, fs_M, fs_put, fs_cpy, ↓reduceIte, rv_ref, true_or, or_true, true_and, and_true, nI_ltI, ix_nI, nI_clamp, ps_i, ps_n, Option.bind_some, sm_0, sm_1, sm_2, sm_3, sm_4, sto_0, sto_1, sto_2, sto_3, sto_4, sto_5, sto_6, sto_7, sto_8, sto_9, sto_10, sto_11, sto_12, sto_13, sto_14, nlo_n, nlo_i, nlo_r, nlo_0, nlo_l, and_self, or_self, Nat.reduceEqDiff, Nat.reduceLT, Nat.reduceLeDiff, Nat.one_ne_zero, Nat.zero_ne_one, m0, q0, a1, a2, e1, g0, nI_mul, nI_add]
    | succ r ih =>
      intro v M1 hr hR1 hg
      have e1 : v < P := by omega
      obtain ⟨M2, p1, p2, p3, p4⟩ := r195 hk hR1 hw hc rfl hs (by omega : v < 1000) rl (e := e) (by omega)
      unfold ldW
      by_cases cc : (alS K0 c v (E 0) s s 0 E).1 = true ∧ rE (alS K0 c v (E 0) s s 0 E).2 c = rn x y w
      · rw [if_pos cc] at p1
        rw [if_pos cc]
        refine .inl ⟨v, rfl, M2, p2, rg_t hg p3, ?_⟩
        rw [st_196_50]
        cases q with
        | none =>
          have em : (-1 : Int32) < nI 0 := by decide +kernel
          simp (disch := omega) only [st_196_52, st_196_54, st_196_57, st_196_58, st_196_59, st_196_60, st_196_62, st_196_64, st_196_67, st_196_70, st_196_71, st_196_74, st_196_76, st_196_79, st_196_80, st_196_82, st_196_85, st_196_86, st_196_89, st_196_90, st_196_91, st_196_94, st_196_95, ini_196, fs_cl, fs_len, fs_rf, fs_M, fs_put, fs_cpy, ↓reduceIte, rv_ref, true_or, or_true, true_and, and_true, nI_ltI, ix_nI, nI_clamp, ps_i, ps_n, Option.bind_some, sm_0, sm_1, sm_2, sm_3, sm_4, sto_0, sto_1, sto_2, sto_3, sto_4, sto_5, sto_6, sto_7, sto_8, sto_9, sto_10, sto_11, sto_12, sto_13, sto_14, nlo_n, nlo_i, nlo_r, nlo_0, nlo_l, and_self, or_self, Nat.reduceEqDiff, Nat.reduceLT, Nat.reduceLeDiff, Nat.one_ne_zero, Nat.zero_ne_one, m0, e1, p1, f3, wq, lqA, em]
        | some k =>
          have k2 := hq k rfl
          have k3 : k < 3 := by omega
          have nk : ¬ nI k < nI 0 := nI_nlt (Nat.zero_le _) (by omega)
          by_cases ck : k < s
          · have tk := p4 k (by omega) ck
            simp (disch := omega) only [st_196_52, st_196_54, st_196_57, st_196_58, st_196_59, st_196_60, st_196_62, st_196_64, st_196_67, st_196_70, st_196_71, st_196_74, st_196_76, st_196_79, st_196_80, st_196_82, st_196_85, st_196_86, st_196_89, st_196_90, st_196_91, st_196_94, st_196_95, ini_196, fs_cl, fs_len, fs_rf, fs_M, fs_put, fs_cpy, ↓reduceIte, rv_ref, true_or, or_true, true_and, and_true, nI_ltI, ix_nI, nI_clamp, ps_i, ps_n, Option.bind_some, sm_0, sm_1, sm_2, sm_3, sm_4, sto_0, sto_1, sto_2, sto_3, sto_4, sto_5, sto_6, sto_7, sto_8, sto_9, sto_10, sto_11, sto_12, sto_13, sto_14, nlo_n, nlo_i, nlo_r, nlo_0, nlo_l, and_self, or_self, Nat.reduceEqDiff, Nat.reduceLT, Nat.reduceLeDiff, Nat.one_ne_zero, Nat.zero_ne_one, m0, q6, b1, b2, e1, p1, f3, wq, lqA, nk, ck, k3, tk]
          · simp (disch := omega) only [st_196_52, st_196_54, st_196_57, st_196_58, st_196_59, st_196_60, st_196_62, st_196_64, st_196_67, st_196_70, st_196_71, st_196_74, st_196_76, st_196_79, st_196_80, st_196_82, st_196_85, st_196_86, st_196_89, st_196_90, st_196_91, st_196_94, st_196_95, ini_196, fs_cl, fs_len, fs_rf, fs_M, fs_put, fs_cpy, ↓reduceIte, rv_ref, true_or, or_true, true_and, and_true, nI_ltI, ix_nI, nI_clamp, ps_i, ps_n, Option.bind_some, sm_0, sm_1, sm_2, sm_3, sm_4, sto_0, sto_1, sto_2, sto_3, sto_4, sto_5, sto_6, sto_7, sto_8, sto_9, sto_10, sto_11, sto_12, sto_13, sto_14, nlo_n, nlo_i, nlo_r, nlo_0, nlo_l, and_self, or_self, Nat.reduceEqDiff, Nat.reduceLT, Nat.reduceLeDiff, Nat.one_ne_zero, Nat.zero_ne_one, m0, e1, p1, f3, wq, lqA, nk, ck]
      · rw [if_neg cc] at p1
        rw [if_neg cc]
        have hX : j_X e 196 50 [some (.ref o), some (.int (nI c)), some (.int (nI (rn x y w))), some (.int (wq q)), some (.int (nI P)), some (.int (nI s)), some (.int (nI v))] [] (FS h M1) = j_X e 196 50 [some (.ref o), some (.int (nI c)), some (.int (nI (rn x y w))), some (.int (wq q)), some (.int (nI P)), some (.int (nI s)), some (.int (nI (v + 1)))] [] (FS h M2) := by
          rw [st_196_50]
          simp (disch := omega) only [st_196_52, st_196_54, st_196_57, st_196_58, st_196_59, st_196_60, st_196_62, st_196_64, st_196_67, st_196_70, st_196_71, st_196_74, st_196_76, st_196_79, st_196_80, st_196_82, st_196_85, st_196_86, st_196_89, st_196_90, st_196_91, st_196_94, st_196_95, st_196_96, st_196_99, ini_196, fs_cl, fs_len, fs_rf, fs_M, fs_put, fs_cpy, ↓reduceIte, rv_ref, true_or, or_true, true_and, and_true, nI_ltI, ix_nI, nI_clamp, ps_i, ps_n, Option.bind_some, sm_0, sm_1, sm_2, sm_3, sm_4, sto_0, sto_1, sto_2, sto_3, sto_4, sto_5, sto_6, sto_7, sto_8, sto_9, sto_10, sto_11, sto_12, sto_13, sto_14, nlo_n, nlo_i, nlo_r, nlo_0, nlo_l, and_self, or_self, Nat.reduceEqDiff, Nat.reduceLT, Nat.reduceLeDiff, Nat.one_ne_zero, Nat.zero_ne_one, m0, e1, p1, nI_add]
        rw [hX]
        exact ih (v + 1) M2 (by omega) p2 (rg_t hg p3)
  have L2 : ∀ r s (M1 : Nat → Nat → Int32) (o6 : Option Value), r + s = 4 → RC M1 o E z K0 K1 → rg o M M1 → ∃ M', RC M' o E z K0 K1 ∧ rg o M M' ∧ j_X e 196 41 [some (.ref o), some (.int (nI c)), some (.int (nI (rn x y w))), some (.int (wq q)), some (.int (nI (E 0 ^ s))), some (.int (nI s)), o6] [] (FS h M1) = match ldN E K0 c (rn x y w) (E 0) r s with | none => some (some (.int (fl 2)), FS h (fd o 2 M')) | some p => some (some (.int (lqA p.2 (E 0) p.1 q)), FS h M') := by
    intro r
    induction r with
    | zero =>
      intro s M1 o6 hr hR1 hg
      have e1 : 3 < s := by omega
      have gf := r142 (M := M1) hk (k := 2) (by omega) (e := e) (by omega)
      refine ⟨M1, hR1, hg, ?_⟩
      rw [st_196_41]
      simp (disch := omega) only [st_196_43, st_196_44, st_196_47, st_196_48, st_196_52, st_196_54, st_196_57, st_196_58, st_196_59, st_196_60, st_196_62, st_196_64, st_196_67, st_196_70, st_196_71, st_196_74, st_196_76, st_196_79, st_196_80, st_196_82, st_196_85, st_196_86, st_196_89, st_196_90, st_196_91, st_196_94, st_196_95, st_196_96, st_196_99, st_196_102, st_196_104, st_196_105, st_196_108, st_196_109, st_196_110, st_196_111, st_196_113, st_196_116, st_196_119, st_196_120, st_196_121, st_196_124, ini_196, fs_cl, fs_len, fs_rf, fs_M, fs_put, fs_cpy, ↓reduceIte, rv_ref, true_or, or_true, true_and, and_true, nI_ltI, ix_nI, nI_clamp, ps_i, ps_n, Option.bind_some, sm_0, sm_1, sm_2, sm_3, sm_4, sto_0, sto_1, sto_2, sto_3, sto_4, sto_5, sto_6, sto_7, sto_8, sto_9, sto_10, sto_11, sto_12, sto_13, sto_14, nlo_n, nlo_i, nlo_r, nlo_0, nlo_l, and_self, or_self, Nat.reduceEqDiff, Nat.reduceLT, Nat.reduceLeDiff, Nat.one_ne_zero, Nat.zero_ne_one, m0, e1, gf]
      rfl
    | succ r ih =>
      intro s M1 o6 hr hR1 hg
      have e1 : ¬ 3 < s := by omega
      have pl : E 0 ^ s < 1000 := by
        have e1 := Nat.pow_le_pow_left h6 s
        have e2 := Nat.pow_le_pow_right (show 0 < 6 by omega) (show s ≤ 3 by omega)
        omega
      have run : ∀ R, j_X e 196 50 [some (.ref o), some (.int (nI c)), some (.int (nI (rn x y w))), some (.int (wq q)), some (.int (nI (E 0 ^ s))), some (.int (nI s)), some (.int (nI 0))] [] (FS h M1) = R → j_X e 196 41 [some (.ref o), some (.int (nI c)), some (.int (nI (rn x y w))), some (.int (wq q)), some (.int (nI (E 0 ^ s))), some (.int (nI s)), o6] [] (FS h M1) = R := by
        intro R hX
        rw [← hX, st_196_41]
        simp (disch := omega) only [st_196_43, st_196_44, st_196_47, st_196_48, ini_196, fs_cl, fs_len, fs_rf, fs_M, fs_put, fs_cpy, ↓reduceIte, rv_ref, true_or, or_true, true_and, and_true, nI_ltI, ix_nI, nI_clamp, ps_i, ps_n, Option.bind_some, sm_0, sm_1, sm_2, sm_3, sm_4, sto_0, sto_1, sto_2, sto_3, sto_4, sto_5, sto_6, sto_7, sto_8, sto_9, sto_10, sto_11, sto_12, sto_13, sto_14, nlo_n, nlo_i, nlo_r, nlo_0, nlo_l, and_self, or_self, Nat.reduceEqDiff, Nat.reduceLT, Nat.reduceLeDiff, Nat.one_ne_zero, Nat.zero_ne_one, e1]
      unfold ldN
      rcases L1 s (by omega) (E 0 ^ s) pl (E 0 ^ s) 0 M1 (by omega) hR1 hg with ⟨v', f1, M', f2, f3', f4⟩ | ⟨f1, M', f2, f3', f4⟩
      · rw [f1]
        exact ⟨M', f2, f3', run _ f4⟩
      · rw [f1]
        rw [← Nat.pow_succ] at f4
        obtain ⟨M2, y1, y2, y3⟩ := ih (s + 1) M' (some (.int (nI (E 0 ^ s)))) (by omega) f2 f3'
        exact ⟨M2, y1, y2, run _ (f4.trans y3)⟩
  obtain ⟨M', y1, y2, y3⟩ := L2 4 0 M none (by omega) hR rg_r
  refine ⟨M', y1, y2, ?_⟩
  have gt := r146ye hk hR.1 hw.2.1 hc (e := e) (by omega)
  have gd := r169y (σ := FS h M) hr (e := e) (by omega)
  have nr : ¬ nI (rs x y w) < nI 0 := nI_nlt (Nat.zero_le _) (by have := rs_le (x := x) (y := y) (z := w); omega)
  have gl := r143e (σ := FS h M) (wq q).toInt64 (-1) (lN 2) (e := e) (by omega)
  have lq : lin (wq q).toInt64 (-1) (lN 2) = nI 1 := by
    cases q with
    | none => decide +kernel
    | some k =>
      have k2 := hq k rfl
      have kk : ∀ k, k ≤ 2 → lin (wq (some k)).toInt64 (-1) (lN 2) = nI 1 := by decide +kernel
      exact kk k k2
  rw [lq] at gl
  rw [← y3, j_C_eq]
  simp (disch := omega) only [st_196_0, st_196_1, st_196_2, st_196_5, st_196_8, st_196_9, st_196_12, st_196_15, st_196_16, st_196_17, st_196_20, st_196_23, st_196_26, st_196_29, st_196_30, st_196_31, st_196_34, st_196_35, st_196_36, st_196_38, st_196_39, ini_196, fs_cl, fs_len, fs_rf, fs_M, fs_put, fs_cpy, ↓reduceIte, rv_ref, true_or, or_true, true_and, and_true, nI_ltI, ix_nI, nI_clamp, ps_i, ps_n, Option.bind_some, sm_0, sm_1, sm_2, sm_3, sm_4, sto_0, sto_1, sto_2, sto_3, sto_4, sto_5, sto_6, sto_7, sto_8, sto_9, sto_10, sto_11, sto_12, sto_13, sto_14, nlo_n, nlo_i, nlo_r, nlo_0, nlo_l, and_self, or_self, Nat.reduceEqDiff, Nat.reduceLT, Nat.reduceLeDiff, Nat.one_ne_zero, Nat.zero_ne_one, m0, gt, gd, nr, gl, f3]
  rfl
