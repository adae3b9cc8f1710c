/-! The reference: WORTH. -/
variable {h : j_Hd} {M : Nat → Nat → Int32} {σ : j_St} {d o : Nat} {E : Nat → Nat} {z : Int32} {K0 K1 : List Int32}
/-- the reference's land and texts -/
def RC (M : Nat → Nat → Int32) (o : Nat) (E : Nat → Nat) (z : Int32) (K0 K1 : List Int32) : Prop := RLd M o E z ∧ Tx M o 0 K0 ∧ Tx M o 1 K1
/-- but for the land, what a text is worked in, and what is laid aside -/
def rg (o : Nat) (M M' : Nat → Nat → Int32) : Prop := (∀ x, x ≠ o → x ≠ o + 1 → x ≠ o + 4 → x ≠ o + 5 → x ≠ o + 6 → M' x = M x) ∧ (∀ k, (k < 5 ∨ 10 < k) → M' o k = M o k) ∧ ∀ k, 78 ≤ k → M' (o + 1) k = M (o + 1) k
theorem rg_r : rg o M M := ⟨fun _ _ _ _ _ _ => rfl, fun _ _ => rfl, fun _ _ => rfl⟩
theorem rg_t {M1 M2 M3 : Nat → Nat → Int32} (h1 : rg o M1 M2) (h2 : rg o M2 M3) : rg o M1 M3 := ⟨fun x a b c e f => by rw [h2.1 x a b c e f, h1.1 x a b c e f], fun k a => by rw [h2.2.1 k a, h1.2.1 k a], fun k a => by rw [h2.2.2 k a, h1.2.2 k a]⟩
theorem rg_wf {M' : Nat → Nat → Int32} (h1 : wf o M M') : rg o M M' := ⟨fun x a _ _ e _ => h1.1 x a e, fun k a => h1.2 k a, fun k _ => by rw [h1.1 (o + 1) (by omega) (by omega)]⟩
theorem rg_ld {M' : Nat → Nat → Int32} (h1 : ld o M M') : rg o M M' := ⟨fun x _ b _ _ _ => h1.1 x b, fun k _ => by rw [h1.1 o (by omega)], fun k hk => h1.2 k hk⟩
theorem Tx_rg {M' : Nat → Nat → Int32} {u : Nat} {K : List Int32} (hr : rg o M M') (hT : Tx M o u K) : Tx M' o u K := by
  unfold Tx at hT ⊢
  rw [hr.2.2 (78 + u) (by omega)]
  rcases hT with a | ⟨B, n, b1, b2, b3, b4, b5⟩
  · exact .inl a
  · exact .inr ⟨B, n, b1, b2, b3, fun i hi => by rw [hr.2.2 (100 + 50 * u + i) (by omega)]; exact b4 i hi, b5⟩
theorem RC_wf {M' : Nat → Nat → Int32} (hr : wf o M M') (hR : RC M o E z K0 K1) : RC M' o E z K0 K1 := by
  refine ⟨?_, Tx_rg (rg_wf hr) hR.2.1, Tx_rg (rg_wf hr) hR.2.2⟩
  unfold RLd
  rw [hr.1 (o + 1) (by omega) (by omega)]
  exact hR.1
theorem RC_ld {M' : Nat → Nat → Int32} {E' : Nat → Nat} {z' : Int32} (hr : ld o M M') (hL : RLd M' o E' z') (hR : RC M o E z K0 K1) : RC M' o E' z' K0 K1 := ⟨hL, Tx_rg (rg_ld hr) hR.2.1, Tx_rg (rg_ld hr) hR.2.2⟩
/-- the strength of the first places, as the reference counts -/
def lkS (f : Nat → Nat) (E : Nat → Nat) (kd c : Nat) : Nat → Nat
  | 0 => 0
  | i + 1 => lkS f E kd c i + if kd ≠ 6 ∨ i = 0 then (3 - i) * f (E (38 + 5 * c + (2 + i))) else 0
theorem lkS_v {f : Nat → Nat} {kd c : Nat} (hr : Rw (E (40 + 5 * c)) (E (41 + 5 * c)) (E (42 + 5 * c))) : lkS f E kd c (nE E c) = if kd = 6 then st1 f (E (40 + 5 * c)) else st3 f (E (40 + 5 * c)) (E (41 + 5 * c)) (E (42 + 5 * c)) := by
  obtain ⟨h1, h2, h3, h4, h5⟩ := hr
  have i0 : 38 + 5 * c + (2 + 0) = 40 + 5 * c := by omega
  have i1 : 38 + 5 * c + (2 + 1) = 41 + 5 * c := by omega
  have i2 : 38 + 5 * c + (2 + 2) = 42 + 5 * c := by omega
  have t1 : ¬ (1 : Nat) = 0 := by omega
  have t2 : ¬ (2 : Nat) = 0 := by omega
  unfold nE rs st1 st3
  by_cases e1 : E (40 + 5 * c) = 0
  · rw [if_pos e1, if_pos e1, if_pos (h4 e1), if_pos (h5 (h4 e1))]
    show 0 = _
    split <;> rfl
  · by_cases e2 : E (41 + 5 * c) = 0
    · rw [if_neg e1, if_pos e2, if_neg e1, if_pos e2, if_pos (h5 e2)]
      simp only [lkS, i0, or_true, if_true]
      split <;> omega
    · by_cases e3 : E (42 + 5 * c) = 0
      · rw [if_neg e1, if_neg e2, if_pos e3, if_neg e1, if_neg e2, if_pos e3]
        simp only [lkS, i0, i1, or_true, if_true, t1, or_false]
        by_cases k6 : kd = 6
        · simp [k6]
        · simp [k6]
      · rw [if_neg e1, if_neg e2, if_neg e3, if_neg e1, if_neg e2, if_neg e3]
        simp only [lkS, i0, i1, i2, or_true, if_true, t1, t2, or_false]
        by_cases k6 : kd = 6
        · simp [k6]
        · simp [k6]
theorem r181 (hk : Md h o) (hR : RC M o E z K0 K1) (hw : WE E) {c t : Nat} (ht : t < E 0) (hc : c < E 1) {e : Nat} (he : 53 ≤ e) : ∃ M', j_C e 181 [.ref o, .int (nI c), .int (nI t)] (FS h M) = some (some (.int (wth E K0 c t)), FS h M') ∧ wf o M M' := by
  obtain ⟨e, rfl⟩ : ∃ d, e = d + 1 := ⟨e - 1, by omega⟩
  have m0 := hk.1
  have h6 := hw.1
  have h8 := hw.2.1
  have hL := hR.1.1
  obtain ⟨v1, v2, v3, v4, v5, v6⟩ := hw.2.2.2.2.2.2.1 t ht
  obtain ⟨w1, w2, w3, w4⟩ := hw.2.2.2.2.2.2.2 c hc
  have n3 := nE_le (E := E) c
  have gk := r147e (M := M) hk (t := t) (k := 0) (by omega) (e := e) (by omega)
  rw [show 8 + 5 * t + 0 = 8 + 5 * t by omega, hL _ (by omega) (by omega)] at gk
  have gv := r148e (M := M) hk (t := c) (k := 0) (by omega) (e := e) (by omega)
  rw [show 38 + 5 * c + 0 = 38 + 5 * c by omega, hL _ (by omega) (by omega)] at gv
  have gn := r166e hk hR.1 (by omega : c < 8) w4 (e := e) (by omega)
  have gl := r147e (M := M) hk (t := t) (k := 4) (by omega) (e := e) (by omega)
  rw [show 8 + 5 * t + 4 = 12 + 5 * t by omega, hL _ (by omega) (by omega)] at gl
  have e10 : ¬ nI 1 = nI 0 := by decide +kernel
  have e01 : ¬ nI 0 = nI 1 := by decide +kernel
  have L : ∀ r i (o9 o10 : Option Value), (o9 = none ∧ o10 = none ∨ ∃ x y : Int32, o9 = some (.int x) ∧ o10 = some (.int y)) → r + i = nE E c → ∃ p9 p10, (p9 = none ∧ p10 = none ∨ ∃ x y : Int32, p9 = some (.int x) ∧ p10 = some (.int y)) ∧ j_X e 181 31 [some (.ref o), some (.int (nI c)), some (.int (nI t)), some (.int (nI (E (8 + 5 * t)))), some (.int (nI (E (38 + 5 * c)))), some (.int (nI (nE E c))), some (.int (nI (lkS (bit_ (E (12 + 5 * t))) E (E (8 + 5 * t)) c i))), some (.int (nI (lkS (nbt (E (12 + 5 * t))) E (E (8 + 5 * t)) c i))), some (.int (nI i)), o9, o10] [] (FS h M) = j_X e 181 137 [some (.ref o), some (.int (nI c)), some (.int (nI t)), some (.int (nI (E (8 + 5 * t)))), some (.int (nI (E (38 + 5 * c)))), some (.int (nI (nE E c))), some (.int (nI (lkS (bit_ (E (12 + 5 * t))) E (E (8 + 5 * t)) c (nE E c)))), some (.int (nI (lkS (nbt (E (12 + 5 * t))) E (E (8 + 5 * t)) c (nE E c)))), some (.int (nI (nE E c))), p9, p10] [] (FS h M) := by
    intro r
    induction r with
    | zero =>
      intro i o9 o10 ho hi
      have ei : i = nE E c := by omega
      have e1 : ¬ nE E c < nE E c := by omega
      subst ei
      refine ⟨o9, o10, ho, ?_⟩
      rw [st_181_31]
      simp (disch := omega) only [st_181_33, st_181_35, st_181_38, st_181_39, st_181_41, st_181_44, st_181_46, st_181_49, st_181_50, st_181_53, st_181_54, st_181_56, st_181_57, st_181_58, st_181_59, st_181_62, st_181_63, st_181_64, st_181_65, st_181_67, st_181_68, st_181_71, st_181_72, st_181_73, st_181_74, st_181_75, st_181_78, st_181_79, st_181_82, st_181_83, st_181_85, st_181_87, st_181_89, st_181_92, st_181_94, st_181_97, st_181_98, st_181_100, st_181_101, st_181_104, st_181_105, st_181_106, st_181_108, st_181_110, st_181_112, st_181_115, st_181_117, st_181_120, st_181_121, st_181_123, st_181_124, st_181_127, st_181_128, st_181_129, st_181_131, st_181_134, ini_181, fs_cl, fs_len, fs_rf, fs_M, fs_put, fs_cpy, ↓reduceIte, rv_ref, true_or, or_true, true_and, and_true, nI_ltI, ix_nI, nI_clamp, ps_i, ps_n, Option.bind_some, sm_0, sm_1, sm_2, sm_3, sm_4, sto_0, sto_1, sto_2, sto_3, sto_4, sto_5, sto_6, sto_7, sto_8, sto_9, sto_10, sto_11, sto_12, sto_13, sto_14, nlo_n, nlo_i, nlo_r, nlo_0, nlo_l, and_self, or_self, Nat.reduceEqDiff, Nat.reduceLT, Nat.reduceLeDiff, Nat.one_ne_zero, Nat.zero_ne_one, e1]
    | succ r ih =>
      intro i o9 o10 ho hi
      have e1 : i < nE E c := by omega
      have gs := r148e (M := M) hk (t := c) (k := 2 + i) (by omega) (e := e) (by omega)
      rw [hL _ (by omega) (by omega)] at gs
      have s8 : E (38 + 5 * c + (2 + i)) < 8 := by
        have hi3 : i = 0 ∨ i = 1 ∨ i = 2 := by omega
        rcases hi3 with ei | ei | ei
        · subst ei; have := w4.1; rw [show 38 + 5 * c + (2 + 0) = 40 + 5 * c by omega]; omega
        · subst ei; have := w4.2.1; rw [show 38 + 5 * c + (2 + 1) = 41 + 5 * c by omega]; omega
        · subst ei; have := w4.2.2.1; rw [show 38 + 5 * c + (2 + 2) = 42 + 5 * c by omega]; omega
      have gb := bt_l _ v6 _ s8
      have b1 := bit_1 (E (12 + 5 * t)) (E (38 + 5 * c + (2 + i)))
      have step : ∃ x y : Int32, j_X e 181 31 [some (.ref o), some (.int (nI c)), some (.int (nI t)), some (.int (nI (E (8 + 5 * t)))), some (.int (nI (E (38 + 5 * c)))), some (.int (nI (nE E c))), some (.int (nI (lkS (bit_ (E (12 + 5 * t))) E (E (8 + 5 * t)) c i))), some (.int (nI (lkS (nbt (E (12 + 5 * t))) E (E (8 + 5 * t)) c i))), some (.int (nI i)), o9, o10] [] (FS h M) = j_X e 181 31 [some (.ref o), some (.int (nI c)), some (.int (nI t)), some (.int (nI (E (8 + 5 * t)))), some (.int (nI (E (38 + 5 * c)))), some (.int (nI (nE E c))), some (.int (nI (lkS (bit_ (E (12 + 5 * t))) E (E (8 + 5 * t)) c (i + 1)))), some (.int (nI (lkS (nbt (E (12 + 5 * t))) E (E (8 + 5 * t)) c (i + 1)))), some (.int (nI (i + 1))), some (.int x), some (.int y)] [] (FS h M) := by
        rw [lkS, lkS]
        have hn : nbt (E (12 + 5 * t)) (E (38 + 5 * c + (2 + i))) = 1 - bit_ (E (12 + 5 * t)) (E (38 + 5 * c + (2 + i))) := rfl
        rw [hn]
        have hbb : bit_ (E (12 + 5 * t)) (E (38 + 5 * c + (2 + i))) = 0 ∨ bit_ (E (12 + 5 * t)) (E (38 + 5 * c + (2 + i))) = 1 := by omega
        rcases ho with ⟨q9, q10⟩ | ⟨x9, x10, q9, q10⟩ <;> subst q9 <;> subst q10
        all_goals
          by_cases k6 : E (8 + 5 * t) = 6
          · by_cases i0 : i = 0
            · subst i0
              rcases hbb with hb | hb
              · refine ⟨nI 1, nI 0, ?_⟩
                rw [hb] at gb ⊢
                rw [st_181_31]
                simp (disch := omega) only [st_181_33, st_181_35, st_181_38, st_181_39, st_181_41, st_181_44, st_181_46, st_181_49, st_181_50, st_181_53, st_181_54, st_181_56, st_181_57, st_181_58, st_181_59, st_181_62, st_181_63, st_181_64, st_181_65, st_181_67, st_181_68, st_181_71, st_181_72, st_181_73, st_181_74, st_181_75, st_181_78, st_181_79, st_181_82, st_181_83, st_181_85, st_181_87, st_181_89, st_181_92, st_181_94, st_181_97, st_181_98, st_181_100, st_181_101, st_181_104, st_181_105, st_181_106, st_181_108, st_181_110, st_181_112, st_181_115, st_181_117, st_181_120, st_181_121, st_181_123, st_181_124, st_181_127, st_181_128, st_181_129, st_181_131, st_181_134, ini_181, fs_cl, fs_len, fs_rf, fs_M, fs_put, fs_cpy, ↓reduceIte, rv_ref, true_or, or_true, true_and, and_true, nI_ltI, ix_nI, nI_clamp, ps_i, ps_n, Option.bind_some, sm_0, sm_1, sm_2, sm_3, sm_4, sto_0, sto_1, sto_2, sto_3, sto_4, sto_5, sto_6, sto_7, sto_8, sto_9, sto_10, sto_11, sto_12, sto_13, sto_14, nlo_n, nlo_i, nlo_r, nlo_0, nlo_l, and_self, or_self, Nat.reduceEqDiff, Nat.reduceLT, Nat.reduceLeDiff, Nat.one_ne_zero, Nat.zero_ne_one, m0, e1, eq_true k6, nI_eq, gl, gs, gb, e10, e01, nI_add, nI_sub, Nat.mul_one, Nat.mul_zero, Nat.sub_zero, Nat.sub_self, Nat.add_zero, Nat.reduceAdd]
              · refine ⟨nI 1, nI 1, ?_⟩
                rw [hb] at gb ⊢
                rw [st_181_31]
                simp (disch := omega) only [st_181_33, st_181_35, st_181_38, st_181_39, st_181_41, st_181_44, st_181_46, st_181_49, st_181_50, st_181_53, st_181_54, st_181_56, st_181_57, st_181_58, st_181_59, st_181_62, st_181_63, st_181_64, st_181_65, st_181_67, st_181_68, st_181_71, st_181_72, st_181_73, st_181_74, st_181_75, st_181_78, st_181_79, st_181_82, st_181_83, st_181_85, st_181_87, st_181_89, st_181_92, st_181_94, st_181_97, st_181_98, st_181_100, st_181_101, st_181_104, st_181_105, st_181_106, st_181_108, st_181_110, st_181_112, st_181_115, st_181_117, st_181_120, st_181_121, st_181_123, st_181_124, st_181_127, st_181_128, st_181_129, st_181_131, st_181_134, ini_181, fs_cl, fs_len, fs_rf, fs_M, fs_put, fs_cpy, ↓reduceIte, rv_ref, true_or, or_true, true_and, and_true, nI_ltI, ix_nI, nI_clamp, ps_i, ps_n, Option.bind_some, sm_0, sm_1, sm_2, sm_3, sm_4, sto_0, sto_1, sto_2, sto_3, sto_4, sto_5, sto_6, sto_7, sto_8, sto_9, sto_10, sto_11, sto_12, sto_13, sto_14, nlo_n, nlo_i, nlo_r, nlo_0, nlo_l, and_self, or_self, Nat.reduceEqDiff, Nat.reduceLT, Nat.reduceLeDiff, Nat.one_ne_zero, Nat.zero_ne_one, m0, e1, eq_true k6, nI_eq, gl, gs, gb, e10, e01, nI_add, nI_sub, Nat.mul_one, Nat.mul_zero, Nat.sub_zero, Nat.sub_self, Nat.add_zero, Nat.reduceAdd]
            · have cf : ¬ (E (8 + 5 * t) ≠ 6 ∨ i = 0) := by omega
              rw [if_neg cf, if_neg cf]
              rcases hbb with hb | hb
              · refine ⟨nI 0, nI 0, ?_⟩
                rw [hb] at gb
                rw [st_181_31]
                simp (disch := omega) only [st_181_33, st_181_35, st_181_38, st_181_39, st_181_41, st_181_44, st_181_46, st_181_49, st_181_50, st_181_53, st_181_54, st_181_56, st_181_57, st_181_58, st_181_59, st_181_62, st_181_63, st_181_64, st_181_65, st_181_67, st_181_68, st_181_71, st_181_72, st_181_73, st_181_74, st_181_75, st_181_78, st_181_79, st_181_82, st_181_83, st_181_85, st_181_87, st_181_89, st_181_92, st_181_94, st_181_97, st_181_98, st_181_100, st_181_101, st_181_104, st_181_105, st_181_106, st_181_108, st_181_110, st_181_112, st_181_115, st_181_117, st_181_120, st_181_121, st_181_123, st_181_124, st_181_127, st_181_128, st_181_129, st_181_131, st_181_134, ini_181, fs_cl, fs_len, fs_rf, fs_M, fs_put, fs_cpy, ↓reduceIte, rv_ref, true_or, or_true, true_and, and_true, nI_ltI, ix_nI, nI_clamp, ps_i, ps_n, Option.bind_some, sm_0, sm_1, sm_2, sm_3, sm_4, sto_0, sto_1, sto_2, sto_3, sto_4, sto_5, sto_6, sto_7, sto_8, sto_9, sto_10, sto_11, sto_12, sto_13, sto_14, nlo_n, nlo_i, nlo_r, nlo_0, nlo_l, and_self, or_self, Nat.reduceEqDiff, Nat.reduceLT, Nat.reduceLeDiff, Nat.one_ne_zero, Nat.zero_ne_one, m0, e1, eq_true k6, i0, nI_eq, gl, gs, gb, e10, e01, nI_add, nI_sub, Nat.add_zero]
              · refine ⟨nI 0, nI 1, ?_⟩
                rw [hb] at gb
                rw [st_181_31]
                simp (disch := omega) only [st_181_33, st_181_35, st_181_38, st_181_39, st_181_41, st_181_44, st_181_46, st_181_49, st_181_50, st_181_53, st_181_54, st_181_56, st_181_57, st_181_58, st_181_59, st_181_62, st_181_63, st_181_64, st_181_65, st_181_67, st_181_68, st_181_71, st_181_72, st_181_73, st_181_74, st_181_75, st_181_78, st_181_79, st_181_82, st_181_83, st_181_85, st_181_87, st_181_89, st_181_92, st_181_94, st_181_97, st_181_98, st_181_100, st_181_101, st_181_104, st_181_105, st_181_106, st_181_108, st_181_110, st_181_112, st_181_115, st_181_117, st_181_120, st_181_121, st_181_123, st_181_124, st_181_127, st_181_128, st_181_129, st_181_131, st_181_134, ini_181, fs_cl, fs_len, fs_rf, fs_M, fs_put, fs_cpy, ↓reduceIte, rv_ref, true_or, or_true, true_and, and_true, nI_ltI, ix_nI, nI_clamp, ps_i, ps_n, Option.bind_some, sm_0, sm_1, sm_2, sm_3, sm_4, sto_0, sto_1, sto_2, sto_3, sto_4, sto_5, sto_6, sto_7, sto_8, sto_9, sto_10, sto_11, sto_12, sto_13, sto_14, nlo_n, nlo_i, nlo_r, nlo_0, nlo_l, and_self, or_self, Nat.reduceEqDiff, Nat.reduceLT, Nat.reduceLeDiff, Nat.one_ne_zero, Nat.zero_ne_one, m0, e1, eq_true k6, i0, nI_eq, gl, gs, gb, e10, e01, nI_add, nI_sub, Nat.add_zero]
          · have cf : (E (8 + 5 * t) ≠ 6 ∨ i = 0) := by omega
            rw [if_pos cf, if_pos cf]
            rcases hbb with hb | hb
            · refine ⟨nI 1, nI 0, ?_⟩
              rw [hb] at gb ⊢
              rw [st_181_31]
              simp (disch := omega) only [st_181_33, st_181_35, st_181_38, st_181_39, st_181_41, st_181_44, st_181_46, st_181_49, st_181_50, st_181_53, st_181_54, st_181_56, st_181_57, st_181_58, st_181_59, st_181_62, st_181_63, st_181_64, st_181_65, st_181_67, st_181_68, st_181_71, st_181_72, st_181_73, st_181_74, st_181_75, st_181_78, st_181_79, st_181_82, st_181_83, st_181_85, st_181_87, st_181_89, st_181_92, st_181_94, st_181_97, st_181_98, st_181_100, st_181_101, st_181_104, st_181_105, st_181_106, st_181_108, st_181_110, st_181_112, st_181_115, st_181_117, st_181_120, st_181_121, st_181_123, st_181_124, st_181_127, st_181_128, st_181_129, st_181_131, st_181_134, ini_181, fs_cl, fs_len, fs_rf, fs_M, fs_put, fs_cpy, ↓reduceIte, rv_ref, true_or, or_true, true_and, and_true, nI_ltI, ix_nI, nI_clamp, ps_i, ps_n, Option.bind_some, sm_0, sm_1, sm_2, sm_3, sm_4, sto_0, sto_1, sto_2, sto_3, sto_4, sto_5, sto_6, sto_7, sto_8, sto_9, sto_10, sto_11, sto_12, sto_13, sto_14, nlo_n, nlo_i, nlo_r, nlo_0, nlo_l, and_self, or_self, Nat.reduceEqDiff, Nat.reduceLT, Nat.reduceLeDiff, Nat.one_ne_zero, Nat.zero_ne_one, m0, e1, k6, nI_eq, gl, gs, gb, e10, e01, nI_add, nI_sub, Nat.mul_one, Nat.mul_zero, Nat.sub_zero, Nat.sub_self, Nat.add_zero]
            · refine ⟨nI 1, nI 1, ?_⟩
              rw [hb] at gb ⊢
              rw [st_181_31]
              simp (disch := omega) only [st_181_33, st_181_35, st_181_38, st_181_39, st_181_41, st_181_44, st_181_46, st_181_49, st_181_50, st_181_53, st_181_54, st_181_56, st_181_57, st_181_58, st_181_59, st_181_62, st_181_63, st_181_64, st_181_65, st_181_67, st_181_68, st_181_71, st_181_72, st_181_73, st_181_74, st_181_75, st_181_78, st_181_79, st_181_82, st_181_83, st_181_85, st_181_87, st_181_89, st_181_92, st_181_94, st_181_97, st_181_98, st_181_100, st_181_101, st_181_104, st_181_105, st_181_106, st_181_108, st_181_110, st_181_112, st_181_115, st_181_117, st_181_120, st_181_121, st_181_123, st_181_124, st_181_127, st_181_128, st_181_129, st_181_131, st_181_134, ini_181, fs_cl, fs_len, fs_rf, fs_M, fs_put, fs_cpy, ↓reduceIte, rv_ref, true_or, or_true, true_and, and_true, nI_ltI, ix_nI, nI_clamp, ps_i, ps_n, Option.bind_some, sm_0, sm_1, sm_2, sm_3, sm_4, sto_0, sto_1, sto_2, sto_3, sto_4, sto_5, sto_6, sto_7, sto_8, sto_9, sto_10, sto_11, sto_12, sto_13, sto_14, nlo_n, nlo_i, nlo_r, nlo_0, nlo_l, and_self, or_self, Nat.reduceEqDiff, Nat.reduceLT, Nat.reduceLeDiff, Nat.one_ne_zero, Nat.zero_ne_one, m0, e1, k6, nI_eq, gl, gs, gb, e10, e01, nI_add, nI_sub, Nat.mul_one, Nat.mul_zero, Nat.sub_zero, Nat.sub_self, Nat.add_zero]
      obtain ⟨x, y, hX⟩ := step
      obtain ⟨p9, p10, hp, hX2⟩ := ih (i + 1) _ _ (.inr ⟨x, y, rfl, rfl⟩) (by omega)
      exact ⟨p9, p10, hp, hX.trans hX2⟩
  obtain ⟨p9, p10, hp, hX⟩ := L (nE E c) 0 none none (.inl ⟨rfl, rfl⟩) (by omega)
  rw [lkS_v w4, lkS_v w4, lkS, lkS] at hX
  have st : ∀ R, j_X e 181 137 [some (.ref o), some (.int (nI c)), some (.int (nI t)), some (.int (nI (E (8 + 5 * t)))), some (.int (nI (E (38 + 5 * c)))), some (.int (nI (nE E c))), some (.int (nI (if E (8 + 5 * t) = 6 then st1 (bit_ (E (12 + 5 * t))) (E (40 + 5 * c)) else st3 (bit_ (E (12 + 5 * t))) (E (40 + 5 * c)) (E (41 + 5 * c)) (E (42 + 5 * c))))), some (.int (nI (if E (8 + 5 * t) = 6 then st1 (nbt (E (12 + 5 * t))) (E (40 + 5 * c)) else st3 (nbt (E (12 + 5 * t))) (E (40 + 5 * c)) (E (41 + 5 * c)) (E (42 + 5 * c))))), some (.int (nI (nE E c))), p9, p10] [] (FS h M) = R → j_C (e + 1) 181 [.ref o, .int (nI c), .int (nI t)] (FS h M) = R := by
    intro R hR
    rw [j_C_eq]
    simp (disch := omega) only [st_181_0, st_181_1, st_181_2, st_181_3, st_181_6, st_181_7, st_181_8, st_181_9, st_181_10, st_181_13, st_181_15, st_181_16, st_181_17, st_181_20, st_181_22, st_181_23, st_181_25, st_181_26, st_181_28, st_181_29, ini_181, fs_cl, fs_len, fs_rf, fs_M, fs_put, fs_cpy, ↓reduceIte, rv_ref, true_or, or_true, true_and, and_true, nI_ltI, ix_nI, nI_clamp, ps_i, ps_n, Option.bind_some, sm_0, sm_1, sm_2, sm_3, sm_4, sto_0, sto_1, sto_2, sto_3, sto_4, sto_5, sto_6, sto_7, sto_8, sto_9, sto_10, sto_11, sto_12, sto_13, sto_14, nlo_n, nlo_i, nlo_r, nlo_0, nlo_l, and_self, or_self, Nat.reduceEqDiff, Nat.reduceLT, Nat.reduceLeDiff, Nat.one_ne_zero, Nat.zero_ne_one, m0, gk, gv, gn]
    rw [hX]; exact hR
  have V := fun x y w => r164 hk (K := K0) (u := 0) (by omega) hR.2.1 x y w (e := e) (by omega)
  have hcase : E (8 + 5 * t) = 0 ∨ E (8 + 5 * t) = 1 ∨ E (8 + 5 * t) = 2 ∨ E (8 + 5 * t) = 3 ∨ E (8 + 5 * t) = 4 ∨ E (8 + 5 * t) = 5 ∨ E (8 + 5 * t) = 6 := by omega
  unfold wth
  rcases hcase with e0 | e0 | e0 | e0 | e0 | e0 | e0
  · obtain ⟨M', p1, p2⟩ := V (nI (E (38 + 5 * c))) (nI (st3 (bit_ (E (12 + 5 * t))) (E (40 + 5 * c)) (E (41 + 5 * c)) (E (42 + 5 * c)))) (nI (st3 (nbt (E (12 + 5 * t))) (E (40 + 5 * c)) (E (41 + 5 * c)) (E (42 + 5 * c))))
    rw [if_pos rfl] at p1
    refine ⟨M', st _ ?_, p2⟩
    simp (disch := omega) only [st_181_137, st_181_138, st_181_176, st_181_177, st_181_178, st_181_180, st_181_182, st_181_183, st_181_186, st_181_187, st_181_188, st_181_189, st_181_191, st_181_193, st_181_194, st_181_197, st_181_198, st_181_199, st_181_200, st_181_203, st_181_204, st_181_205, st_181_206, st_181_207, st_181_209, st_181_211, st_181_213, st_181_216, st_181_218, st_181_219, st_181_220, st_181_222, st_181_224, st_181_225, st_181_226, st_181_227, st_181_228, st_181_230, st_181_231, st_181_233, st_181_234, st_181_235, st_181_237, st_181_238, st_181_241, st_181_242, st_181_243, st_181_244, st_181_246, st_181_248, st_181_250, st_181_253, ini_181, fs_cl, fs_len, fs_rf, fs_M, fs_put, fs_cpy, ↓reduceIte, rv_ref, true_or, or_true, true_and, and_true, nI_ltI, ix_nI, nI_clamp, ps_i, ps_n, Option.bind_some, sm_0, sm_1, sm_2, sm_3, sm_4, sto_0, sto_1, sto_2, sto_3, sto_4, sto_5, sto_6, sto_7, sto_8, sto_9, sto_10, sto_11, sto_12, sto_13, sto_14, nlo_n, nlo_i, nlo_r, nlo_0, nlo_l, and_self, or_self, Nat.reduceEqDiff, Nat.reduceLT, Nat.reduceLeDiff, Nat.one_ne_zero, Nat.zero_ne_one, m0, e0, nI_eq, p1]
  · obtain ⟨M', p1, p2⟩ := V (nI (E (38 + 5 * c))) (nI (st3 (bit_ (E (12 + 5 * t))) (E (40 + 5 * c)) (E (41 + 5 * c)) (E (42 + 5 * c)))) (nI 0)
    rw [if_pos rfl] at p1
    refine ⟨M', st _ ?_, p2⟩
    simp (disch := omega) only [st_181_137, st_181_138, st_181_176, st_181_177, st_181_178, st_181_180, st_181_182, st_181_183, st_181_186, st_181_187, st_181_188, st_181_189, st_181_191, st_181_193, st_181_194, st_181_197, st_181_198, st_181_199, st_181_200, st_181_203, st_181_204, st_181_205, st_181_206, st_181_207, st_181_209, st_181_211, st_181_213, st_181_216, st_181_218, st_181_219, st_181_220, st_181_222, st_181_224, st_181_225, st_181_226, st_181_227, st_181_228, st_181_230, st_181_231, st_181_233, st_181_234, st_181_235, st_181_237, st_181_238, st_181_241, st_181_242, st_181_243, st_181_244, st_181_246, st_181_248, st_181_250, st_181_253, ini_181, fs_cl, fs_len, fs_rf, fs_M, fs_put, fs_cpy, ↓reduceIte, rv_ref, true_or, or_true, true_and, and_true, nI_ltI, ix_nI, nI_clamp, ps_i, ps_n, Option.bind_some, sm_0, sm_1, sm_2, sm_3, sm_4, sto_0, sto_1, sto_2, sto_3, sto_4, sto_5, sto_6, sto_7, sto_8, sto_9, sto_10, sto_11, sto_12, sto_13, sto_14, nlo_n, nlo_i, nlo_r, nlo_0, nlo_l, and_self, or_self, Nat.reduceEqDiff, Nat.reduceLT, Nat.reduceLeDiff, Nat.one_ne_zero, Nat.zero_ne_one, m0, e0, nI_eq, p1]
  · obtain ⟨M', p1, p2⟩ := V (nI (E (38 + 5 * c))) (nI (st3 (bit_ (E (12 + 5 * t))) (E (40 + 5 * c)) (E (41 + 5 * c)) (E (42 + 5 * c)))) (nI (st3 (nbt (E (12 + 5 * t))) (E (40 + 5 * c)) (E (41 + 5 * c)) (E (42 + 5 * c))))
    rw [if_pos rfl] at p1
    refine ⟨M', st _ ?_, p2⟩
    simp (disch := omega) only [st_181_137, st_181_138, st_181_176, st_181_177, st_181_178, st_181_180, st_181_182, st_181_183, st_181_186, st_181_187, st_181_188, st_181_189, st_181_191, st_181_193, st_181_194, st_181_197, st_181_198, st_181_199, st_181_200, st_181_203, st_181_204, st_181_205, st_181_206, st_181_207, st_181_209, st_181_211, st_181_213, st_181_216, st_181_218, st_181_219, st_181_220, st_181_222, st_181_224, st_181_225, st_181_226, st_181_227, st_181_228, st_181_230, st_181_231, st_181_233, st_181_234, st_181_235, st_181_237, st_181_238, st_181_241, st_181_242, st_181_243, st_181_244, st_181_246, st_181_248, st_181_250, st_181_253, ini_181, fs_cl, fs_len, fs_rf, fs_M, fs_put, fs_cpy, ↓reduceIte, rv_ref, true_or, or_true, true_and, and_true, nI_ltI, ix_nI, nI_clamp, ps_i, ps_n, Option.bind_some, sm_0, sm_1, sm_2, sm_3, sm_4, sto_0, sto_1, sto_2, sto_3, sto_4, sto_5, sto_6, sto_7, sto_8, sto_9, sto_10, sto_11, sto_12, sto_13, sto_14, nlo_n, nlo_i, nlo_r, nlo_0, nlo_l, and_self, or_self, Nat.reduceEqDiff, Nat.reduceLT, Nat.reduceLeDiff, Nat.one_ne_zero, Nat.zero_ne_one, m0, e0, nI_eq, p1]
  · obtain ⟨M', p1, p2⟩ := V (nI (E (38 + 5 * c))) (nI 2 * (nI (st3 (bit_ (E (12 + 5 * t))) (E (40 + 5 * c)) (E (41 + 5 * c)) (E (42 + 5 * c))))) (nI 2 * (nI (st3 (nbt (E (12 + 5 * t))) (E (40 + 5 * c)) (E (41 + 5 * c)) (E (42 + 5 * c)))))
    rw [if_pos rfl] at p1
    refine ⟨M', st _ ?_, p2⟩
    simp (disch := omega) only [st_181_137, st_181_138, st_181_176, st_181_177, st_181_178, st_181_180, st_181_182, st_181_183, st_181_186, st_181_187, st_181_188, st_181_189, st_181_191, st_181_193, st_181_194, st_181_197, st_181_198, st_181_199, st_181_200, st_181_203, st_181_204, st_181_205, st_181_206, st_181_207, st_181_209, st_181_211, st_181_213, st_181_216, st_181_218, st_181_219, st_181_220, st_181_222, st_181_224, st_181_225, st_181_226, st_181_227, st_181_228, st_181_230, st_181_231, st_181_233, st_181_234, st_181_235, st_181_237, st_181_238, st_181_241, st_181_242, st_181_243, st_181_244, st_181_246, st_181_248, st_181_250, st_181_253, ini_181, fs_cl, fs_len, fs_rf, fs_M, fs_put, fs_cpy, ↓reduceIte, rv_ref, true_or, or_true, true_and, and_true, nI_ltI, ix_nI, nI_clamp, ps_i, ps_n, Option.bind_some, sm_0, sm_1, sm_2, sm_3, sm_4, sto_0, sto_1, sto_2, sto_3, sto_4, sto_5, sto_6, sto_7, sto_8, sto_9, sto_10, sto_11, sto_12, sto_13, sto_14, nlo_n, nlo_i, nlo_r, nlo_0, nlo_l, and_self, or_self, Nat.reduceEqDiff, Nat.reduceLT, Nat.reduceLeDiff, Nat.one_ne_zero, Nat.zero_ne_one, m0, e0, nI_eq, p1]
  · obtain ⟨M', p1, p2⟩ := V (nI (E (38 + 5 * c))) (nI (st3 (bit_ (E (12 + 5 * t))) (E (40 + 5 * c)) (E (41 + 5 * c)) (E (42 + 5 * c)))) (nI 0)
    rw [if_pos rfl] at p1
    have gm := r147e (M := M') hk (t := t) (k := 1) (by omega) (e := e) (by omega)
    rw [show 8 + 5 * t + 1 = 9 + 5 * t by omega, p2.1 (o + 1) (by omega) (by omega), hL _ (by omega) (by omega)] at gm
    refine ⟨M', st _ ?_, p2⟩
    simp (disch := omega) only [st_181_137, st_181_138, st_181_176, st_181_177, st_181_178, st_181_180, st_181_182, st_181_183, st_181_186, st_181_187, st_181_188, st_181_189, st_181_191, st_181_193, st_181_194, st_181_197, st_181_198, st_181_199, st_181_200, st_181_203, st_181_204, st_181_205, st_181_206, st_181_207, st_181_209, st_181_211, st_181_213, st_181_216, st_181_218, st_181_219, st_181_220, st_181_222, st_181_224, st_181_225, st_181_226, st_181_227, st_181_228, st_181_230, st_181_231, st_181_233, st_181_234, st_181_235, st_181_237, st_181_238, st_181_241, st_181_242, st_181_243, st_181_244, st_181_246, st_181_248, st_181_250, st_181_253, ini_181, fs_cl, fs_len, fs_rf, fs_M, fs_put, fs_cpy, ↓reduceIte, rv_ref, true_or, or_true, true_and, and_true, nI_ltI, ix_nI, nI_clamp, ps_i, ps_n, Option.bind_some, sm_0, sm_1, sm_2, sm_3, sm_4, sto_0, sto_1, sto_2, sto_3, sto_4, sto_5, sto_6, sto_7, sto_8, sto_9, sto_10, sto_11, sto_12, sto_13, sto_14, nlo_n, nlo_i, nlo_r, nlo_0, nlo_l, and_self, or_self, Nat.reduceEqDiff, Nat.reduceLT, Nat.reduceLeDiff, Nat.one_ne_zero, Nat.zero_ne_one, m0, e0, nI_eq, p1, gm]
  · refine ⟨M, st _ ?_, wf_r⟩
    have mc : nI (E (38 + 5 * c)) * nI 10 = nI 10 * nI (E (38 + 5 * c)) := Int32.mul_comm _ _
    simp (disch := omega) only [st_181_137, st_181_138, st_181_176, st_181_177, st_181_178, st_181_180, st_181_182, st_181_183, st_181_186, st_181_187, st_181_188, st_181_189, st_181_191, st_181_193, st_181_194, st_181_197, st_181_198, st_181_199, st_181_200, st_181_203, st_181_204, st_181_205, st_181_206, st_181_207, st_181_209, st_181_211, st_181_213, st_181_216, st_181_218, st_181_219, st_181_220, st_181_222, st_181_224, st_181_225, st_181_226, st_181_227, st_181_228, st_181_230, st_181_231, st_181_233, st_181_234, st_181_235, st_181_237, st_181_238, st_181_241, st_181_242, st_181_243, st_181_244, st_181_246, st_181_248, st_181_250, st_181_253, ini_181, fs_cl, fs_len, fs_rf, fs_M, fs_put, fs_cpy, ↓reduceIte, rv_ref, true_or, or_true, true_and, and_true, nI_ltI, ix_nI, nI_clamp, ps_i, ps_n, Option.bind_some, sm_0, sm_1, sm_2, sm_3, sm_4, sto_0, sto_1, sto_2, sto_3, sto_4, sto_5, sto_6, sto_7, sto_8, sto_9, sto_10, sto_11, sto_12, sto_13, sto_14, nlo_n, nlo_i, nlo_r, nlo_0, nlo_l, and_self, or_self, Nat.reduceEqDiff, Nat.reduceLT, Nat.reduceLeDiff, Nat.one_ne_zero, Nat.zero_ne_one, m0, e0, nI_eq, mc]
  · obtain ⟨M', p1, p2⟩ := V (nI (E (38 + 5 * c))) (nI 2 * (nI (st1 (bit_ (E (12 + 5 * t))) (E (40 + 5 * c))))) (nI 2 * (nI (st1 (nbt (E (12 + 5 * t))) (E (40 + 5 * c)))))
    rw [if_pos rfl] at p1
    refine ⟨M', st _ ?_, p2⟩
    simp (disch := omega) only [st_181_137, st_181_138, st_181_176, st_181_177, st_181_178, st_181_180, st_181_182, st_181_183, st_181_186, st_181_187, st_181_188, st_181_189, st_181_191, st_181_193, st_181_194, st_181_197, st_181_198, st_181_199, st_181_200, st_181_203, st_181_204, st_181_205, st_181_206, st_181_207, st_181_209, st_181_211, st_181_213, st_181_216, st_181_218, st_181_219, st_181_220, st_181_222, st_181_224, st_181_225, st_181_226, st_181_227, st_181_228, st_181_230, st_181_231, st_181_233, st_181_234, st_181_235, st_181_237, st_181_238, st_181_241, st_181_242, st_181_243, st_181_244, st_181_246, st_181_248, st_181_250, st_181_253, ini_181, fs_cl, fs_len, fs_rf, fs_M, fs_put, fs_cpy, ↓reduceIte, rv_ref, true_or, or_true, true_and, and_true, nI_ltI, ix_nI, nI_clamp, ps_i, ps_n, Option.bind_some, sm_0, sm_1, sm_2, sm_3, sm_4, sto_0, sto_1, sto_2, sto_3, sto_4, sto_5, sto_6, sto_7, sto_8, sto_9, sto_10, sto_11, sto_12, sto_13, sto_14, nlo_n, nlo_i, nlo_r, nlo_0, nlo_l, and_self, or_self, Nat.reduceEqDiff, Nat.reduceLT, Nat.reduceLeDiff, Nat.one_ne_zero, Nat.zero_ne_one, m0, e0, nI_eq, p1]
theorem r182 (hk : Md h o) (hR : RC M o E z K0 K1) (hw : WE E) {c t : Nat} (ht : t < E 0) (hc : c < E 1) {e : Nat} (he : 54 ≤ e) : ∃ M', j_C e 182 [.ref o, .int (nI c), .int (nI t)] (FS h M) = some (some (.int (if wth E K0 c t < nI (E (11 + 5 * t)) then nI 0 else nI 1)), FS h M') ∧ wf o M M' := by
  obtain ⟨e, rfl⟩ : ∃ d, e = d + 1 := ⟨e - 1, by omega⟩
  have m0 := hk.1
  have h6 := hw.1
  obtain ⟨M', p1, p2⟩ := r181 hk hR hw ht hc (e := e) (by omega)
  have gp := r147e (M := M') hk (t := t) (k := 3) (by omega) (e := e) (by omega)
  rw [show 8 + 5 * t + 3 = 11 + 5 * t by omega, p2.1 (o + 1) (by omega) (by omega), hR.1.1 _ (by omega) (by omega)] at gp
  refine ⟨M', ?_, p2⟩
  rw [j_C_eq]
  by_cases cc : wth E K0 c t < nI (E (11 + 5 * t))
  · simp (disch := omega) only [st_182_0, st_182_1, st_182_2, st_182_3, st_182_6, st_182_7, st_182_8, st_182_9, st_182_12, st_182_15, st_182_16, st_182_19, st_182_20, ini_182, fs_cl, fs_len, fs_rf, fs_M, fs_put, fs_cpy, ↓reduceIte, rv_ref, true_or, or_true, true_and, and_true, nI_ltI, ix_nI, nI_clamp, ps_i, ps_n, Option.bind_some, sm_0, sm_1, sm_2, sm_3, sm_4, sto_0, sto_1, sto_2, sto_3, sto_4, sto_5, sto_6, sto_7, sto_8, sto_9, sto_10, sto_11, sto_12, sto_13, sto_14, nlo_n, nlo_i, nlo_r, nlo_0, nlo_l, and_self, or_self, Nat.reduceEqDiff, Nat.reduceLT, Nat.reduceLeDiff, Nat.one_ne_zero, Nat.zero_ne_one, m0, p1, gp, cc]
  · simp (disch := omega) only [st_182_0, st_182_1, st_182_2, st_182_3, st_182_6, st_182_7, st_182_8, st_182_9, st_182_12, st_182_15, st_182_16, st_182_19, st_182_20, ini_182, fs_cl, fs_len, fs_rf, fs_M, fs_put, fs_cpy, ↓reduceIte, rv_ref, true_or, or_true, true_and, and_true, nI_ltI, ix_nI, nI_clamp, ps_i, ps_n, Option.bind_some, sm_0, sm_1, sm_2, sm_3, sm_4, sto_0, sto_1, sto_2, sto_3, sto_4, sto_5, sto_6, sto_7, sto_8, sto_9, sto_10, sto_11, sto_12, sto_13, sto_14, nlo_n, nlo_i, nlo_r, nlo_0, nlo_l, and_self, or_self, Nat.reduceEqDiff, Nat.reduceLT, Nat.reduceLeDiff, Nat.one_ne_zero, Nat.zero_ne_one, m0, p1, gp, cc]
/-- as rg, and what is laid aside stays -/
def rh (o : Nat) (M M' : Nat → Nat → Int32) : Prop := (∀ x, x ≠ o → x ≠ o + 1 → x ≠ o + 5 → x ≠ o + 6 → M' x = M x) ∧ (∀ k, (k < 5 ∨ 10 < k) → M' o k = M o k) ∧ ∀ k, 78 ≤ k → M' (o + 1) k = M (o + 1) k
theorem rh_r : rh o M M := ⟨fun _ _ _ _ _ => rfl, fun _ _ => rfl, fun _ _ => rfl⟩
theorem rh_t {M1 M2 M3 : Nat → Nat → Int32} (h1 : rh o M1 M2) (h2 : rh o M2 M3) : rh o M1 M3 := ⟨fun x a b c e => by rw [h2.1 x a b c e, h1.1 x a b c e], fun k a => by rw [h2.2.1 k a, h1.2.1 k a], fun k a => by rw [h2.2.2 k a, h1.2.2 k a]⟩
theorem rh_wf {M' : Nat → Nat → Int32} (h1 : wf o M M') : rh o M M' := ⟨fun x a _ e _ => h1.1 x a e, fun k a => h1.2 k a, fun k _ => by rw [h1.1 (o + 1) (by omega) (by omega)]⟩
theorem rh_ld {M' : Nat → Nat → Int32} (h1 : ld o M M') : rh o M M' := ⟨fun x _ b _ _ => h1.1 x b, fun k _ => by rw [h1.1 o (by omega)], fun k hk => h1.2 k hk⟩
theorem rg_rh {M' : Nat → Nat → Int32} (h1 : rh o M M') : rg o M M' := ⟨fun x a b _ e f => h1.1 x a b e f, h1.2⟩
theorem rg_as {M' : Nat → Nat → Int32} (h1 : ∀ x, x ≠ o + 4 → M' x = M x) : rg o M M' := ⟨fun x _ _ a _ _ => h1 x a, fun k _ => by rw [h1 o (by omega)], fun k _ => by rw [h1 (o + 1) (by omega)]⟩
theorem put_bk {M1 M2 M3 : Nat → Nat → Int32} (hR : RC M o E z K0 K1) (a1 : ∀ k, k < 78 → M1 (o + 4) k = M (o + 1) k) (a2 : ∀ x, x ≠ o + 4 → M1 x = M x) (hr : rh o M1 M2) (b1 : ∀ k, k < 78 → M3 (o + 1) k = M2 (o + 4) k) (b2 : ∀ k, 78 ≤ k → M3 (o + 1) k = M2 (o + 1) k) (b3 : ∀ x, x ≠ o + 1 → M3 x = M2 x) : RC M3 o E z K0 K1 ∧ rg o M M3 := by
  have g : rg o M M3 := by
    refine rg_t (rg_as a2) (rg_t (rg_rh hr) ⟨fun x _ a _ _ _ => b3 x a, fun k _ => by rw [b3 o (by omega)], b2⟩)
  have e : ∀ k, k < 78 → M3 (o + 1) k = M (o + 1) k := fun k hk => by rw [b1 k hk, hr.1 (o + 4) (by omega) (by omega) (by omega) (by omega), a1 k hk]
  refine ⟨⟨⟨fun k hk h5 => ?_, ?_⟩, Tx_rg g hR.2.1, Tx_rg g hR.2.2⟩, g⟩
  · rw [e k hk]; exact hR.1.1 k hk h5
  · rw [e 5 (by omega)]; exact hR.1.2
theorem RC_as {M1 : Nat → Nat → Int32} (hR : RC M o E z K0 K1) (a2 : ∀ x, x ≠ o + 4 → M1 x = M x) : RC M1 o E z K0 K1 := by
  refine ⟨?_, Tx_rg (rg_as a2) hR.2.1, Tx_rg (rg_as a2) hR.2.2⟩
  unfold RLd
  rw [a2 (o + 1) (by omega)]
  exact hR.1
