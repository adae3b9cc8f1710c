/-! The class's Thoughts: the fewest coins that pay. -/
variable {h : j_Hd} {M : Nat → Nat → Int32} {σ : j_St} {d b w : Nat} {E : Nat → Nat} {z : Int32} {K0 K1 : List Int32}
/-- how many bits -/
def cnt (s : Nat) : Nat := bit_ s 0 + bit_ s 1 + bit_ s 2 + bit_ s 3 + bit_ s 4 + bit_ s 5 + bit_ s 6 + bit_ s 7
theorem cnt_le (s : Nat) : cnt s ≤ 8 := by
  unfold cnt
  have e := fun k => bit_1 s k
  have := e 0; have := e 1; have := e 2; have := e 3; have := e 4; have := e 5; have := e 6; have := e 7
  omega
theorem c224 {s : Nat} (hs : s < 256) : j_C (d + 1) 224 [.int (nI s)] σ = some (some (.int (nI (cnt s))), σ) := by
  have key : ∀ x y : Int32, x = y → (some (some (Value.int x), σ) : j_R) = some (some (.int y), σ) := fun _ _ h => by rw [h]
  rw [j_C_eq]
  simp only [st_224_0, st_224_1, st_224_2, st_224_3, st_224_4, st_224_7, st_224_8, st_224_9, st_224_10, st_224_11, st_224_14, st_224_15, st_224_16, st_224_17, st_224_18, st_224_21, st_224_22, st_224_23, st_224_24, st_224_25, st_224_26, st_224_27, st_224_28, st_224_29, st_224_32, st_224_33, st_224_34, st_224_35, st_224_36, st_224_38, st_224_39, st_224_40, st_224_41, st_224_42, st_224_43, st_224_45, st_224_46, st_224_47, st_224_48, st_224_49, st_224_51, st_224_52, ini_224, fs_cl, fs_len, fs_rf, fs_M, fs_put, fs_cpy, ↓reduceIte, rv_ref, true_or, or_true, true_and, and_true, nI_ltI, ix_nI, nI_clamp, ps_i, ps_n, Option.bind_some, sm_0, sm_1, sm_2, sm_3, sm_4, sto_0, sto_1, sto_2, sto_3, sto_4, sto_5, sto_6, sto_7, sto_8, sto_9, sto_10, sto_11, sto_12, sto_13, sto_14, nlo_n, nlo_i, nlo_r, nlo_0, nlo_l, and_self, or_self, Nat.reduceEqDiff, Nat.reduceLT, Nat.reduceLeDiff, Nat.one_ne_zero, Nat.zero_ne_one]
  apply key
  revert hs
  revert s
  decide +kernel
theorem mm_b {lo v : Int32} (h1 : -99 ≤ lo.toInt) (h2 : lo.toInt ≤ 0) : -99 ≤ (mm lo v).toInt ∧ (mm lo v).toInt ≤ 99 := by
  have e99 : (nI 99).toInt = 99 := nI_tI (by omega)
  unfold mm
  by_cases e : v < nI 99
  · rw [if_pos e]
    rw [ltn (by omega)] at e
    by_cases e2 : lo < v
    · rw [if_pos e2]; rw [Int32.lt_iff_toInt_lt] at e2; omega
    · rw [if_neg e2]; omega
  · rw [if_neg e]
    by_cases e2 : lo < nI 99
    · rw [if_pos e2]; omega
    · rw [if_neg e2]; omega
theorem gv0_b (K : List Int32) (x y v : Int32) : -99 ≤ (gv0 K x y v).toInt ∧ (gv0 K x y v).toInt ≤ 99 := by
  unfold gv0
  have e : (-99 : Int32).toInt = -99 := by decide +kernel
  exact mm_b (by rw [e]; omega) (by rw [e]; omega)
theorem add_b {x : Int32} {k : Nat} (hk : k ≤ 9) (h1 : -99 ≤ x.toInt ∧ x.toInt ≤ 99) : -99 ≤ (x + nI k).toInt ∧ (x + nI k).toInt ≤ 108 := by
  rw [zI_of x, nI_z, zI_add, zI_toInt (by omega) (by omega)]
  omega
theorem wth_b (hw : WE E) {c t : Nat} (ht : t < E 0) (hc : c < E 1) : -99 ≤ (wth E K0 c t).toInt ∧ (wth E K0 c t).toInt ≤ 108 := by
  obtain ⟨v1, v2, v3, v4, v5, v6⟩ := hw.2.2.2.2.2.2.1 t ht
  obtain ⟨w1, w2, w3, w4⟩ := hw.2.2.2.2.2.2.2 c hc
  have n3 := nE_le (E := E) c
  have g : ∀ x y v : Int32, -99 ≤ (gv0 K0 x y v).toInt ∧ (gv0 K0 x y v).toInt ≤ 108 := fun x y v => by
    have := gv0_b K0 x y v; omega
  unfold wth
  split
  · exact g _ _ _
  · split
    · exact add_b (by omega) (gv0_b _ _ _ _)
    · split
      · exact g _ _ _
      · split
        · exact add_b (by omega) (gv0_b _ _ _ _)
        · split
          · rw [nI_mul, nI_tI (by omega)]; omega
          · split
            · exact g _ _ _
            · exact g _ _ _
theorem mxz (x : Int32) : (if nI 0 < x then x else nI 0) = nI x.toInt.toNat := by
  by_cases e : nI 0 < x
  · rw [if_pos e]
    rw [nlt (by omega)] at e
    rw [nI_z, Int.toNat_of_nonneg (by omega)]
    exact zI_of x
  · rw [if_neg e]
    rw [nlt (by omega)] at e
    rw [show x.toInt.toNat = 0 by omega]
/-- what a coin adds -/
def pw (E : Nat → Nat) (K : List Int32) (t u c : Nat) : Nat := if E (39 + 5 * c) = t then (wth E K c u).toInt.toNat else 0
theorem pw_le (hw : WE E) {c t u : Nat} (ht : u < E 0) (hc : c < E 1) : pw E K0 t u c ≤ 108 := by
  have := wth_b (K0 := K0) hw ht hc
  unfold pw; split <;> omega
/-- the sum of a set -/
def wsN (W : Nat → Nat) (s : Nat) : Nat → Nat
  | 0 => 0
  | c + 1 => wsN W s c + bit_ s c * W c
theorem wos_N {W : Nat → Int32} {V : Nat → Nat} {s : Nat} (hs : s < 256) : ∀ n, n ≤ 8 → (∀ c, c < n → W c = nI (V c)) → wosS W (nI s) n = nI (wsN V s n) := by
  intro n
  induction n with
  | zero => intro _ _; rfl
  | succ n ih =>
    intro hn he
    have b1 := bit_1 s n
    rw [wosS, wsN, ih (by omega) (fun c hc => he c (by omega)), he n (by omega), bt_l s hs n (by omega)]
    by_cases e : bit_ s n = 0
    · rw [e, if_pos rfl]; congr 1; omega
    · rw [if_neg (nI_ne e (by omega) (by omega)), nI_add, show bit_ s n = 1 by omega]; congr 1; omega
theorem wsN_le {V : Nat → Nat} {s : Nat} : ∀ n, (∀ c, c < n → V c ≤ 108) → wsN V s n ≤ 108 * n := by
  intro n
  induction n with
  | zero => intro _; exact Nat.le_refl _
  | succ n ih =>
    intro he
    have b1 := bit_1 s n
    have := ih (fun c hc => he c (by omega))
    have := he n (by omega)
    rw [wsN]
    have e := Nat.mul_le_mul b1 this
    omega
/-- the search -/
def pyS (W : Nat → Nat) (n S : Nat) : Nat → Nat → Nat → Nat
  | 0, _, b => b
  | r + 1, s, b => pyS W n S r (s + 1) (if (b = 0 ∨ cnt s < cnt b) ∧ S ≤ wsN W s n then s else b)
theorem pyS_lt {W : Nat → Nat} {n S : Nat} : ∀ r s b, b < 256 → r + s ≤ 256 → pyS W n S r s b < 256 := by
  intro r
  induction r with
  | zero => intro s b hb _; exact hb
  | succ r ih =>
    intro s b hb hr
    refine ih _ _ ?_ (by omega)
    split <;> omega
/-- but for the worths of a thought and the stacks of a market -/
def pg (w b : Nat) (M M' : Nat → Nat → Int32) : Prop := ∀ x, x ≠ w + 28 → x ≠ w + 29 → x ≠ b + 20 → x ≠ b + 21 → x ≠ b + 25 → x ≠ b + 26 → M' x = M x
theorem pow_n : ∀ n, n ≤ 8 → nI 1 <<< (nI n &&& 31) = nI (2 ^ n) := by decide +kernel
theorem c60 (ht : Th h w) (hk : Mk h b) (hdis : b + 27 ≤ w) (hm : CM M b E z K0 K1) (hw : WE E) {t u S : Nat} (hT : t < E 0) (hu : u < E 0) (hS : S < 1000) : ∃ M', j_C (d + 5) 60 [.ref w, .ref b, .int (nI t), .int (nI u), .int (nI S)] (FS h M) = some (some (.int (nI (pyS (pw E K0 t u) (E 1) S (2 ^ E 1 - 1) 1 0))), FS h M') ∧ pg w b M M' := by
  obtain ⟨t0, t1, t2, t3, t4⟩ := id ht
  have h8 := hw.2.1
  have h6 := hw.1
  have m0 := hk.1
  have L1 : ∀ r c (M : Nat → Nat → Int32), CM M b E z K0 K1 → r + c = E 1 → M (w + 28) 1 = nI c → (∀ i, i < c → M (w + 29) i = nI (pw E K0 t u i)) → ∃ M', j_X (d + 4) 60 10 [some (.ref w), some (.ref b), some (.int (nI t)), some (.int (nI u)), some (.int (nI S)), some (.int (nI c)), none, none] [] (FS h M) = j_X (d + 4) 60 10 [some (.ref w), some (.ref b), some (.int (nI t)), some (.int (nI u)), some (.int (nI S)), some (.int (nI (E 1))), none, none] [] (FS h M') ∧ CM M' b E z K0 K1 ∧ M' (w + 28) 1 = nI (E 1) ∧ (∀ i, i < E 1 → M' (w + 29) i = nI (pw E K0 t u i)) ∧ pg w b M M' := by
    intro r
    induction r with
    | zero =>
      intro c M hm hr hs hi
      have e : c = E 1 := by omega
      subst e
      exact ⟨M, rfl, hm, hs, hi, fun _ _ _ _ _ _ _ => rfl⟩
    | succ r ih =>
      intro c M hm hr hs hi
      have e1 : c < E 1 := by omega
      have g12 := c12 (d := d + 2) hk hm hw (t := t) (by omega) e1
      have g7 := c7 (d := d + 2) (M := M) hk
      rw [hm.1.2.2.2.2.2.1] at g7
      have fin : ∀ M1 : Nat → Nat → Int32, sg b M M1 → ∃ M2, j_C (d + 4) 36 [.ref (w + 28), .int (nI (pw E K0 t u c))] (FS h M1) = some (some (.int (nI 1)), FS h M2) ∧ CM M2 b E z K0 K1 ∧ M2 (w + 28) 1 = nI (c + 1) ∧ (∀ i, i < c + 1 → M2 (w + 29) i = nI (pw E K0 t u i)) ∧ pg w b M M2 := by
        intro M1 q
        have e28 : M1 (w + 28) = M (w + 28) := q _ (by omega) (by omega) (by omega) (by omega)
        have e29 : M1 (w + 29) = M (w + 29) := q _ (by omega) (by omega) (by omega) (by omega)
        obtain ⟨M2, p1, p2, p3, p4, p5⟩ := n36x (d := d + 3) (M := M1) t4 (k := c) (by rw [e28]; exact hs) (by omega) (nI (pw E K0 t u c))
        refine ⟨M2, p1, CM_cg (fun x h1 h2 h3 h4 => p5 x (by omega) (by omega)) (CM_sg q hm), p2, fun i hi2 => ?_, fun x a1 a2 a3 a4 a5 a6 => by rw [p5 x a1 a2, q x a3 a4 a5 a6]⟩
        by_cases e : i = c
        · rw [e]; exact p3
        · rw [p4 i e, e29]; exact hi i (by omega)
      by_cases e2 : E (39 + 5 * c) = t
      · obtain ⟨M1, q1, q2⟩ := c17 (d := d) hk hm hw hu e1
        obtain ⟨M2, p1, p2, p3, p4, p5⟩ := fin M1 q2
        obtain ⟨M', s1, s2, s3, s4, s5⟩ := ih (c + 1) M2 p2 (by omega) p3 p4
        refine ⟨M', ?_, s2, s3, s4, fun x a1 a2 a3 a4 a5 a6 => by rw [s5 x a1 a2 a3 a4 a5 a6, p5 x a1 a2 a3 a4 a5 a6]⟩
        rw [← s1, st_60_10]
        unfold pw at p1
        rw [if_pos e2] at p1 g12
        have e10 : ¬ nI 1 = nI 0 := by decide +kernel
        simp (disch := omega) only [st_60_0, st_60_1, st_60_4, st_60_7, st_60_8, st_60_12, st_60_13, st_60_16, st_60_19, st_60_20, st_60_23, st_60_24, st_60_25, st_60_27, st_60_30, st_60_33, st_60_34, st_60_35, st_60_37, st_60_38, st_60_41, st_60_44, st_60_47, st_60_48, st_60_51, st_60_51r, st_60_52, st_60_55, st_60_58, st_60_59, st_60_61, st_60_62, st_60_66, st_60_67, st_60_68, st_60_71, st_60_74, st_60_75, st_60_78, st_60_80, st_60_83, st_60_85, st_60_88, st_60_90, st_60_93, st_60_96, st_60_97, st_60_100, st_60_101, st_60_103, st_60_105, st_60_108, st_60_109, st_60_111, st_60_114, st_60_116, st_60_119, st_60_121, st_60_123, st_60_126, st_60_129, st_60_131, ini_60, fs_cl, fs_len, fs_rf, fs_M, fs_put, fs_cpy, ↓reduceIte, rv_ref, true_or, or_true, true_and, and_true, nI_ltI, ix_nI, nI_clamp, ps_i, ps_n, Option.bind_some, sm_0, sm_1, sm_2, sm_3, sm_4, sto_0, sto_1, sto_2, sto_3, sto_4, sto_5, sto_6, sto_7, sto_8, sto_9, sto_10, sto_11, sto_12, sto_13, sto_14, nlo_n, nlo_i, nlo_r, nlo_0, nlo_l, and_self, or_self, Nat.reduceEqDiff, Nat.reduceLT, Nat.reduceLeDiff, Nat.one_ne_zero, Nat.zero_ne_one, t0, t3, t4.1, m0, g12, g7, e1, q1, mxz, p1, e10, nI_add]
      · obtain ⟨M2, p1, p2, p3, p4, p5⟩ := fin M sg_r
        obtain ⟨M', s1, s2, s3, s4, s5⟩ := ih (c + 1) M2 p2 (by omega) p3 p4
        refine ⟨M', ?_, s2, s3, s4, fun x a1 a2 a3 a4 a5 a6 => by rw [s5 x a1 a2 a3 a4 a5 a6, p5 x a1 a2 a3 a4 a5 a6]⟩
        rw [← s1, st_60_10]
        unfold pw at p1
        rw [if_neg e2] at p1 g12
        simp (disch := omega) only [st_60_0, st_60_1, st_60_4, st_60_7, st_60_8, st_60_12, st_60_13, st_60_16, st_60_19, st_60_20, st_60_23, st_60_24, st_60_25, st_60_27, st_60_30, st_60_33, st_60_34, st_60_35, st_60_37, st_60_38, st_60_41, st_60_44, st_60_47, st_60_48, st_60_51, st_60_51r, st_60_52, st_60_55, st_60_58, st_60_59, st_60_61, st_60_62, st_60_66, st_60_67, st_60_68, st_60_71, st_60_74, st_60_75, st_60_78, st_60_80, st_60_83, st_60_85, st_60_88, st_60_90, st_60_93, st_60_96, st_60_97, st_60_100, st_60_101, st_60_103, st_60_105, st_60_108, st_60_109, st_60_111, st_60_114, st_60_116, st_60_119, st_60_121, st_60_123, st_60_126, st_60_129, st_60_131, ini_60, fs_cl, fs_len, fs_rf, fs_M, fs_put, fs_cpy, ↓reduceIte, rv_ref, true_or, or_true, true_and, and_true, nI_ltI, ix_nI, nI_clamp, ps_i, ps_n, Option.bind_some, sm_0, sm_1, sm_2, sm_3, sm_4, sto_0, sto_1, sto_2, sto_3, sto_4, sto_5, sto_6, sto_7, sto_8, sto_9, sto_10, sto_11, sto_12, sto_13, sto_14, nlo_n, nlo_i, nlo_r, nlo_0, nlo_l, and_self, or_self, Nat.reduceEqDiff, Nat.reduceLT, Nat.reduceLeDiff, Nat.one_ne_zero, Nat.zero_ne_one, t0, t3, t4.1, m0, g12, g7, e1, p1, nI_add]
  obtain ⟨M1, q1, q2, q3, q4, q5⟩ := L1 (E 1) 0 (j_up M (w + 28) 1 (nI 0)) (CM_cg (fun x h1 h2 h3 h4 => up_r _ _ _ _ (by omega)) hm) (by omega) (up_s _ _ _) (fun i hi => by omega)
  have g61 : ∀ s, s < 256 → j_C (d + 4) 61 [.ref w, .int (nI s)] (FS h M1) = some (some (.int (nI (wsN (pw E K0 t u) s (E 1)))), FS h M1) := fun s hs => by
    rw [c61 (d := d + 2) ht h8 q3, wos_N hs (E 1) h8 q4]
  have wl : ∀ s, wsN (pw E K0 t u) s (E 1) ≤ 108 * E 1 := fun s => wsN_le (E 1) (fun c hc => pw_le hw hu hc)
  have p8 : 2 ^ E 1 ≤ 256 := Nat.pow_le_pow_right (by omega) h8 (n := 2)
  have L2 : ∀ r s bs (o7 : Option Value), r + s = 2 ^ E 1 → bs < 256 → j_X (d + 4) 60 64 [some (.ref w), some (.ref b), some (.int (nI t)), some (.int (nI u)), some (.int (nI S)), some (.int (nI bs)), some (.int (nI s)), o7] [] (FS h M1) = some (some (.int (nI (pyS (pw E K0 t u) (E 1) S r s bs))), FS h M1) := by
    intro r
    induction r with
    | zero =>
      intro s bs o7 hr hb
      have e1 : ¬ s < 2 ^ E 1 := by omega
      rw [st_60_64]
      simp (disch := omega) only [st_60_0, st_60_1, st_60_4, st_60_7, st_60_8, st_60_12, st_60_13, st_60_16, st_60_19, st_60_20, st_60_23, st_60_24, st_60_25, st_60_27, st_60_30, st_60_33, st_60_34, st_60_35, st_60_37, st_60_38, st_60_41, st_60_44, st_60_47, st_60_48, st_60_51, st_60_51r, st_60_52, st_60_55, st_60_58, st_60_59, st_60_61, st_60_62, st_60_66, st_60_67, st_60_68, st_60_71, st_60_74, st_60_75, st_60_78, st_60_80, st_60_83, st_60_85, st_60_88, st_60_90, st_60_93, st_60_96, st_60_97, st_60_100, st_60_101, st_60_103, st_60_105, st_60_108, st_60_109, st_60_111, st_60_114, st_60_116, st_60_119, st_60_121, st_60_123, st_60_126, st_60_129, st_60_131, ini_60, fs_cl, fs_len, fs_rf, fs_M, fs_put, fs_cpy, ↓reduceIte, rv_ref, true_or, or_true, true_and, and_true, nI_ltI, ix_nI, nI_clamp, ps_i, ps_n, Option.bind_some, sm_0, sm_1, sm_2, sm_3, sm_4, sto_0, sto_1, sto_2, sto_3, sto_4, sto_5, sto_6, sto_7, sto_8, sto_9, sto_10, sto_11, sto_12, sto_13, sto_14, nlo_n, nlo_i, nlo_r, nlo_0, nlo_l, and_self, or_self, Nat.reduceEqDiff, Nat.reduceLT, Nat.reduceLeDiff, Nat.one_ne_zero, Nat.zero_ne_one, t0, t3, t4.1, n32 t4.1, q3, pow_n _ h8, e1]
      rfl
    | succ r ih =>
      intro s bs o7 hr hb
      have e1 : s < 2 ^ E 1 := by omega
      have e10 : ¬ nI 1 = nI 0 := by decide +kernel
      have cs := cnt_le s
      have cb := cnt_le bs
      have ws := wl s
      unfold pyS
      rw [st_60_64]
      by_cases e2 : bs = 0
      · subst e2
        by_cases e4 : S ≤ wsN (pw E K0 t u) s (E 1)
        · have e5 : ¬ wsN (pw E K0 t u) s (E 1) < S := by omega
          have hX := ih (s + 1) s (some (.int (nI 1))) (by omega) (by omega)
          rw [if_pos ⟨.inl rfl, e4⟩]
          simp (disch := omega) only [st_60_0, st_60_1, st_60_4, st_60_7, st_60_8, st_60_12, st_60_13, st_60_16, st_60_19, st_60_20, st_60_23, st_60_24, st_60_25, st_60_27, st_60_30, st_60_33, st_60_34, st_60_35, st_60_37, st_60_38, st_60_41, st_60_44, st_60_47, st_60_48, st_60_51, st_60_51r, st_60_52, st_60_55, st_60_58, st_60_59, st_60_61, st_60_62, st_60_66, st_60_67, st_60_68, st_60_71, st_60_74, st_60_75, st_60_78, st_60_80, st_60_83, st_60_85, st_60_88, st_60_90, st_60_93, st_60_96, st_60_97, st_60_100, st_60_101, st_60_103, st_60_105, st_60_108, st_60_109, st_60_111, st_60_114, st_60_116, st_60_119, st_60_121, st_60_123, st_60_126, st_60_129, st_60_131, ini_60, fs_cl, fs_len, fs_rf, fs_M, fs_put, fs_cpy, ↓reduceIte, rv_ref, true_or, or_true, true_and, and_true, nI_ltI, ix_nI, nI_clamp, ps_i, ps_n, Option.bind_some, sm_0, sm_1, sm_2, sm_3, sm_4, sto_0, sto_1, sto_2, sto_3, sto_4, sto_5, sto_6, sto_7, sto_8, sto_9, sto_10, sto_11, sto_12, sto_13, sto_14, nlo_n, nlo_i, nlo_r, nlo_0, nlo_l, and_self, or_self, Nat.reduceEqDiff, Nat.reduceLT, Nat.reduceLeDiff, Nat.one_ne_zero, Nat.zero_ne_one, t0, t3, t4.1, n32 t4.1, q3, pow_n _ h8, e1, e10, g61, e5, nI_add, hX]
        · have e5 : wsN (pw E K0 t u) s (E 1) < S := by omega
          have hX := ih (s + 1) 0 (some (.int (nI 1))) (by omega) (by omega)
          rw [if_neg (fun hh => e4 hh.2)]
          simp (disch := omega) only [st_60_0, st_60_1, st_60_4, st_60_7, st_60_8, st_60_12, st_60_13, st_60_16, st_60_19, st_60_20, st_60_23, st_60_24, st_60_25, st_60_27, st_60_30, st_60_33, st_60_34, st_60_35, st_60_37, st_60_38, st_60_41, st_60_44, st_60_47, st_60_48, st_60_51, st_60_51r, st_60_52, st_60_55, st_60_58, st_60_59, st_60_61, st_60_62, st_60_66, st_60_67, st_60_68, st_60_71, st_60_74, st_60_75, st_60_78, st_60_80, st_60_83, st_60_85, st_60_88, st_60_90, st_60_93, st_60_96, st_60_97, st_60_100, st_60_101, st_60_103, st_60_105, st_60_108, st_60_109, st_60_111, st_60_114, st_60_116, st_60_119, st_60_121, st_60_123, st_60_126, st_60_129, st_60_131, ini_60, fs_cl, fs_len, fs_rf, fs_M, fs_put, fs_cpy, ↓reduceIte, rv_ref, true_or, or_true, true_and, and_true, nI_ltI, ix_nI, nI_clamp, ps_i, ps_n, Option.bind_some, sm_0, sm_1, sm_2, sm_3, sm_4, sto_0, sto_1, sto_2, sto_3, sto_4, sto_5, sto_6, sto_7, sto_8, sto_9, sto_10, sto_11, sto_12, sto_13, sto_14, nlo_n, nlo_i, nlo_r, nlo_0, nlo_l, and_self, or_self, Nat.reduceEqDiff, Nat.reduceLT, Nat.reduceLeDiff, Nat.one_ne_zero, Nat.zero_ne_one, t0, t3, t4.1, n32 t4.1, q3, pow_n _ h8, e1, e10, g61, e5, nI_add, hX]
      · have e20 : ¬ nI bs = nI 0 := nI_ne e2 (by omega) (by omega)
        by_cases e3 : cnt s < cnt bs
        · by_cases e4 : S ≤ wsN (pw E K0 t u) s (E 1)
          · have e5 : ¬ wsN (pw E K0 t u) s (E 1) < S := by omega
            have hX := ih (s + 1) s (some (.int (nI 1))) (by omega) (by omega)
            rw [if_pos ⟨.inr e3, e4⟩]
            simp (disch := omega) only [st_60_0, st_60_1, st_60_4, st_60_7, st_60_8, st_60_12, st_60_13, st_60_16, st_60_19, st_60_20, st_60_23, st_60_24, st_60_25, st_60_27, st_60_30, st_60_33, st_60_34, st_60_35, st_60_37, st_60_38, st_60_41, st_60_44, st_60_47, st_60_48, st_60_51, st_60_51r, st_60_52, st_60_55, st_60_58, st_60_59, st_60_61, st_60_62, st_60_66, st_60_67, st_60_68, st_60_71, st_60_74, st_60_75, st_60_78, st_60_80, st_60_83, st_60_85, st_60_88, st_60_90, st_60_93, st_60_96, st_60_97, st_60_100, st_60_101, st_60_103, st_60_105, st_60_108, st_60_109, st_60_111, st_60_114, st_60_116, st_60_119, st_60_121, st_60_123, st_60_126, st_60_129, st_60_131, ini_60, fs_cl, fs_len, fs_rf, fs_M, fs_put, fs_cpy, ↓reduceIte, rv_ref, true_or, or_true, true_and, and_true, nI_ltI, ix_nI, nI_clamp, ps_i, ps_n, Option.bind_some, sm_0, sm_1, sm_2, sm_3, sm_4, sto_0, sto_1, sto_2, sto_3, sto_4, sto_5, sto_6, sto_7, sto_8, sto_9, sto_10, sto_11, sto_12, sto_13, sto_14, nlo_n, nlo_i, nlo_r, nlo_0, nlo_l, and_self, or_self, Nat.reduceEqDiff, Nat.reduceLT, Nat.reduceLeDiff, Nat.one_ne_zero, Nat.zero_ne_one, t0, t3, t4.1, n32 t4.1, q3, pow_n _ h8, e1, e10, e20, c224, e3, g61, e5, nI_add, hX]
          · have e5 : wsN (pw E K0 t u) s (E 1) < S := by omega
            have hX := ih (s + 1) bs (some (.int (nI 1))) (by omega) (by omega)
            rw [if_neg (fun hh => e4 hh.2)]
            simp (disch := omega) only [st_60_0, st_60_1, st_60_4, st_60_7, st_60_8, st_60_12, st_60_13, st_60_16, st_60_19, st_60_20, st_60_23, st_60_24, st_60_25, st_60_27, st_60_30, st_60_33, st_60_34, st_60_35, st_60_37, st_60_38, st_60_41, st_60_44, st_60_47, st_60_48, st_60_51, st_60_51r, st_60_52, st_60_55, st_60_58, st_60_59, st_60_61, st_60_62, st_60_66, st_60_67, st_60_68, st_60_71, st_60_74, st_60_75, st_60_78, st_60_80, st_60_83, st_60_85, st_60_88, st_60_90, st_60_93, st_60_96, st_60_97, st_60_100, st_60_101, st_60_103, st_60_105, st_60_108, st_60_109, st_60_111, st_60_114, st_60_116, st_60_119, st_60_121, st_60_123, st_60_126, st_60_129, st_60_131, ini_60, fs_cl, fs_len, fs_rf, fs_M, fs_put, fs_cpy, ↓reduceIte, rv_ref, true_or, or_true, true_and, and_true, nI_ltI, ix_nI, nI_clamp, ps_i, ps_n, Option.bind_some, sm_0, sm_1, sm_2, sm_3, sm_4, sto_0, sto_1, sto_2, sto_3, sto_4, sto_5, sto_6, sto_7, sto_8, sto_9, sto_10, sto_11, sto_12, sto_13, sto_14, nlo_n, nlo_i, nlo_r, nlo_0, nlo_l, and_self, or_self, Nat.reduceEqDiff, Nat.reduceLT, Nat.reduceLeDiff, Nat.one_ne_zero, Nat.zero_ne_one, t0, t3, t4.1, n32 t4.1, q3, pow_n _ h8, e1, e10, e20, c224, e3, g61, e5, nI_add, hX]
        · have hX := ih (s + 1) bs (some (.int (nI 0))) (by omega) (by omega)
          rw [if_neg (fun hh => hh.1.elim e2 e3)]
          simp (disch := omega) only [st_60_0, st_60_1, st_60_4, st_60_7, st_60_8, st_60_12, st_60_13, st_60_16, st_60_19, st_60_20, st_60_23, st_60_24, st_60_25, st_60_27, st_60_30, st_60_33, st_60_34, st_60_35, st_60_37, st_60_38, st_60_41, st_60_44, st_60_47, st_60_48, st_60_51, st_60_51r, st_60_52, st_60_55, st_60_58, st_60_59, st_60_61, st_60_62, st_60_66, st_60_67, st_60_68, st_60_71, st_60_74, st_60_75, st_60_78, st_60_80, st_60_83, st_60_85, st_60_88, st_60_90, st_60_93, st_60_96, st_60_97, st_60_100, st_60_101, st_60_103, st_60_105, st_60_108, st_60_109, st_60_111, st_60_114, st_60_116, st_60_119, st_60_121, st_60_123, st_60_126, st_60_129, st_60_131, ini_60, fs_cl, fs_len, fs_rf, fs_M, fs_put, fs_cpy, ↓reduceIte, rv_ref, true_or, or_true, true_and, and_true, nI_ltI, ix_nI, nI_clamp, ps_i, ps_n, Option.bind_some, sm_0, sm_1, sm_2, sm_3, sm_4, sto_0, sto_1, sto_2, sto_3, sto_4, sto_5, sto_6, sto_7, sto_8, sto_9, sto_10, sto_11, sto_12, sto_13, sto_14, nlo_n, nlo_i, nlo_r, nlo_0, nlo_l, and_self, or_self, Nat.reduceEqDiff, Nat.reduceLT, Nat.reduceLeDiff, Nat.one_ne_zero, Nat.zero_ne_one, t0, t3, t4.1, n32 t4.1, q3, pow_n _ h8, e1, e10, e20, c224, e3, nI_add, hX]
  have hX := L2 (2 ^ E 1 - 1) 1 0 none (by have := Nat.pow_pos (n := E 1) (show 0 < 2 by omega); omega) (by omega)
  have g7 := c7 (d := d + 2) (M := M1) hk
  rw [q2.1.2.2.2.2.2.1] at g7
  refine ⟨M1, ?_, fun x a1 a2 a3 a4 a5 a6 => by rw [q5 x a1 a2 a3 a4 a5 a6, up_r _ _ _ _ a1]⟩
  rw [j_C_eq]
  simp (disch := omega) only [st_60_0, st_60_1, st_60_4, st_60_7, st_60_8, st_60_12, st_60_13, st_60_16, st_60_19, st_60_20, st_60_23, st_60_24, st_60_25, st_60_27, st_60_30, st_60_33, st_60_34, st_60_35, st_60_37, st_60_38, st_60_41, st_60_44, st_60_47, st_60_48, st_60_51, st_60_51r, st_60_52, st_60_55, st_60_58, st_60_59, st_60_61, st_60_62, st_60_66, st_60_67, st_60_68, st_60_71, st_60_74, st_60_75, st_60_78, st_60_80, st_60_83, st_60_85, st_60_88, st_60_90, st_60_93, st_60_96, st_60_97, st_60_100, st_60_101, st_60_103, st_60_105, st_60_108, st_60_109, st_60_111, st_60_114, st_60_116, st_60_119, st_60_121, st_60_123, st_60_126, st_60_129, st_60_131, ini_60, fs_cl, fs_len, fs_rf, fs_M, fs_put, fs_cpy, ↓reduceIte, rv_ref, true_or, or_true, true_and, and_true, nI_ltI, ix_nI, nI_clamp, ps_i, ps_n, Option.bind_some, sm_0, sm_1, sm_2, sm_3, sm_4, sto_0, sto_1, sto_2, sto_3, sto_4, sto_5, sto_6, sto_7, sto_8, sto_9, sto_10, sto_11, sto_12, sto_13, sto_14, nlo_n, nlo_i, nlo_r, nlo_0, nlo_l, and_self, or_self, Nat.reduceEqDiff, Nat.reduceLT, Nat.reduceLeDiff, Nat.one_ne_zero, Nat.zero_ne_one, t0, t3, t4.1, n38 t4.1, q1]
  rw [st_60_10]
  simp (disch := omega) only [st_60_0, st_60_1, st_60_4, st_60_7, st_60_8, st_60_12, st_60_13, st_60_16, st_60_19, st_60_20, st_60_23, st_60_24, st_60_25, st_60_27, st_60_30, st_60_33, st_60_34, st_60_35, st_60_37, st_60_38, st_60_41, st_60_44, st_60_47, st_60_48, st_60_51, st_60_51r, st_60_52, st_60_55, st_60_58, st_60_59, st_60_61, st_60_62, st_60_66, st_60_67, st_60_68, st_60_71, st_60_74, st_60_75, st_60_78, st_60_80, st_60_83, st_60_85, st_60_88, st_60_90, st_60_93, st_60_96, st_60_97, st_60_100, st_60_101, st_60_103, st_60_105, st_60_108, st_60_109, st_60_111, st_60_114, st_60_116, st_60_119, st_60_121, st_60_123, st_60_126, st_60_129, st_60_131, ini_60, fs_cl, fs_len, fs_rf, fs_M, fs_put, fs_cpy, ↓reduceIte, rv_ref, true_or, or_true, true_and, and_true, nI_ltI, ix_nI, nI_clamp, ps_i, ps_n, Option.bind_some, sm_0, sm_1, sm_2, sm_3, sm_4, sto_0, sto_1, sto_2, sto_3, sto_4, sto_5, sto_6, sto_7, sto_8, sto_9, sto_10, sto_11, sto_12, sto_13, sto_14, nlo_n, nlo_i, nlo_r, nlo_0, nlo_l, and_self, or_self, Nat.reduceEqDiff, Nat.reduceLT, Nat.reduceLeDiff, Nat.one_ne_zero, Nat.zero_ne_one, m0, g7, Nat.lt_irrefl, hX]
