/-! The reference: a sale. -/
variable {h : j_Hd} {M : Nat → Nat → Int32} {σ : j_St} {d o : Nat} {E : Nat → Nat} {z : Int32}
theorem up_e {o k k' : Nat} (v : Int32) (hk : k' = k) : j_up M o k v o k' = v := by subst hk; exact up_s _ _ _
/-- nothing but the land is written -/
def ld (o : Nat) (M M' : Nat → Nat → Int32) : Prop := (∀ x, x ≠ o + 1 → M' x = M x) ∧ ∀ k, 78 ≤ k → M' (o + 1) k = M (o + 1) k
theorem ld_r : ld o M M := ⟨fun _ _ => rfl, fun _ _ => rfl⟩
theorem ld_t {M1 M2 M3 : Nat → Nat → Int32} (h1 : ld o M1 M2) (h2 : ld o M2 M3) : ld o M1 M3 := ⟨fun x hx => by rw [h2.1 x hx, h1.1 x hx], fun k hk => by rw [h2.2 k hk, h1.2 k hk]⟩
theorem ld_up {k : Nat} {v : Int32} (hk : k < 78) : ld o M (j_up M (o + 1) k v) := ⟨fun x hx => up_r _ _ _ _ hx, fun j hj => up_k _ _ _ _ (by omega)⟩
theorem RLd_up (hm : RLd M o E z) {k v : Nat} (h5 : k ≠ 5) : RLd (j_up M (o + 1) k (nI v)) o (upE E k v) z := by
  refine ⟨fun j hj h5' => ?_, ?_⟩
  · by_cases e : j = k
    · subst e; rw [up_s, upE_s]
    · rw [up_k _ _ _ _ e, upE_o _ e]; exact hm.1 j hj h5'
  · rw [up_k _ _ _ _ (Ne.symm h5)]; exact hm.2
theorem RLd_cg {E' : Nat → Nat} (hm : RLd M o E z) (he : ∀ j, j < 78 → E' j = E j) : RLd M o E' z :=
  ⟨fun j hj h5 => by rw [he j hj]; exact hm.1 j hj h5, hm.2⟩
def hld (v lo hi : Int32) : Int32 := if v < lo then lo else if hi < v then hi else v
theorem r144 (v lo hi : Int32) : j_C (d + 1) 144 [.int v, .int lo, .int hi] σ = some (some (.int (hld v lo hi)), σ) := by
  rw [j_C_eq]
  unfold hld
  by_cases e1 : v < lo
  · simp only [st_144_0, st_144_1, st_144_2, st_144_5, st_144_6, st_144_9, st_144_10, st_144_11, st_144_14, st_144_15, st_144_18, st_144_19, ini_144, fs_cl, fs_len, fs_rf, fs_M, fs_put, fs_cpy, ↓reduceIte, rv_ref, true_or, or_true, true_and, and_true, nI_ltI, ix_nI, nI_clamp, ps_i, ps_n, Option.bind_some, sm_0, sm_1, sm_2, sm_3, sm_4, sto_0, sto_1, sto_2, sto_3, sto_4, sto_5, sto_6, sto_7, sto_8, sto_9, sto_10, sto_11, sto_12, sto_13, sto_14, nlo_n, nlo_i, nlo_r, nlo_0, nlo_l, and_self, or_self, Nat.reduceEqDiff, Nat.reduceLT, Nat.reduceLeDiff, Nat.one_ne_zero, Nat.zero_ne_one, e1]
  · by_cases e2 : hi < v
    · simp only [st_144_0, st_144_1, st_144_2, st_144_5, st_144_6, st_144_9, st_144_10, st_144_11, st_144_14, st_144_15, st_144_18, st_144_19, ini_144, fs_cl, fs_len, fs_rf, fs_M, fs_put, fs_cpy, ↓reduceIte, rv_ref, true_or, or_true, true_and, and_true, nI_ltI, ix_nI, nI_clamp, ps_i, ps_n, Option.bind_some, sm_0, sm_1, sm_2, sm_3, sm_4, sto_0, sto_1, sto_2, sto_3, sto_4, sto_5, sto_6, sto_7, sto_8, sto_9, sto_10, sto_11, sto_12, sto_13, sto_14, nlo_n, nlo_i, nlo_r, nlo_0, nlo_l, and_self, or_self, Nat.reduceEqDiff, Nat.reduceLT, Nat.reduceLeDiff, Nat.one_ne_zero, Nat.zero_ne_one, e1, e2]
    · simp only [st_144_0, st_144_1, st_144_2, st_144_5, st_144_6, st_144_9, st_144_10, st_144_11, st_144_14, st_144_15, st_144_18, st_144_19, ini_144, fs_cl, fs_len, fs_rf, fs_M, fs_put, fs_cpy, ↓reduceIte, rv_ref, true_or, or_true, true_and, and_true, nI_ltI, ix_nI, nI_clamp, ps_i, ps_n, Option.bind_some, sm_0, sm_1, sm_2, sm_3, sm_4, sto_0, sto_1, sto_2, sto_3, sto_4, sto_5, sto_6, sto_7, sto_8, sto_9, sto_10, sto_11, sto_12, sto_13, sto_14, nlo_n, nlo_i, nlo_r, nlo_0, nlo_l, and_self, or_self, Nat.reduceEqDiff, Nat.reduceLT, Nat.reduceLeDiff, Nat.one_ne_zero, Nat.zero_ne_one, e1, e2]
theorem r183 (hk : Md h o) (hm : RLd M o E z) {c t : Nat} (ht : t < 6) (hc : c < 8) (hkd : E (8 + 5 * t) < 7) (hs : E 3 ≤ 9999) : ∃ M', j_C (d + 2) 183 [.ref o, .int (nI c), .int (nI t)] (FS h M) = some (none, FS h M') ∧ RLd M' o (sel E c t) z ∧ ld o M M' := by
  obtain ⟨m0, ⟨q0, a1, a2, a3⟩, _⟩ := id hk
  have gk := r147 (d := d) (M := M) hk (t := t) (k := 0) (by omega)
  rw [show 8 + 5 * t + 0 = 8 + 5 * t by omega, hm.1 _ (by omega) (by omega)] at gk
  have es : hld (nI (E 3 + 1)) (nI 0) (nI 9999) = nI (if E 3 + 1 < 9999 then E 3 + 1 else 9999) := by
    unfold hld
    rw [if_neg (nI_nlt (Nat.zero_le _) (by omega))]
    by_cases e : E 3 + 1 < 9999
    · rw [if_pos e, if_neg (nI_nlt (by omega) (by omega))]
    · rw [if_neg e]
      by_cases e2 : E 3 + 1 = 9999
      · rw [e2, if_neg (nI_nlt (by omega) (by omega))]
      · rw [if_pos (nI_lt (by omega) (by omega))]
  have main : ∀ x y w : Nat, selR E c t = upR (upE E (39 + 5 * c) t) c x y w → (j_C (d + 2) 183 [.ref o, .int (nI c), .int (nI t)] (FS h M) = some (none, FS h (j_up (j_up (j_up (j_up (j_up M (o + 1) (38 + 5 * c + 1) (nI t)) (o + 1) (38 + 5 * c + 2 + 2) (nI w)) (o + 1) (38 + 5 * c + 2 + 1) (nI y)) (o + 1) (38 + 5 * c + 2) (nI x)) (o + 1) 3 (nI (if E 3 + 1 < 9999 then E 3 + 1 else 9999))))) → ∃ M', j_C (d + 2) 183 [.ref o, .int (nI c), .int (nI t)] (FS h M) = some (none, FS h M') ∧ RLd M' o (sel E c t) z ∧ ld o M M' := by
    intro x y w hsel hrun
    refine ⟨_, hrun, ?_, ld_t (ld_up (by omega)) (ld_t (ld_up (by omega)) (ld_t (ld_up (by omega)) (ld_t (ld_up (by omega)) (ld_up (by omega)))))⟩
    refine RLd_cg (RLd_up (RLd_up (RLd_up (RLd_up (RLd_up hm (k := 38 + 5 * c + 1) (v := t) (by omega)) (by omega)) (by omega)) (by omega)) (by omega)) (fun j hj => ?_)
    unfold sel
    rw [hsel]
    unfold upR upE
    by_cases e3 : j = 3
    · rw [if_pos e3, if_pos e3]
    · rw [if_neg e3, if_neg e3]
      by_cases e40 : j = 40 + 5 * c
      · rw [if_neg (by omega), if_neg (by omega), if_pos e40, if_pos (by omega)]
      · by_cases e41 : j = 41 + 5 * c
        · rw [if_neg (by omega), if_pos e41, if_neg (by omega), if_pos (by omega)]
        · by_cases e42 : j = 42 + 5 * c
          · rw [if_pos e42, if_neg (by omega), if_neg (by omega), if_pos (by omega)]
          · rw [if_neg e42, if_neg e41, if_neg e40, if_neg (by omega : ¬ j = 38 + 5 * c + 2), if_neg (by omega : ¬ j = 38 + 5 * c + 2 + 1), if_neg (by omega : ¬ j = 38 + 5 * c + 2 + 2)]
            by_cases e39 : j = 39 + 5 * c
            · rw [if_pos e39, if_pos (by omega)]
            · rw [if_neg e39, if_neg (by omega)]
  have i1 : 38 + 5 * c + 1 < 250 := by omega
  have i2 : 38 + 5 * c + 2 + 2 < 250 := by omega
  have i3 : 38 + 5 * c + 2 + 1 < 250 := by omega
  have i4 : 38 + 5 * c + 2 < 250 := by omega
  by_cases e2 : E (8 + 5 * t) = 2
  · refine main (E (10 + 5 * t)) 0 0 (by unfold selR; rw [if_pos e2]) ?_
    have gw := r147 (d := d) (M := j_up (j_up (j_up M (o + 1) (38 + 5 * c + 1) (nI t)) (o + 1) (38 + 5 * c + 2 + 2) (nI 0)) (o + 1) (38 + 5 * c + 2 + 1) (nI 0)) hk (t := t) (k := 2) (by omega)
    rw [up_k _ _ _ _ (by omega), up_k _ _ _ _ (by omega), up_k _ _ _ _ (by omega), hm.1 _ (by omega) (by omega), show 8 + 5 * t + 2 = 10 + 5 * t by omega] at gw
    have g3 : j_up (j_up (j_up (j_up M (o + 1) (38 + 5 * c + 1) (nI t)) (o + 1) (38 + 5 * c + 2 + 2) (nI 0)) (o + 1) (38 + 5 * c + 2 + 1) (nI 0)) (o + 1) (38 + 5 * c + 2) (nI (E (10 + 5 * t))) (o + 1) 3 = nI (E 3) := by
      rw [up_k _ _ _ _ (by omega), up_k _ _ _ _ (by omega), up_k _ _ _ _ (by omega), up_k _ _ _ _ (by omega), hm.1 _ (by omega) (by omega)]
    rw [j_C_eq]
    simp (disch := omega) only [st_183_0, st_183_2, st_183_3, st_183_4, st_183_5, st_183_6, st_183_7, st_183_8, st_183_9, st_183_10, st_183_13, st_183_15, st_183_17, st_183_18, st_183_21, st_183_23, st_183_24, st_183_27, st_183_28, st_183_31, st_183_32, st_183_34, st_183_35, st_183_38, st_183_39, st_183_40, st_183_41, st_183_42, st_183_43, st_183_44, st_183_47, st_183_48, st_183_49, st_183_50, st_183_51, st_183_52, st_183_54, st_183_57, st_183_58, st_183_61, st_183_62, st_183_65, st_183_66, st_183_67, st_183_68, st_183_69, st_183_70, st_183_71, st_183_72, st_183_73, st_183_76, st_183_77, st_183_78, st_183_79, st_183_80, st_183_81, st_183_83, st_183_86, st_183_87, st_183_90, st_183_91, st_183_94, st_183_95, st_183_96, st_183_97, st_183_98, st_183_99, st_183_100, st_183_103, st_183_104, st_183_105, st_183_106, st_183_108, st_183_109, st_183_112, st_183_113, st_183_116, st_183_117, st_183_118, st_183_119, st_183_122, st_183_123, st_183_124, st_183_127, st_183_128, st_183_129, st_183_132, st_183_133, st_183_134, st_183_135, st_183_136, st_183_137, st_183_140, st_183_143, st_183_144, ini_183, fs_cl, fs_len, fs_rf, fs_M, fs_put, fs_cpy, ↓reduceIte, rv_ref, true_or, or_true, true_and, and_true, nI_ltI, ix_nI, nI_clamp, ps_i, ps_n, Option.bind_some, sm_0, sm_1, sm_2, sm_3, sm_4, sto_0, sto_1, sto_2, sto_3, sto_4, sto_5, sto_6, sto_7, sto_8, sto_9, sto_10, sto_11, sto_12, sto_13, sto_14, nlo_n, nlo_i, nlo_r, nlo_0, nlo_l, and_self, or_self, Nat.reduceEqDiff, Nat.reduceLT, Nat.reduceLeDiff, Nat.one_ne_zero, Nat.zero_ne_one, m0, q0, a1, a2, gk, e2, nI_eq, nI_mul, nI_add, gw, g3, r144, es, i1, i2, i3, i4]
  · by_cases e5 : E (8 + 5 * t) = 5
    · refine main 0 0 0 (by unfold selR; rw [if_neg e2, if_pos e5]) ?_
      have g3 : j_up (j_up (j_up (j_up M (o + 1) (38 + 5 * c + 1) (nI t)) (o + 1) (38 + 5 * c + 2 + 2) (nI 0)) (o + 1) (38 + 5 * c + 2 + 1) (nI 0)) (o + 1) (38 + 5 * c + 2) (nI 0) (o + 1) 3 = nI (E 3) := by
        rw [up_k _ _ _ _ (by omega), up_k _ _ _ _ (by omega), up_k _ _ _ _ (by omega), up_k _ _ _ _ (by omega), hm.1 _ (by omega) (by omega)]
      rw [j_C_eq]
      simp (disch := omega) only [st_183_0, st_183_2, st_183_3, st_183_4, st_183_5, st_183_6, st_183_7, st_183_8, st_183_9, st_183_10, st_183_13, st_183_15, st_183_17, st_183_18, st_183_21, st_183_23, st_183_24, st_183_27, st_183_28, st_183_31, st_183_32, st_183_34, st_183_35, st_183_38, st_183_39, st_183_40, st_183_41, st_183_42, st_183_43, st_183_44, st_183_47, st_183_48, st_183_49, st_183_50, st_183_51, st_183_52, st_183_54, st_183_57, st_183_58, st_183_61, st_183_62, st_183_65, st_183_66, st_183_67, st_183_68, st_183_69, st_183_70, st_183_71, st_183_72, st_183_73, st_183_76, st_183_77, st_183_78, st_183_79, st_183_80, st_183_81, st_183_83, st_183_86, st_183_87, st_183_90, st_183_91, st_183_94, st_183_95, st_183_96, st_183_97, st_183_98, st_183_99, st_183_100, st_183_103, st_183_104, st_183_105, st_183_106, st_183_108, st_183_109, st_183_112, st_183_113, st_183_116, st_183_117, st_183_118, st_183_119, st_183_122, st_183_123, st_183_124, st_183_127, st_183_128, st_183_129, st_183_132, st_183_133, st_183_134, st_183_135, st_183_136, st_183_137, st_183_140, st_183_143, st_183_144, ini_183, fs_cl, fs_len, fs_rf, fs_M, fs_put, fs_cpy, ↓reduceIte, rv_ref, true_or, or_true, true_and, and_true, nI_ltI, ix_nI, nI_clamp, ps_i, ps_n, Option.bind_some, sm_0, sm_1, sm_2, sm_3, sm_4, sto_0, sto_1, sto_2, sto_3, sto_4, sto_5, sto_6, sto_7, sto_8, sto_9, sto_10, sto_11, sto_12, sto_13, sto_14, nlo_n, nlo_i, nlo_r, nlo_0, nlo_l, and_self, or_self, Nat.reduceEqDiff, Nat.reduceLT, Nat.reduceLeDiff, Nat.one_ne_zero, Nat.zero_ne_one, m0, q0, a1, a2, gk, e5, nI_eq, nI_mul, nI_add, g3, r144, es, i1, i2, i3, i4]
    · refine main (E (10 + 5 * t)) (E (40 + 5 * c)) (E (41 + 5 * c)) (by unfold selR; rw [if_neg e2, if_neg e5]) ?_
      have g1 : j_up M (o + 1) (38 + 5 * c + 1) (nI t) (o + 1) (38 + 5 * c + 2 + 1) = nI (E (41 + 5 * c)) := by
        rw [up_k _ _ _ _ (by omega), hm.1 _ (by omega) (by omega), show 38 + 5 * c + 2 + 1 = 41 + 5 * c by omega]
      have g0 : j_up (j_up M (o + 1) (38 + 5 * c + 1) (nI t)) (o + 1) (38 + 5 * c + 2 + 2) (nI (E (41 + 5 * c))) (o + 1) (38 + 5 * c + 2) = nI (E (40 + 5 * c)) := by
        rw [up_k _ _ _ _ (by omega), up_k _ _ _ _ (by omega), hm.1 _ (by omega) (by omega), show 38 + 5 * c + 2 = 40 + 5 * c by omega]
      have gw := r147 (d := d) (M := j_up (j_up (j_up M (o + 1) (38 + 5 * c + 1) (nI t)) (o + 1) (38 + 5 * c + 2 + 2) (nI (E (41 + 5 * c)))) (o + 1) (38 + 5 * c + 2 + 1) (nI (E (40 + 5 * c)))) hk (t := t) (k := 2) (by omega)
      rw [up_k _ _ _ _ (by omega), up_k _ _ _ _ (by omega), up_k _ _ _ _ (by omega), hm.1 _ (by omega) (by omega), show 8 + 5 * t + 2 = 10 + 5 * t by omega] at gw
      have g3 : j_up (j_up (j_up (j_up M (o + 1) (38 + 5 * c + 1) (nI t)) (o + 1) (38 + 5 * c + 2 + 2) (nI (E (41 + 5 * c)))) (o + 1) (38 + 5 * c + 2 + 1) (nI (E (40 + 5 * c)))) (o + 1) (38 + 5 * c + 2) (nI (E (10 + 5 * t))) (o + 1) 3 = nI (E 3) := by
        rw [up_k _ _ _ _ (by omega), up_k _ _ _ _ (by omega), up_k _ _ _ _ (by omega), up_k _ _ _ _ (by omega), hm.1 _ (by omega) (by omega)]
      rw [j_C_eq]
      simp (disch := omega) only [st_183_0, st_183_2, st_183_3, st_183_4, st_183_5, st_183_6, st_183_7, st_183_8, st_183_9, st_183_10, st_183_13, st_183_15, st_183_17, st_183_18, st_183_21, st_183_23, st_183_24, st_183_27, st_183_28, st_183_31, st_183_32, st_183_34, st_183_35, st_183_38, st_183_39, st_183_40, st_183_41, st_183_42, st_183_43, st_183_44, st_183_47, st_183_48, st_183_49, st_183_50, st_183_51, st_183_52, st_183_54, st_183_57, st_183_58, st_183_61, st_183_62, st_183_65, st_183_66, st_183_67, st_183_68, st_183_69, st_183_70, st_183_71, st_183_72, st_183_73, st_183_76, st_183_77, st_183_78, st_183_79, st_183_80, st_183_81, st_183_83, st_183_86, st_183_87, st_183_90, st_183_91, st_183_94, st_183_95, st_183_96, st_183_97, st_183_98, st_183_99, st_183_100, st_183_103, st_183_104, st_183_105, st_183_106, st_183_108, st_183_109, st_183_112, st_183_113, st_183_116, st_183_117, st_183_118, st_183_119, st_183_122, st_183_123, st_183_124, st_183_127, st_183_128, st_183_129, st_183_132, st_183_133, st_183_134, st_183_135, st_183_136, st_183_137, st_183_140, st_183_143, st_183_144, ini_183, fs_cl, fs_len, fs_rf, fs_M, fs_put, fs_cpy, ↓reduceIte, rv_ref, true_or, or_true, true_and, and_true, nI_ltI, ix_nI, nI_clamp, ps_i, ps_n, Option.bind_some, sm_0, sm_1, sm_2, sm_3, sm_4, sto_0, sto_1, sto_2, sto_3, sto_4, sto_5, sto_6, sto_7, sto_8, sto_9, sto_10, sto_11, sto_12, sto_13, sto_14, nlo_n, nlo_i, nlo_r, nlo_0, nlo_l, and_self, or_self, Nat.reduceEqDiff, Nat.reduceLT, Nat.reduceLeDiff, Nat.one_ne_zero, Nat.zero_ne_one, m0, q0, a1, a2, gk, e2, e5, nI_eq, nI_mul, nI_add, g1, g0, gw, g3, r144, es, i1, i2, i3, i4]
